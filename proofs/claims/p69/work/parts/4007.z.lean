set_option maxRecDepth 20000 in
set_option maxHeartbeats 2000000 in
theorem Z_X10_readNext_95 (l : Launch) (D : va_G) (aC : Nat → ClassId) (b : Nat) (w : XW)  (hI : Iv w) (hpi : (w.2.2.1 95 9).toInt ≤ (w.2.2.1 95 8).toInt ∧ ((w.2.2.1 95 10).toInt = 0 ∨ (w.2.2.1 95 9).toInt < (w.2.2.1 95 8).toInt)) : CnV l D aC b M_X10_readNext 10 331 0 0 [AR 95] w (fun u => ((u.2.2.1 95 7).toInt = (w.2.2.1 95 7).toInt ∧ ((u.2.2.1 95 12).toInt = 0 → (w.2.2.1 95 12).toInt = 0) ∧ (w.2.2.1 95 9).toInt ≤ (u.2.2.1 95 9).toInt ∧ (u.2.2.1 95 9).toInt ≤ (u.2.2.1 95 8).toInt ∧ ((u.2.2.1 95 10).toInt = 0 ∨ (u.2.2.1 95 9).toInt < (u.2.2.1 95 8).toInt) ∧ (u.2.2.1 101 9).toInt = (w.2.2.1 101 9).toInt) ∧ Jv w u) := by
  refine cn_V (own := RX10) (nm := "readNext") (L0 := [some (AR 95), none, none]) (by decide +kernel) rfl rfl (Nat.le_of_ble_eq_true rfl) rfl ?_
  intro p e s m args below meth c E hin
  have hJ : Jv w w := jv_rfl hI
  refine s_aload_n E dX10_readNext_0 rfl rfl ?_
  refine s_ldcS (i := 20) E (by decide) rfl dX10_readNext_1 ?_
  refine s_vI (As := [AX (sA aC 20)]) (S := []) E (Z_X10_is_95 l D aC b w  hJ.1  20 (by decide)) cv_X10_143 rfl rfl rfl (jv_lt hJ (by decide)) (Nat.le_of_ble_eq_true rfl) (Nat.le_of_ble_eq_true rfl) ⟨(Nat.le_of_ble_eq_true rfl), (Nat.le_of_ble_eq_true rfl)⟩ (Nat.le_of_ble_eq_true rfl) dX10_readNext_3 (fun z_3 u_1 hp_2 => ?_)
  obtain ⟨hz_3, hxz_3, hp_2⟩ := hp_2
  subst hp_2
  have hw_3 := hxz_3
  refine z_if_ne (tgt := 36) (u := z_3.toInt) E dX10_readNext_6 (by decide) rfl (fun h_5 => ?_) (fun h_5 => ?_)
  ·
    refine s_iconst (v := 1) E dX10_readNext_36 (by decide) ?_
    refine s_goto (tgt := 41) E dX10_readNext_37 (by decide) ?_
    refine s_istore_n (L2 := [some (AR 95), some (AI 1), none]) E dX10_readNext_41 rfl (by decide) rfl ?_
    refine s_iload_n E dX10_readNext_42 rfl rfl ?_
    refine z_if_ne (tgt := 51) (u := 1) E dX10_readNext_43 (by decide) (by decide) (fun h_6 => ?_) (fun h_6 => absurd h_6 (by omega))
    refine s_aload_n E dX10_readNext_51 rfl rfl ?_
    refine s_vI (As := []) (S := []) E (Z_X10_isFull_95 l D aC b w  hJ.1 ) cv_X10_195 rfl rfl rfl (jv_lt hJ (by decide)) (Nat.le_of_ble_eq_true rfl) (Nat.le_of_ble_eq_true rfl) ⟨(Nat.le_of_ble_eq_true rfl), (Nat.le_of_ble_eq_true rfl)⟩ (Nat.le_of_ble_eq_true rfl) dX10_readNext_52 (fun z_9 u_7 hp_8 => ?_)
    obtain ⟨hz_9, hxz_9, hp_8⟩ := hp_8
    subst hp_8
    have hq_ := hxz_9
    refine z_if_eq (tgt := 63) (u := z_9.toInt) E dX10_readNext_55 (by decide) rfl (fun h_11 => ?_) (fun h_11 => ?_)
    ·
      refine s_aload_n E dX10_readNext_63 rfl rfl ?_
      refine s_vI (As := []) (S := []) E (Z_X10_good_95 l D aC b w  hJ.1 ) cv_X10_130 rfl rfl rfl (jv_lt hJ (by decide)) (Nat.le_of_ble_eq_true rfl) (Nat.le_of_ble_eq_true rfl) ⟨(Nat.le_of_ble_eq_true rfl), (Nat.le_of_ble_eq_true rfl)⟩ (Nat.le_of_ble_eq_true rfl) dX10_readNext_64 (fun z_14 u_12 hp_13 => ?_)
      obtain ⟨hz_14, hxz_14, hp_13⟩ := hp_13
      subst hp_13
      refine z_if_ne (tgt := 71) (u := z_14.toInt) E dX10_readNext_67 (by decide) rfl (fun h_16 => ?_) (fun h_16 => ?_)
      ·
        have hn4_ := rw_101_4 hJ
        have hn5_ := rw_101_5 hJ
        have hn6_ := rw_101_6 hJ
        have hn7_ := rw_101_7 hJ
        refine s_aload_n E dX10_readNext_71 rfl rfl ?_
        refine s_ldcS (i := 20) E (by decide) rfl dX10_readNext_72 ?_
        refine s_vI (As := [AX (sA aC 20)]) (S := []) E (Z_X10_takes_95 l D aC b w  hJ.1  20 (by decide) (by omega)) cv_X10_150 rfl rfl rfl (jv_lt hJ (by decide)) (Nat.le_of_ble_eq_true rfl) (Nat.le_of_ble_eq_true rfl) ⟨(Nat.le_of_ble_eq_true rfl), (Nat.le_of_ble_eq_true rfl)⟩ (Nat.le_of_ble_eq_true rfl) dX10_readNext_74 (fun z_19 u_17 hp_18 => ?_)
        obtain ⟨hz_19, hxz_19, hf_u_17_101, hp_18⟩ := hp_18
        have hj_20 := jv_trans hJ hp_18
        have hfa_101_0 := congrArg Int32.toInt (congrFun hf_u_17_101 0)
        have hfa_101_4 := congrArg Int32.toInt (congrFun hf_u_17_101 4)
        have hfa_101_5 := congrArg Int32.toInt (congrFun hf_u_17_101 5)
        have hfa_101_6 := congrArg Int32.toInt (congrFun hf_u_17_101 6)
        have hfa_101_7 := congrArg Int32.toInt (congrFun hf_u_17_101 7)
        have hfa_101_9 := congrArg Int32.toInt (congrFun hf_u_17_101 9)
        have hT_ := hxz_19.1
        have hE_ := hxz_19.2.1
        refine z_if_eq (tgt := 87) (u := z_19.toInt) E dX10_readNext_77 (by decide) rfl (fun h_21 => ?_) (fun h_21 => ?_)
        ·
          have hE1_ : w = u_17 := hE_.resolve_left (by omega)
          refine s_aload_n E dX10_readNext_87 rfl rfl ?_
          refine s_ldcS (i := 21) E (by decide) rfl dX10_readNext_88 ?_
          refine s_vI (As := [AX (sA aC 21)]) (S := []) E (Z_X10_takes_95 l D aC b u_17  hj_20.1  21 (by decide) (by omega)) cv_X10_150 rfl rfl rfl (jv_lt hj_20 (by decide)) (Nat.le_of_ble_eq_true rfl) (Nat.le_of_ble_eq_true rfl) ⟨(Nat.le_of_ble_eq_true rfl), (Nat.le_of_ble_eq_true rfl)⟩ (Nat.le_of_ble_eq_true rfl) dX10_readNext_90 (fun z_24 u_22 hp_23 => ?_)
          obtain ⟨hz_24, hxz_24, hf_u_22_101, hp_23⟩ := hp_23
          have hj_25 := jv_trans hj_20 hp_23
          have hfa_101_0 := congrArg Int32.toInt (congrFun hf_u_22_101 0)
          have hfa_101_4 := congrArg Int32.toInt (congrFun hf_u_22_101 4)
          have hfa_101_5 := congrArg Int32.toInt (congrFun hf_u_22_101 5)
          have hfa_101_6 := congrArg Int32.toInt (congrFun hf_u_22_101 6)
          have hfa_101_7 := congrArg Int32.toInt (congrFun hf_u_22_101 7)
          have hfa_101_9 := congrArg Int32.toInt (congrFun hf_u_22_101 9)
          have hT2_ := hxz_24.1
          rw [← hE1_] at hT2_
          have hF_ := hxz_24.2.1
          refine z_if_eq (tgt := 150) (u := z_24.toInt) E dX10_readNext_93 (by decide) rfl (fun h_26 => ?_) (fun h_26 => ?_)
          ·
            have hE2_ : w = u_22 := hE1_.trans (hF_.resolve_left (by omega))
            refine s_aload_n E dX10_readNext_150 rfl rfl ?_
            refine s_ldcS (i := 22) E (by decide) rfl dX10_readNext_151 ?_
            refine s_vI (As := [AX (sA aC 22)]) (S := []) E (Z_X10_takes_95 l D aC b u_22  hj_25.1  22 (by decide) (by omega)) cv_X10_150 rfl rfl rfl (jv_lt hj_25 (by decide)) (Nat.le_of_ble_eq_true rfl) (Nat.le_of_ble_eq_true rfl) ⟨(Nat.le_of_ble_eq_true rfl), (Nat.le_of_ble_eq_true rfl)⟩ (Nat.le_of_ble_eq_true rfl) dX10_readNext_153 (fun z_29 u_27 hp_28 => ?_)
            obtain ⟨hz_29, hxz_29, hf_u_27_101, hp_28⟩ := hp_28
            have hj_30 := jv_trans hj_25 hp_28
            have hfa_101_0 := congrArg Int32.toInt (congrFun hf_u_27_101 0)
            have hfa_101_4 := congrArg Int32.toInt (congrFun hf_u_27_101 4)
            have hfa_101_5 := congrArg Int32.toInt (congrFun hf_u_27_101 5)
            have hfa_101_6 := congrArg Int32.toInt (congrFun hf_u_27_101 6)
            have hfa_101_7 := congrArg Int32.toInt (congrFun hf_u_27_101 7)
            have hfa_101_9 := congrArg Int32.toInt (congrFun hf_u_27_101 9)
            have hT3_ := hxz_29.1
            rw [← hE2_] at hT3_
            have hG_ := hxz_29.2.1
            refine z_if_eq (tgt := 224) (u := z_29.toInt) E dX10_readNext_156 (by decide) rfl (fun h_31 => ?_) (fun h_31 => ?_)
            ·
              have hd_ : ¬ (w.2.2.1 101 7).toInt = 10 := by first | exact (hq_.resolve_left (by omega)).2.2.2 (hw_30.mp (by omega)) | (exfalso; exact absurd (hT_.mpr (hw_3.mp (by omega))) (by omega)) | (exfalso; exact absurd (hT2_.mpr (hw_12.mp (by omega))) (by omega)) | (exfalso; exact absurd (hT3_.mpr (hw_21.mp (by omega))) (by omega)) | (exfalso; omega)
              refine s_aload_n E dX10_readNext_224 rfl rfl ?_
              refine s_vV (As := []) (S := []) E (Z_X10_advance_95 l D aC b u_27  hj_30.1 ) cv_X10_147 rfl rfl rfl (jv_lt hj_30 (by decide)) (Nat.le_of_ble_eq_true rfl) (Nat.le_of_ble_eq_true rfl) ⟨(Nat.le_of_ble_eq_true rfl), (Nat.le_of_ble_eq_true rfl)⟩ (Nat.le_of_ble_eq_true rfl) dX10_readNext_225 (fun u_32 hp_33 => ?_)
              obtain ⟨hx_hp_33, hf_u_32_99, hf_u_32_101, hp_33⟩ := hp_33
              have hj_34 := jv_trans hj_30 hp_33
              have hfa_101_0 := congrArg Int32.toInt (congrFun hf_u_32_101 0)
              have hfa_101_4 := congrArg Int32.toInt (congrFun hf_u_32_101 4)
              have hfa_101_5 := congrArg Int32.toInt (congrFun hf_u_32_101 5)
              have hfa_101_6 := congrArg Int32.toInt (congrFun hf_u_32_101 6)
              have hfa_101_7 := congrArg Int32.toInt (congrFun hf_u_32_101 7)
              have hfa_101_9 := congrArg Int32.toInt (congrFun hf_u_32_101 9)
              refine s_aload_n E dX10_readNext_228 rfl rfl ?_
              refine s_vV (As := []) (S := []) E (Z_X10_readBid_95 l D aC b u_32  hj_34.1  (by omega) (by omega)) cv_X10_206 rfl rfl rfl (jv_lt hj_34 (by decide)) (Nat.le_of_ble_eq_true rfl) (Nat.le_of_ble_eq_true rfl) ⟨(Nat.le_of_ble_eq_true rfl), (Nat.le_of_ble_eq_true rfl)⟩ (Nat.le_of_ble_eq_true rfl) dX10_readNext_229 (fun u_35 hp_36 => ?_)
              obtain ⟨hx_hp_36, hp_36⟩ := hp_36
              have hj_37 := jv_trans hj_34 hp_36
              exact r_void E dX10_readNext_232 ⟨(by omega), hj_37⟩
            ·
              have hd_ : ¬ (w.2.2.1 101 6).toInt = 8 := by first | exact (hq_.resolve_left (by omega)).2.2.1 (hT3_.mp (by omega)) | (exfalso; omega)
              refine s_bipush (v := 58) E dX10_readNext_159 (by decide) ?_
              refine s_iconst (v := 2) E dX10_readNext_161 (by decide) ?_
              refine s_aload_n E dX10_readNext_162 rfl rfl ?_
              refine s_gR (r := 101) E fg_X10_31 rfl rfl (jv_lt hj_30 (by decide)) (jv_r hj_30 (by decide +kernel)) dX10_readNext_163 ?_
              refine s_bipush (v := 6) E dX10_readNext_166 (by decide) ?_
              refine s_iald E rfl (jv_lt hj_30 (by decide)) (z_in (u := 6) (by decide) (by omega) (by omega)) dX10_readNext_168 ?_
              refine z_nm (P := fun z => z.toInt = (u_27.2.2.1 101 6).toInt ∧ 0 ≤ z.toInt ∧ z.toInt ≤ 8) ⟨rfl, (rw_101_6 hj_30)⟩ (fun z_38 hz_38 => ?_)
              refine z_imul (u := 2) (v := z_38.toInt) E dX10_readNext_169 (by decide) rfl (by omega) (by omega) (fun z_39 hz_39 => ?_)
              have hhz_39 : 0 ≤ z_39.toInt ∧ z_39.toInt ≤ 14 := by omega
              refine z_iadd (u := 58) (v := z_39.toInt) E dX10_readNext_170 (by decide) rfl (by omega) (by omega) (fun z_40 hz_40 => ?_)
              refine s_istore_n (L2 := [some (AR 95), some (AI 1), some (AI z_40)]) E dX10_readNext_171 rfl (by decide) rfl ?_
              refine s_aload_n E dX10_readNext_172 rfl rfl ?_
              refine s_gR (r := 101) E fg_X10_31 rfl rfl (jv_lt hj_30 (by decide)) (jv_r hj_30 (by decide +kernel)) dX10_readNext_173 ?_
              refine s_iload_n E dX10_readNext_176 rfl rfl ?_
              refine s_aload_n E dX10_readNext_177 rfl rfl ?_
              refine s_ldcS (i := 27) E (by decide) rfl dX10_readNext_178 ?_
              refine s_iconst (v := 0) E dX10_readNext_180 (by decide) ?_
              refine s_aload_n E dX10_readNext_181 rfl rfl ?_
              refine s_gR (r := 101) E fg_X10_31 rfl rfl (jv_lt hj_30 (by decide)) (jv_r hj_30 (by decide +kernel)) dX10_readNext_182 ?_
              refine s_iconst (v := 5) E dX10_readNext_185 (by decide) ?_
              refine s_iald E rfl (jv_lt hj_30 (by decide)) (z_in (u := 5) (by decide) (by omega) (by omega)) dX10_readNext_186 ?_
              refine z_nm (P := fun z => z.toInt = (u_27.2.2.1 101 5).toInt ∧ 0 ≤ z.toInt ∧ z.toInt ≤ 6) ⟨rfl, (rw_101_5 hj_30)⟩ (fun z_41 hz_41 => ?_)
              refine s_iconst (v := 1) E dX10_readNext_187 (by decide) ?_
              refine z_isub (u := z_41.toInt) (v := 1) E dX10_readNext_188 rfl (by decide) (by omega) (by omega) (fun z_42 hz_42 => ?_)
              refine s_vI (As := [AX (sA aC 27), AI 0, AI z_42]) (S := [AI z_40, AR 101]) E (Z_X10_told_95 l D aC b u_27 0 z_42 hj_30.1  27 (by decide) (by omega)) cv_X10_164 rfl rfl rfl (jv_lt hj_30 (by decide)) (Nat.le_of_ble_eq_true rfl) (Nat.le_of_ble_eq_true rfl) ⟨(Nat.le_of_ble_eq_true rfl), (Nat.le_of_ble_eq_true rfl)⟩ (Nat.le_of_ble_eq_true rfl) dX10_readNext_189 (fun z_45 u_43 hp_44 => ?_)
              obtain ⟨hz_45, hxz_45, hf_u_43_101, hp_44⟩ := hp_44
              have hc_ : (0 : Int32).toInt = 0 := by decide
              have hj_46 := jv_trans hj_30 hp_44
              have hfa_101_0 := congrArg Int32.toInt (congrFun hf_u_43_101 0)
              have hfa_101_4 := congrArg Int32.toInt (congrFun hf_u_43_101 4)
              have hfa_101_5 := congrArg Int32.toInt (congrFun hf_u_43_101 5)
              have hfa_101_6 := congrArg Int32.toInt (congrFun hf_u_43_101 6)
              have hfa_101_7 := congrArg Int32.toInt (congrFun hf_u_43_101 7)
              have hfa_101_9 := congrArg Int32.toInt (congrFun hf_u_43_101 9)
              have hrz_45 : 0 ≤ z_45.toInt ∧ z_45.toInt ≤ 5 := by omega
              refine s_iast E rfl (jv_lt hj_46 (by decide)) (z_in (u := z_40.toInt) rfl (by omega) (by omega)) dX10_readNext_192 ?_
              have hj_48 : Jv w (upI u_43 101 z_40.toNatClampNeg z_45) := (jv_a_101 (i := z_40) (x := z_45) hj_46 0 5 58 72 2 z_40.toInt (by decide +kernel) (by decide) rfl (by omega) (by omega) (by omega) (by have hb_ := z32 z_45; omega) (by have hb_ := z32 z_45; omega))
              have hke_ : ((upI u_43 101 z_40.toNatClampNeg z_45).2.2.1 95 7).toInt = (u_43.2.2.1 95 7).toInt := rfl
              have hke_ : ((upI u_43 101 z_40.toNatClampNeg z_45).2.2.1 95 8).toInt = (u_43.2.2.1 95 8).toInt := rfl
              have hke_ : ((upI u_43 101 z_40.toNatClampNeg z_45).2.2.1 95 9).toInt = (u_43.2.2.1 95 9).toInt := rfl
              have hke_ : ((upI u_43 101 z_40.toNatClampNeg z_45).2.2.1 95 10).toInt = (u_43.2.2.1 95 10).toInt := rfl
              have hke_ : ((upI u_43 101 z_40.toNatClampNeg z_45).2.2.1 95 12).toInt = (u_43.2.2.1 95 12).toInt := rfl
              have hke_ : ((upI u_43 101 z_40.toNatClampNeg z_45).2.2.1 101 0).toInt = (u_43.2.2.1 101 0).toInt := keep_ne (u := z_40.toInt) rfl (by omega) (by omega)
              have hke_ : ((upI u_43 101 z_40.toNatClampNeg z_45).2.2.1 101 4).toInt = (u_43.2.2.1 101 4).toInt := keep_ne (u := z_40.toInt) rfl (by omega) (by omega)
              have hke_ : ((upI u_43 101 z_40.toNatClampNeg z_45).2.2.1 101 5).toInt = (u_43.2.2.1 101 5).toInt := keep_ne (u := z_40.toInt) rfl (by omega) (by omega)
              have hke_ : ((upI u_43 101 z_40.toNatClampNeg z_45).2.2.1 101 6).toInt = (u_43.2.2.1 101 6).toInt := keep_ne (u := z_40.toInt) rfl (by omega) (by omega)
              have hke_ : ((upI u_43 101 z_40.toNatClampNeg z_45).2.2.1 101 7).toInt = (u_43.2.2.1 101 7).toInt := keep_ne (u := z_40.toInt) rfl (by omega) (by omega)
              have hke_ : ((upI u_43 101 z_40.toNatClampNeg z_45).2.2.1 101 9).toInt = (u_43.2.2.1 101 9).toInt := keep_ne (u := z_40.toInt) rfl (by omega) (by omega)
              refine s_aload_n E dX10_readNext_193 rfl rfl ?_
              refine s_gR (r := 101) E fg_X10_31 rfl rfl (jv_lt hj_48 (by decide)) (jv_r hj_48 (by decide +kernel)) dX10_readNext_194 ?_
              refine s_iload_n E dX10_readNext_197 rfl rfl ?_
              refine s_iconst (v := 1) E dX10_readNext_198 (by decide) ?_
              refine z_iadd (u := z_40.toInt) (v := 1) E dX10_readNext_199 rfl (by decide) (by omega) (by omega) (fun z_49 hz_49 => ?_)
              refine s_aload_n E dX10_readNext_200 rfl rfl ?_
              refine s_ldcS (i := 28) E (by decide) rfl dX10_readNext_201 ?_
              refine s_iconst (v := 1) E dX10_readNext_203 (by decide) ?_
              refine s_bipush (v := 20) E dX10_readNext_204 (by decide) ?_
              refine s_vI (As := [AX (sA aC 28), AI 1, AI 20]) (S := [AI z_49, AR 101]) E (Z_X10_told_95 l D aC b (upI u_43 101 z_40.toNatClampNeg z_45) 1 20 hj_48.1  28 (by decide) (by omega)) cv_X10_164 rfl rfl rfl (jv_lt hj_48 (by decide)) (Nat.le_of_ble_eq_true rfl) (Nat.le_of_ble_eq_true rfl) ⟨(Nat.le_of_ble_eq_true rfl), (Nat.le_of_ble_eq_true rfl)⟩ (Nat.le_of_ble_eq_true rfl) dX10_readNext_206 (fun z_52 u_50 hp_51 => ?_)
              obtain ⟨hz_52, hxz_52, hf_u_50_101, hp_51⟩ := hp_51
              have hc_ : (1 : Int32).toInt = 1 := by decide
              have hc_ : (20 : Int32).toInt = 20 := by decide
              have hj_53 := jv_trans hj_48 hp_51
              have hfa_101_0 := congrArg Int32.toInt (congrFun hf_u_50_101 0)
              have hfa_101_4 := congrArg Int32.toInt (congrFun hf_u_50_101 4)
              have hfa_101_5 := congrArg Int32.toInt (congrFun hf_u_50_101 5)
              have hfa_101_6 := congrArg Int32.toInt (congrFun hf_u_50_101 6)
              have hfa_101_7 := congrArg Int32.toInt (congrFun hf_u_50_101 7)
              have hfa_101_9 := congrArg Int32.toInt (congrFun hf_u_50_101 9)
              have hrz_52 : 0 ≤ z_52.toInt ∧ z_52.toInt ≤ 20 := by omega
              refine s_iast E rfl (jv_lt hj_53 (by decide)) (z_in (u := z_49.toInt) rfl (by omega) (by omega)) dX10_readNext_209 ?_
              have hj_55 : Jv w (upI u_50 101 z_49.toNatClampNeg z_52) := (jv_a_101 (i := z_49) (x := z_52) hj_53 0 20 59 73 2 z_49.toInt (by decide +kernel) (by decide) rfl (by omega) (by omega) (by omega) (by have hb_ := z32 z_52; omega) (by have hb_ := z32 z_52; omega))
              have hke_ : ((upI u_50 101 z_49.toNatClampNeg z_52).2.2.1 95 7).toInt = (u_50.2.2.1 95 7).toInt := rfl
              have hke_ : ((upI u_50 101 z_49.toNatClampNeg z_52).2.2.1 95 8).toInt = (u_50.2.2.1 95 8).toInt := rfl
              have hke_ : ((upI u_50 101 z_49.toNatClampNeg z_52).2.2.1 95 9).toInt = (u_50.2.2.1 95 9).toInt := rfl
              have hke_ : ((upI u_50 101 z_49.toNatClampNeg z_52).2.2.1 95 10).toInt = (u_50.2.2.1 95 10).toInt := rfl
              have hke_ : ((upI u_50 101 z_49.toNatClampNeg z_52).2.2.1 95 12).toInt = (u_50.2.2.1 95 12).toInt := rfl
              have hke_ : ((upI u_50 101 z_49.toNatClampNeg z_52).2.2.1 101 0).toInt = (u_50.2.2.1 101 0).toInt := keep_ne (u := z_49.toInt) rfl (by omega) (by omega)
              have hke_ : ((upI u_50 101 z_49.toNatClampNeg z_52).2.2.1 101 4).toInt = (u_50.2.2.1 101 4).toInt := keep_ne (u := z_49.toInt) rfl (by omega) (by omega)
              have hke_ : ((upI u_50 101 z_49.toNatClampNeg z_52).2.2.1 101 5).toInt = (u_50.2.2.1 101 5).toInt := keep_ne (u := z_49.toInt) rfl (by omega) (by omega)
              have hke_ : ((upI u_50 101 z_49.toNatClampNeg z_52).2.2.1 101 6).toInt = (u_50.2.2.1 101 6).toInt := keep_ne (u := z_49.toInt) rfl (by omega) (by omega)
              have hke_ : ((upI u_50 101 z_49.toNatClampNeg z_52).2.2.1 101 7).toInt = (u_50.2.2.1 101 7).toInt := keep_ne (u := z_49.toInt) rfl (by omega) (by omega)
              have hke_ : ((upI u_50 101 z_49.toNatClampNeg z_52).2.2.1 101 9).toInt = (u_50.2.2.1 101 9).toInt := keep_ne (u := z_49.toInt) rfl (by omega) (by omega)
              refine s_aload_n E dX10_readNext_210 rfl rfl ?_
              refine s_gR (r := 101) E fg_X10_31 rfl rfl (jv_lt hj_55 (by decide)) (jv_r hj_55 (by decide +kernel)) dX10_readNext_211 ?_
              refine s_bipush (v := 6) E dX10_readNext_214 (by decide) ?_
              refine s_dup2 E dX10_readNext_216 ?_
              refine s_iald E rfl (jv_lt hj_55 (by decide)) (z_in (u := 6) (by decide) (by omega) (by omega)) dX10_readNext_217 ?_
              refine z_nm (P := fun z => z.toInt = ((upI u_50 101 z_49.toNatClampNeg z_52).2.2.1 101 6).toInt ∧ 0 ≤ z.toInt ∧ z.toInt ≤ 8) ⟨rfl, (rw_101_6 hj_55)⟩ (fun z_56 hz_56 => ?_)
              refine s_iconst (v := 1) E dX10_readNext_218 (by decide) ?_
              refine z_iadd (u := z_56.toInt) (v := 1) E dX10_readNext_219 rfl (by decide) (by omega) (by omega) (fun z_57 hz_57 => ?_)
              have hhz_57 : 0 ≤ z_57.toInt ∧ z_57.toInt ≤ 8 := by omega
              refine s_iast E rfl (jv_lt hj_55 (by decide)) (z_in (u := 6) (by decide) (by omega) (by omega)) dX10_readNext_220 ?_
              refine s_world (w2 := (upI (upI u_50 101 z_49.toNatClampNeg z_52) 101 6 z_57)) rfl ?_
              have hj_59 : Jv w (upI (upI u_50 101 z_49.toNatClampNeg z_52) 101 6 z_57) := (jv_a_101 (i := 6) (x := z_57) hj_55 0 8 6 6 1 6 (by decide +kernel) (by decide) (by decide) (by omega) (by omega) (by omega) (by have hb_ := z32 z_57; omega) (by have hb_ := z32 z_57; omega))
              have hke_ : ((upI (upI u_50 101 z_49.toNatClampNeg z_52) 101 6 z_57).2.2.1 95 7).toInt = ((upI u_50 101 z_49.toNatClampNeg z_52).2.2.1 95 7).toInt := rfl
              have hke_ : ((upI (upI u_50 101 z_49.toNatClampNeg z_52) 101 6 z_57).2.2.1 95 8).toInt = ((upI u_50 101 z_49.toNatClampNeg z_52).2.2.1 95 8).toInt := rfl
              have hke_ : ((upI (upI u_50 101 z_49.toNatClampNeg z_52) 101 6 z_57).2.2.1 95 9).toInt = ((upI u_50 101 z_49.toNatClampNeg z_52).2.2.1 95 9).toInt := rfl
              have hke_ : ((upI (upI u_50 101 z_49.toNatClampNeg z_52) 101 6 z_57).2.2.1 95 10).toInt = ((upI u_50 101 z_49.toNatClampNeg z_52).2.2.1 95 10).toInt := rfl
              have hke_ : ((upI (upI u_50 101 z_49.toNatClampNeg z_52) 101 6 z_57).2.2.1 95 12).toInt = ((upI u_50 101 z_49.toNatClampNeg z_52).2.2.1 95 12).toInt := rfl
              have hke_ : ((upI (upI u_50 101 z_49.toNatClampNeg z_52) 101 6 z_57).2.2.1 101 0).toInt = ((upI u_50 101 z_49.toNatClampNeg z_52).2.2.1 101 0).toInt := rfl
              have hke_ : ((upI (upI u_50 101 z_49.toNatClampNeg z_52) 101 6 z_57).2.2.1 101 4).toInt = ((upI u_50 101 z_49.toNatClampNeg z_52).2.2.1 101 4).toInt := rfl
              have hke_ : ((upI (upI u_50 101 z_49.toNatClampNeg z_52) 101 6 z_57).2.2.1 101 5).toInt = ((upI u_50 101 z_49.toNatClampNeg z_52).2.2.1 101 5).toInt := rfl
              have hke_ : ((upI (upI u_50 101 z_49.toNatClampNeg z_52) 101 6 z_57).2.2.1 101 6).toInt = z_57.toInt := rfl
              have hke_ : ((upI (upI u_50 101 z_49.toNatClampNeg z_52) 101 6 z_57).2.2.1 101 7).toInt = ((upI u_50 101 z_49.toNatClampNeg z_52).2.2.1 101 7).toInt := rfl
              have hke_ : ((upI (upI u_50 101 z_49.toNatClampNeg z_52) 101 6 z_57).2.2.1 101 9).toInt = ((upI u_50 101 z_49.toNatClampNeg z_52).2.2.1 101 9).toInt := rfl
              refine s_goto (tgt := 232) E dX10_readNext_221 (by decide) ?_
              exact r_void E dX10_readNext_232 ⟨(by omega), hj_59⟩
          ·
            have hd_ : ¬ (w.2.2.1 101 5).toInt = 6 := by first | exact (hq_.resolve_left (by omega)).2.1 (hT2_.mp (by omega)) | (exfalso; omega)
            refine s_bipush (v := 46) E dX10_readNext_96 (by decide) ?_
            refine s_iconst (v := 2) E dX10_readNext_98 (by decide) ?_
            refine s_aload_n E dX10_readNext_99 rfl rfl ?_
            refine s_gR (r := 101) E fg_X10_31 rfl rfl (jv_lt hj_25 (by decide)) (jv_r hj_25 (by decide +kernel)) dX10_readNext_100 ?_
            refine s_iconst (v := 5) E dX10_readNext_103 (by decide) ?_
            refine s_iald E rfl (jv_lt hj_25 (by decide)) (z_in (u := 5) (by decide) (by omega) (by omega)) dX10_readNext_104 ?_
            refine z_nm (P := fun z => z.toInt = (u_22.2.2.1 101 5).toInt ∧ 0 ≤ z.toInt ∧ z.toInt ≤ 6) ⟨rfl, (rw_101_5 hj_25)⟩ (fun z_60 hz_60 => ?_)
            refine z_imul (u := 2) (v := z_60.toInt) E dX10_readNext_105 (by decide) rfl (by omega) (by omega) (fun z_61 hz_61 => ?_)
            have hhz_61 : 0 ≤ z_61.toInt ∧ z_61.toInt ≤ 10 := by omega
            refine z_iadd (u := 46) (v := z_61.toInt) E dX10_readNext_106 (by decide) rfl (by omega) (by omega) (fun z_62 hz_62 => ?_)
            refine s_istore_n (L2 := [some (AR 95), some (AI 1), some (AI z_62)]) E dX10_readNext_107 rfl (by decide) rfl ?_
            refine s_aload_n E dX10_readNext_108 rfl rfl ?_
            refine s_gR (r := 101) E fg_X10_31 rfl rfl (jv_lt hj_25 (by decide)) (jv_r hj_25 (by decide +kernel)) dX10_readNext_109 ?_
            refine s_iload_n E dX10_readNext_112 rfl rfl ?_
            refine s_aload_n E dX10_readNext_113 rfl rfl ?_
            refine s_ldcS (i := 26) E (by decide) rfl dX10_readNext_114 ?_
            refine s_vI (As := [AX (sA aC 26)]) (S := [AI z_62, AR 101]) E (Z_X10_freshRoom_95 l D aC b u_22  hj_25.1  26 (by decide) (by omega)) cv_X10_182 rfl rfl rfl (jv_lt hj_25 (by decide)) (Nat.le_of_ble_eq_true rfl) (Nat.le_of_ble_eq_true rfl) ⟨(Nat.le_of_ble_eq_true rfl), (Nat.le_of_ble_eq_true rfl)⟩ (Nat.le_of_ble_eq_true rfl) dX10_readNext_116 (fun z_65 u_63 hp_64 => ?_)
            obtain ⟨hz_65, hxz_65, hf_u_63_101, hp_64⟩ := hp_64
            have hj_66 := jv_trans hj_25 hp_64
            have hfa_101_0 := congrArg Int32.toInt (congrFun hf_u_63_101 0)
            have hfa_101_4 := congrArg Int32.toInt (congrFun hf_u_63_101 4)
            have hfa_101_5 := congrArg Int32.toInt (congrFun hf_u_63_101 5)
            have hfa_101_6 := congrArg Int32.toInt (congrFun hf_u_63_101 6)
            have hfa_101_7 := congrArg Int32.toInt (congrFun hf_u_63_101 7)
            have hfa_101_9 := congrArg Int32.toInt (congrFun hf_u_63_101 9)
            have hrz_65 : 0 ≤ z_65.toInt ∧ z_65.toInt ≤ 7 := by omega
            have hRm_ : (u_63.2.2.1 95 12).toInt = 0 → z_65.toInt < (w.2.2.1 101 0).toInt := by intro h0_; omega
            refine s_iast E rfl (jv_lt hj_66 (by decide)) (z_in (u := z_62.toInt) rfl (by omega) (by omega)) dX10_readNext_119 ?_
            have hj_68 : Jv w (upI u_63 101 z_62.toNatClampNeg z_65) := (jv_lad0 hj_66 (by omega) (by omega) (by omega) (by have hb_ := z32 z_65; omega) (by have hb_ := z32 z_65; omega))
            have hke_ : ((upI u_63 101 z_62.toNatClampNeg z_65).2.2.1 95 7).toInt = (u_63.2.2.1 95 7).toInt := rfl
            have hke_ : ((upI u_63 101 z_62.toNatClampNeg z_65).2.2.1 95 8).toInt = (u_63.2.2.1 95 8).toInt := rfl
            have hke_ : ((upI u_63 101 z_62.toNatClampNeg z_65).2.2.1 95 9).toInt = (u_63.2.2.1 95 9).toInt := rfl
            have hke_ : ((upI u_63 101 z_62.toNatClampNeg z_65).2.2.1 95 10).toInt = (u_63.2.2.1 95 10).toInt := rfl
            have hke_ : ((upI u_63 101 z_62.toNatClampNeg z_65).2.2.1 95 12).toInt = (u_63.2.2.1 95 12).toInt := rfl
            have hke_ : ((upI u_63 101 z_62.toNatClampNeg z_65).2.2.1 101 0).toInt = (u_63.2.2.1 101 0).toInt := keep_ne (u := z_62.toInt) rfl (by omega) (by omega)
            have hke_ : ((upI u_63 101 z_62.toNatClampNeg z_65).2.2.1 101 4).toInt = (u_63.2.2.1 101 4).toInt := keep_ne (u := z_62.toInt) rfl (by omega) (by omega)
            have hke_ : ((upI u_63 101 z_62.toNatClampNeg z_65).2.2.1 101 5).toInt = (u_63.2.2.1 101 5).toInt := keep_ne (u := z_62.toInt) rfl (by omega) (by omega)
            have hke_ : ((upI u_63 101 z_62.toNatClampNeg z_65).2.2.1 101 6).toInt = (u_63.2.2.1 101 6).toInt := keep_ne (u := z_62.toInt) rfl (by omega) (by omega)
            have hke_ : ((upI u_63 101 z_62.toNatClampNeg z_65).2.2.1 101 7).toInt = (u_63.2.2.1 101 7).toInt := keep_ne (u := z_62.toInt) rfl (by omega) (by omega)
            have hke_ : ((upI u_63 101 z_62.toNatClampNeg z_65).2.2.1 101 9).toInt = (u_63.2.2.1 101 9).toInt := keep_ne (u := z_62.toInt) rfl (by omega) (by omega)
            refine s_aload_n E dX10_readNext_120 rfl rfl ?_
            refine s_gR (r := 101) E fg_X10_31 rfl rfl (jv_lt hj_68 (by decide)) (jv_r hj_68 (by decide +kernel)) dX10_readNext_121 ?_
            refine s_iload_n E dX10_readNext_124 rfl rfl ?_
            refine s_iconst (v := 1) E dX10_readNext_125 (by decide) ?_
            refine z_iadd (u := z_62.toInt) (v := 1) E dX10_readNext_126 rfl (by decide) (by omega) (by omega) (fun z_69 hz_69 => ?_)
            refine s_aload_n E dX10_readNext_127 rfl rfl ?_
            refine s_ldcS (i := 25) E (by decide) rfl dX10_readNext_128 ?_
            refine s_iconst (v := 1) E dX10_readNext_130 (by decide) ?_
            refine s_bipush (v := 9) E dX10_readNext_131 (by decide) ?_
            refine s_vI (As := [AX (sA aC 25), AI 1, AI 9]) (S := [AI z_69, AR 101]) E (Z_X10_told_95 l D aC b (upI u_63 101 z_62.toNatClampNeg z_65) 1 9 hj_68.1  25 (by decide) (by omega)) cv_X10_164 rfl rfl rfl (jv_lt hj_68 (by decide)) (Nat.le_of_ble_eq_true rfl) (Nat.le_of_ble_eq_true rfl) ⟨(Nat.le_of_ble_eq_true rfl), (Nat.le_of_ble_eq_true rfl)⟩ (Nat.le_of_ble_eq_true rfl) dX10_readNext_133 (fun z_72 u_70 hp_71 => ?_)
            obtain ⟨hz_72, hxz_72, hf_u_70_101, hp_71⟩ := hp_71
            have hc_ : (1 : Int32).toInt = 1 := by decide
            have hc_ : (9 : Int32).toInt = 9 := by decide
            have hj_73 := jv_trans hj_68 hp_71
            have hfa_101_0 := congrArg Int32.toInt (congrFun hf_u_70_101 0)
            have hfa_101_4 := congrArg Int32.toInt (congrFun hf_u_70_101 4)
            have hfa_101_5 := congrArg Int32.toInt (congrFun hf_u_70_101 5)
            have hfa_101_6 := congrArg Int32.toInt (congrFun hf_u_70_101 6)
            have hfa_101_7 := congrArg Int32.toInt (congrFun hf_u_70_101 7)
            have hfa_101_9 := congrArg Int32.toInt (congrFun hf_u_70_101 9)
            have hrz_72 : 0 ≤ z_72.toInt ∧ z_72.toInt ≤ 9 := by omega
            have hLw_ : (u_70.2.2.1 95 12).toInt = 0 → 1 ≤ z_72.toInt := by intro h0_; omega
            have fL_ := hf_u_70_101
            refine s_iast E rfl (jv_lt hj_73 (by decide)) (z_in (u := z_69.toInt) rfl (by omega) (by omega)) dX10_readNext_136 ?_
            have hj_75 : Jv w (upI u_70 101 z_69.toNatClampNeg z_72) := (jv_lad hj_73 (by omega) (by omega) (by omega) (by have hb_ := z32 z_72; omega) (by have hb_ := z32 z_72; omega))
            have hke_ : ((upI u_70 101 z_69.toNatClampNeg z_72).2.2.1 95 7).toInt = (u_70.2.2.1 95 7).toInt := rfl
            have hke_ : ((upI u_70 101 z_69.toNatClampNeg z_72).2.2.1 95 8).toInt = (u_70.2.2.1 95 8).toInt := rfl
            have hke_ : ((upI u_70 101 z_69.toNatClampNeg z_72).2.2.1 95 9).toInt = (u_70.2.2.1 95 9).toInt := rfl
            have hke_ : ((upI u_70 101 z_69.toNatClampNeg z_72).2.2.1 95 10).toInt = (u_70.2.2.1 95 10).toInt := rfl
            have hke_ : ((upI u_70 101 z_69.toNatClampNeg z_72).2.2.1 95 12).toInt = (u_70.2.2.1 95 12).toInt := rfl
            have hke_ : ((upI u_70 101 z_69.toNatClampNeg z_72).2.2.1 101 0).toInt = (u_70.2.2.1 101 0).toInt := keep_ne (u := z_69.toInt) rfl (by omega) (by omega)
            have hke_ : ((upI u_70 101 z_69.toNatClampNeg z_72).2.2.1 101 4).toInt = (u_70.2.2.1 101 4).toInt := keep_ne (u := z_69.toInt) rfl (by omega) (by omega)
            have hke_ : ((upI u_70 101 z_69.toNatClampNeg z_72).2.2.1 101 5).toInt = (u_70.2.2.1 101 5).toInt := keep_ne (u := z_69.toInt) rfl (by omega) (by omega)
            have hke_ : ((upI u_70 101 z_69.toNatClampNeg z_72).2.2.1 101 6).toInt = (u_70.2.2.1 101 6).toInt := keep_ne (u := z_69.toInt) rfl (by omega) (by omega)
            have hke_ : ((upI u_70 101 z_69.toNatClampNeg z_72).2.2.1 101 7).toInt = (u_70.2.2.1 101 7).toInt := keep_ne (u := z_69.toInt) rfl (by omega) (by omega)
            have hke_ : ((upI u_70 101 z_69.toNatClampNeg z_72).2.2.1 101 9).toInt = (u_70.2.2.1 101 9).toInt := keep_ne (u := z_69.toInt) rfl (by omega) (by omega)
            refine s_aload_n E dX10_readNext_137 rfl rfl ?_
            refine s_gR (r := 101) E fg_X10_31 rfl rfl (jv_lt hj_75 (by decide)) (jv_r hj_75 (by decide +kernel)) dX10_readNext_138 ?_
            refine s_iconst (v := 5) E dX10_readNext_141 (by decide) ?_
            refine s_dup2 E dX10_readNext_142 ?_
            refine s_iald E rfl (jv_lt hj_75 (by decide)) (z_in (u := 5) (by decide) (by omega) (by omega)) dX10_readNext_143 ?_
            refine z_nm (P := fun z => z.toInt = ((upI u_70 101 z_69.toNatClampNeg z_72).2.2.1 101 5).toInt ∧ 0 ≤ z.toInt ∧ z.toInt ≤ 6) ⟨rfl, (rw_101_5 hj_75)⟩ (fun z_76 hz_76 => ?_)
            refine s_iconst (v := 1) E dX10_readNext_144 (by decide) ?_
            refine z_iadd (u := z_76.toInt) (v := 1) E dX10_readNext_145 rfl (by decide) (by omega) (by omega) (fun z_77 hz_77 => ?_)
            have hhz_77 : 0 ≤ z_77.toInt ∧ z_77.toInt ≤ 6 := by omega
            refine s_iast E rfl (jv_lt hj_75 (by decide)) (z_in (u := 5) (by decide) (by omega) (by omega)) dX10_readNext_146 ?_
            refine s_world (w2 := (upI (upI u_70 101 z_69.toNatClampNeg z_72) 101 5 z_77)) rfl ?_
            have hj_79 : Jv w (upI (upI u_70 101 z_69.toNatClampNeg z_72) 101 5 z_77) := (jv_lad5 hj_75 (by omega) (by omega) (by omega) (lad_fin (by omega) (by omega) hLw_) (fun h0_ => lad_fin2 (N := (w.2.2.1 101 5).toInt) fL_ (by omega) (by omega) (by omega) (by omega) (by have q_ := hRm_ (by omega); omega)))
            have hke_ : ((upI (upI u_70 101 z_69.toNatClampNeg z_72) 101 5 z_77).2.2.1 95 7).toInt = ((upI u_70 101 z_69.toNatClampNeg z_72).2.2.1 95 7).toInt := rfl
            have hke_ : ((upI (upI u_70 101 z_69.toNatClampNeg z_72) 101 5 z_77).2.2.1 95 8).toInt = ((upI u_70 101 z_69.toNatClampNeg z_72).2.2.1 95 8).toInt := rfl
            have hke_ : ((upI (upI u_70 101 z_69.toNatClampNeg z_72) 101 5 z_77).2.2.1 95 9).toInt = ((upI u_70 101 z_69.toNatClampNeg z_72).2.2.1 95 9).toInt := rfl
            have hke_ : ((upI (upI u_70 101 z_69.toNatClampNeg z_72) 101 5 z_77).2.2.1 95 10).toInt = ((upI u_70 101 z_69.toNatClampNeg z_72).2.2.1 95 10).toInt := rfl
            have hke_ : ((upI (upI u_70 101 z_69.toNatClampNeg z_72) 101 5 z_77).2.2.1 95 12).toInt = ((upI u_70 101 z_69.toNatClampNeg z_72).2.2.1 95 12).toInt := rfl
            have hke_ : ((upI (upI u_70 101 z_69.toNatClampNeg z_72) 101 5 z_77).2.2.1 101 0).toInt = ((upI u_70 101 z_69.toNatClampNeg z_72).2.2.1 101 0).toInt := rfl
            have hke_ : ((upI (upI u_70 101 z_69.toNatClampNeg z_72) 101 5 z_77).2.2.1 101 4).toInt = ((upI u_70 101 z_69.toNatClampNeg z_72).2.2.1 101 4).toInt := rfl
            have hke_ : ((upI (upI u_70 101 z_69.toNatClampNeg z_72) 101 5 z_77).2.2.1 101 5).toInt = z_77.toInt := rfl
            have hke_ : ((upI (upI u_70 101 z_69.toNatClampNeg z_72) 101 5 z_77).2.2.1 101 6).toInt = ((upI u_70 101 z_69.toNatClampNeg z_72).2.2.1 101 6).toInt := rfl
            have hke_ : ((upI (upI u_70 101 z_69.toNatClampNeg z_72) 101 5 z_77).2.2.1 101 7).toInt = ((upI u_70 101 z_69.toNatClampNeg z_72).2.2.1 101 7).toInt := rfl
            have hke_ : ((upI (upI u_70 101 z_69.toNatClampNeg z_72) 101 5 z_77).2.2.1 101 9).toInt = ((upI u_70 101 z_69.toNatClampNeg z_72).2.2.1 101 9).toInt := rfl
            refine s_goto (tgt := 232) E dX10_readNext_147 (by decide) ?_
            exact r_void E dX10_readNext_232 ⟨(by omega), hj_79⟩
        ·
          have hd_ : ¬ (w.2.2.1 101 4).toInt = 12 := by first | exact (hq_.resolve_left (by omega)).1 (hT_.mp (by omega)) | (exfalso; omega)
          refine s_aload_n E dX10_readNext_80 rfl rfl ?_
          refine s_vV (As := []) (S := []) E (Z_X10_readDoor_95 l D aC b u_17  hj_20.1  (by omega) (by omega)) cv_X10_198 rfl rfl rfl (jv_lt hj_20 (by decide)) (Nat.le_of_ble_eq_true rfl) (Nat.le_of_ble_eq_true rfl) ⟨(Nat.le_of_ble_eq_true rfl), (Nat.le_of_ble_eq_true rfl)⟩ (Nat.le_of_ble_eq_true rfl) dX10_readNext_81 (fun u_80 hp_81 => ?_)
          obtain ⟨hx_hp_81, hp_81⟩ := hp_81
          have hj_82 := jv_trans hj_20 hp_81
          refine s_goto (tgt := 232) E dX10_readNext_84 (by decide) ?_
          exact r_void E dX10_readNext_232 ⟨(by omega), hj_82⟩
      ·
        exact r_void E dX10_readNext_70 ⟨(by omega), hJ⟩
    ·
      refine s_aload_n E dX10_readNext_58 rfl rfl ?_
      refine s_iconst (v := 3) E dX10_readNext_59 (by decide) ?_
      refine s_vV (As := [AI 3]) (S := []) E (Z_X10_errs_95 l D aC b w 3 hJ.1 (by decide)) cv_X10_153 rfl rfl rfl (jv_lt hJ (by decide)) (Nat.le_of_ble_eq_true rfl) (Nat.le_of_ble_eq_true rfl) ⟨(Nat.le_of_ble_eq_true rfl), (Nat.le_of_ble_eq_true rfl)⟩ (Nat.le_of_ble_eq_true rfl) dX10_readNext_60 (fun u_83 hp_84 => ?_)
      have hc_ : (3 : Int32).toInt = 3 := by decide
      obtain ⟨hx_hp_84, hf_u_83_101, hp_84⟩ := hp_84
      have hj_85 := jv_trans hJ hp_84
      have hfa_101_0 := congrArg Int32.toInt (congrFun hf_u_83_101 0)
      have hfa_101_4 := congrArg Int32.toInt (congrFun hf_u_83_101 4)
      have hfa_101_5 := congrArg Int32.toInt (congrFun hf_u_83_101 5)
      have hfa_101_6 := congrArg Int32.toInt (congrFun hf_u_83_101 6)
      have hfa_101_7 := congrArg Int32.toInt (congrFun hf_u_83_101 7)
      have hfa_101_9 := congrArg Int32.toInt (congrFun hf_u_83_101 9)
      refine s_aload_n E dX10_readNext_63 rfl rfl ?_
      refine s_vI (As := []) (S := []) E (Z_X10_good_95 l D aC b u_83  hj_85.1 ) cv_X10_130 rfl rfl rfl (jv_lt hj_85 (by decide)) (Nat.le_of_ble_eq_true rfl) (Nat.le_of_ble_eq_true rfl) ⟨(Nat.le_of_ble_eq_true rfl), (Nat.le_of_ble_eq_true rfl)⟩ (Nat.le_of_ble_eq_true rfl) dX10_readNext_64 (fun z_88 u_86 hp_87 => ?_)
      obtain ⟨hz_88, hxz_88, hp_87⟩ := hp_87
      subst hp_87
      refine z_if_ne (tgt := 71) (u := z_88.toInt) E dX10_readNext_67 (by decide) rfl (fun h_90 => ?_) (fun h_90 => ?_)
      ·
        have hn4_ := rw_101_4 hj_85
        have hn5_ := rw_101_5 hj_85
        have hn6_ := rw_101_6 hj_85
        have hn7_ := rw_101_7 hj_85
        refine s_aload_n E dX10_readNext_71 rfl rfl ?_
        refine s_ldcS (i := 20) E (by decide) rfl dX10_readNext_72 ?_
        refine s_vI (As := [AX (sA aC 20)]) (S := []) E (Z_X10_takes_95 l D aC b u_83  hj_85.1  20 (by decide) (by omega)) cv_X10_150 rfl rfl rfl (jv_lt hj_85 (by decide)) (Nat.le_of_ble_eq_true rfl) (Nat.le_of_ble_eq_true rfl) ⟨(Nat.le_of_ble_eq_true rfl), (Nat.le_of_ble_eq_true rfl)⟩ (Nat.le_of_ble_eq_true rfl) dX10_readNext_74 (fun z_93 u_91 hp_92 => ?_)
        obtain ⟨hz_93, hxz_93, hf_u_91_101, hp_92⟩ := hp_92
        have hj_94 := jv_trans hj_85 hp_92
        have hfa_101_0 := congrArg Int32.toInt (congrFun hf_u_91_101 0)
        have hfa_101_4 := congrArg Int32.toInt (congrFun hf_u_91_101 4)
        have hfa_101_5 := congrArg Int32.toInt (congrFun hf_u_91_101 5)
        have hfa_101_6 := congrArg Int32.toInt (congrFun hf_u_91_101 6)
        have hfa_101_7 := congrArg Int32.toInt (congrFun hf_u_91_101 7)
        have hfa_101_9 := congrArg Int32.toInt (congrFun hf_u_91_101 9)
        have hT_ := hxz_93.1
        have hE_ := hxz_93.2.1
        refine z_if_eq (tgt := 87) (u := z_93.toInt) E dX10_readNext_77 (by decide) rfl (fun h_95 => ?_) (fun h_95 => ?_)
        ·
          have hE1_ : u_83 = u_91 := hE_.resolve_left (by omega)
          refine s_aload_n E dX10_readNext_87 rfl rfl ?_
          refine s_ldcS (i := 21) E (by decide) rfl dX10_readNext_88 ?_
          refine s_vI (As := [AX (sA aC 21)]) (S := []) E (Z_X10_takes_95 l D aC b u_91  hj_94.1  21 (by decide) (by omega)) cv_X10_150 rfl rfl rfl (jv_lt hj_94 (by decide)) (Nat.le_of_ble_eq_true rfl) (Nat.le_of_ble_eq_true rfl) ⟨(Nat.le_of_ble_eq_true rfl), (Nat.le_of_ble_eq_true rfl)⟩ (Nat.le_of_ble_eq_true rfl) dX10_readNext_90 (fun z_98 u_96 hp_97 => ?_)
          obtain ⟨hz_98, hxz_98, hf_u_96_101, hp_97⟩ := hp_97
          have hj_99 := jv_trans hj_94 hp_97
          have hfa_101_0 := congrArg Int32.toInt (congrFun hf_u_96_101 0)
          have hfa_101_4 := congrArg Int32.toInt (congrFun hf_u_96_101 4)
          have hfa_101_5 := congrArg Int32.toInt (congrFun hf_u_96_101 5)
          have hfa_101_6 := congrArg Int32.toInt (congrFun hf_u_96_101 6)
          have hfa_101_7 := congrArg Int32.toInt (congrFun hf_u_96_101 7)
          have hfa_101_9 := congrArg Int32.toInt (congrFun hf_u_96_101 9)
          have hT2_ := hxz_98.1
          rw [← hE1_] at hT2_
          have hF_ := hxz_98.2.1
          refine z_if_eq (tgt := 150) (u := z_98.toInt) E dX10_readNext_93 (by decide) rfl (fun h_100 => ?_) (fun h_100 => ?_)
          ·
            have hE2_ : u_83 = u_96 := hE1_.trans (hF_.resolve_left (by omega))
            refine s_aload_n E dX10_readNext_150 rfl rfl ?_
            refine s_ldcS (i := 22) E (by decide) rfl dX10_readNext_151 ?_
            refine s_vI (As := [AX (sA aC 22)]) (S := []) E (Z_X10_takes_95 l D aC b u_96  hj_99.1  22 (by decide) (by omega)) cv_X10_150 rfl rfl rfl (jv_lt hj_99 (by decide)) (Nat.le_of_ble_eq_true rfl) (Nat.le_of_ble_eq_true rfl) ⟨(Nat.le_of_ble_eq_true rfl), (Nat.le_of_ble_eq_true rfl)⟩ (Nat.le_of_ble_eq_true rfl) dX10_readNext_153 (fun z_103 u_101 hp_102 => ?_)
            obtain ⟨hz_103, hxz_103, hf_u_101_101, hp_102⟩ := hp_102
            have hj_104 := jv_trans hj_99 hp_102
            have hfa_101_0 := congrArg Int32.toInt (congrFun hf_u_101_101 0)
            have hfa_101_4 := congrArg Int32.toInt (congrFun hf_u_101_101 4)
            have hfa_101_5 := congrArg Int32.toInt (congrFun hf_u_101_101 5)
            have hfa_101_6 := congrArg Int32.toInt (congrFun hf_u_101_101 6)
            have hfa_101_7 := congrArg Int32.toInt (congrFun hf_u_101_101 7)
            have hfa_101_9 := congrArg Int32.toInt (congrFun hf_u_101_101 9)
            have hT3_ := hxz_103.1
            rw [← hE2_] at hT3_
            have hG_ := hxz_103.2.1
            refine z_if_eq (tgt := 224) (u := z_103.toInt) E dX10_readNext_156 (by decide) rfl (fun h_105 => ?_) (fun h_105 => ?_)
            ·
              have hd_ : ¬ (u_83.2.2.1 101 7).toInt = 10 := by first | exact (hq_.resolve_left (by omega)).2.2.2 (hw_30.mp (by omega)) | (exfalso; exact absurd (hT_.mpr (hw_3.mp (by omega))) (by omega)) | (exfalso; exact absurd (hT2_.mpr (hw_12.mp (by omega))) (by omega)) | (exfalso; exact absurd (hT3_.mpr (hw_21.mp (by omega))) (by omega)) | (exfalso; omega)
              refine s_aload_n E dX10_readNext_224 rfl rfl ?_
              refine s_vV (As := []) (S := []) E (Z_X10_advance_95 l D aC b u_101  hj_104.1 ) cv_X10_147 rfl rfl rfl (jv_lt hj_104 (by decide)) (Nat.le_of_ble_eq_true rfl) (Nat.le_of_ble_eq_true rfl) ⟨(Nat.le_of_ble_eq_true rfl), (Nat.le_of_ble_eq_true rfl)⟩ (Nat.le_of_ble_eq_true rfl) dX10_readNext_225 (fun u_106 hp_107 => ?_)
              obtain ⟨hx_hp_107, hf_u_106_99, hf_u_106_101, hp_107⟩ := hp_107
              have hj_108 := jv_trans hj_104 hp_107
              have hfa_101_0 := congrArg Int32.toInt (congrFun hf_u_106_101 0)
              have hfa_101_4 := congrArg Int32.toInt (congrFun hf_u_106_101 4)
              have hfa_101_5 := congrArg Int32.toInt (congrFun hf_u_106_101 5)
              have hfa_101_6 := congrArg Int32.toInt (congrFun hf_u_106_101 6)
              have hfa_101_7 := congrArg Int32.toInt (congrFun hf_u_106_101 7)
              have hfa_101_9 := congrArg Int32.toInt (congrFun hf_u_106_101 9)
              refine s_aload_n E dX10_readNext_228 rfl rfl ?_
              refine s_vV (As := []) (S := []) E (Z_X10_readBid_95 l D aC b u_106  hj_108.1  (by omega) (by omega)) cv_X10_206 rfl rfl rfl (jv_lt hj_108 (by decide)) (Nat.le_of_ble_eq_true rfl) (Nat.le_of_ble_eq_true rfl) ⟨(Nat.le_of_ble_eq_true rfl), (Nat.le_of_ble_eq_true rfl)⟩ (Nat.le_of_ble_eq_true rfl) dX10_readNext_229 (fun u_109 hp_110 => ?_)
              obtain ⟨hx_hp_110, hp_110⟩ := hp_110
              have hj_111 := jv_trans hj_108 hp_110
              exact r_void E dX10_readNext_232 ⟨(by omega), hj_111⟩
            ·
              have hd_ : ¬ (u_83.2.2.1 101 6).toInt = 8 := by first | exact (hq_.resolve_left (by omega)).2.2.1 (hT3_.mp (by omega)) | (exfalso; omega)
              refine s_bipush (v := 58) E dX10_readNext_159 (by decide) ?_
              refine s_iconst (v := 2) E dX10_readNext_161 (by decide) ?_
              refine s_aload_n E dX10_readNext_162 rfl rfl ?_
              refine s_gR (r := 101) E fg_X10_31 rfl rfl (jv_lt hj_104 (by decide)) (jv_r hj_104 (by decide +kernel)) dX10_readNext_163 ?_
              refine s_bipush (v := 6) E dX10_readNext_166 (by decide) ?_
              refine s_iald E rfl (jv_lt hj_104 (by decide)) (z_in (u := 6) (by decide) (by omega) (by omega)) dX10_readNext_168 ?_
              refine z_nm (P := fun z => z.toInt = (u_101.2.2.1 101 6).toInt ∧ 0 ≤ z.toInt ∧ z.toInt ≤ 8) ⟨rfl, (rw_101_6 hj_104)⟩ (fun z_112 hz_112 => ?_)
              refine z_imul (u := 2) (v := z_112.toInt) E dX10_readNext_169 (by decide) rfl (by omega) (by omega) (fun z_113 hz_113 => ?_)
              have hhz_113 : 0 ≤ z_113.toInt ∧ z_113.toInt ≤ 14 := by omega
              refine z_iadd (u := 58) (v := z_113.toInt) E dX10_readNext_170 (by decide) rfl (by omega) (by omega) (fun z_114 hz_114 => ?_)
              refine s_istore_n (L2 := [some (AR 95), some (AI 1), some (AI z_114)]) E dX10_readNext_171 rfl (by decide) rfl ?_
              refine s_aload_n E dX10_readNext_172 rfl rfl ?_
              refine s_gR (r := 101) E fg_X10_31 rfl rfl (jv_lt hj_104 (by decide)) (jv_r hj_104 (by decide +kernel)) dX10_readNext_173 ?_
              refine s_iload_n E dX10_readNext_176 rfl rfl ?_
              refine s_aload_n E dX10_readNext_177 rfl rfl ?_
              refine s_ldcS (i := 27) E (by decide) rfl dX10_readNext_178 ?_
              refine s_iconst (v := 0) E dX10_readNext_180 (by decide) ?_
              refine s_aload_n E dX10_readNext_181 rfl rfl ?_
              refine s_gR (r := 101) E fg_X10_31 rfl rfl (jv_lt hj_104 (by decide)) (jv_r hj_104 (by decide +kernel)) dX10_readNext_182 ?_
              refine s_iconst (v := 5) E dX10_readNext_185 (by decide) ?_
              refine s_iald E rfl (jv_lt hj_104 (by decide)) (z_in (u := 5) (by decide) (by omega) (by omega)) dX10_readNext_186 ?_
              refine z_nm (P := fun z => z.toInt = (u_101.2.2.1 101 5).toInt ∧ 0 ≤ z.toInt ∧ z.toInt ≤ 6) ⟨rfl, (rw_101_5 hj_104)⟩ (fun z_115 hz_115 => ?_)
              refine s_iconst (v := 1) E dX10_readNext_187 (by decide) ?_
              refine z_isub (u := z_115.toInt) (v := 1) E dX10_readNext_188 rfl (by decide) (by omega) (by omega) (fun z_116 hz_116 => ?_)
              refine s_vI (As := [AX (sA aC 27), AI 0, AI z_116]) (S := [AI z_114, AR 101]) E (Z_X10_told_95 l D aC b u_101 0 z_116 hj_104.1  27 (by decide) (by omega)) cv_X10_164 rfl rfl rfl (jv_lt hj_104 (by decide)) (Nat.le_of_ble_eq_true rfl) (Nat.le_of_ble_eq_true rfl) ⟨(Nat.le_of_ble_eq_true rfl), (Nat.le_of_ble_eq_true rfl)⟩ (Nat.le_of_ble_eq_true rfl) dX10_readNext_189 (fun z_119 u_117 hp_118 => ?_)
              obtain ⟨hz_119, hxz_119, hf_u_117_101, hp_118⟩ := hp_118
              have hc_ : (0 : Int32).toInt = 0 := by decide
              have hj_120 := jv_trans hj_104 hp_118
              have hfa_101_0 := congrArg Int32.toInt (congrFun hf_u_117_101 0)
              have hfa_101_4 := congrArg Int32.toInt (congrFun hf_u_117_101 4)
              have hfa_101_5 := congrArg Int32.toInt (congrFun hf_u_117_101 5)
              have hfa_101_6 := congrArg Int32.toInt (congrFun hf_u_117_101 6)
              have hfa_101_7 := congrArg Int32.toInt (congrFun hf_u_117_101 7)
              have hfa_101_9 := congrArg Int32.toInt (congrFun hf_u_117_101 9)
              have hrz_119 : 0 ≤ z_119.toInt ∧ z_119.toInt ≤ 5 := by omega
              refine s_iast E rfl (jv_lt hj_120 (by decide)) (z_in (u := z_114.toInt) rfl (by omega) (by omega)) dX10_readNext_192 ?_
              have hj_122 : Jv w (upI u_117 101 z_114.toNatClampNeg z_119) := (jv_a_101 (i := z_114) (x := z_119) hj_120 0 5 58 72 2 z_114.toInt (by decide +kernel) (by decide) rfl (by omega) (by omega) (by omega) (by have hb_ := z32 z_119; omega) (by have hb_ := z32 z_119; omega))
              have hke_ : ((upI u_117 101 z_114.toNatClampNeg z_119).2.2.1 95 7).toInt = (u_117.2.2.1 95 7).toInt := rfl
              have hke_ : ((upI u_117 101 z_114.toNatClampNeg z_119).2.2.1 95 8).toInt = (u_117.2.2.1 95 8).toInt := rfl
              have hke_ : ((upI u_117 101 z_114.toNatClampNeg z_119).2.2.1 95 9).toInt = (u_117.2.2.1 95 9).toInt := rfl
              have hke_ : ((upI u_117 101 z_114.toNatClampNeg z_119).2.2.1 95 10).toInt = (u_117.2.2.1 95 10).toInt := rfl
              have hke_ : ((upI u_117 101 z_114.toNatClampNeg z_119).2.2.1 95 12).toInt = (u_117.2.2.1 95 12).toInt := rfl
              have hke_ : ((upI u_117 101 z_114.toNatClampNeg z_119).2.2.1 101 0).toInt = (u_117.2.2.1 101 0).toInt := keep_ne (u := z_114.toInt) rfl (by omega) (by omega)
              have hke_ : ((upI u_117 101 z_114.toNatClampNeg z_119).2.2.1 101 4).toInt = (u_117.2.2.1 101 4).toInt := keep_ne (u := z_114.toInt) rfl (by omega) (by omega)
              have hke_ : ((upI u_117 101 z_114.toNatClampNeg z_119).2.2.1 101 5).toInt = (u_117.2.2.1 101 5).toInt := keep_ne (u := z_114.toInt) rfl (by omega) (by omega)
              have hke_ : ((upI u_117 101 z_114.toNatClampNeg z_119).2.2.1 101 6).toInt = (u_117.2.2.1 101 6).toInt := keep_ne (u := z_114.toInt) rfl (by omega) (by omega)
              have hke_ : ((upI u_117 101 z_114.toNatClampNeg z_119).2.2.1 101 7).toInt = (u_117.2.2.1 101 7).toInt := keep_ne (u := z_114.toInt) rfl (by omega) (by omega)
              have hke_ : ((upI u_117 101 z_114.toNatClampNeg z_119).2.2.1 101 9).toInt = (u_117.2.2.1 101 9).toInt := keep_ne (u := z_114.toInt) rfl (by omega) (by omega)
              refine s_aload_n E dX10_readNext_193 rfl rfl ?_
              refine s_gR (r := 101) E fg_X10_31 rfl rfl (jv_lt hj_122 (by decide)) (jv_r hj_122 (by decide +kernel)) dX10_readNext_194 ?_
              refine s_iload_n E dX10_readNext_197 rfl rfl ?_
              refine s_iconst (v := 1) E dX10_readNext_198 (by decide) ?_
              refine z_iadd (u := z_114.toInt) (v := 1) E dX10_readNext_199 rfl (by decide) (by omega) (by omega) (fun z_123 hz_123 => ?_)
              refine s_aload_n E dX10_readNext_200 rfl rfl ?_
              refine s_ldcS (i := 28) E (by decide) rfl dX10_readNext_201 ?_
              refine s_iconst (v := 1) E dX10_readNext_203 (by decide) ?_
              refine s_bipush (v := 20) E dX10_readNext_204 (by decide) ?_
              refine s_vI (As := [AX (sA aC 28), AI 1, AI 20]) (S := [AI z_123, AR 101]) E (Z_X10_told_95 l D aC b (upI u_117 101 z_114.toNatClampNeg z_119) 1 20 hj_122.1  28 (by decide) (by omega)) cv_X10_164 rfl rfl rfl (jv_lt hj_122 (by decide)) (Nat.le_of_ble_eq_true rfl) (Nat.le_of_ble_eq_true rfl) ⟨(Nat.le_of_ble_eq_true rfl), (Nat.le_of_ble_eq_true rfl)⟩ (Nat.le_of_ble_eq_true rfl) dX10_readNext_206 (fun z_126 u_124 hp_125 => ?_)
              obtain ⟨hz_126, hxz_126, hf_u_124_101, hp_125⟩ := hp_125
              have hc_ : (1 : Int32).toInt = 1 := by decide
              have hc_ : (20 : Int32).toInt = 20 := by decide
              have hj_127 := jv_trans hj_122 hp_125
              have hfa_101_0 := congrArg Int32.toInt (congrFun hf_u_124_101 0)
              have hfa_101_4 := congrArg Int32.toInt (congrFun hf_u_124_101 4)
              have hfa_101_5 := congrArg Int32.toInt (congrFun hf_u_124_101 5)
              have hfa_101_6 := congrArg Int32.toInt (congrFun hf_u_124_101 6)
              have hfa_101_7 := congrArg Int32.toInt (congrFun hf_u_124_101 7)
              have hfa_101_9 := congrArg Int32.toInt (congrFun hf_u_124_101 9)
              have hrz_126 : 0 ≤ z_126.toInt ∧ z_126.toInt ≤ 20 := by omega
              refine s_iast E rfl (jv_lt hj_127 (by decide)) (z_in (u := z_123.toInt) rfl (by omega) (by omega)) dX10_readNext_209 ?_
              have hj_129 : Jv w (upI u_124 101 z_123.toNatClampNeg z_126) := (jv_a_101 (i := z_123) (x := z_126) hj_127 0 20 59 73 2 z_123.toInt (by decide +kernel) (by decide) rfl (by omega) (by omega) (by omega) (by have hb_ := z32 z_126; omega) (by have hb_ := z32 z_126; omega))
              have hke_ : ((upI u_124 101 z_123.toNatClampNeg z_126).2.2.1 95 7).toInt = (u_124.2.2.1 95 7).toInt := rfl
              have hke_ : ((upI u_124 101 z_123.toNatClampNeg z_126).2.2.1 95 8).toInt = (u_124.2.2.1 95 8).toInt := rfl
              have hke_ : ((upI u_124 101 z_123.toNatClampNeg z_126).2.2.1 95 9).toInt = (u_124.2.2.1 95 9).toInt := rfl
              have hke_ : ((upI u_124 101 z_123.toNatClampNeg z_126).2.2.1 95 10).toInt = (u_124.2.2.1 95 10).toInt := rfl
              have hke_ : ((upI u_124 101 z_123.toNatClampNeg z_126).2.2.1 95 12).toInt = (u_124.2.2.1 95 12).toInt := rfl
              have hke_ : ((upI u_124 101 z_123.toNatClampNeg z_126).2.2.1 101 0).toInt = (u_124.2.2.1 101 0).toInt := keep_ne (u := z_123.toInt) rfl (by omega) (by omega)
              have hke_ : ((upI u_124 101 z_123.toNatClampNeg z_126).2.2.1 101 4).toInt = (u_124.2.2.1 101 4).toInt := keep_ne (u := z_123.toInt) rfl (by omega) (by omega)
              have hke_ : ((upI u_124 101 z_123.toNatClampNeg z_126).2.2.1 101 5).toInt = (u_124.2.2.1 101 5).toInt := keep_ne (u := z_123.toInt) rfl (by omega) (by omega)
              have hke_ : ((upI u_124 101 z_123.toNatClampNeg z_126).2.2.1 101 6).toInt = (u_124.2.2.1 101 6).toInt := keep_ne (u := z_123.toInt) rfl (by omega) (by omega)
              have hke_ : ((upI u_124 101 z_123.toNatClampNeg z_126).2.2.1 101 7).toInt = (u_124.2.2.1 101 7).toInt := keep_ne (u := z_123.toInt) rfl (by omega) (by omega)
              have hke_ : ((upI u_124 101 z_123.toNatClampNeg z_126).2.2.1 101 9).toInt = (u_124.2.2.1 101 9).toInt := keep_ne (u := z_123.toInt) rfl (by omega) (by omega)
              refine s_aload_n E dX10_readNext_210 rfl rfl ?_
              refine s_gR (r := 101) E fg_X10_31 rfl rfl (jv_lt hj_129 (by decide)) (jv_r hj_129 (by decide +kernel)) dX10_readNext_211 ?_
              refine s_bipush (v := 6) E dX10_readNext_214 (by decide) ?_
              refine s_dup2 E dX10_readNext_216 ?_
              refine s_iald E rfl (jv_lt hj_129 (by decide)) (z_in (u := 6) (by decide) (by omega) (by omega)) dX10_readNext_217 ?_
              refine z_nm (P := fun z => z.toInt = ((upI u_124 101 z_123.toNatClampNeg z_126).2.2.1 101 6).toInt ∧ 0 ≤ z.toInt ∧ z.toInt ≤ 8) ⟨rfl, (rw_101_6 hj_129)⟩ (fun z_130 hz_130 => ?_)
              refine s_iconst (v := 1) E dX10_readNext_218 (by decide) ?_
              refine z_iadd (u := z_130.toInt) (v := 1) E dX10_readNext_219 rfl (by decide) (by omega) (by omega) (fun z_131 hz_131 => ?_)
              have hhz_131 : 0 ≤ z_131.toInt ∧ z_131.toInt ≤ 8 := by omega
              refine s_iast E rfl (jv_lt hj_129 (by decide)) (z_in (u := 6) (by decide) (by omega) (by omega)) dX10_readNext_220 ?_
              refine s_world (w2 := (upI (upI u_124 101 z_123.toNatClampNeg z_126) 101 6 z_131)) rfl ?_
              have hj_133 : Jv w (upI (upI u_124 101 z_123.toNatClampNeg z_126) 101 6 z_131) := (jv_a_101 (i := 6) (x := z_131) hj_129 0 8 6 6 1 6 (by decide +kernel) (by decide) (by decide) (by omega) (by omega) (by omega) (by have hb_ := z32 z_131; omega) (by have hb_ := z32 z_131; omega))
              have hke_ : ((upI (upI u_124 101 z_123.toNatClampNeg z_126) 101 6 z_131).2.2.1 95 7).toInt = ((upI u_124 101 z_123.toNatClampNeg z_126).2.2.1 95 7).toInt := rfl
              have hke_ : ((upI (upI u_124 101 z_123.toNatClampNeg z_126) 101 6 z_131).2.2.1 95 8).toInt = ((upI u_124 101 z_123.toNatClampNeg z_126).2.2.1 95 8).toInt := rfl
              have hke_ : ((upI (upI u_124 101 z_123.toNatClampNeg z_126) 101 6 z_131).2.2.1 95 9).toInt = ((upI u_124 101 z_123.toNatClampNeg z_126).2.2.1 95 9).toInt := rfl
              have hke_ : ((upI (upI u_124 101 z_123.toNatClampNeg z_126) 101 6 z_131).2.2.1 95 10).toInt = ((upI u_124 101 z_123.toNatClampNeg z_126).2.2.1 95 10).toInt := rfl
              have hke_ : ((upI (upI u_124 101 z_123.toNatClampNeg z_126) 101 6 z_131).2.2.1 95 12).toInt = ((upI u_124 101 z_123.toNatClampNeg z_126).2.2.1 95 12).toInt := rfl
              have hke_ : ((upI (upI u_124 101 z_123.toNatClampNeg z_126) 101 6 z_131).2.2.1 101 0).toInt = ((upI u_124 101 z_123.toNatClampNeg z_126).2.2.1 101 0).toInt := rfl
              have hke_ : ((upI (upI u_124 101 z_123.toNatClampNeg z_126) 101 6 z_131).2.2.1 101 4).toInt = ((upI u_124 101 z_123.toNatClampNeg z_126).2.2.1 101 4).toInt := rfl
              have hke_ : ((upI (upI u_124 101 z_123.toNatClampNeg z_126) 101 6 z_131).2.2.1 101 5).toInt = ((upI u_124 101 z_123.toNatClampNeg z_126).2.2.1 101 5).toInt := rfl
              have hke_ : ((upI (upI u_124 101 z_123.toNatClampNeg z_126) 101 6 z_131).2.2.1 101 6).toInt = z_131.toInt := rfl
              have hke_ : ((upI (upI u_124 101 z_123.toNatClampNeg z_126) 101 6 z_131).2.2.1 101 7).toInt = ((upI u_124 101 z_123.toNatClampNeg z_126).2.2.1 101 7).toInt := rfl
              have hke_ : ((upI (upI u_124 101 z_123.toNatClampNeg z_126) 101 6 z_131).2.2.1 101 9).toInt = ((upI u_124 101 z_123.toNatClampNeg z_126).2.2.1 101 9).toInt := rfl
              refine s_goto (tgt := 232) E dX10_readNext_221 (by decide) ?_
              exact r_void E dX10_readNext_232 ⟨(by omega), hj_133⟩
          ·
            have hd_ : ¬ (u_83.2.2.1 101 5).toInt = 6 := by first | exact (hq_.resolve_left (by omega)).2.1 (hT2_.mp (by omega)) | (exfalso; omega)
            refine s_bipush (v := 46) E dX10_readNext_96 (by decide) ?_
            refine s_iconst (v := 2) E dX10_readNext_98 (by decide) ?_
            refine s_aload_n E dX10_readNext_99 rfl rfl ?_
            refine s_gR (r := 101) E fg_X10_31 rfl rfl (jv_lt hj_99 (by decide)) (jv_r hj_99 (by decide +kernel)) dX10_readNext_100 ?_
            refine s_iconst (v := 5) E dX10_readNext_103 (by decide) ?_
            refine s_iald E rfl (jv_lt hj_99 (by decide)) (z_in (u := 5) (by decide) (by omega) (by omega)) dX10_readNext_104 ?_
            refine z_nm (P := fun z => z.toInt = (u_96.2.2.1 101 5).toInt ∧ 0 ≤ z.toInt ∧ z.toInt ≤ 6) ⟨rfl, (rw_101_5 hj_99)⟩ (fun z_134 hz_134 => ?_)
            refine z_imul (u := 2) (v := z_134.toInt) E dX10_readNext_105 (by decide) rfl (by omega) (by omega) (fun z_135 hz_135 => ?_)
            have hhz_135 : 0 ≤ z_135.toInt ∧ z_135.toInt ≤ 10 := by omega
            refine z_iadd (u := 46) (v := z_135.toInt) E dX10_readNext_106 (by decide) rfl (by omega) (by omega) (fun z_136 hz_136 => ?_)
            refine s_istore_n (L2 := [some (AR 95), some (AI 1), some (AI z_136)]) E dX10_readNext_107 rfl (by decide) rfl ?_
            refine s_aload_n E dX10_readNext_108 rfl rfl ?_
            refine s_gR (r := 101) E fg_X10_31 rfl rfl (jv_lt hj_99 (by decide)) (jv_r hj_99 (by decide +kernel)) dX10_readNext_109 ?_
            refine s_iload_n E dX10_readNext_112 rfl rfl ?_
            refine s_aload_n E dX10_readNext_113 rfl rfl ?_
            refine s_ldcS (i := 26) E (by decide) rfl dX10_readNext_114 ?_
            refine s_vI (As := [AX (sA aC 26)]) (S := [AI z_136, AR 101]) E (Z_X10_freshRoom_95 l D aC b u_96  hj_99.1  26 (by decide) (by omega)) cv_X10_182 rfl rfl rfl (jv_lt hj_99 (by decide)) (Nat.le_of_ble_eq_true rfl) (Nat.le_of_ble_eq_true rfl) ⟨(Nat.le_of_ble_eq_true rfl), (Nat.le_of_ble_eq_true rfl)⟩ (Nat.le_of_ble_eq_true rfl) dX10_readNext_116 (fun z_139 u_137 hp_138 => ?_)
            obtain ⟨hz_139, hxz_139, hf_u_137_101, hp_138⟩ := hp_138
            have hj_140 := jv_trans hj_99 hp_138
            have hfa_101_0 := congrArg Int32.toInt (congrFun hf_u_137_101 0)
            have hfa_101_4 := congrArg Int32.toInt (congrFun hf_u_137_101 4)
            have hfa_101_5 := congrArg Int32.toInt (congrFun hf_u_137_101 5)
            have hfa_101_6 := congrArg Int32.toInt (congrFun hf_u_137_101 6)
            have hfa_101_7 := congrArg Int32.toInt (congrFun hf_u_137_101 7)
            have hfa_101_9 := congrArg Int32.toInt (congrFun hf_u_137_101 9)
            have hrz_139 : 0 ≤ z_139.toInt ∧ z_139.toInt ≤ 7 := by omega
            have hRm_ : (u_137.2.2.1 95 12).toInt = 0 → z_139.toInt < (w.2.2.1 101 0).toInt := by intro h0_; omega
            refine s_iast E rfl (jv_lt hj_140 (by decide)) (z_in (u := z_136.toInt) rfl (by omega) (by omega)) dX10_readNext_119 ?_
            have hj_142 : Jv w (upI u_137 101 z_136.toNatClampNeg z_139) := (jv_lad0 hj_140 (by omega) (by omega) (by omega) (by have hb_ := z32 z_139; omega) (by have hb_ := z32 z_139; omega))
            have hke_ : ((upI u_137 101 z_136.toNatClampNeg z_139).2.2.1 95 7).toInt = (u_137.2.2.1 95 7).toInt := rfl
            have hke_ : ((upI u_137 101 z_136.toNatClampNeg z_139).2.2.1 95 8).toInt = (u_137.2.2.1 95 8).toInt := rfl
            have hke_ : ((upI u_137 101 z_136.toNatClampNeg z_139).2.2.1 95 9).toInt = (u_137.2.2.1 95 9).toInt := rfl
            have hke_ : ((upI u_137 101 z_136.toNatClampNeg z_139).2.2.1 95 10).toInt = (u_137.2.2.1 95 10).toInt := rfl
            have hke_ : ((upI u_137 101 z_136.toNatClampNeg z_139).2.2.1 95 12).toInt = (u_137.2.2.1 95 12).toInt := rfl
            have hke_ : ((upI u_137 101 z_136.toNatClampNeg z_139).2.2.1 101 0).toInt = (u_137.2.2.1 101 0).toInt := keep_ne (u := z_136.toInt) rfl (by omega) (by omega)
            have hke_ : ((upI u_137 101 z_136.toNatClampNeg z_139).2.2.1 101 4).toInt = (u_137.2.2.1 101 4).toInt := keep_ne (u := z_136.toInt) rfl (by omega) (by omega)
            have hke_ : ((upI u_137 101 z_136.toNatClampNeg z_139).2.2.1 101 5).toInt = (u_137.2.2.1 101 5).toInt := keep_ne (u := z_136.toInt) rfl (by omega) (by omega)
            have hke_ : ((upI u_137 101 z_136.toNatClampNeg z_139).2.2.1 101 6).toInt = (u_137.2.2.1 101 6).toInt := keep_ne (u := z_136.toInt) rfl (by omega) (by omega)
            have hke_ : ((upI u_137 101 z_136.toNatClampNeg z_139).2.2.1 101 7).toInt = (u_137.2.2.1 101 7).toInt := keep_ne (u := z_136.toInt) rfl (by omega) (by omega)
            have hke_ : ((upI u_137 101 z_136.toNatClampNeg z_139).2.2.1 101 9).toInt = (u_137.2.2.1 101 9).toInt := keep_ne (u := z_136.toInt) rfl (by omega) (by omega)
            refine s_aload_n E dX10_readNext_120 rfl rfl ?_
            refine s_gR (r := 101) E fg_X10_31 rfl rfl (jv_lt hj_142 (by decide)) (jv_r hj_142 (by decide +kernel)) dX10_readNext_121 ?_
            refine s_iload_n E dX10_readNext_124 rfl rfl ?_
            refine s_iconst (v := 1) E dX10_readNext_125 (by decide) ?_
            refine z_iadd (u := z_136.toInt) (v := 1) E dX10_readNext_126 rfl (by decide) (by omega) (by omega) (fun z_143 hz_143 => ?_)
            refine s_aload_n E dX10_readNext_127 rfl rfl ?_
            refine s_ldcS (i := 25) E (by decide) rfl dX10_readNext_128 ?_
            refine s_iconst (v := 1) E dX10_readNext_130 (by decide) ?_
            refine s_bipush (v := 9) E dX10_readNext_131 (by decide) ?_
            refine s_vI (As := [AX (sA aC 25), AI 1, AI 9]) (S := [AI z_143, AR 101]) E (Z_X10_told_95 l D aC b (upI u_137 101 z_136.toNatClampNeg z_139) 1 9 hj_142.1  25 (by decide) (by omega)) cv_X10_164 rfl rfl rfl (jv_lt hj_142 (by decide)) (Nat.le_of_ble_eq_true rfl) (Nat.le_of_ble_eq_true rfl) ⟨(Nat.le_of_ble_eq_true rfl), (Nat.le_of_ble_eq_true rfl)⟩ (Nat.le_of_ble_eq_true rfl) dX10_readNext_133 (fun z_146 u_144 hp_145 => ?_)
            obtain ⟨hz_146, hxz_146, hf_u_144_101, hp_145⟩ := hp_145
            have hc_ : (1 : Int32).toInt = 1 := by decide
            have hc_ : (9 : Int32).toInt = 9 := by decide
            have hj_147 := jv_trans hj_142 hp_145
            have hfa_101_0 := congrArg Int32.toInt (congrFun hf_u_144_101 0)
            have hfa_101_4 := congrArg Int32.toInt (congrFun hf_u_144_101 4)
            have hfa_101_5 := congrArg Int32.toInt (congrFun hf_u_144_101 5)
            have hfa_101_6 := congrArg Int32.toInt (congrFun hf_u_144_101 6)
            have hfa_101_7 := congrArg Int32.toInt (congrFun hf_u_144_101 7)
            have hfa_101_9 := congrArg Int32.toInt (congrFun hf_u_144_101 9)
            have hrz_146 : 0 ≤ z_146.toInt ∧ z_146.toInt ≤ 9 := by omega
            have hLw_ : (u_144.2.2.1 95 12).toInt = 0 → 1 ≤ z_146.toInt := by intro h0_; omega
            have fL_ := hf_u_144_101
            refine s_iast E rfl (jv_lt hj_147 (by decide)) (z_in (u := z_143.toInt) rfl (by omega) (by omega)) dX10_readNext_136 ?_
            have hj_149 : Jv w (upI u_144 101 z_143.toNatClampNeg z_146) := (jv_lad hj_147 (by omega) (by omega) (by omega) (by have hb_ := z32 z_146; omega) (by have hb_ := z32 z_146; omega))
            have hke_ : ((upI u_144 101 z_143.toNatClampNeg z_146).2.2.1 95 7).toInt = (u_144.2.2.1 95 7).toInt := rfl
            have hke_ : ((upI u_144 101 z_143.toNatClampNeg z_146).2.2.1 95 8).toInt = (u_144.2.2.1 95 8).toInt := rfl
            have hke_ : ((upI u_144 101 z_143.toNatClampNeg z_146).2.2.1 95 9).toInt = (u_144.2.2.1 95 9).toInt := rfl
            have hke_ : ((upI u_144 101 z_143.toNatClampNeg z_146).2.2.1 95 10).toInt = (u_144.2.2.1 95 10).toInt := rfl
            have hke_ : ((upI u_144 101 z_143.toNatClampNeg z_146).2.2.1 95 12).toInt = (u_144.2.2.1 95 12).toInt := rfl
            have hke_ : ((upI u_144 101 z_143.toNatClampNeg z_146).2.2.1 101 0).toInt = (u_144.2.2.1 101 0).toInt := keep_ne (u := z_143.toInt) rfl (by omega) (by omega)
            have hke_ : ((upI u_144 101 z_143.toNatClampNeg z_146).2.2.1 101 4).toInt = (u_144.2.2.1 101 4).toInt := keep_ne (u := z_143.toInt) rfl (by omega) (by omega)
            have hke_ : ((upI u_144 101 z_143.toNatClampNeg z_146).2.2.1 101 5).toInt = (u_144.2.2.1 101 5).toInt := keep_ne (u := z_143.toInt) rfl (by omega) (by omega)
            have hke_ : ((upI u_144 101 z_143.toNatClampNeg z_146).2.2.1 101 6).toInt = (u_144.2.2.1 101 6).toInt := keep_ne (u := z_143.toInt) rfl (by omega) (by omega)
            have hke_ : ((upI u_144 101 z_143.toNatClampNeg z_146).2.2.1 101 7).toInt = (u_144.2.2.1 101 7).toInt := keep_ne (u := z_143.toInt) rfl (by omega) (by omega)
            have hke_ : ((upI u_144 101 z_143.toNatClampNeg z_146).2.2.1 101 9).toInt = (u_144.2.2.1 101 9).toInt := keep_ne (u := z_143.toInt) rfl (by omega) (by omega)
            refine s_aload_n E dX10_readNext_137 rfl rfl ?_
            refine s_gR (r := 101) E fg_X10_31 rfl rfl (jv_lt hj_149 (by decide)) (jv_r hj_149 (by decide +kernel)) dX10_readNext_138 ?_
            refine s_iconst (v := 5) E dX10_readNext_141 (by decide) ?_
            refine s_dup2 E dX10_readNext_142 ?_
            refine s_iald E rfl (jv_lt hj_149 (by decide)) (z_in (u := 5) (by decide) (by omega) (by omega)) dX10_readNext_143 ?_
            refine z_nm (P := fun z => z.toInt = ((upI u_144 101 z_143.toNatClampNeg z_146).2.2.1 101 5).toInt ∧ 0 ≤ z.toInt ∧ z.toInt ≤ 6) ⟨rfl, (rw_101_5 hj_149)⟩ (fun z_150 hz_150 => ?_)
            refine s_iconst (v := 1) E dX10_readNext_144 (by decide) ?_
            refine z_iadd (u := z_150.toInt) (v := 1) E dX10_readNext_145 rfl (by decide) (by omega) (by omega) (fun z_151 hz_151 => ?_)
            have hhz_151 : 0 ≤ z_151.toInt ∧ z_151.toInt ≤ 6 := by omega
            refine s_iast E rfl (jv_lt hj_149 (by decide)) (z_in (u := 5) (by decide) (by omega) (by omega)) dX10_readNext_146 ?_
            refine s_world (w2 := (upI (upI u_144 101 z_143.toNatClampNeg z_146) 101 5 z_151)) rfl ?_
            have hj_153 : Jv w (upI (upI u_144 101 z_143.toNatClampNeg z_146) 101 5 z_151) := (jv_lad5 hj_149 (by omega) (by omega) (by omega) (lad_fin (by omega) (by omega) hLw_) (fun h0_ => lad_fin2 (N := (w.2.2.1 101 5).toInt) fL_ (by omega) (by omega) (by omega) (by omega) (by have q_ := hRm_ (by omega); omega)))
            have hke_ : ((upI (upI u_144 101 z_143.toNatClampNeg z_146) 101 5 z_151).2.2.1 95 7).toInt = ((upI u_144 101 z_143.toNatClampNeg z_146).2.2.1 95 7).toInt := rfl
            have hke_ : ((upI (upI u_144 101 z_143.toNatClampNeg z_146) 101 5 z_151).2.2.1 95 8).toInt = ((upI u_144 101 z_143.toNatClampNeg z_146).2.2.1 95 8).toInt := rfl
            have hke_ : ((upI (upI u_144 101 z_143.toNatClampNeg z_146) 101 5 z_151).2.2.1 95 9).toInt = ((upI u_144 101 z_143.toNatClampNeg z_146).2.2.1 95 9).toInt := rfl
            have hke_ : ((upI (upI u_144 101 z_143.toNatClampNeg z_146) 101 5 z_151).2.2.1 95 10).toInt = ((upI u_144 101 z_143.toNatClampNeg z_146).2.2.1 95 10).toInt := rfl
            have hke_ : ((upI (upI u_144 101 z_143.toNatClampNeg z_146) 101 5 z_151).2.2.1 95 12).toInt = ((upI u_144 101 z_143.toNatClampNeg z_146).2.2.1 95 12).toInt := rfl
            have hke_ : ((upI (upI u_144 101 z_143.toNatClampNeg z_146) 101 5 z_151).2.2.1 101 0).toInt = ((upI u_144 101 z_143.toNatClampNeg z_146).2.2.1 101 0).toInt := rfl
            have hke_ : ((upI (upI u_144 101 z_143.toNatClampNeg z_146) 101 5 z_151).2.2.1 101 4).toInt = ((upI u_144 101 z_143.toNatClampNeg z_146).2.2.1 101 4).toInt := rfl
            have hke_ : ((upI (upI u_144 101 z_143.toNatClampNeg z_146) 101 5 z_151).2.2.1 101 5).toInt = z_151.toInt := rfl
            have hke_ : ((upI (upI u_144 101 z_143.toNatClampNeg z_146) 101 5 z_151).2.2.1 101 6).toInt = ((upI u_144 101 z_143.toNatClampNeg z_146).2.2.1 101 6).toInt := rfl
            have hke_ : ((upI (upI u_144 101 z_143.toNatClampNeg z_146) 101 5 z_151).2.2.1 101 7).toInt = ((upI u_144 101 z_143.toNatClampNeg z_146).2.2.1 101 7).toInt := rfl
            have hke_ : ((upI (upI u_144 101 z_143.toNatClampNeg z_146) 101 5 z_151).2.2.1 101 9).toInt = ((upI u_144 101 z_143.toNatClampNeg z_146).2.2.1 101 9).toInt := rfl
            refine s_goto (tgt := 232) E dX10_readNext_147 (by decide) ?_
            exact r_void E dX10_readNext_232 ⟨(by omega), hj_153⟩
        ·
          have hd_ : ¬ (u_83.2.2.1 101 4).toInt = 12 := by first | exact (hq_.resolve_left (by omega)).1 (hT_.mp (by omega)) | (exfalso; omega)
          refine s_aload_n E dX10_readNext_80 rfl rfl ?_
          refine s_vV (As := []) (S := []) E (Z_X10_readDoor_95 l D aC b u_91  hj_94.1  (by omega) (by omega)) cv_X10_198 rfl rfl rfl (jv_lt hj_94 (by decide)) (Nat.le_of_ble_eq_true rfl) (Nat.le_of_ble_eq_true rfl) ⟨(Nat.le_of_ble_eq_true rfl), (Nat.le_of_ble_eq_true rfl)⟩ (Nat.le_of_ble_eq_true rfl) dX10_readNext_81 (fun u_154 hp_155 => ?_)
          obtain ⟨hx_hp_155, hp_155⟩ := hp_155
          have hj_156 := jv_trans hj_94 hp_155
          refine s_goto (tgt := 232) E dX10_readNext_84 (by decide) ?_
          exact r_void E dX10_readNext_232 ⟨(by omega), hj_156⟩
      ·
        exact r_void E dX10_readNext_70 ⟨(by omega), hj_85⟩
  ·
    refine s_aload_n E dX10_readNext_9 rfl rfl ?_
    refine s_ldcS (i := 21) E (by decide) rfl dX10_readNext_10 ?_
    refine s_vI (As := [AX (sA aC 21)]) (S := []) E (Z_X10_is_95 l D aC b w  hJ.1  21 (by decide)) cv_X10_143 rfl rfl rfl (jv_lt hJ (by decide)) (Nat.le_of_ble_eq_true rfl) (Nat.le_of_ble_eq_true rfl) ⟨(Nat.le_of_ble_eq_true rfl), (Nat.le_of_ble_eq_true rfl)⟩ (Nat.le_of_ble_eq_true rfl) dX10_readNext_12 (fun z_159 u_157 hp_158 => ?_)
    obtain ⟨hz_159, hxz_159, hp_158⟩ := hp_158
    subst hp_158
    have hw_12 := hxz_159
    refine z_if_ne (tgt := 36) (u := z_159.toInt) E dX10_readNext_15 (by decide) rfl (fun h_161 => ?_) (fun h_161 => ?_)
    ·
      refine s_iconst (v := 1) E dX10_readNext_36 (by decide) ?_
      refine s_goto (tgt := 41) E dX10_readNext_37 (by decide) ?_
      refine s_istore_n (L2 := [some (AR 95), some (AI 1), none]) E dX10_readNext_41 rfl (by decide) rfl ?_
      refine s_iload_n E dX10_readNext_42 rfl rfl ?_
      refine z_if_ne (tgt := 51) (u := 1) E dX10_readNext_43 (by decide) (by decide) (fun h_162 => ?_) (fun h_162 => absurd h_162 (by omega))
      refine s_aload_n E dX10_readNext_51 rfl rfl ?_
      refine s_vI (As := []) (S := []) E (Z_X10_isFull_95 l D aC b w  hJ.1 ) cv_X10_195 rfl rfl rfl (jv_lt hJ (by decide)) (Nat.le_of_ble_eq_true rfl) (Nat.le_of_ble_eq_true rfl) ⟨(Nat.le_of_ble_eq_true rfl), (Nat.le_of_ble_eq_true rfl)⟩ (Nat.le_of_ble_eq_true rfl) dX10_readNext_52 (fun z_165 u_163 hp_164 => ?_)
      obtain ⟨hz_165, hxz_165, hp_164⟩ := hp_164
      subst hp_164
      have hq_ := hxz_165
      refine z_if_eq (tgt := 63) (u := z_165.toInt) E dX10_readNext_55 (by decide) rfl (fun h_167 => ?_) (fun h_167 => ?_)
      ·
        refine s_aload_n E dX10_readNext_63 rfl rfl ?_
        refine s_vI (As := []) (S := []) E (Z_X10_good_95 l D aC b w  hJ.1 ) cv_X10_130 rfl rfl rfl (jv_lt hJ (by decide)) (Nat.le_of_ble_eq_true rfl) (Nat.le_of_ble_eq_true rfl) ⟨(Nat.le_of_ble_eq_true rfl), (Nat.le_of_ble_eq_true rfl)⟩ (Nat.le_of_ble_eq_true rfl) dX10_readNext_64 (fun z_170 u_168 hp_169 => ?_)
        obtain ⟨hz_170, hxz_170, hp_169⟩ := hp_169
        subst hp_169
        refine z_if_ne (tgt := 71) (u := z_170.toInt) E dX10_readNext_67 (by decide) rfl (fun h_172 => ?_) (fun h_172 => ?_)
        ·
          have hn4_ := rw_101_4 hJ
          have hn5_ := rw_101_5 hJ
          have hn6_ := rw_101_6 hJ
          have hn7_ := rw_101_7 hJ
          refine s_aload_n E dX10_readNext_71 rfl rfl ?_
          refine s_ldcS (i := 20) E (by decide) rfl dX10_readNext_72 ?_
          refine s_vI (As := [AX (sA aC 20)]) (S := []) E (Z_X10_takes_95 l D aC b w  hJ.1  20 (by decide) (by omega)) cv_X10_150 rfl rfl rfl (jv_lt hJ (by decide)) (Nat.le_of_ble_eq_true rfl) (Nat.le_of_ble_eq_true rfl) ⟨(Nat.le_of_ble_eq_true rfl), (Nat.le_of_ble_eq_true rfl)⟩ (Nat.le_of_ble_eq_true rfl) dX10_readNext_74 (fun z_175 u_173 hp_174 => ?_)
          obtain ⟨hz_175, hxz_175, hf_u_173_101, hp_174⟩ := hp_174
          have hj_176 := jv_trans hJ hp_174
          have hfa_101_0 := congrArg Int32.toInt (congrFun hf_u_173_101 0)
          have hfa_101_4 := congrArg Int32.toInt (congrFun hf_u_173_101 4)
          have hfa_101_5 := congrArg Int32.toInt (congrFun hf_u_173_101 5)
          have hfa_101_6 := congrArg Int32.toInt (congrFun hf_u_173_101 6)
          have hfa_101_7 := congrArg Int32.toInt (congrFun hf_u_173_101 7)
          have hfa_101_9 := congrArg Int32.toInt (congrFun hf_u_173_101 9)
          have hT_ := hxz_175.1
          have hE_ := hxz_175.2.1
          refine z_if_eq (tgt := 87) (u := z_175.toInt) E dX10_readNext_77 (by decide) rfl (fun h_177 => ?_) (fun h_177 => ?_)
          ·
            have hE1_ : w = u_173 := hE_.resolve_left (by omega)
            refine s_aload_n E dX10_readNext_87 rfl rfl ?_
            refine s_ldcS (i := 21) E (by decide) rfl dX10_readNext_88 ?_
            refine s_vI (As := [AX (sA aC 21)]) (S := []) E (Z_X10_takes_95 l D aC b u_173  hj_176.1  21 (by decide) (by omega)) cv_X10_150 rfl rfl rfl (jv_lt hj_176 (by decide)) (Nat.le_of_ble_eq_true rfl) (Nat.le_of_ble_eq_true rfl) ⟨(Nat.le_of_ble_eq_true rfl), (Nat.le_of_ble_eq_true rfl)⟩ (Nat.le_of_ble_eq_true rfl) dX10_readNext_90 (fun z_180 u_178 hp_179 => ?_)
            obtain ⟨hz_180, hxz_180, hf_u_178_101, hp_179⟩ := hp_179
            have hj_181 := jv_trans hj_176 hp_179
            have hfa_101_0 := congrArg Int32.toInt (congrFun hf_u_178_101 0)
            have hfa_101_4 := congrArg Int32.toInt (congrFun hf_u_178_101 4)
            have hfa_101_5 := congrArg Int32.toInt (congrFun hf_u_178_101 5)
            have hfa_101_6 := congrArg Int32.toInt (congrFun hf_u_178_101 6)
            have hfa_101_7 := congrArg Int32.toInt (congrFun hf_u_178_101 7)
            have hfa_101_9 := congrArg Int32.toInt (congrFun hf_u_178_101 9)
            have hT2_ := hxz_180.1
            rw [← hE1_] at hT2_
            have hF_ := hxz_180.2.1
            refine z_if_eq (tgt := 150) (u := z_180.toInt) E dX10_readNext_93 (by decide) rfl (fun h_182 => ?_) (fun h_182 => ?_)
            ·
              have hE2_ : w = u_178 := hE1_.trans (hF_.resolve_left (by omega))
              refine s_aload_n E dX10_readNext_150 rfl rfl ?_
              refine s_ldcS (i := 22) E (by decide) rfl dX10_readNext_151 ?_
              refine s_vI (As := [AX (sA aC 22)]) (S := []) E (Z_X10_takes_95 l D aC b u_178  hj_181.1  22 (by decide) (by omega)) cv_X10_150 rfl rfl rfl (jv_lt hj_181 (by decide)) (Nat.le_of_ble_eq_true rfl) (Nat.le_of_ble_eq_true rfl) ⟨(Nat.le_of_ble_eq_true rfl), (Nat.le_of_ble_eq_true rfl)⟩ (Nat.le_of_ble_eq_true rfl) dX10_readNext_153 (fun z_185 u_183 hp_184 => ?_)
              obtain ⟨hz_185, hxz_185, hf_u_183_101, hp_184⟩ := hp_184
              have hj_186 := jv_trans hj_181 hp_184
              have hfa_101_0 := congrArg Int32.toInt (congrFun hf_u_183_101 0)
              have hfa_101_4 := congrArg Int32.toInt (congrFun hf_u_183_101 4)
              have hfa_101_5 := congrArg Int32.toInt (congrFun hf_u_183_101 5)
              have hfa_101_6 := congrArg Int32.toInt (congrFun hf_u_183_101 6)
              have hfa_101_7 := congrArg Int32.toInt (congrFun hf_u_183_101 7)
              have hfa_101_9 := congrArg Int32.toInt (congrFun hf_u_183_101 9)
              have hT3_ := hxz_185.1
              rw [← hE2_] at hT3_
              have hG_ := hxz_185.2.1
              refine z_if_eq (tgt := 224) (u := z_185.toInt) E dX10_readNext_156 (by decide) rfl (fun h_187 => ?_) (fun h_187 => ?_)
              ·
                have hd_ : ¬ (w.2.2.1 101 7).toInt = 10 := by first | exact (hq_.resolve_left (by omega)).2.2.2 (hw_30.mp (by omega)) | (exfalso; exact absurd (hT_.mpr (hw_3.mp (by omega))) (by omega)) | (exfalso; exact absurd (hT2_.mpr (hw_12.mp (by omega))) (by omega)) | (exfalso; exact absurd (hT3_.mpr (hw_21.mp (by omega))) (by omega)) | (exfalso; omega)
                refine s_aload_n E dX10_readNext_224 rfl rfl ?_
                refine s_vV (As := []) (S := []) E (Z_X10_advance_95 l D aC b u_183  hj_186.1 ) cv_X10_147 rfl rfl rfl (jv_lt hj_186 (by decide)) (Nat.le_of_ble_eq_true rfl) (Nat.le_of_ble_eq_true rfl) ⟨(Nat.le_of_ble_eq_true rfl), (Nat.le_of_ble_eq_true rfl)⟩ (Nat.le_of_ble_eq_true rfl) dX10_readNext_225 (fun u_188 hp_189 => ?_)
                obtain ⟨hx_hp_189, hf_u_188_99, hf_u_188_101, hp_189⟩ := hp_189
                have hj_190 := jv_trans hj_186 hp_189
                have hfa_101_0 := congrArg Int32.toInt (congrFun hf_u_188_101 0)
                have hfa_101_4 := congrArg Int32.toInt (congrFun hf_u_188_101 4)
                have hfa_101_5 := congrArg Int32.toInt (congrFun hf_u_188_101 5)
                have hfa_101_6 := congrArg Int32.toInt (congrFun hf_u_188_101 6)
                have hfa_101_7 := congrArg Int32.toInt (congrFun hf_u_188_101 7)
                have hfa_101_9 := congrArg Int32.toInt (congrFun hf_u_188_101 9)
                refine s_aload_n E dX10_readNext_228 rfl rfl ?_
                refine s_vV (As := []) (S := []) E (Z_X10_readBid_95 l D aC b u_188  hj_190.1  (by omega) (by omega)) cv_X10_206 rfl rfl rfl (jv_lt hj_190 (by decide)) (Nat.le_of_ble_eq_true rfl) (Nat.le_of_ble_eq_true rfl) ⟨(Nat.le_of_ble_eq_true rfl), (Nat.le_of_ble_eq_true rfl)⟩ (Nat.le_of_ble_eq_true rfl) dX10_readNext_229 (fun u_191 hp_192 => ?_)
                obtain ⟨hx_hp_192, hp_192⟩ := hp_192
                have hj_193 := jv_trans hj_190 hp_192
                exact r_void E dX10_readNext_232 ⟨(by omega), hj_193⟩
              ·
                have hd_ : ¬ (w.2.2.1 101 6).toInt = 8 := by first | exact (hq_.resolve_left (by omega)).2.2.1 (hT3_.mp (by omega)) | (exfalso; omega)
                refine s_bipush (v := 58) E dX10_readNext_159 (by decide) ?_
                refine s_iconst (v := 2) E dX10_readNext_161 (by decide) ?_
                refine s_aload_n E dX10_readNext_162 rfl rfl ?_
                refine s_gR (r := 101) E fg_X10_31 rfl rfl (jv_lt hj_186 (by decide)) (jv_r hj_186 (by decide +kernel)) dX10_readNext_163 ?_
                refine s_bipush (v := 6) E dX10_readNext_166 (by decide) ?_
                refine s_iald E rfl (jv_lt hj_186 (by decide)) (z_in (u := 6) (by decide) (by omega) (by omega)) dX10_readNext_168 ?_
                refine z_nm (P := fun z => z.toInt = (u_183.2.2.1 101 6).toInt ∧ 0 ≤ z.toInt ∧ z.toInt ≤ 8) ⟨rfl, (rw_101_6 hj_186)⟩ (fun z_194 hz_194 => ?_)
                refine z_imul (u := 2) (v := z_194.toInt) E dX10_readNext_169 (by decide) rfl (by omega) (by omega) (fun z_195 hz_195 => ?_)
                have hhz_195 : 0 ≤ z_195.toInt ∧ z_195.toInt ≤ 14 := by omega
                refine z_iadd (u := 58) (v := z_195.toInt) E dX10_readNext_170 (by decide) rfl (by omega) (by omega) (fun z_196 hz_196 => ?_)
                refine s_istore_n (L2 := [some (AR 95), some (AI 1), some (AI z_196)]) E dX10_readNext_171 rfl (by decide) rfl ?_
                refine s_aload_n E dX10_readNext_172 rfl rfl ?_
                refine s_gR (r := 101) E fg_X10_31 rfl rfl (jv_lt hj_186 (by decide)) (jv_r hj_186 (by decide +kernel)) dX10_readNext_173 ?_
                refine s_iload_n E dX10_readNext_176 rfl rfl ?_
                refine s_aload_n E dX10_readNext_177 rfl rfl ?_
                refine s_ldcS (i := 27) E (by decide) rfl dX10_readNext_178 ?_
                refine s_iconst (v := 0) E dX10_readNext_180 (by decide) ?_
                refine s_aload_n E dX10_readNext_181 rfl rfl ?_
                refine s_gR (r := 101) E fg_X10_31 rfl rfl (jv_lt hj_186 (by decide)) (jv_r hj_186 (by decide +kernel)) dX10_readNext_182 ?_
                refine s_iconst (v := 5) E dX10_readNext_185 (by decide) ?_
                refine s_iald E rfl (jv_lt hj_186 (by decide)) (z_in (u := 5) (by decide) (by omega) (by omega)) dX10_readNext_186 ?_
                refine z_nm (P := fun z => z.toInt = (u_183.2.2.1 101 5).toInt ∧ 0 ≤ z.toInt ∧ z.toInt ≤ 6) ⟨rfl, (rw_101_5 hj_186)⟩ (fun z_197 hz_197 => ?_)
                refine s_iconst (v := 1) E dX10_readNext_187 (by decide) ?_
                refine z_isub (u := z_197.toInt) (v := 1) E dX10_readNext_188 rfl (by decide) (by omega) (by omega) (fun z_198 hz_198 => ?_)
                refine s_vI (As := [AX (sA aC 27), AI 0, AI z_198]) (S := [AI z_196, AR 101]) E (Z_X10_told_95 l D aC b u_183 0 z_198 hj_186.1  27 (by decide) (by omega)) cv_X10_164 rfl rfl rfl (jv_lt hj_186 (by decide)) (Nat.le_of_ble_eq_true rfl) (Nat.le_of_ble_eq_true rfl) ⟨(Nat.le_of_ble_eq_true rfl), (Nat.le_of_ble_eq_true rfl)⟩ (Nat.le_of_ble_eq_true rfl) dX10_readNext_189 (fun z_201 u_199 hp_200 => ?_)
                obtain ⟨hz_201, hxz_201, hf_u_199_101, hp_200⟩ := hp_200
                have hc_ : (0 : Int32).toInt = 0 := by decide
                have hj_202 := jv_trans hj_186 hp_200
                have hfa_101_0 := congrArg Int32.toInt (congrFun hf_u_199_101 0)
                have hfa_101_4 := congrArg Int32.toInt (congrFun hf_u_199_101 4)
                have hfa_101_5 := congrArg Int32.toInt (congrFun hf_u_199_101 5)
                have hfa_101_6 := congrArg Int32.toInt (congrFun hf_u_199_101 6)
                have hfa_101_7 := congrArg Int32.toInt (congrFun hf_u_199_101 7)
                have hfa_101_9 := congrArg Int32.toInt (congrFun hf_u_199_101 9)
                have hrz_201 : 0 ≤ z_201.toInt ∧ z_201.toInt ≤ 5 := by omega
                refine s_iast E rfl (jv_lt hj_202 (by decide)) (z_in (u := z_196.toInt) rfl (by omega) (by omega)) dX10_readNext_192 ?_
                have hj_204 : Jv w (upI u_199 101 z_196.toNatClampNeg z_201) := (jv_a_101 (i := z_196) (x := z_201) hj_202 0 5 58 72 2 z_196.toInt (by decide +kernel) (by decide) rfl (by omega) (by omega) (by omega) (by have hb_ := z32 z_201; omega) (by have hb_ := z32 z_201; omega))
                have hke_ : ((upI u_199 101 z_196.toNatClampNeg z_201).2.2.1 95 7).toInt = (u_199.2.2.1 95 7).toInt := rfl
                have hke_ : ((upI u_199 101 z_196.toNatClampNeg z_201).2.2.1 95 8).toInt = (u_199.2.2.1 95 8).toInt := rfl
                have hke_ : ((upI u_199 101 z_196.toNatClampNeg z_201).2.2.1 95 9).toInt = (u_199.2.2.1 95 9).toInt := rfl
                have hke_ : ((upI u_199 101 z_196.toNatClampNeg z_201).2.2.1 95 10).toInt = (u_199.2.2.1 95 10).toInt := rfl
                have hke_ : ((upI u_199 101 z_196.toNatClampNeg z_201).2.2.1 95 12).toInt = (u_199.2.2.1 95 12).toInt := rfl
                have hke_ : ((upI u_199 101 z_196.toNatClampNeg z_201).2.2.1 101 0).toInt = (u_199.2.2.1 101 0).toInt := keep_ne (u := z_196.toInt) rfl (by omega) (by omega)
                have hke_ : ((upI u_199 101 z_196.toNatClampNeg z_201).2.2.1 101 4).toInt = (u_199.2.2.1 101 4).toInt := keep_ne (u := z_196.toInt) rfl (by omega) (by omega)
                have hke_ : ((upI u_199 101 z_196.toNatClampNeg z_201).2.2.1 101 5).toInt = (u_199.2.2.1 101 5).toInt := keep_ne (u := z_196.toInt) rfl (by omega) (by omega)
                have hke_ : ((upI u_199 101 z_196.toNatClampNeg z_201).2.2.1 101 6).toInt = (u_199.2.2.1 101 6).toInt := keep_ne (u := z_196.toInt) rfl (by omega) (by omega)
                have hke_ : ((upI u_199 101 z_196.toNatClampNeg z_201).2.2.1 101 7).toInt = (u_199.2.2.1 101 7).toInt := keep_ne (u := z_196.toInt) rfl (by omega) (by omega)
                have hke_ : ((upI u_199 101 z_196.toNatClampNeg z_201).2.2.1 101 9).toInt = (u_199.2.2.1 101 9).toInt := keep_ne (u := z_196.toInt) rfl (by omega) (by omega)
                refine s_aload_n E dX10_readNext_193 rfl rfl ?_
                refine s_gR (r := 101) E fg_X10_31 rfl rfl (jv_lt hj_204 (by decide)) (jv_r hj_204 (by decide +kernel)) dX10_readNext_194 ?_
                refine s_iload_n E dX10_readNext_197 rfl rfl ?_
                refine s_iconst (v := 1) E dX10_readNext_198 (by decide) ?_
                refine z_iadd (u := z_196.toInt) (v := 1) E dX10_readNext_199 rfl (by decide) (by omega) (by omega) (fun z_205 hz_205 => ?_)
                refine s_aload_n E dX10_readNext_200 rfl rfl ?_
                refine s_ldcS (i := 28) E (by decide) rfl dX10_readNext_201 ?_
                refine s_iconst (v := 1) E dX10_readNext_203 (by decide) ?_
                refine s_bipush (v := 20) E dX10_readNext_204 (by decide) ?_
                refine s_vI (As := [AX (sA aC 28), AI 1, AI 20]) (S := [AI z_205, AR 101]) E (Z_X10_told_95 l D aC b (upI u_199 101 z_196.toNatClampNeg z_201) 1 20 hj_204.1  28 (by decide) (by omega)) cv_X10_164 rfl rfl rfl (jv_lt hj_204 (by decide)) (Nat.le_of_ble_eq_true rfl) (Nat.le_of_ble_eq_true rfl) ⟨(Nat.le_of_ble_eq_true rfl), (Nat.le_of_ble_eq_true rfl)⟩ (Nat.le_of_ble_eq_true rfl) dX10_readNext_206 (fun z_208 u_206 hp_207 => ?_)
                obtain ⟨hz_208, hxz_208, hf_u_206_101, hp_207⟩ := hp_207
                have hc_ : (1 : Int32).toInt = 1 := by decide
                have hc_ : (20 : Int32).toInt = 20 := by decide
                have hj_209 := jv_trans hj_204 hp_207
                have hfa_101_0 := congrArg Int32.toInt (congrFun hf_u_206_101 0)
                have hfa_101_4 := congrArg Int32.toInt (congrFun hf_u_206_101 4)
                have hfa_101_5 := congrArg Int32.toInt (congrFun hf_u_206_101 5)
                have hfa_101_6 := congrArg Int32.toInt (congrFun hf_u_206_101 6)
                have hfa_101_7 := congrArg Int32.toInt (congrFun hf_u_206_101 7)
                have hfa_101_9 := congrArg Int32.toInt (congrFun hf_u_206_101 9)
                have hrz_208 : 0 ≤ z_208.toInt ∧ z_208.toInt ≤ 20 := by omega
                refine s_iast E rfl (jv_lt hj_209 (by decide)) (z_in (u := z_205.toInt) rfl (by omega) (by omega)) dX10_readNext_209 ?_
                have hj_211 : Jv w (upI u_206 101 z_205.toNatClampNeg z_208) := (jv_a_101 (i := z_205) (x := z_208) hj_209 0 20 59 73 2 z_205.toInt (by decide +kernel) (by decide) rfl (by omega) (by omega) (by omega) (by have hb_ := z32 z_208; omega) (by have hb_ := z32 z_208; omega))
                have hke_ : ((upI u_206 101 z_205.toNatClampNeg z_208).2.2.1 95 7).toInt = (u_206.2.2.1 95 7).toInt := rfl
                have hke_ : ((upI u_206 101 z_205.toNatClampNeg z_208).2.2.1 95 8).toInt = (u_206.2.2.1 95 8).toInt := rfl
                have hke_ : ((upI u_206 101 z_205.toNatClampNeg z_208).2.2.1 95 9).toInt = (u_206.2.2.1 95 9).toInt := rfl
                have hke_ : ((upI u_206 101 z_205.toNatClampNeg z_208).2.2.1 95 10).toInt = (u_206.2.2.1 95 10).toInt := rfl
                have hke_ : ((upI u_206 101 z_205.toNatClampNeg z_208).2.2.1 95 12).toInt = (u_206.2.2.1 95 12).toInt := rfl
                have hke_ : ((upI u_206 101 z_205.toNatClampNeg z_208).2.2.1 101 0).toInt = (u_206.2.2.1 101 0).toInt := keep_ne (u := z_205.toInt) rfl (by omega) (by omega)
                have hke_ : ((upI u_206 101 z_205.toNatClampNeg z_208).2.2.1 101 4).toInt = (u_206.2.2.1 101 4).toInt := keep_ne (u := z_205.toInt) rfl (by omega) (by omega)
                have hke_ : ((upI u_206 101 z_205.toNatClampNeg z_208).2.2.1 101 5).toInt = (u_206.2.2.1 101 5).toInt := keep_ne (u := z_205.toInt) rfl (by omega) (by omega)
                have hke_ : ((upI u_206 101 z_205.toNatClampNeg z_208).2.2.1 101 6).toInt = (u_206.2.2.1 101 6).toInt := keep_ne (u := z_205.toInt) rfl (by omega) (by omega)
                have hke_ : ((upI u_206 101 z_205.toNatClampNeg z_208).2.2.1 101 7).toInt = (u_206.2.2.1 101 7).toInt := keep_ne (u := z_205.toInt) rfl (by omega) (by omega)
                have hke_ : ((upI u_206 101 z_205.toNatClampNeg z_208).2.2.1 101 9).toInt = (u_206.2.2.1 101 9).toInt := keep_ne (u := z_205.toInt) rfl (by omega) (by omega)
                refine s_aload_n E dX10_readNext_210 rfl rfl ?_
                refine s_gR (r := 101) E fg_X10_31 rfl rfl (jv_lt hj_211 (by decide)) (jv_r hj_211 (by decide +kernel)) dX10_readNext_211 ?_
                refine s_bipush (v := 6) E dX10_readNext_214 (by decide) ?_
                refine s_dup2 E dX10_readNext_216 ?_
                refine s_iald E rfl (jv_lt hj_211 (by decide)) (z_in (u := 6) (by decide) (by omega) (by omega)) dX10_readNext_217 ?_
                refine z_nm (P := fun z => z.toInt = ((upI u_206 101 z_205.toNatClampNeg z_208).2.2.1 101 6).toInt ∧ 0 ≤ z.toInt ∧ z.toInt ≤ 8) ⟨rfl, (rw_101_6 hj_211)⟩ (fun z_212 hz_212 => ?_)
                refine s_iconst (v := 1) E dX10_readNext_218 (by decide) ?_
                refine z_iadd (u := z_212.toInt) (v := 1) E dX10_readNext_219 rfl (by decide) (by omega) (by omega) (fun z_213 hz_213 => ?_)
                have hhz_213 : 0 ≤ z_213.toInt ∧ z_213.toInt ≤ 8 := by omega
                refine s_iast E rfl (jv_lt hj_211 (by decide)) (z_in (u := 6) (by decide) (by omega) (by omega)) dX10_readNext_220 ?_
                refine s_world (w2 := (upI (upI u_206 101 z_205.toNatClampNeg z_208) 101 6 z_213)) rfl ?_
                have hj_215 : Jv w (upI (upI u_206 101 z_205.toNatClampNeg z_208) 101 6 z_213) := (jv_a_101 (i := 6) (x := z_213) hj_211 0 8 6 6 1 6 (by decide +kernel) (by decide) (by decide) (by omega) (by omega) (by omega) (by have hb_ := z32 z_213; omega) (by have hb_ := z32 z_213; omega))
                have hke_ : ((upI (upI u_206 101 z_205.toNatClampNeg z_208) 101 6 z_213).2.2.1 95 7).toInt = ((upI u_206 101 z_205.toNatClampNeg z_208).2.2.1 95 7).toInt := rfl
                have hke_ : ((upI (upI u_206 101 z_205.toNatClampNeg z_208) 101 6 z_213).2.2.1 95 8).toInt = ((upI u_206 101 z_205.toNatClampNeg z_208).2.2.1 95 8).toInt := rfl
                have hke_ : ((upI (upI u_206 101 z_205.toNatClampNeg z_208) 101 6 z_213).2.2.1 95 9).toInt = ((upI u_206 101 z_205.toNatClampNeg z_208).2.2.1 95 9).toInt := rfl
                have hke_ : ((upI (upI u_206 101 z_205.toNatClampNeg z_208) 101 6 z_213).2.2.1 95 10).toInt = ((upI u_206 101 z_205.toNatClampNeg z_208).2.2.1 95 10).toInt := rfl
                have hke_ : ((upI (upI u_206 101 z_205.toNatClampNeg z_208) 101 6 z_213).2.2.1 95 12).toInt = ((upI u_206 101 z_205.toNatClampNeg z_208).2.2.1 95 12).toInt := rfl
                have hke_ : ((upI (upI u_206 101 z_205.toNatClampNeg z_208) 101 6 z_213).2.2.1 101 0).toInt = ((upI u_206 101 z_205.toNatClampNeg z_208).2.2.1 101 0).toInt := rfl
                have hke_ : ((upI (upI u_206 101 z_205.toNatClampNeg z_208) 101 6 z_213).2.2.1 101 4).toInt = ((upI u_206 101 z_205.toNatClampNeg z_208).2.2.1 101 4).toInt := rfl
                have hke_ : ((upI (upI u_206 101 z_205.toNatClampNeg z_208) 101 6 z_213).2.2.1 101 5).toInt = ((upI u_206 101 z_205.toNatClampNeg z_208).2.2.1 101 5).toInt := rfl
                have hke_ : ((upI (upI u_206 101 z_205.toNatClampNeg z_208) 101 6 z_213).2.2.1 101 6).toInt = z_213.toInt := rfl
                have hke_ : ((upI (upI u_206 101 z_205.toNatClampNeg z_208) 101 6 z_213).2.2.1 101 7).toInt = ((upI u_206 101 z_205.toNatClampNeg z_208).2.2.1 101 7).toInt := rfl
                have hke_ : ((upI (upI u_206 101 z_205.toNatClampNeg z_208) 101 6 z_213).2.2.1 101 9).toInt = ((upI u_206 101 z_205.toNatClampNeg z_208).2.2.1 101 9).toInt := rfl
                refine s_goto (tgt := 232) E dX10_readNext_221 (by decide) ?_
                exact r_void E dX10_readNext_232 ⟨(by omega), hj_215⟩
            ·
              have hd_ : ¬ (w.2.2.1 101 5).toInt = 6 := by first | exact (hq_.resolve_left (by omega)).2.1 (hT2_.mp (by omega)) | (exfalso; omega)
              refine s_bipush (v := 46) E dX10_readNext_96 (by decide) ?_
              refine s_iconst (v := 2) E dX10_readNext_98 (by decide) ?_
              refine s_aload_n E dX10_readNext_99 rfl rfl ?_
              refine s_gR (r := 101) E fg_X10_31 rfl rfl (jv_lt hj_181 (by decide)) (jv_r hj_181 (by decide +kernel)) dX10_readNext_100 ?_
              refine s_iconst (v := 5) E dX10_readNext_103 (by decide) ?_
              refine s_iald E rfl (jv_lt hj_181 (by decide)) (z_in (u := 5) (by decide) (by omega) (by omega)) dX10_readNext_104 ?_
              refine z_nm (P := fun z => z.toInt = (u_178.2.2.1 101 5).toInt ∧ 0 ≤ z.toInt ∧ z.toInt ≤ 6) ⟨rfl, (rw_101_5 hj_181)⟩ (fun z_216 hz_216 => ?_)
              refine z_imul (u := 2) (v := z_216.toInt) E dX10_readNext_105 (by decide) rfl (by omega) (by omega) (fun z_217 hz_217 => ?_)
              have hhz_217 : 0 ≤ z_217.toInt ∧ z_217.toInt ≤ 10 := by omega
              refine z_iadd (u := 46) (v := z_217.toInt) E dX10_readNext_106 (by decide) rfl (by omega) (by omega) (fun z_218 hz_218 => ?_)
              refine s_istore_n (L2 := [some (AR 95), some (AI 1), some (AI z_218)]) E dX10_readNext_107 rfl (by decide) rfl ?_
              refine s_aload_n E dX10_readNext_108 rfl rfl ?_
              refine s_gR (r := 101) E fg_X10_31 rfl rfl (jv_lt hj_181 (by decide)) (jv_r hj_181 (by decide +kernel)) dX10_readNext_109 ?_
              refine s_iload_n E dX10_readNext_112 rfl rfl ?_
              refine s_aload_n E dX10_readNext_113 rfl rfl ?_
              refine s_ldcS (i := 26) E (by decide) rfl dX10_readNext_114 ?_
              refine s_vI (As := [AX (sA aC 26)]) (S := [AI z_218, AR 101]) E (Z_X10_freshRoom_95 l D aC b u_178  hj_181.1  26 (by decide) (by omega)) cv_X10_182 rfl rfl rfl (jv_lt hj_181 (by decide)) (Nat.le_of_ble_eq_true rfl) (Nat.le_of_ble_eq_true rfl) ⟨(Nat.le_of_ble_eq_true rfl), (Nat.le_of_ble_eq_true rfl)⟩ (Nat.le_of_ble_eq_true rfl) dX10_readNext_116 (fun z_221 u_219 hp_220 => ?_)
              obtain ⟨hz_221, hxz_221, hf_u_219_101, hp_220⟩ := hp_220
              have hj_222 := jv_trans hj_181 hp_220
              have hfa_101_0 := congrArg Int32.toInt (congrFun hf_u_219_101 0)
              have hfa_101_4 := congrArg Int32.toInt (congrFun hf_u_219_101 4)
              have hfa_101_5 := congrArg Int32.toInt (congrFun hf_u_219_101 5)
              have hfa_101_6 := congrArg Int32.toInt (congrFun hf_u_219_101 6)
              have hfa_101_7 := congrArg Int32.toInt (congrFun hf_u_219_101 7)
              have hfa_101_9 := congrArg Int32.toInt (congrFun hf_u_219_101 9)
              have hrz_221 : 0 ≤ z_221.toInt ∧ z_221.toInt ≤ 7 := by omega
              have hRm_ : (u_219.2.2.1 95 12).toInt = 0 → z_221.toInt < (w.2.2.1 101 0).toInt := by intro h0_; omega
              refine s_iast E rfl (jv_lt hj_222 (by decide)) (z_in (u := z_218.toInt) rfl (by omega) (by omega)) dX10_readNext_119 ?_
              have hj_224 : Jv w (upI u_219 101 z_218.toNatClampNeg z_221) := (jv_lad0 hj_222 (by omega) (by omega) (by omega) (by have hb_ := z32 z_221; omega) (by have hb_ := z32 z_221; omega))
              have hke_ : ((upI u_219 101 z_218.toNatClampNeg z_221).2.2.1 95 7).toInt = (u_219.2.2.1 95 7).toInt := rfl
              have hke_ : ((upI u_219 101 z_218.toNatClampNeg z_221).2.2.1 95 8).toInt = (u_219.2.2.1 95 8).toInt := rfl
              have hke_ : ((upI u_219 101 z_218.toNatClampNeg z_221).2.2.1 95 9).toInt = (u_219.2.2.1 95 9).toInt := rfl
              have hke_ : ((upI u_219 101 z_218.toNatClampNeg z_221).2.2.1 95 10).toInt = (u_219.2.2.1 95 10).toInt := rfl
              have hke_ : ((upI u_219 101 z_218.toNatClampNeg z_221).2.2.1 95 12).toInt = (u_219.2.2.1 95 12).toInt := rfl
              have hke_ : ((upI u_219 101 z_218.toNatClampNeg z_221).2.2.1 101 0).toInt = (u_219.2.2.1 101 0).toInt := keep_ne (u := z_218.toInt) rfl (by omega) (by omega)
              have hke_ : ((upI u_219 101 z_218.toNatClampNeg z_221).2.2.1 101 4).toInt = (u_219.2.2.1 101 4).toInt := keep_ne (u := z_218.toInt) rfl (by omega) (by omega)
              have hke_ : ((upI u_219 101 z_218.toNatClampNeg z_221).2.2.1 101 5).toInt = (u_219.2.2.1 101 5).toInt := keep_ne (u := z_218.toInt) rfl (by omega) (by omega)
              have hke_ : ((upI u_219 101 z_218.toNatClampNeg z_221).2.2.1 101 6).toInt = (u_219.2.2.1 101 6).toInt := keep_ne (u := z_218.toInt) rfl (by omega) (by omega)
              have hke_ : ((upI u_219 101 z_218.toNatClampNeg z_221).2.2.1 101 7).toInt = (u_219.2.2.1 101 7).toInt := keep_ne (u := z_218.toInt) rfl (by omega) (by omega)
              have hke_ : ((upI u_219 101 z_218.toNatClampNeg z_221).2.2.1 101 9).toInt = (u_219.2.2.1 101 9).toInt := keep_ne (u := z_218.toInt) rfl (by omega) (by omega)
              refine s_aload_n E dX10_readNext_120 rfl rfl ?_
              refine s_gR (r := 101) E fg_X10_31 rfl rfl (jv_lt hj_224 (by decide)) (jv_r hj_224 (by decide +kernel)) dX10_readNext_121 ?_
              refine s_iload_n E dX10_readNext_124 rfl rfl ?_
              refine s_iconst (v := 1) E dX10_readNext_125 (by decide) ?_
              refine z_iadd (u := z_218.toInt) (v := 1) E dX10_readNext_126 rfl (by decide) (by omega) (by omega) (fun z_225 hz_225 => ?_)
              refine s_aload_n E dX10_readNext_127 rfl rfl ?_
              refine s_ldcS (i := 25) E (by decide) rfl dX10_readNext_128 ?_
              refine s_iconst (v := 1) E dX10_readNext_130 (by decide) ?_
              refine s_bipush (v := 9) E dX10_readNext_131 (by decide) ?_
              refine s_vI (As := [AX (sA aC 25), AI 1, AI 9]) (S := [AI z_225, AR 101]) E (Z_X10_told_95 l D aC b (upI u_219 101 z_218.toNatClampNeg z_221) 1 9 hj_224.1  25 (by decide) (by omega)) cv_X10_164 rfl rfl rfl (jv_lt hj_224 (by decide)) (Nat.le_of_ble_eq_true rfl) (Nat.le_of_ble_eq_true rfl) ⟨(Nat.le_of_ble_eq_true rfl), (Nat.le_of_ble_eq_true rfl)⟩ (Nat.le_of_ble_eq_true rfl) dX10_readNext_133 (fun z_228 u_226 hp_227 => ?_)
              obtain ⟨hz_228, hxz_228, hf_u_226_101, hp_227⟩ := hp_227
              have hc_ : (1 : Int32).toInt = 1 := by decide
              have hc_ : (9 : Int32).toInt = 9 := by decide
              have hj_229 := jv_trans hj_224 hp_227
              have hfa_101_0 := congrArg Int32.toInt (congrFun hf_u_226_101 0)
              have hfa_101_4 := congrArg Int32.toInt (congrFun hf_u_226_101 4)
              have hfa_101_5 := congrArg Int32.toInt (congrFun hf_u_226_101 5)
              have hfa_101_6 := congrArg Int32.toInt (congrFun hf_u_226_101 6)
              have hfa_101_7 := congrArg Int32.toInt (congrFun hf_u_226_101 7)
              have hfa_101_9 := congrArg Int32.toInt (congrFun hf_u_226_101 9)
              have hrz_228 : 0 ≤ z_228.toInt ∧ z_228.toInt ≤ 9 := by omega
              have hLw_ : (u_226.2.2.1 95 12).toInt = 0 → 1 ≤ z_228.toInt := by intro h0_; omega
              have fL_ := hf_u_226_101
              refine s_iast E rfl (jv_lt hj_229 (by decide)) (z_in (u := z_225.toInt) rfl (by omega) (by omega)) dX10_readNext_136 ?_
              have hj_231 : Jv w (upI u_226 101 z_225.toNatClampNeg z_228) := (jv_lad hj_229 (by omega) (by omega) (by omega) (by have hb_ := z32 z_228; omega) (by have hb_ := z32 z_228; omega))
              have hke_ : ((upI u_226 101 z_225.toNatClampNeg z_228).2.2.1 95 7).toInt = (u_226.2.2.1 95 7).toInt := rfl
              have hke_ : ((upI u_226 101 z_225.toNatClampNeg z_228).2.2.1 95 8).toInt = (u_226.2.2.1 95 8).toInt := rfl
              have hke_ : ((upI u_226 101 z_225.toNatClampNeg z_228).2.2.1 95 9).toInt = (u_226.2.2.1 95 9).toInt := rfl
              have hke_ : ((upI u_226 101 z_225.toNatClampNeg z_228).2.2.1 95 10).toInt = (u_226.2.2.1 95 10).toInt := rfl
              have hke_ : ((upI u_226 101 z_225.toNatClampNeg z_228).2.2.1 95 12).toInt = (u_226.2.2.1 95 12).toInt := rfl
              have hke_ : ((upI u_226 101 z_225.toNatClampNeg z_228).2.2.1 101 0).toInt = (u_226.2.2.1 101 0).toInt := keep_ne (u := z_225.toInt) rfl (by omega) (by omega)
              have hke_ : ((upI u_226 101 z_225.toNatClampNeg z_228).2.2.1 101 4).toInt = (u_226.2.2.1 101 4).toInt := keep_ne (u := z_225.toInt) rfl (by omega) (by omega)
              have hke_ : ((upI u_226 101 z_225.toNatClampNeg z_228).2.2.1 101 5).toInt = (u_226.2.2.1 101 5).toInt := keep_ne (u := z_225.toInt) rfl (by omega) (by omega)
              have hke_ : ((upI u_226 101 z_225.toNatClampNeg z_228).2.2.1 101 6).toInt = (u_226.2.2.1 101 6).toInt := keep_ne (u := z_225.toInt) rfl (by omega) (by omega)
              have hke_ : ((upI u_226 101 z_225.toNatClampNeg z_228).2.2.1 101 7).toInt = (u_226.2.2.1 101 7).toInt := keep_ne (u := z_225.toInt) rfl (by omega) (by omega)
              have hke_ : ((upI u_226 101 z_225.toNatClampNeg z_228).2.2.1 101 9).toInt = (u_226.2.2.1 101 9).toInt := keep_ne (u := z_225.toInt) rfl (by omega) (by omega)
              refine s_aload_n E dX10_readNext_137 rfl rfl ?_
              refine s_gR (r := 101) E fg_X10_31 rfl rfl (jv_lt hj_231 (by decide)) (jv_r hj_231 (by decide +kernel)) dX10_readNext_138 ?_
              refine s_iconst (v := 5) E dX10_readNext_141 (by decide) ?_
              refine s_dup2 E dX10_readNext_142 ?_
              refine s_iald E rfl (jv_lt hj_231 (by decide)) (z_in (u := 5) (by decide) (by omega) (by omega)) dX10_readNext_143 ?_
              refine z_nm (P := fun z => z.toInt = ((upI u_226 101 z_225.toNatClampNeg z_228).2.2.1 101 5).toInt ∧ 0 ≤ z.toInt ∧ z.toInt ≤ 6) ⟨rfl, (rw_101_5 hj_231)⟩ (fun z_232 hz_232 => ?_)
              refine s_iconst (v := 1) E dX10_readNext_144 (by decide) ?_
              refine z_iadd (u := z_232.toInt) (v := 1) E dX10_readNext_145 rfl (by decide) (by omega) (by omega) (fun z_233 hz_233 => ?_)
              have hhz_233 : 0 ≤ z_233.toInt ∧ z_233.toInt ≤ 6 := by omega
              refine s_iast E rfl (jv_lt hj_231 (by decide)) (z_in (u := 5) (by decide) (by omega) (by omega)) dX10_readNext_146 ?_
              refine s_world (w2 := (upI (upI u_226 101 z_225.toNatClampNeg z_228) 101 5 z_233)) rfl ?_
              have hj_235 : Jv w (upI (upI u_226 101 z_225.toNatClampNeg z_228) 101 5 z_233) := (jv_lad5 hj_231 (by omega) (by omega) (by omega) (lad_fin (by omega) (by omega) hLw_) (fun h0_ => lad_fin2 (N := (w.2.2.1 101 5).toInt) fL_ (by omega) (by omega) (by omega) (by omega) (by have q_ := hRm_ (by omega); omega)))
              have hke_ : ((upI (upI u_226 101 z_225.toNatClampNeg z_228) 101 5 z_233).2.2.1 95 7).toInt = ((upI u_226 101 z_225.toNatClampNeg z_228).2.2.1 95 7).toInt := rfl
              have hke_ : ((upI (upI u_226 101 z_225.toNatClampNeg z_228) 101 5 z_233).2.2.1 95 8).toInt = ((upI u_226 101 z_225.toNatClampNeg z_228).2.2.1 95 8).toInt := rfl
              have hke_ : ((upI (upI u_226 101 z_225.toNatClampNeg z_228) 101 5 z_233).2.2.1 95 9).toInt = ((upI u_226 101 z_225.toNatClampNeg z_228).2.2.1 95 9).toInt := rfl
              have hke_ : ((upI (upI u_226 101 z_225.toNatClampNeg z_228) 101 5 z_233).2.2.1 95 10).toInt = ((upI u_226 101 z_225.toNatClampNeg z_228).2.2.1 95 10).toInt := rfl
              have hke_ : ((upI (upI u_226 101 z_225.toNatClampNeg z_228) 101 5 z_233).2.2.1 95 12).toInt = ((upI u_226 101 z_225.toNatClampNeg z_228).2.2.1 95 12).toInt := rfl
              have hke_ : ((upI (upI u_226 101 z_225.toNatClampNeg z_228) 101 5 z_233).2.2.1 101 0).toInt = ((upI u_226 101 z_225.toNatClampNeg z_228).2.2.1 101 0).toInt := rfl
              have hke_ : ((upI (upI u_226 101 z_225.toNatClampNeg z_228) 101 5 z_233).2.2.1 101 4).toInt = ((upI u_226 101 z_225.toNatClampNeg z_228).2.2.1 101 4).toInt := rfl
              have hke_ : ((upI (upI u_226 101 z_225.toNatClampNeg z_228) 101 5 z_233).2.2.1 101 5).toInt = z_233.toInt := rfl
              have hke_ : ((upI (upI u_226 101 z_225.toNatClampNeg z_228) 101 5 z_233).2.2.1 101 6).toInt = ((upI u_226 101 z_225.toNatClampNeg z_228).2.2.1 101 6).toInt := rfl
              have hke_ : ((upI (upI u_226 101 z_225.toNatClampNeg z_228) 101 5 z_233).2.2.1 101 7).toInt = ((upI u_226 101 z_225.toNatClampNeg z_228).2.2.1 101 7).toInt := rfl
              have hke_ : ((upI (upI u_226 101 z_225.toNatClampNeg z_228) 101 5 z_233).2.2.1 101 9).toInt = ((upI u_226 101 z_225.toNatClampNeg z_228).2.2.1 101 9).toInt := rfl
              refine s_goto (tgt := 232) E dX10_readNext_147 (by decide) ?_
              exact r_void E dX10_readNext_232 ⟨(by omega), hj_235⟩
          ·
            have hd_ : ¬ (w.2.2.1 101 4).toInt = 12 := by first | exact (hq_.resolve_left (by omega)).1 (hT_.mp (by omega)) | (exfalso; omega)
            refine s_aload_n E dX10_readNext_80 rfl rfl ?_
            refine s_vV (As := []) (S := []) E (Z_X10_readDoor_95 l D aC b u_173  hj_176.1  (by omega) (by omega)) cv_X10_198 rfl rfl rfl (jv_lt hj_176 (by decide)) (Nat.le_of_ble_eq_true rfl) (Nat.le_of_ble_eq_true rfl) ⟨(Nat.le_of_ble_eq_true rfl), (Nat.le_of_ble_eq_true rfl)⟩ (Nat.le_of_ble_eq_true rfl) dX10_readNext_81 (fun u_236 hp_237 => ?_)
            obtain ⟨hx_hp_237, hp_237⟩ := hp_237
            have hj_238 := jv_trans hj_176 hp_237
            refine s_goto (tgt := 232) E dX10_readNext_84 (by decide) ?_
            exact r_void E dX10_readNext_232 ⟨(by omega), hj_238⟩
        ·
          exact r_void E dX10_readNext_70 ⟨(by omega), hJ⟩
      ·
        refine s_aload_n E dX10_readNext_58 rfl rfl ?_
        refine s_iconst (v := 3) E dX10_readNext_59 (by decide) ?_
        refine s_vV (As := [AI 3]) (S := []) E (Z_X10_errs_95 l D aC b w 3 hJ.1 (by decide)) cv_X10_153 rfl rfl rfl (jv_lt hJ (by decide)) (Nat.le_of_ble_eq_true rfl) (Nat.le_of_ble_eq_true rfl) ⟨(Nat.le_of_ble_eq_true rfl), (Nat.le_of_ble_eq_true rfl)⟩ (Nat.le_of_ble_eq_true rfl) dX10_readNext_60 (fun u_239 hp_240 => ?_)
        have hc_ : (3 : Int32).toInt = 3 := by decide
        obtain ⟨hx_hp_240, hf_u_239_101, hp_240⟩ := hp_240
        have hj_241 := jv_trans hJ hp_240
        have hfa_101_0 := congrArg Int32.toInt (congrFun hf_u_239_101 0)
        have hfa_101_4 := congrArg Int32.toInt (congrFun hf_u_239_101 4)
        have hfa_101_5 := congrArg Int32.toInt (congrFun hf_u_239_101 5)
        have hfa_101_6 := congrArg Int32.toInt (congrFun hf_u_239_101 6)
        have hfa_101_7 := congrArg Int32.toInt (congrFun hf_u_239_101 7)
        have hfa_101_9 := congrArg Int32.toInt (congrFun hf_u_239_101 9)
        refine s_aload_n E dX10_readNext_63 rfl rfl ?_
        refine s_vI (As := []) (S := []) E (Z_X10_good_95 l D aC b u_239  hj_241.1 ) cv_X10_130 rfl rfl rfl (jv_lt hj_241 (by decide)) (Nat.le_of_ble_eq_true rfl) (Nat.le_of_ble_eq_true rfl) ⟨(Nat.le_of_ble_eq_true rfl), (Nat.le_of_ble_eq_true rfl)⟩ (Nat.le_of_ble_eq_true rfl) dX10_readNext_64 (fun z_244 u_242 hp_243 => ?_)
        obtain ⟨hz_244, hxz_244, hp_243⟩ := hp_243
        subst hp_243
        refine z_if_ne (tgt := 71) (u := z_244.toInt) E dX10_readNext_67 (by decide) rfl (fun h_246 => ?_) (fun h_246 => ?_)
        ·
          have hn4_ := rw_101_4 hj_241
          have hn5_ := rw_101_5 hj_241
          have hn6_ := rw_101_6 hj_241
          have hn7_ := rw_101_7 hj_241
          refine s_aload_n E dX10_readNext_71 rfl rfl ?_
          refine s_ldcS (i := 20) E (by decide) rfl dX10_readNext_72 ?_
          refine s_vI (As := [AX (sA aC 20)]) (S := []) E (Z_X10_takes_95 l D aC b u_239  hj_241.1  20 (by decide) (by omega)) cv_X10_150 rfl rfl rfl (jv_lt hj_241 (by decide)) (Nat.le_of_ble_eq_true rfl) (Nat.le_of_ble_eq_true rfl) ⟨(Nat.le_of_ble_eq_true rfl), (Nat.le_of_ble_eq_true rfl)⟩ (Nat.le_of_ble_eq_true rfl) dX10_readNext_74 (fun z_249 u_247 hp_248 => ?_)
          obtain ⟨hz_249, hxz_249, hf_u_247_101, hp_248⟩ := hp_248
          have hj_250 := jv_trans hj_241 hp_248
          have hfa_101_0 := congrArg Int32.toInt (congrFun hf_u_247_101 0)
          have hfa_101_4 := congrArg Int32.toInt (congrFun hf_u_247_101 4)
          have hfa_101_5 := congrArg Int32.toInt (congrFun hf_u_247_101 5)
          have hfa_101_6 := congrArg Int32.toInt (congrFun hf_u_247_101 6)
          have hfa_101_7 := congrArg Int32.toInt (congrFun hf_u_247_101 7)
          have hfa_101_9 := congrArg Int32.toInt (congrFun hf_u_247_101 9)
          have hT_ := hxz_249.1
          have hE_ := hxz_249.2.1
          refine z_if_eq (tgt := 87) (u := z_249.toInt) E dX10_readNext_77 (by decide) rfl (fun h_251 => ?_) (fun h_251 => ?_)
          ·
            have hE1_ : u_239 = u_247 := hE_.resolve_left (by omega)
            refine s_aload_n E dX10_readNext_87 rfl rfl ?_
            refine s_ldcS (i := 21) E (by decide) rfl dX10_readNext_88 ?_
            refine s_vI (As := [AX (sA aC 21)]) (S := []) E (Z_X10_takes_95 l D aC b u_247  hj_250.1  21 (by decide) (by omega)) cv_X10_150 rfl rfl rfl (jv_lt hj_250 (by decide)) (Nat.le_of_ble_eq_true rfl) (Nat.le_of_ble_eq_true rfl) ⟨(Nat.le_of_ble_eq_true rfl), (Nat.le_of_ble_eq_true rfl)⟩ (Nat.le_of_ble_eq_true rfl) dX10_readNext_90 (fun z_254 u_252 hp_253 => ?_)
            obtain ⟨hz_254, hxz_254, hf_u_252_101, hp_253⟩ := hp_253
            have hj_255 := jv_trans hj_250 hp_253
            have hfa_101_0 := congrArg Int32.toInt (congrFun hf_u_252_101 0)
            have hfa_101_4 := congrArg Int32.toInt (congrFun hf_u_252_101 4)
            have hfa_101_5 := congrArg Int32.toInt (congrFun hf_u_252_101 5)
            have hfa_101_6 := congrArg Int32.toInt (congrFun hf_u_252_101 6)
            have hfa_101_7 := congrArg Int32.toInt (congrFun hf_u_252_101 7)
            have hfa_101_9 := congrArg Int32.toInt (congrFun hf_u_252_101 9)
            have hT2_ := hxz_254.1
            rw [← hE1_] at hT2_
            have hF_ := hxz_254.2.1
            refine z_if_eq (tgt := 150) (u := z_254.toInt) E dX10_readNext_93 (by decide) rfl (fun h_256 => ?_) (fun h_256 => ?_)
            ·
              have hE2_ : u_239 = u_252 := hE1_.trans (hF_.resolve_left (by omega))
              refine s_aload_n E dX10_readNext_150 rfl rfl ?_
              refine s_ldcS (i := 22) E (by decide) rfl dX10_readNext_151 ?_
              refine s_vI (As := [AX (sA aC 22)]) (S := []) E (Z_X10_takes_95 l D aC b u_252  hj_255.1  22 (by decide) (by omega)) cv_X10_150 rfl rfl rfl (jv_lt hj_255 (by decide)) (Nat.le_of_ble_eq_true rfl) (Nat.le_of_ble_eq_true rfl) ⟨(Nat.le_of_ble_eq_true rfl), (Nat.le_of_ble_eq_true rfl)⟩ (Nat.le_of_ble_eq_true rfl) dX10_readNext_153 (fun z_259 u_257 hp_258 => ?_)
              obtain ⟨hz_259, hxz_259, hf_u_257_101, hp_258⟩ := hp_258
              have hj_260 := jv_trans hj_255 hp_258
              have hfa_101_0 := congrArg Int32.toInt (congrFun hf_u_257_101 0)
              have hfa_101_4 := congrArg Int32.toInt (congrFun hf_u_257_101 4)
              have hfa_101_5 := congrArg Int32.toInt (congrFun hf_u_257_101 5)
              have hfa_101_6 := congrArg Int32.toInt (congrFun hf_u_257_101 6)
              have hfa_101_7 := congrArg Int32.toInt (congrFun hf_u_257_101 7)
              have hfa_101_9 := congrArg Int32.toInt (congrFun hf_u_257_101 9)
              have hT3_ := hxz_259.1
              rw [← hE2_] at hT3_
              have hG_ := hxz_259.2.1
              refine z_if_eq (tgt := 224) (u := z_259.toInt) E dX10_readNext_156 (by decide) rfl (fun h_261 => ?_) (fun h_261 => ?_)
              ·
                have hd_ : ¬ (u_239.2.2.1 101 7).toInt = 10 := by first | exact (hq_.resolve_left (by omega)).2.2.2 (hw_30.mp (by omega)) | (exfalso; exact absurd (hT_.mpr (hw_3.mp (by omega))) (by omega)) | (exfalso; exact absurd (hT2_.mpr (hw_12.mp (by omega))) (by omega)) | (exfalso; exact absurd (hT3_.mpr (hw_21.mp (by omega))) (by omega)) | (exfalso; omega)
                refine s_aload_n E dX10_readNext_224 rfl rfl ?_
                refine s_vV (As := []) (S := []) E (Z_X10_advance_95 l D aC b u_257  hj_260.1 ) cv_X10_147 rfl rfl rfl (jv_lt hj_260 (by decide)) (Nat.le_of_ble_eq_true rfl) (Nat.le_of_ble_eq_true rfl) ⟨(Nat.le_of_ble_eq_true rfl), (Nat.le_of_ble_eq_true rfl)⟩ (Nat.le_of_ble_eq_true rfl) dX10_readNext_225 (fun u_262 hp_263 => ?_)
                obtain ⟨hx_hp_263, hf_u_262_99, hf_u_262_101, hp_263⟩ := hp_263
                have hj_264 := jv_trans hj_260 hp_263
                have hfa_101_0 := congrArg Int32.toInt (congrFun hf_u_262_101 0)
                have hfa_101_4 := congrArg Int32.toInt (congrFun hf_u_262_101 4)
                have hfa_101_5 := congrArg Int32.toInt (congrFun hf_u_262_101 5)
                have hfa_101_6 := congrArg Int32.toInt (congrFun hf_u_262_101 6)
                have hfa_101_7 := congrArg Int32.toInt (congrFun hf_u_262_101 7)
                have hfa_101_9 := congrArg Int32.toInt (congrFun hf_u_262_101 9)
                refine s_aload_n E dX10_readNext_228 rfl rfl ?_
                refine s_vV (As := []) (S := []) E (Z_X10_readBid_95 l D aC b u_262  hj_264.1  (by omega) (by omega)) cv_X10_206 rfl rfl rfl (jv_lt hj_264 (by decide)) (Nat.le_of_ble_eq_true rfl) (Nat.le_of_ble_eq_true rfl) ⟨(Nat.le_of_ble_eq_true rfl), (Nat.le_of_ble_eq_true rfl)⟩ (Nat.le_of_ble_eq_true rfl) dX10_readNext_229 (fun u_265 hp_266 => ?_)
                obtain ⟨hx_hp_266, hp_266⟩ := hp_266
                have hj_267 := jv_trans hj_264 hp_266
                exact r_void E dX10_readNext_232 ⟨(by omega), hj_267⟩
              ·
                have hd_ : ¬ (u_239.2.2.1 101 6).toInt = 8 := by first | exact (hq_.resolve_left (by omega)).2.2.1 (hT3_.mp (by omega)) | (exfalso; omega)
                refine s_bipush (v := 58) E dX10_readNext_159 (by decide) ?_
                refine s_iconst (v := 2) E dX10_readNext_161 (by decide) ?_
                refine s_aload_n E dX10_readNext_162 rfl rfl ?_
                refine s_gR (r := 101) E fg_X10_31 rfl rfl (jv_lt hj_260 (by decide)) (jv_r hj_260 (by decide +kernel)) dX10_readNext_163 ?_
                refine s_bipush (v := 6) E dX10_readNext_166 (by decide) ?_
                refine s_iald E rfl (jv_lt hj_260 (by decide)) (z_in (u := 6) (by decide) (by omega) (by omega)) dX10_readNext_168 ?_
                refine z_nm (P := fun z => z.toInt = (u_257.2.2.1 101 6).toInt ∧ 0 ≤ z.toInt ∧ z.toInt ≤ 8) ⟨rfl, (rw_101_6 hj_260)⟩ (fun z_268 hz_268 => ?_)
                refine z_imul (u := 2) (v := z_268.toInt) E dX10_readNext_169 (by decide) rfl (by omega) (by omega) (fun z_269 hz_269 => ?_)
                have hhz_269 : 0 ≤ z_269.toInt ∧ z_269.toInt ≤ 14 := by omega
                refine z_iadd (u := 58) (v := z_269.toInt) E dX10_readNext_170 (by decide) rfl (by omega) (by omega) (fun z_270 hz_270 => ?_)
                refine s_istore_n (L2 := [some (AR 95), some (AI 1), some (AI z_270)]) E dX10_readNext_171 rfl (by decide) rfl ?_
                refine s_aload_n E dX10_readNext_172 rfl rfl ?_
                refine s_gR (r := 101) E fg_X10_31 rfl rfl (jv_lt hj_260 (by decide)) (jv_r hj_260 (by decide +kernel)) dX10_readNext_173 ?_
                refine s_iload_n E dX10_readNext_176 rfl rfl ?_
                refine s_aload_n E dX10_readNext_177 rfl rfl ?_
                refine s_ldcS (i := 27) E (by decide) rfl dX10_readNext_178 ?_
                refine s_iconst (v := 0) E dX10_readNext_180 (by decide) ?_
                refine s_aload_n E dX10_readNext_181 rfl rfl ?_
                refine s_gR (r := 101) E fg_X10_31 rfl rfl (jv_lt hj_260 (by decide)) (jv_r hj_260 (by decide +kernel)) dX10_readNext_182 ?_
                refine s_iconst (v := 5) E dX10_readNext_185 (by decide) ?_
                refine s_iald E rfl (jv_lt hj_260 (by decide)) (z_in (u := 5) (by decide) (by omega) (by omega)) dX10_readNext_186 ?_
                refine z_nm (P := fun z => z.toInt = (u_257.2.2.1 101 5).toInt ∧ 0 ≤ z.toInt ∧ z.toInt ≤ 6) ⟨rfl, (rw_101_5 hj_260)⟩ (fun z_271 hz_271 => ?_)
                refine s_iconst (v := 1) E dX10_readNext_187 (by decide) ?_
                refine z_isub (u := z_271.toInt) (v := 1) E dX10_readNext_188 rfl (by decide) (by omega) (by omega) (fun z_272 hz_272 => ?_)
                refine s_vI (As := [AX (sA aC 27), AI 0, AI z_272]) (S := [AI z_270, AR 101]) E (Z_X10_told_95 l D aC b u_257 0 z_272 hj_260.1  27 (by decide) (by omega)) cv_X10_164 rfl rfl rfl (jv_lt hj_260 (by decide)) (Nat.le_of_ble_eq_true rfl) (Nat.le_of_ble_eq_true rfl) ⟨(Nat.le_of_ble_eq_true rfl), (Nat.le_of_ble_eq_true rfl)⟩ (Nat.le_of_ble_eq_true rfl) dX10_readNext_189 (fun z_275 u_273 hp_274 => ?_)
                obtain ⟨hz_275, hxz_275, hf_u_273_101, hp_274⟩ := hp_274
                have hc_ : (0 : Int32).toInt = 0 := by decide
                have hj_276 := jv_trans hj_260 hp_274
                have hfa_101_0 := congrArg Int32.toInt (congrFun hf_u_273_101 0)
                have hfa_101_4 := congrArg Int32.toInt (congrFun hf_u_273_101 4)
                have hfa_101_5 := congrArg Int32.toInt (congrFun hf_u_273_101 5)
                have hfa_101_6 := congrArg Int32.toInt (congrFun hf_u_273_101 6)
                have hfa_101_7 := congrArg Int32.toInt (congrFun hf_u_273_101 7)
                have hfa_101_9 := congrArg Int32.toInt (congrFun hf_u_273_101 9)
                have hrz_275 : 0 ≤ z_275.toInt ∧ z_275.toInt ≤ 5 := by omega
                refine s_iast E rfl (jv_lt hj_276 (by decide)) (z_in (u := z_270.toInt) rfl (by omega) (by omega)) dX10_readNext_192 ?_
                have hj_278 : Jv w (upI u_273 101 z_270.toNatClampNeg z_275) := (jv_a_101 (i := z_270) (x := z_275) hj_276 0 5 58 72 2 z_270.toInt (by decide +kernel) (by decide) rfl (by omega) (by omega) (by omega) (by have hb_ := z32 z_275; omega) (by have hb_ := z32 z_275; omega))
                have hke_ : ((upI u_273 101 z_270.toNatClampNeg z_275).2.2.1 95 7).toInt = (u_273.2.2.1 95 7).toInt := rfl
                have hke_ : ((upI u_273 101 z_270.toNatClampNeg z_275).2.2.1 95 8).toInt = (u_273.2.2.1 95 8).toInt := rfl
                have hke_ : ((upI u_273 101 z_270.toNatClampNeg z_275).2.2.1 95 9).toInt = (u_273.2.2.1 95 9).toInt := rfl
                have hke_ : ((upI u_273 101 z_270.toNatClampNeg z_275).2.2.1 95 10).toInt = (u_273.2.2.1 95 10).toInt := rfl
                have hke_ : ((upI u_273 101 z_270.toNatClampNeg z_275).2.2.1 95 12).toInt = (u_273.2.2.1 95 12).toInt := rfl
                have hke_ : ((upI u_273 101 z_270.toNatClampNeg z_275).2.2.1 101 0).toInt = (u_273.2.2.1 101 0).toInt := keep_ne (u := z_270.toInt) rfl (by omega) (by omega)
                have hke_ : ((upI u_273 101 z_270.toNatClampNeg z_275).2.2.1 101 4).toInt = (u_273.2.2.1 101 4).toInt := keep_ne (u := z_270.toInt) rfl (by omega) (by omega)
                have hke_ : ((upI u_273 101 z_270.toNatClampNeg z_275).2.2.1 101 5).toInt = (u_273.2.2.1 101 5).toInt := keep_ne (u := z_270.toInt) rfl (by omega) (by omega)
                have hke_ : ((upI u_273 101 z_270.toNatClampNeg z_275).2.2.1 101 6).toInt = (u_273.2.2.1 101 6).toInt := keep_ne (u := z_270.toInt) rfl (by omega) (by omega)
                have hke_ : ((upI u_273 101 z_270.toNatClampNeg z_275).2.2.1 101 7).toInt = (u_273.2.2.1 101 7).toInt := keep_ne (u := z_270.toInt) rfl (by omega) (by omega)
                have hke_ : ((upI u_273 101 z_270.toNatClampNeg z_275).2.2.1 101 9).toInt = (u_273.2.2.1 101 9).toInt := keep_ne (u := z_270.toInt) rfl (by omega) (by omega)
                refine s_aload_n E dX10_readNext_193 rfl rfl ?_
                refine s_gR (r := 101) E fg_X10_31 rfl rfl (jv_lt hj_278 (by decide)) (jv_r hj_278 (by decide +kernel)) dX10_readNext_194 ?_
                refine s_iload_n E dX10_readNext_197 rfl rfl ?_
                refine s_iconst (v := 1) E dX10_readNext_198 (by decide) ?_
                refine z_iadd (u := z_270.toInt) (v := 1) E dX10_readNext_199 rfl (by decide) (by omega) (by omega) (fun z_279 hz_279 => ?_)
                refine s_aload_n E dX10_readNext_200 rfl rfl ?_
                refine s_ldcS (i := 28) E (by decide) rfl dX10_readNext_201 ?_
                refine s_iconst (v := 1) E dX10_readNext_203 (by decide) ?_
                refine s_bipush (v := 20) E dX10_readNext_204 (by decide) ?_
                refine s_vI (As := [AX (sA aC 28), AI 1, AI 20]) (S := [AI z_279, AR 101]) E (Z_X10_told_95 l D aC b (upI u_273 101 z_270.toNatClampNeg z_275) 1 20 hj_278.1  28 (by decide) (by omega)) cv_X10_164 rfl rfl rfl (jv_lt hj_278 (by decide)) (Nat.le_of_ble_eq_true rfl) (Nat.le_of_ble_eq_true rfl) ⟨(Nat.le_of_ble_eq_true rfl), (Nat.le_of_ble_eq_true rfl)⟩ (Nat.le_of_ble_eq_true rfl) dX10_readNext_206 (fun z_282 u_280 hp_281 => ?_)
                obtain ⟨hz_282, hxz_282, hf_u_280_101, hp_281⟩ := hp_281
                have hc_ : (1 : Int32).toInt = 1 := by decide
                have hc_ : (20 : Int32).toInt = 20 := by decide
                have hj_283 := jv_trans hj_278 hp_281
                have hfa_101_0 := congrArg Int32.toInt (congrFun hf_u_280_101 0)
                have hfa_101_4 := congrArg Int32.toInt (congrFun hf_u_280_101 4)
                have hfa_101_5 := congrArg Int32.toInt (congrFun hf_u_280_101 5)
                have hfa_101_6 := congrArg Int32.toInt (congrFun hf_u_280_101 6)
                have hfa_101_7 := congrArg Int32.toInt (congrFun hf_u_280_101 7)
                have hfa_101_9 := congrArg Int32.toInt (congrFun hf_u_280_101 9)
                have hrz_282 : 0 ≤ z_282.toInt ∧ z_282.toInt ≤ 20 := by omega
                refine s_iast E rfl (jv_lt hj_283 (by decide)) (z_in (u := z_279.toInt) rfl (by omega) (by omega)) dX10_readNext_209 ?_
                have hj_285 : Jv w (upI u_280 101 z_279.toNatClampNeg z_282) := (jv_a_101 (i := z_279) (x := z_282) hj_283 0 20 59 73 2 z_279.toInt (by decide +kernel) (by decide) rfl (by omega) (by omega) (by omega) (by have hb_ := z32 z_282; omega) (by have hb_ := z32 z_282; omega))
                have hke_ : ((upI u_280 101 z_279.toNatClampNeg z_282).2.2.1 95 7).toInt = (u_280.2.2.1 95 7).toInt := rfl
                have hke_ : ((upI u_280 101 z_279.toNatClampNeg z_282).2.2.1 95 8).toInt = (u_280.2.2.1 95 8).toInt := rfl
                have hke_ : ((upI u_280 101 z_279.toNatClampNeg z_282).2.2.1 95 9).toInt = (u_280.2.2.1 95 9).toInt := rfl
                have hke_ : ((upI u_280 101 z_279.toNatClampNeg z_282).2.2.1 95 10).toInt = (u_280.2.2.1 95 10).toInt := rfl
                have hke_ : ((upI u_280 101 z_279.toNatClampNeg z_282).2.2.1 95 12).toInt = (u_280.2.2.1 95 12).toInt := rfl
                have hke_ : ((upI u_280 101 z_279.toNatClampNeg z_282).2.2.1 101 0).toInt = (u_280.2.2.1 101 0).toInt := keep_ne (u := z_279.toInt) rfl (by omega) (by omega)
                have hke_ : ((upI u_280 101 z_279.toNatClampNeg z_282).2.2.1 101 4).toInt = (u_280.2.2.1 101 4).toInt := keep_ne (u := z_279.toInt) rfl (by omega) (by omega)
                have hke_ : ((upI u_280 101 z_279.toNatClampNeg z_282).2.2.1 101 5).toInt = (u_280.2.2.1 101 5).toInt := keep_ne (u := z_279.toInt) rfl (by omega) (by omega)
                have hke_ : ((upI u_280 101 z_279.toNatClampNeg z_282).2.2.1 101 6).toInt = (u_280.2.2.1 101 6).toInt := keep_ne (u := z_279.toInt) rfl (by omega) (by omega)
                have hke_ : ((upI u_280 101 z_279.toNatClampNeg z_282).2.2.1 101 7).toInt = (u_280.2.2.1 101 7).toInt := keep_ne (u := z_279.toInt) rfl (by omega) (by omega)
                have hke_ : ((upI u_280 101 z_279.toNatClampNeg z_282).2.2.1 101 9).toInt = (u_280.2.2.1 101 9).toInt := keep_ne (u := z_279.toInt) rfl (by omega) (by omega)
                refine s_aload_n E dX10_readNext_210 rfl rfl ?_
                refine s_gR (r := 101) E fg_X10_31 rfl rfl (jv_lt hj_285 (by decide)) (jv_r hj_285 (by decide +kernel)) dX10_readNext_211 ?_
                refine s_bipush (v := 6) E dX10_readNext_214 (by decide) ?_
                refine s_dup2 E dX10_readNext_216 ?_
                refine s_iald E rfl (jv_lt hj_285 (by decide)) (z_in (u := 6) (by decide) (by omega) (by omega)) dX10_readNext_217 ?_
                refine z_nm (P := fun z => z.toInt = ((upI u_280 101 z_279.toNatClampNeg z_282).2.2.1 101 6).toInt ∧ 0 ≤ z.toInt ∧ z.toInt ≤ 8) ⟨rfl, (rw_101_6 hj_285)⟩ (fun z_286 hz_286 => ?_)
                refine s_iconst (v := 1) E dX10_readNext_218 (by decide) ?_
                refine z_iadd (u := z_286.toInt) (v := 1) E dX10_readNext_219 rfl (by decide) (by omega) (by omega) (fun z_287 hz_287 => ?_)
                have hhz_287 : 0 ≤ z_287.toInt ∧ z_287.toInt ≤ 8 := by omega
                refine s_iast E rfl (jv_lt hj_285 (by decide)) (z_in (u := 6) (by decide) (by omega) (by omega)) dX10_readNext_220 ?_
                refine s_world (w2 := (upI (upI u_280 101 z_279.toNatClampNeg z_282) 101 6 z_287)) rfl ?_
                have hj_289 : Jv w (upI (upI u_280 101 z_279.toNatClampNeg z_282) 101 6 z_287) := (jv_a_101 (i := 6) (x := z_287) hj_285 0 8 6 6 1 6 (by decide +kernel) (by decide) (by decide) (by omega) (by omega) (by omega) (by have hb_ := z32 z_287; omega) (by have hb_ := z32 z_287; omega))
                have hke_ : ((upI (upI u_280 101 z_279.toNatClampNeg z_282) 101 6 z_287).2.2.1 95 7).toInt = ((upI u_280 101 z_279.toNatClampNeg z_282).2.2.1 95 7).toInt := rfl
                have hke_ : ((upI (upI u_280 101 z_279.toNatClampNeg z_282) 101 6 z_287).2.2.1 95 8).toInt = ((upI u_280 101 z_279.toNatClampNeg z_282).2.2.1 95 8).toInt := rfl
                have hke_ : ((upI (upI u_280 101 z_279.toNatClampNeg z_282) 101 6 z_287).2.2.1 95 9).toInt = ((upI u_280 101 z_279.toNatClampNeg z_282).2.2.1 95 9).toInt := rfl
                have hke_ : ((upI (upI u_280 101 z_279.toNatClampNeg z_282) 101 6 z_287).2.2.1 95 10).toInt = ((upI u_280 101 z_279.toNatClampNeg z_282).2.2.1 95 10).toInt := rfl
                have hke_ : ((upI (upI u_280 101 z_279.toNatClampNeg z_282) 101 6 z_287).2.2.1 95 12).toInt = ((upI u_280 101 z_279.toNatClampNeg z_282).2.2.1 95 12).toInt := rfl
                have hke_ : ((upI (upI u_280 101 z_279.toNatClampNeg z_282) 101 6 z_287).2.2.1 101 0).toInt = ((upI u_280 101 z_279.toNatClampNeg z_282).2.2.1 101 0).toInt := rfl
                have hke_ : ((upI (upI u_280 101 z_279.toNatClampNeg z_282) 101 6 z_287).2.2.1 101 4).toInt = ((upI u_280 101 z_279.toNatClampNeg z_282).2.2.1 101 4).toInt := rfl
                have hke_ : ((upI (upI u_280 101 z_279.toNatClampNeg z_282) 101 6 z_287).2.2.1 101 5).toInt = ((upI u_280 101 z_279.toNatClampNeg z_282).2.2.1 101 5).toInt := rfl
                have hke_ : ((upI (upI u_280 101 z_279.toNatClampNeg z_282) 101 6 z_287).2.2.1 101 6).toInt = z_287.toInt := rfl
                have hke_ : ((upI (upI u_280 101 z_279.toNatClampNeg z_282) 101 6 z_287).2.2.1 101 7).toInt = ((upI u_280 101 z_279.toNatClampNeg z_282).2.2.1 101 7).toInt := rfl
                have hke_ : ((upI (upI u_280 101 z_279.toNatClampNeg z_282) 101 6 z_287).2.2.1 101 9).toInt = ((upI u_280 101 z_279.toNatClampNeg z_282).2.2.1 101 9).toInt := rfl
                refine s_goto (tgt := 232) E dX10_readNext_221 (by decide) ?_
                exact r_void E dX10_readNext_232 ⟨(by omega), hj_289⟩
            ·
              have hd_ : ¬ (u_239.2.2.1 101 5).toInt = 6 := by first | exact (hq_.resolve_left (by omega)).2.1 (hT2_.mp (by omega)) | (exfalso; omega)
              refine s_bipush (v := 46) E dX10_readNext_96 (by decide) ?_
              refine s_iconst (v := 2) E dX10_readNext_98 (by decide) ?_
              refine s_aload_n E dX10_readNext_99 rfl rfl ?_
              refine s_gR (r := 101) E fg_X10_31 rfl rfl (jv_lt hj_255 (by decide)) (jv_r hj_255 (by decide +kernel)) dX10_readNext_100 ?_
              refine s_iconst (v := 5) E dX10_readNext_103 (by decide) ?_
              refine s_iald E rfl (jv_lt hj_255 (by decide)) (z_in (u := 5) (by decide) (by omega) (by omega)) dX10_readNext_104 ?_
              refine z_nm (P := fun z => z.toInt = (u_252.2.2.1 101 5).toInt ∧ 0 ≤ z.toInt ∧ z.toInt ≤ 6) ⟨rfl, (rw_101_5 hj_255)⟩ (fun z_290 hz_290 => ?_)
              refine z_imul (u := 2) (v := z_290.toInt) E dX10_readNext_105 (by decide) rfl (by omega) (by omega) (fun z_291 hz_291 => ?_)
              have hhz_291 : 0 ≤ z_291.toInt ∧ z_291.toInt ≤ 10 := by omega
              refine z_iadd (u := 46) (v := z_291.toInt) E dX10_readNext_106 (by decide) rfl (by omega) (by omega) (fun z_292 hz_292 => ?_)
              refine s_istore_n (L2 := [some (AR 95), some (AI 1), some (AI z_292)]) E dX10_readNext_107 rfl (by decide) rfl ?_
              refine s_aload_n E dX10_readNext_108 rfl rfl ?_
              refine s_gR (r := 101) E fg_X10_31 rfl rfl (jv_lt hj_255 (by decide)) (jv_r hj_255 (by decide +kernel)) dX10_readNext_109 ?_
              refine s_iload_n E dX10_readNext_112 rfl rfl ?_
              refine s_aload_n E dX10_readNext_113 rfl rfl ?_
              refine s_ldcS (i := 26) E (by decide) rfl dX10_readNext_114 ?_
              refine s_vI (As := [AX (sA aC 26)]) (S := [AI z_292, AR 101]) E (Z_X10_freshRoom_95 l D aC b u_252  hj_255.1  26 (by decide) (by omega)) cv_X10_182 rfl rfl rfl (jv_lt hj_255 (by decide)) (Nat.le_of_ble_eq_true rfl) (Nat.le_of_ble_eq_true rfl) ⟨(Nat.le_of_ble_eq_true rfl), (Nat.le_of_ble_eq_true rfl)⟩ (Nat.le_of_ble_eq_true rfl) dX10_readNext_116 (fun z_295 u_293 hp_294 => ?_)
              obtain ⟨hz_295, hxz_295, hf_u_293_101, hp_294⟩ := hp_294
              have hj_296 := jv_trans hj_255 hp_294
              have hfa_101_0 := congrArg Int32.toInt (congrFun hf_u_293_101 0)
              have hfa_101_4 := congrArg Int32.toInt (congrFun hf_u_293_101 4)
              have hfa_101_5 := congrArg Int32.toInt (congrFun hf_u_293_101 5)
              have hfa_101_6 := congrArg Int32.toInt (congrFun hf_u_293_101 6)
              have hfa_101_7 := congrArg Int32.toInt (congrFun hf_u_293_101 7)
              have hfa_101_9 := congrArg Int32.toInt (congrFun hf_u_293_101 9)
              have hrz_295 : 0 ≤ z_295.toInt ∧ z_295.toInt ≤ 7 := by omega
              have hRm_ : (u_293.2.2.1 95 12).toInt = 0 → z_295.toInt < (w.2.2.1 101 0).toInt := by intro h0_; omega
              refine s_iast E rfl (jv_lt hj_296 (by decide)) (z_in (u := z_292.toInt) rfl (by omega) (by omega)) dX10_readNext_119 ?_
              have hj_298 : Jv w (upI u_293 101 z_292.toNatClampNeg z_295) := (jv_lad0 hj_296 (by omega) (by omega) (by omega) (by have hb_ := z32 z_295; omega) (by have hb_ := z32 z_295; omega))
              have hke_ : ((upI u_293 101 z_292.toNatClampNeg z_295).2.2.1 95 7).toInt = (u_293.2.2.1 95 7).toInt := rfl
              have hke_ : ((upI u_293 101 z_292.toNatClampNeg z_295).2.2.1 95 8).toInt = (u_293.2.2.1 95 8).toInt := rfl
              have hke_ : ((upI u_293 101 z_292.toNatClampNeg z_295).2.2.1 95 9).toInt = (u_293.2.2.1 95 9).toInt := rfl
              have hke_ : ((upI u_293 101 z_292.toNatClampNeg z_295).2.2.1 95 10).toInt = (u_293.2.2.1 95 10).toInt := rfl
              have hke_ : ((upI u_293 101 z_292.toNatClampNeg z_295).2.2.1 95 12).toInt = (u_293.2.2.1 95 12).toInt := rfl
              have hke_ : ((upI u_293 101 z_292.toNatClampNeg z_295).2.2.1 101 0).toInt = (u_293.2.2.1 101 0).toInt := keep_ne (u := z_292.toInt) rfl (by omega) (by omega)
              have hke_ : ((upI u_293 101 z_292.toNatClampNeg z_295).2.2.1 101 4).toInt = (u_293.2.2.1 101 4).toInt := keep_ne (u := z_292.toInt) rfl (by omega) (by omega)
              have hke_ : ((upI u_293 101 z_292.toNatClampNeg z_295).2.2.1 101 5).toInt = (u_293.2.2.1 101 5).toInt := keep_ne (u := z_292.toInt) rfl (by omega) (by omega)
              have hke_ : ((upI u_293 101 z_292.toNatClampNeg z_295).2.2.1 101 6).toInt = (u_293.2.2.1 101 6).toInt := keep_ne (u := z_292.toInt) rfl (by omega) (by omega)
              have hke_ : ((upI u_293 101 z_292.toNatClampNeg z_295).2.2.1 101 7).toInt = (u_293.2.2.1 101 7).toInt := keep_ne (u := z_292.toInt) rfl (by omega) (by omega)
              have hke_ : ((upI u_293 101 z_292.toNatClampNeg z_295).2.2.1 101 9).toInt = (u_293.2.2.1 101 9).toInt := keep_ne (u := z_292.toInt) rfl (by omega) (by omega)
              refine s_aload_n E dX10_readNext_120 rfl rfl ?_
              refine s_gR (r := 101) E fg_X10_31 rfl rfl (jv_lt hj_298 (by decide)) (jv_r hj_298 (by decide +kernel)) dX10_readNext_121 ?_
              refine s_iload_n E dX10_readNext_124 rfl rfl ?_
              refine s_iconst (v := 1) E dX10_readNext_125 (by decide) ?_
              refine z_iadd (u := z_292.toInt) (v := 1) E dX10_readNext_126 rfl (by decide) (by omega) (by omega) (fun z_299 hz_299 => ?_)
              refine s_aload_n E dX10_readNext_127 rfl rfl ?_
              refine s_ldcS (i := 25) E (by decide) rfl dX10_readNext_128 ?_
              refine s_iconst (v := 1) E dX10_readNext_130 (by decide) ?_
              refine s_bipush (v := 9) E dX10_readNext_131 (by decide) ?_
              refine s_vI (As := [AX (sA aC 25), AI 1, AI 9]) (S := [AI z_299, AR 101]) E (Z_X10_told_95 l D aC b (upI u_293 101 z_292.toNatClampNeg z_295) 1 9 hj_298.1  25 (by decide) (by omega)) cv_X10_164 rfl rfl rfl (jv_lt hj_298 (by decide)) (Nat.le_of_ble_eq_true rfl) (Nat.le_of_ble_eq_true rfl) ⟨(Nat.le_of_ble_eq_true rfl), (Nat.le_of_ble_eq_true rfl)⟩ (Nat.le_of_ble_eq_true rfl) dX10_readNext_133 (fun z_302 u_300 hp_301 => ?_)
              obtain ⟨hz_302, hxz_302, hf_u_300_101, hp_301⟩ := hp_301
              have hc_ : (1 : Int32).toInt = 1 := by decide
              have hc_ : (9 : Int32).toInt = 9 := by decide
              have hj_303 := jv_trans hj_298 hp_301
              have hfa_101_0 := congrArg Int32.toInt (congrFun hf_u_300_101 0)
              have hfa_101_4 := congrArg Int32.toInt (congrFun hf_u_300_101 4)
              have hfa_101_5 := congrArg Int32.toInt (congrFun hf_u_300_101 5)
              have hfa_101_6 := congrArg Int32.toInt (congrFun hf_u_300_101 6)
              have hfa_101_7 := congrArg Int32.toInt (congrFun hf_u_300_101 7)
              have hfa_101_9 := congrArg Int32.toInt (congrFun hf_u_300_101 9)
              have hrz_302 : 0 ≤ z_302.toInt ∧ z_302.toInt ≤ 9 := by omega
              have hLw_ : (u_300.2.2.1 95 12).toInt = 0 → 1 ≤ z_302.toInt := by intro h0_; omega
              have fL_ := hf_u_300_101
              refine s_iast E rfl (jv_lt hj_303 (by decide)) (z_in (u := z_299.toInt) rfl (by omega) (by omega)) dX10_readNext_136 ?_
              have hj_305 : Jv w (upI u_300 101 z_299.toNatClampNeg z_302) := (jv_lad hj_303 (by omega) (by omega) (by omega) (by have hb_ := z32 z_302; omega) (by have hb_ := z32 z_302; omega))
              have hke_ : ((upI u_300 101 z_299.toNatClampNeg z_302).2.2.1 95 7).toInt = (u_300.2.2.1 95 7).toInt := rfl
              have hke_ : ((upI u_300 101 z_299.toNatClampNeg z_302).2.2.1 95 8).toInt = (u_300.2.2.1 95 8).toInt := rfl
              have hke_ : ((upI u_300 101 z_299.toNatClampNeg z_302).2.2.1 95 9).toInt = (u_300.2.2.1 95 9).toInt := rfl
              have hke_ : ((upI u_300 101 z_299.toNatClampNeg z_302).2.2.1 95 10).toInt = (u_300.2.2.1 95 10).toInt := rfl
              have hke_ : ((upI u_300 101 z_299.toNatClampNeg z_302).2.2.1 95 12).toInt = (u_300.2.2.1 95 12).toInt := rfl
              have hke_ : ((upI u_300 101 z_299.toNatClampNeg z_302).2.2.1 101 0).toInt = (u_300.2.2.1 101 0).toInt := keep_ne (u := z_299.toInt) rfl (by omega) (by omega)
              have hke_ : ((upI u_300 101 z_299.toNatClampNeg z_302).2.2.1 101 4).toInt = (u_300.2.2.1 101 4).toInt := keep_ne (u := z_299.toInt) rfl (by omega) (by omega)
              have hke_ : ((upI u_300 101 z_299.toNatClampNeg z_302).2.2.1 101 5).toInt = (u_300.2.2.1 101 5).toInt := keep_ne (u := z_299.toInt) rfl (by omega) (by omega)
              have hke_ : ((upI u_300 101 z_299.toNatClampNeg z_302).2.2.1 101 6).toInt = (u_300.2.2.1 101 6).toInt := keep_ne (u := z_299.toInt) rfl (by omega) (by omega)
              have hke_ : ((upI u_300 101 z_299.toNatClampNeg z_302).2.2.1 101 7).toInt = (u_300.2.2.1 101 7).toInt := keep_ne (u := z_299.toInt) rfl (by omega) (by omega)
              have hke_ : ((upI u_300 101 z_299.toNatClampNeg z_302).2.2.1 101 9).toInt = (u_300.2.2.1 101 9).toInt := keep_ne (u := z_299.toInt) rfl (by omega) (by omega)
              refine s_aload_n E dX10_readNext_137 rfl rfl ?_
              refine s_gR (r := 101) E fg_X10_31 rfl rfl (jv_lt hj_305 (by decide)) (jv_r hj_305 (by decide +kernel)) dX10_readNext_138 ?_
              refine s_iconst (v := 5) E dX10_readNext_141 (by decide) ?_
              refine s_dup2 E dX10_readNext_142 ?_
              refine s_iald E rfl (jv_lt hj_305 (by decide)) (z_in (u := 5) (by decide) (by omega) (by omega)) dX10_readNext_143 ?_
              refine z_nm (P := fun z => z.toInt = ((upI u_300 101 z_299.toNatClampNeg z_302).2.2.1 101 5).toInt ∧ 0 ≤ z.toInt ∧ z.toInt ≤ 6) ⟨rfl, (rw_101_5 hj_305)⟩ (fun z_306 hz_306 => ?_)
              refine s_iconst (v := 1) E dX10_readNext_144 (by decide) ?_
              refine z_iadd (u := z_306.toInt) (v := 1) E dX10_readNext_145 rfl (by decide) (by omega) (by omega) (fun z_307 hz_307 => ?_)
              have hhz_307 : 0 ≤ z_307.toInt ∧ z_307.toInt ≤ 6 := by omega
              refine s_iast E rfl (jv_lt hj_305 (by decide)) (z_in (u := 5) (by decide) (by omega) (by omega)) dX10_readNext_146 ?_
              refine s_world (w2 := (upI (upI u_300 101 z_299.toNatClampNeg z_302) 101 5 z_307)) rfl ?_
              have hj_309 : Jv w (upI (upI u_300 101 z_299.toNatClampNeg z_302) 101 5 z_307) := (jv_lad5 hj_305 (by omega) (by omega) (by omega) (lad_fin (by omega) (by omega) hLw_) (fun h0_ => lad_fin2 (N := (w.2.2.1 101 5).toInt) fL_ (by omega) (by omega) (by omega) (by omega) (by have q_ := hRm_ (by omega); omega)))
              have hke_ : ((upI (upI u_300 101 z_299.toNatClampNeg z_302) 101 5 z_307).2.2.1 95 7).toInt = ((upI u_300 101 z_299.toNatClampNeg z_302).2.2.1 95 7).toInt := rfl
              have hke_ : ((upI (upI u_300 101 z_299.toNatClampNeg z_302) 101 5 z_307).2.2.1 95 8).toInt = ((upI u_300 101 z_299.toNatClampNeg z_302).2.2.1 95 8).toInt := rfl
              have hke_ : ((upI (upI u_300 101 z_299.toNatClampNeg z_302) 101 5 z_307).2.2.1 95 9).toInt = ((upI u_300 101 z_299.toNatClampNeg z_302).2.2.1 95 9).toInt := rfl
              have hke_ : ((upI (upI u_300 101 z_299.toNatClampNeg z_302) 101 5 z_307).2.2.1 95 10).toInt = ((upI u_300 101 z_299.toNatClampNeg z_302).2.2.1 95 10).toInt := rfl
              have hke_ : ((upI (upI u_300 101 z_299.toNatClampNeg z_302) 101 5 z_307).2.2.1 95 12).toInt = ((upI u_300 101 z_299.toNatClampNeg z_302).2.2.1 95 12).toInt := rfl
              have hke_ : ((upI (upI u_300 101 z_299.toNatClampNeg z_302) 101 5 z_307).2.2.1 101 0).toInt = ((upI u_300 101 z_299.toNatClampNeg z_302).2.2.1 101 0).toInt := rfl
              have hke_ : ((upI (upI u_300 101 z_299.toNatClampNeg z_302) 101 5 z_307).2.2.1 101 4).toInt = ((upI u_300 101 z_299.toNatClampNeg z_302).2.2.1 101 4).toInt := rfl
              have hke_ : ((upI (upI u_300 101 z_299.toNatClampNeg z_302) 101 5 z_307).2.2.1 101 5).toInt = z_307.toInt := rfl
              have hke_ : ((upI (upI u_300 101 z_299.toNatClampNeg z_302) 101 5 z_307).2.2.1 101 6).toInt = ((upI u_300 101 z_299.toNatClampNeg z_302).2.2.1 101 6).toInt := rfl
              have hke_ : ((upI (upI u_300 101 z_299.toNatClampNeg z_302) 101 5 z_307).2.2.1 101 7).toInt = ((upI u_300 101 z_299.toNatClampNeg z_302).2.2.1 101 7).toInt := rfl
              have hke_ : ((upI (upI u_300 101 z_299.toNatClampNeg z_302) 101 5 z_307).2.2.1 101 9).toInt = ((upI u_300 101 z_299.toNatClampNeg z_302).2.2.1 101 9).toInt := rfl
              refine s_goto (tgt := 232) E dX10_readNext_147 (by decide) ?_
              exact r_void E dX10_readNext_232 ⟨(by omega), hj_309⟩
          ·
            have hd_ : ¬ (u_239.2.2.1 101 4).toInt = 12 := by first | exact (hq_.resolve_left (by omega)).1 (hT_.mp (by omega)) | (exfalso; omega)
            refine s_aload_n E dX10_readNext_80 rfl rfl ?_
            refine s_vV (As := []) (S := []) E (Z_X10_readDoor_95 l D aC b u_247  hj_250.1  (by omega) (by omega)) cv_X10_198 rfl rfl rfl (jv_lt hj_250 (by decide)) (Nat.le_of_ble_eq_true rfl) (Nat.le_of_ble_eq_true rfl) ⟨(Nat.le_of_ble_eq_true rfl), (Nat.le_of_ble_eq_true rfl)⟩ (Nat.le_of_ble_eq_true rfl) dX10_readNext_81 (fun u_310 hp_311 => ?_)
            obtain ⟨hx_hp_311, hp_311⟩ := hp_311
            have hj_312 := jv_trans hj_250 hp_311
            refine s_goto (tgt := 232) E dX10_readNext_84 (by decide) ?_
            exact r_void E dX10_readNext_232 ⟨(by omega), hj_312⟩
        ·
          exact r_void E dX10_readNext_70 ⟨(by omega), hj_241⟩
    ·
      refine s_aload_n E dX10_readNext_18 rfl rfl ?_
      refine s_ldcS (i := 22) E (by decide) rfl dX10_readNext_19 ?_
      refine s_vI (As := [AX (sA aC 22)]) (S := []) E (Z_X10_is_95 l D aC b w  hJ.1  22 (by decide)) cv_X10_143 rfl rfl rfl (jv_lt hJ (by decide)) (Nat.le_of_ble_eq_true rfl) (Nat.le_of_ble_eq_true rfl) ⟨(Nat.le_of_ble_eq_true rfl), (Nat.le_of_ble_eq_true rfl)⟩ (Nat.le_of_ble_eq_true rfl) dX10_readNext_21 (fun z_315 u_313 hp_314 => ?_)
      obtain ⟨hz_315, hxz_315, hp_314⟩ := hp_314
      subst hp_314
      have hw_21 := hxz_315
      refine z_if_ne (tgt := 36) (u := z_315.toInt) E dX10_readNext_24 (by decide) rfl (fun h_317 => ?_) (fun h_317 => ?_)
      ·
        refine s_iconst (v := 1) E dX10_readNext_36 (by decide) ?_
        refine s_goto (tgt := 41) E dX10_readNext_37 (by decide) ?_
        refine s_istore_n (L2 := [some (AR 95), some (AI 1), none]) E dX10_readNext_41 rfl (by decide) rfl ?_
        refine s_iload_n E dX10_readNext_42 rfl rfl ?_
        refine z_if_ne (tgt := 51) (u := 1) E dX10_readNext_43 (by decide) (by decide) (fun h_318 => ?_) (fun h_318 => absurd h_318 (by omega))
        refine s_aload_n E dX10_readNext_51 rfl rfl ?_
        refine s_vI (As := []) (S := []) E (Z_X10_isFull_95 l D aC b w  hJ.1 ) cv_X10_195 rfl rfl rfl (jv_lt hJ (by decide)) (Nat.le_of_ble_eq_true rfl) (Nat.le_of_ble_eq_true rfl) ⟨(Nat.le_of_ble_eq_true rfl), (Nat.le_of_ble_eq_true rfl)⟩ (Nat.le_of_ble_eq_true rfl) dX10_readNext_52 (fun z_321 u_319 hp_320 => ?_)
        obtain ⟨hz_321, hxz_321, hp_320⟩ := hp_320
        subst hp_320
        have hq_ := hxz_321
        refine z_if_eq (tgt := 63) (u := z_321.toInt) E dX10_readNext_55 (by decide) rfl (fun h_323 => ?_) (fun h_323 => ?_)
        ·
          refine s_aload_n E dX10_readNext_63 rfl rfl ?_
          refine s_vI (As := []) (S := []) E (Z_X10_good_95 l D aC b w  hJ.1 ) cv_X10_130 rfl rfl rfl (jv_lt hJ (by decide)) (Nat.le_of_ble_eq_true rfl) (Nat.le_of_ble_eq_true rfl) ⟨(Nat.le_of_ble_eq_true rfl), (Nat.le_of_ble_eq_true rfl)⟩ (Nat.le_of_ble_eq_true rfl) dX10_readNext_64 (fun z_326 u_324 hp_325 => ?_)
          obtain ⟨hz_326, hxz_326, hp_325⟩ := hp_325
          subst hp_325
          refine z_if_ne (tgt := 71) (u := z_326.toInt) E dX10_readNext_67 (by decide) rfl (fun h_328 => ?_) (fun h_328 => ?_)
          ·
            have hn4_ := rw_101_4 hJ
            have hn5_ := rw_101_5 hJ
            have hn6_ := rw_101_6 hJ
            have hn7_ := rw_101_7 hJ
            refine s_aload_n E dX10_readNext_71 rfl rfl ?_
            refine s_ldcS (i := 20) E (by decide) rfl dX10_readNext_72 ?_
            refine s_vI (As := [AX (sA aC 20)]) (S := []) E (Z_X10_takes_95 l D aC b w  hJ.1  20 (by decide) (by omega)) cv_X10_150 rfl rfl rfl (jv_lt hJ (by decide)) (Nat.le_of_ble_eq_true rfl) (Nat.le_of_ble_eq_true rfl) ⟨(Nat.le_of_ble_eq_true rfl), (Nat.le_of_ble_eq_true rfl)⟩ (Nat.le_of_ble_eq_true rfl) dX10_readNext_74 (fun z_331 u_329 hp_330 => ?_)
            obtain ⟨hz_331, hxz_331, hf_u_329_101, hp_330⟩ := hp_330
            have hj_332 := jv_trans hJ hp_330
            have hfa_101_0 := congrArg Int32.toInt (congrFun hf_u_329_101 0)
            have hfa_101_4 := congrArg Int32.toInt (congrFun hf_u_329_101 4)
            have hfa_101_5 := congrArg Int32.toInt (congrFun hf_u_329_101 5)
            have hfa_101_6 := congrArg Int32.toInt (congrFun hf_u_329_101 6)
            have hfa_101_7 := congrArg Int32.toInt (congrFun hf_u_329_101 7)
            have hfa_101_9 := congrArg Int32.toInt (congrFun hf_u_329_101 9)
            have hT_ := hxz_331.1
            have hE_ := hxz_331.2.1
            refine z_if_eq (tgt := 87) (u := z_331.toInt) E dX10_readNext_77 (by decide) rfl (fun h_333 => ?_) (fun h_333 => ?_)
            ·
              have hE1_ : w = u_329 := hE_.resolve_left (by omega)
              refine s_aload_n E dX10_readNext_87 rfl rfl ?_
              refine s_ldcS (i := 21) E (by decide) rfl dX10_readNext_88 ?_
              refine s_vI (As := [AX (sA aC 21)]) (S := []) E (Z_X10_takes_95 l D aC b u_329  hj_332.1  21 (by decide) (by omega)) cv_X10_150 rfl rfl rfl (jv_lt hj_332 (by decide)) (Nat.le_of_ble_eq_true rfl) (Nat.le_of_ble_eq_true rfl) ⟨(Nat.le_of_ble_eq_true rfl), (Nat.le_of_ble_eq_true rfl)⟩ (Nat.le_of_ble_eq_true rfl) dX10_readNext_90 (fun z_336 u_334 hp_335 => ?_)
              obtain ⟨hz_336, hxz_336, hf_u_334_101, hp_335⟩ := hp_335
              have hj_337 := jv_trans hj_332 hp_335
              have hfa_101_0 := congrArg Int32.toInt (congrFun hf_u_334_101 0)
              have hfa_101_4 := congrArg Int32.toInt (congrFun hf_u_334_101 4)
              have hfa_101_5 := congrArg Int32.toInt (congrFun hf_u_334_101 5)
              have hfa_101_6 := congrArg Int32.toInt (congrFun hf_u_334_101 6)
              have hfa_101_7 := congrArg Int32.toInt (congrFun hf_u_334_101 7)
              have hfa_101_9 := congrArg Int32.toInt (congrFun hf_u_334_101 9)
              have hT2_ := hxz_336.1
              rw [← hE1_] at hT2_
              have hF_ := hxz_336.2.1
              refine z_if_eq (tgt := 150) (u := z_336.toInt) E dX10_readNext_93 (by decide) rfl (fun h_338 => ?_) (fun h_338 => ?_)
              ·
                have hE2_ : w = u_334 := hE1_.trans (hF_.resolve_left (by omega))
                refine s_aload_n E dX10_readNext_150 rfl rfl ?_
                refine s_ldcS (i := 22) E (by decide) rfl dX10_readNext_151 ?_
                refine s_vI (As := [AX (sA aC 22)]) (S := []) E (Z_X10_takes_95 l D aC b u_334  hj_337.1  22 (by decide) (by omega)) cv_X10_150 rfl rfl rfl (jv_lt hj_337 (by decide)) (Nat.le_of_ble_eq_true rfl) (Nat.le_of_ble_eq_true rfl) ⟨(Nat.le_of_ble_eq_true rfl), (Nat.le_of_ble_eq_true rfl)⟩ (Nat.le_of_ble_eq_true rfl) dX10_readNext_153 (fun z_341 u_339 hp_340 => ?_)
                obtain ⟨hz_341, hxz_341, hf_u_339_101, hp_340⟩ := hp_340
                have hj_342 := jv_trans hj_337 hp_340
                have hfa_101_0 := congrArg Int32.toInt (congrFun hf_u_339_101 0)
                have hfa_101_4 := congrArg Int32.toInt (congrFun hf_u_339_101 4)
                have hfa_101_5 := congrArg Int32.toInt (congrFun hf_u_339_101 5)
                have hfa_101_6 := congrArg Int32.toInt (congrFun hf_u_339_101 6)
                have hfa_101_7 := congrArg Int32.toInt (congrFun hf_u_339_101 7)
                have hfa_101_9 := congrArg Int32.toInt (congrFun hf_u_339_101 9)
                have hT3_ := hxz_341.1
                rw [← hE2_] at hT3_
                have hG_ := hxz_341.2.1
                refine z_if_eq (tgt := 224) (u := z_341.toInt) E dX10_readNext_156 (by decide) rfl (fun h_343 => ?_) (fun h_343 => ?_)
                ·
                  have hd_ : ¬ (w.2.2.1 101 7).toInt = 10 := by first | exact (hq_.resolve_left (by omega)).2.2.2 (hw_30.mp (by omega)) | (exfalso; exact absurd (hT_.mpr (hw_3.mp (by omega))) (by omega)) | (exfalso; exact absurd (hT2_.mpr (hw_12.mp (by omega))) (by omega)) | (exfalso; exact absurd (hT3_.mpr (hw_21.mp (by omega))) (by omega)) | (exfalso; omega)
                  refine s_aload_n E dX10_readNext_224 rfl rfl ?_
                  refine s_vV (As := []) (S := []) E (Z_X10_advance_95 l D aC b u_339  hj_342.1 ) cv_X10_147 rfl rfl rfl (jv_lt hj_342 (by decide)) (Nat.le_of_ble_eq_true rfl) (Nat.le_of_ble_eq_true rfl) ⟨(Nat.le_of_ble_eq_true rfl), (Nat.le_of_ble_eq_true rfl)⟩ (Nat.le_of_ble_eq_true rfl) dX10_readNext_225 (fun u_344 hp_345 => ?_)
                  obtain ⟨hx_hp_345, hf_u_344_99, hf_u_344_101, hp_345⟩ := hp_345
                  have hj_346 := jv_trans hj_342 hp_345
                  have hfa_101_0 := congrArg Int32.toInt (congrFun hf_u_344_101 0)
                  have hfa_101_4 := congrArg Int32.toInt (congrFun hf_u_344_101 4)
                  have hfa_101_5 := congrArg Int32.toInt (congrFun hf_u_344_101 5)
                  have hfa_101_6 := congrArg Int32.toInt (congrFun hf_u_344_101 6)
                  have hfa_101_7 := congrArg Int32.toInt (congrFun hf_u_344_101 7)
                  have hfa_101_9 := congrArg Int32.toInt (congrFun hf_u_344_101 9)
                  refine s_aload_n E dX10_readNext_228 rfl rfl ?_
                  refine s_vV (As := []) (S := []) E (Z_X10_readBid_95 l D aC b u_344  hj_346.1  (by omega) (by omega)) cv_X10_206 rfl rfl rfl (jv_lt hj_346 (by decide)) (Nat.le_of_ble_eq_true rfl) (Nat.le_of_ble_eq_true rfl) ⟨(Nat.le_of_ble_eq_true rfl), (Nat.le_of_ble_eq_true rfl)⟩ (Nat.le_of_ble_eq_true rfl) dX10_readNext_229 (fun u_347 hp_348 => ?_)
                  obtain ⟨hx_hp_348, hp_348⟩ := hp_348
                  have hj_349 := jv_trans hj_346 hp_348
                  exact r_void E dX10_readNext_232 ⟨(by omega), hj_349⟩
                ·
                  have hd_ : ¬ (w.2.2.1 101 6).toInt = 8 := by first | exact (hq_.resolve_left (by omega)).2.2.1 (hT3_.mp (by omega)) | (exfalso; omega)
                  refine s_bipush (v := 58) E dX10_readNext_159 (by decide) ?_
                  refine s_iconst (v := 2) E dX10_readNext_161 (by decide) ?_
                  refine s_aload_n E dX10_readNext_162 rfl rfl ?_
                  refine s_gR (r := 101) E fg_X10_31 rfl rfl (jv_lt hj_342 (by decide)) (jv_r hj_342 (by decide +kernel)) dX10_readNext_163 ?_
                  refine s_bipush (v := 6) E dX10_readNext_166 (by decide) ?_
                  refine s_iald E rfl (jv_lt hj_342 (by decide)) (z_in (u := 6) (by decide) (by omega) (by omega)) dX10_readNext_168 ?_
                  refine z_nm (P := fun z => z.toInt = (u_339.2.2.1 101 6).toInt ∧ 0 ≤ z.toInt ∧ z.toInt ≤ 8) ⟨rfl, (rw_101_6 hj_342)⟩ (fun z_350 hz_350 => ?_)
                  refine z_imul (u := 2) (v := z_350.toInt) E dX10_readNext_169 (by decide) rfl (by omega) (by omega) (fun z_351 hz_351 => ?_)
                  have hhz_351 : 0 ≤ z_351.toInt ∧ z_351.toInt ≤ 14 := by omega
                  refine z_iadd (u := 58) (v := z_351.toInt) E dX10_readNext_170 (by decide) rfl (by omega) (by omega) (fun z_352 hz_352 => ?_)
                  refine s_istore_n (L2 := [some (AR 95), some (AI 1), some (AI z_352)]) E dX10_readNext_171 rfl (by decide) rfl ?_
                  refine s_aload_n E dX10_readNext_172 rfl rfl ?_
                  refine s_gR (r := 101) E fg_X10_31 rfl rfl (jv_lt hj_342 (by decide)) (jv_r hj_342 (by decide +kernel)) dX10_readNext_173 ?_
                  refine s_iload_n E dX10_readNext_176 rfl rfl ?_
                  refine s_aload_n E dX10_readNext_177 rfl rfl ?_
                  refine s_ldcS (i := 27) E (by decide) rfl dX10_readNext_178 ?_
                  refine s_iconst (v := 0) E dX10_readNext_180 (by decide) ?_
                  refine s_aload_n E dX10_readNext_181 rfl rfl ?_
                  refine s_gR (r := 101) E fg_X10_31 rfl rfl (jv_lt hj_342 (by decide)) (jv_r hj_342 (by decide +kernel)) dX10_readNext_182 ?_
                  refine s_iconst (v := 5) E dX10_readNext_185 (by decide) ?_
                  refine s_iald E rfl (jv_lt hj_342 (by decide)) (z_in (u := 5) (by decide) (by omega) (by omega)) dX10_readNext_186 ?_
                  refine z_nm (P := fun z => z.toInt = (u_339.2.2.1 101 5).toInt ∧ 0 ≤ z.toInt ∧ z.toInt ≤ 6) ⟨rfl, (rw_101_5 hj_342)⟩ (fun z_353 hz_353 => ?_)
                  refine s_iconst (v := 1) E dX10_readNext_187 (by decide) ?_
                  refine z_isub (u := z_353.toInt) (v := 1) E dX10_readNext_188 rfl (by decide) (by omega) (by omega) (fun z_354 hz_354 => ?_)
                  refine s_vI (As := [AX (sA aC 27), AI 0, AI z_354]) (S := [AI z_352, AR 101]) E (Z_X10_told_95 l D aC b u_339 0 z_354 hj_342.1  27 (by decide) (by omega)) cv_X10_164 rfl rfl rfl (jv_lt hj_342 (by decide)) (Nat.le_of_ble_eq_true rfl) (Nat.le_of_ble_eq_true rfl) ⟨(Nat.le_of_ble_eq_true rfl), (Nat.le_of_ble_eq_true rfl)⟩ (Nat.le_of_ble_eq_true rfl) dX10_readNext_189 (fun z_357 u_355 hp_356 => ?_)
                  obtain ⟨hz_357, hxz_357, hf_u_355_101, hp_356⟩ := hp_356
                  have hc_ : (0 : Int32).toInt = 0 := by decide
                  have hj_358 := jv_trans hj_342 hp_356
                  have hfa_101_0 := congrArg Int32.toInt (congrFun hf_u_355_101 0)
                  have hfa_101_4 := congrArg Int32.toInt (congrFun hf_u_355_101 4)
                  have hfa_101_5 := congrArg Int32.toInt (congrFun hf_u_355_101 5)
                  have hfa_101_6 := congrArg Int32.toInt (congrFun hf_u_355_101 6)
                  have hfa_101_7 := congrArg Int32.toInt (congrFun hf_u_355_101 7)
                  have hfa_101_9 := congrArg Int32.toInt (congrFun hf_u_355_101 9)
                  have hrz_357 : 0 ≤ z_357.toInt ∧ z_357.toInt ≤ 5 := by omega
                  refine s_iast E rfl (jv_lt hj_358 (by decide)) (z_in (u := z_352.toInt) rfl (by omega) (by omega)) dX10_readNext_192 ?_
                  have hj_360 : Jv w (upI u_355 101 z_352.toNatClampNeg z_357) := (jv_a_101 (i := z_352) (x := z_357) hj_358 0 5 58 72 2 z_352.toInt (by decide +kernel) (by decide) rfl (by omega) (by omega) (by omega) (by have hb_ := z32 z_357; omega) (by have hb_ := z32 z_357; omega))
                  have hke_ : ((upI u_355 101 z_352.toNatClampNeg z_357).2.2.1 95 7).toInt = (u_355.2.2.1 95 7).toInt := rfl
                  have hke_ : ((upI u_355 101 z_352.toNatClampNeg z_357).2.2.1 95 8).toInt = (u_355.2.2.1 95 8).toInt := rfl
                  have hke_ : ((upI u_355 101 z_352.toNatClampNeg z_357).2.2.1 95 9).toInt = (u_355.2.2.1 95 9).toInt := rfl
                  have hke_ : ((upI u_355 101 z_352.toNatClampNeg z_357).2.2.1 95 10).toInt = (u_355.2.2.1 95 10).toInt := rfl
                  have hke_ : ((upI u_355 101 z_352.toNatClampNeg z_357).2.2.1 95 12).toInt = (u_355.2.2.1 95 12).toInt := rfl
                  have hke_ : ((upI u_355 101 z_352.toNatClampNeg z_357).2.2.1 101 0).toInt = (u_355.2.2.1 101 0).toInt := keep_ne (u := z_352.toInt) rfl (by omega) (by omega)
                  have hke_ : ((upI u_355 101 z_352.toNatClampNeg z_357).2.2.1 101 4).toInt = (u_355.2.2.1 101 4).toInt := keep_ne (u := z_352.toInt) rfl (by omega) (by omega)
                  have hke_ : ((upI u_355 101 z_352.toNatClampNeg z_357).2.2.1 101 5).toInt = (u_355.2.2.1 101 5).toInt := keep_ne (u := z_352.toInt) rfl (by omega) (by omega)
                  have hke_ : ((upI u_355 101 z_352.toNatClampNeg z_357).2.2.1 101 6).toInt = (u_355.2.2.1 101 6).toInt := keep_ne (u := z_352.toInt) rfl (by omega) (by omega)
                  have hke_ : ((upI u_355 101 z_352.toNatClampNeg z_357).2.2.1 101 7).toInt = (u_355.2.2.1 101 7).toInt := keep_ne (u := z_352.toInt) rfl (by omega) (by omega)
                  have hke_ : ((upI u_355 101 z_352.toNatClampNeg z_357).2.2.1 101 9).toInt = (u_355.2.2.1 101 9).toInt := keep_ne (u := z_352.toInt) rfl (by omega) (by omega)
                  refine s_aload_n E dX10_readNext_193 rfl rfl ?_
                  refine s_gR (r := 101) E fg_X10_31 rfl rfl (jv_lt hj_360 (by decide)) (jv_r hj_360 (by decide +kernel)) dX10_readNext_194 ?_
                  refine s_iload_n E dX10_readNext_197 rfl rfl ?_
                  refine s_iconst (v := 1) E dX10_readNext_198 (by decide) ?_
                  refine z_iadd (u := z_352.toInt) (v := 1) E dX10_readNext_199 rfl (by decide) (by omega) (by omega) (fun z_361 hz_361 => ?_)
                  refine s_aload_n E dX10_readNext_200 rfl rfl ?_
                  refine s_ldcS (i := 28) E (by decide) rfl dX10_readNext_201 ?_
                  refine s_iconst (v := 1) E dX10_readNext_203 (by decide) ?_
                  refine s_bipush (v := 20) E dX10_readNext_204 (by decide) ?_
                  refine s_vI (As := [AX (sA aC 28), AI 1, AI 20]) (S := [AI z_361, AR 101]) E (Z_X10_told_95 l D aC b (upI u_355 101 z_352.toNatClampNeg z_357) 1 20 hj_360.1  28 (by decide) (by omega)) cv_X10_164 rfl rfl rfl (jv_lt hj_360 (by decide)) (Nat.le_of_ble_eq_true rfl) (Nat.le_of_ble_eq_true rfl) ⟨(Nat.le_of_ble_eq_true rfl), (Nat.le_of_ble_eq_true rfl)⟩ (Nat.le_of_ble_eq_true rfl) dX10_readNext_206 (fun z_364 u_362 hp_363 => ?_)
                  obtain ⟨hz_364, hxz_364, hf_u_362_101, hp_363⟩ := hp_363
                  have hc_ : (1 : Int32).toInt = 1 := by decide
                  have hc_ : (20 : Int32).toInt = 20 := by decide
                  have hj_365 := jv_trans hj_360 hp_363
                  have hfa_101_0 := congrArg Int32.toInt (congrFun hf_u_362_101 0)
                  have hfa_101_4 := congrArg Int32.toInt (congrFun hf_u_362_101 4)
                  have hfa_101_5 := congrArg Int32.toInt (congrFun hf_u_362_101 5)
                  have hfa_101_6 := congrArg Int32.toInt (congrFun hf_u_362_101 6)
                  have hfa_101_7 := congrArg Int32.toInt (congrFun hf_u_362_101 7)
                  have hfa_101_9 := congrArg Int32.toInt (congrFun hf_u_362_101 9)
                  have hrz_364 : 0 ≤ z_364.toInt ∧ z_364.toInt ≤ 20 := by omega
                  refine s_iast E rfl (jv_lt hj_365 (by decide)) (z_in (u := z_361.toInt) rfl (by omega) (by omega)) dX10_readNext_209 ?_
                  have hj_367 : Jv w (upI u_362 101 z_361.toNatClampNeg z_364) := (jv_a_101 (i := z_361) (x := z_364) hj_365 0 20 59 73 2 z_361.toInt (by decide +kernel) (by decide) rfl (by omega) (by omega) (by omega) (by have hb_ := z32 z_364; omega) (by have hb_ := z32 z_364; omega))
                  have hke_ : ((upI u_362 101 z_361.toNatClampNeg z_364).2.2.1 95 7).toInt = (u_362.2.2.1 95 7).toInt := rfl
                  have hke_ : ((upI u_362 101 z_361.toNatClampNeg z_364).2.2.1 95 8).toInt = (u_362.2.2.1 95 8).toInt := rfl
                  have hke_ : ((upI u_362 101 z_361.toNatClampNeg z_364).2.2.1 95 9).toInt = (u_362.2.2.1 95 9).toInt := rfl
                  have hke_ : ((upI u_362 101 z_361.toNatClampNeg z_364).2.2.1 95 10).toInt = (u_362.2.2.1 95 10).toInt := rfl
                  have hke_ : ((upI u_362 101 z_361.toNatClampNeg z_364).2.2.1 95 12).toInt = (u_362.2.2.1 95 12).toInt := rfl
                  have hke_ : ((upI u_362 101 z_361.toNatClampNeg z_364).2.2.1 101 0).toInt = (u_362.2.2.1 101 0).toInt := keep_ne (u := z_361.toInt) rfl (by omega) (by omega)
                  have hke_ : ((upI u_362 101 z_361.toNatClampNeg z_364).2.2.1 101 4).toInt = (u_362.2.2.1 101 4).toInt := keep_ne (u := z_361.toInt) rfl (by omega) (by omega)
                  have hke_ : ((upI u_362 101 z_361.toNatClampNeg z_364).2.2.1 101 5).toInt = (u_362.2.2.1 101 5).toInt := keep_ne (u := z_361.toInt) rfl (by omega) (by omega)
                  have hke_ : ((upI u_362 101 z_361.toNatClampNeg z_364).2.2.1 101 6).toInt = (u_362.2.2.1 101 6).toInt := keep_ne (u := z_361.toInt) rfl (by omega) (by omega)
                  have hke_ : ((upI u_362 101 z_361.toNatClampNeg z_364).2.2.1 101 7).toInt = (u_362.2.2.1 101 7).toInt := keep_ne (u := z_361.toInt) rfl (by omega) (by omega)
                  have hke_ : ((upI u_362 101 z_361.toNatClampNeg z_364).2.2.1 101 9).toInt = (u_362.2.2.1 101 9).toInt := keep_ne (u := z_361.toInt) rfl (by omega) (by omega)
                  refine s_aload_n E dX10_readNext_210 rfl rfl ?_
                  refine s_gR (r := 101) E fg_X10_31 rfl rfl (jv_lt hj_367 (by decide)) (jv_r hj_367 (by decide +kernel)) dX10_readNext_211 ?_
                  refine s_bipush (v := 6) E dX10_readNext_214 (by decide) ?_
                  refine s_dup2 E dX10_readNext_216 ?_
                  refine s_iald E rfl (jv_lt hj_367 (by decide)) (z_in (u := 6) (by decide) (by omega) (by omega)) dX10_readNext_217 ?_
                  refine z_nm (P := fun z => z.toInt = ((upI u_362 101 z_361.toNatClampNeg z_364).2.2.1 101 6).toInt ∧ 0 ≤ z.toInt ∧ z.toInt ≤ 8) ⟨rfl, (rw_101_6 hj_367)⟩ (fun z_368 hz_368 => ?_)
                  refine s_iconst (v := 1) E dX10_readNext_218 (by decide) ?_
                  refine z_iadd (u := z_368.toInt) (v := 1) E dX10_readNext_219 rfl (by decide) (by omega) (by omega) (fun z_369 hz_369 => ?_)
                  have hhz_369 : 0 ≤ z_369.toInt ∧ z_369.toInt ≤ 8 := by omega
                  refine s_iast E rfl (jv_lt hj_367 (by decide)) (z_in (u := 6) (by decide) (by omega) (by omega)) dX10_readNext_220 ?_
                  refine s_world (w2 := (upI (upI u_362 101 z_361.toNatClampNeg z_364) 101 6 z_369)) rfl ?_
                  have hj_371 : Jv w (upI (upI u_362 101 z_361.toNatClampNeg z_364) 101 6 z_369) := (jv_a_101 (i := 6) (x := z_369) hj_367 0 8 6 6 1 6 (by decide +kernel) (by decide) (by decide) (by omega) (by omega) (by omega) (by have hb_ := z32 z_369; omega) (by have hb_ := z32 z_369; omega))
                  have hke_ : ((upI (upI u_362 101 z_361.toNatClampNeg z_364) 101 6 z_369).2.2.1 95 7).toInt = ((upI u_362 101 z_361.toNatClampNeg z_364).2.2.1 95 7).toInt := rfl
                  have hke_ : ((upI (upI u_362 101 z_361.toNatClampNeg z_364) 101 6 z_369).2.2.1 95 8).toInt = ((upI u_362 101 z_361.toNatClampNeg z_364).2.2.1 95 8).toInt := rfl
                  have hke_ : ((upI (upI u_362 101 z_361.toNatClampNeg z_364) 101 6 z_369).2.2.1 95 9).toInt = ((upI u_362 101 z_361.toNatClampNeg z_364).2.2.1 95 9).toInt := rfl
                  have hke_ : ((upI (upI u_362 101 z_361.toNatClampNeg z_364) 101 6 z_369).2.2.1 95 10).toInt = ((upI u_362 101 z_361.toNatClampNeg z_364).2.2.1 95 10).toInt := rfl
                  have hke_ : ((upI (upI u_362 101 z_361.toNatClampNeg z_364) 101 6 z_369).2.2.1 95 12).toInt = ((upI u_362 101 z_361.toNatClampNeg z_364).2.2.1 95 12).toInt := rfl
                  have hke_ : ((upI (upI u_362 101 z_361.toNatClampNeg z_364) 101 6 z_369).2.2.1 101 0).toInt = ((upI u_362 101 z_361.toNatClampNeg z_364).2.2.1 101 0).toInt := rfl
                  have hke_ : ((upI (upI u_362 101 z_361.toNatClampNeg z_364) 101 6 z_369).2.2.1 101 4).toInt = ((upI u_362 101 z_361.toNatClampNeg z_364).2.2.1 101 4).toInt := rfl
                  have hke_ : ((upI (upI u_362 101 z_361.toNatClampNeg z_364) 101 6 z_369).2.2.1 101 5).toInt = ((upI u_362 101 z_361.toNatClampNeg z_364).2.2.1 101 5).toInt := rfl
                  have hke_ : ((upI (upI u_362 101 z_361.toNatClampNeg z_364) 101 6 z_369).2.2.1 101 6).toInt = z_369.toInt := rfl
                  have hke_ : ((upI (upI u_362 101 z_361.toNatClampNeg z_364) 101 6 z_369).2.2.1 101 7).toInt = ((upI u_362 101 z_361.toNatClampNeg z_364).2.2.1 101 7).toInt := rfl
                  have hke_ : ((upI (upI u_362 101 z_361.toNatClampNeg z_364) 101 6 z_369).2.2.1 101 9).toInt = ((upI u_362 101 z_361.toNatClampNeg z_364).2.2.1 101 9).toInt := rfl
                  refine s_goto (tgt := 232) E dX10_readNext_221 (by decide) ?_
                  exact r_void E dX10_readNext_232 ⟨(by omega), hj_371⟩
              ·
                have hd_ : ¬ (w.2.2.1 101 5).toInt = 6 := by first | exact (hq_.resolve_left (by omega)).2.1 (hT2_.mp (by omega)) | (exfalso; omega)
                refine s_bipush (v := 46) E dX10_readNext_96 (by decide) ?_
                refine s_iconst (v := 2) E dX10_readNext_98 (by decide) ?_
                refine s_aload_n E dX10_readNext_99 rfl rfl ?_
                refine s_gR (r := 101) E fg_X10_31 rfl rfl (jv_lt hj_337 (by decide)) (jv_r hj_337 (by decide +kernel)) dX10_readNext_100 ?_
                refine s_iconst (v := 5) E dX10_readNext_103 (by decide) ?_
                refine s_iald E rfl (jv_lt hj_337 (by decide)) (z_in (u := 5) (by decide) (by omega) (by omega)) dX10_readNext_104 ?_
                refine z_nm (P := fun z => z.toInt = (u_334.2.2.1 101 5).toInt ∧ 0 ≤ z.toInt ∧ z.toInt ≤ 6) ⟨rfl, (rw_101_5 hj_337)⟩ (fun z_372 hz_372 => ?_)
                refine z_imul (u := 2) (v := z_372.toInt) E dX10_readNext_105 (by decide) rfl (by omega) (by omega) (fun z_373 hz_373 => ?_)
                have hhz_373 : 0 ≤ z_373.toInt ∧ z_373.toInt ≤ 10 := by omega
                refine z_iadd (u := 46) (v := z_373.toInt) E dX10_readNext_106 (by decide) rfl (by omega) (by omega) (fun z_374 hz_374 => ?_)
                refine s_istore_n (L2 := [some (AR 95), some (AI 1), some (AI z_374)]) E dX10_readNext_107 rfl (by decide) rfl ?_
                refine s_aload_n E dX10_readNext_108 rfl rfl ?_
                refine s_gR (r := 101) E fg_X10_31 rfl rfl (jv_lt hj_337 (by decide)) (jv_r hj_337 (by decide +kernel)) dX10_readNext_109 ?_
                refine s_iload_n E dX10_readNext_112 rfl rfl ?_
                refine s_aload_n E dX10_readNext_113 rfl rfl ?_
                refine s_ldcS (i := 26) E (by decide) rfl dX10_readNext_114 ?_
                refine s_vI (As := [AX (sA aC 26)]) (S := [AI z_374, AR 101]) E (Z_X10_freshRoom_95 l D aC b u_334  hj_337.1  26 (by decide) (by omega)) cv_X10_182 rfl rfl rfl (jv_lt hj_337 (by decide)) (Nat.le_of_ble_eq_true rfl) (Nat.le_of_ble_eq_true rfl) ⟨(Nat.le_of_ble_eq_true rfl), (Nat.le_of_ble_eq_true rfl)⟩ (Nat.le_of_ble_eq_true rfl) dX10_readNext_116 (fun z_377 u_375 hp_376 => ?_)
                obtain ⟨hz_377, hxz_377, hf_u_375_101, hp_376⟩ := hp_376
                have hj_378 := jv_trans hj_337 hp_376
                have hfa_101_0 := congrArg Int32.toInt (congrFun hf_u_375_101 0)
                have hfa_101_4 := congrArg Int32.toInt (congrFun hf_u_375_101 4)
                have hfa_101_5 := congrArg Int32.toInt (congrFun hf_u_375_101 5)
                have hfa_101_6 := congrArg Int32.toInt (congrFun hf_u_375_101 6)
                have hfa_101_7 := congrArg Int32.toInt (congrFun hf_u_375_101 7)
                have hfa_101_9 := congrArg Int32.toInt (congrFun hf_u_375_101 9)
                have hrz_377 : 0 ≤ z_377.toInt ∧ z_377.toInt ≤ 7 := by omega
                have hRm_ : (u_375.2.2.1 95 12).toInt = 0 → z_377.toInt < (w.2.2.1 101 0).toInt := by intro h0_; omega
                refine s_iast E rfl (jv_lt hj_378 (by decide)) (z_in (u := z_374.toInt) rfl (by omega) (by omega)) dX10_readNext_119 ?_
                have hj_380 : Jv w (upI u_375 101 z_374.toNatClampNeg z_377) := (jv_lad0 hj_378 (by omega) (by omega) (by omega) (by have hb_ := z32 z_377; omega) (by have hb_ := z32 z_377; omega))
                have hke_ : ((upI u_375 101 z_374.toNatClampNeg z_377).2.2.1 95 7).toInt = (u_375.2.2.1 95 7).toInt := rfl
                have hke_ : ((upI u_375 101 z_374.toNatClampNeg z_377).2.2.1 95 8).toInt = (u_375.2.2.1 95 8).toInt := rfl
                have hke_ : ((upI u_375 101 z_374.toNatClampNeg z_377).2.2.1 95 9).toInt = (u_375.2.2.1 95 9).toInt := rfl
                have hke_ : ((upI u_375 101 z_374.toNatClampNeg z_377).2.2.1 95 10).toInt = (u_375.2.2.1 95 10).toInt := rfl
                have hke_ : ((upI u_375 101 z_374.toNatClampNeg z_377).2.2.1 95 12).toInt = (u_375.2.2.1 95 12).toInt := rfl
                have hke_ : ((upI u_375 101 z_374.toNatClampNeg z_377).2.2.1 101 0).toInt = (u_375.2.2.1 101 0).toInt := keep_ne (u := z_374.toInt) rfl (by omega) (by omega)
                have hke_ : ((upI u_375 101 z_374.toNatClampNeg z_377).2.2.1 101 4).toInt = (u_375.2.2.1 101 4).toInt := keep_ne (u := z_374.toInt) rfl (by omega) (by omega)
                have hke_ : ((upI u_375 101 z_374.toNatClampNeg z_377).2.2.1 101 5).toInt = (u_375.2.2.1 101 5).toInt := keep_ne (u := z_374.toInt) rfl (by omega) (by omega)
                have hke_ : ((upI u_375 101 z_374.toNatClampNeg z_377).2.2.1 101 6).toInt = (u_375.2.2.1 101 6).toInt := keep_ne (u := z_374.toInt) rfl (by omega) (by omega)
                have hke_ : ((upI u_375 101 z_374.toNatClampNeg z_377).2.2.1 101 7).toInt = (u_375.2.2.1 101 7).toInt := keep_ne (u := z_374.toInt) rfl (by omega) (by omega)
                have hke_ : ((upI u_375 101 z_374.toNatClampNeg z_377).2.2.1 101 9).toInt = (u_375.2.2.1 101 9).toInt := keep_ne (u := z_374.toInt) rfl (by omega) (by omega)
                refine s_aload_n E dX10_readNext_120 rfl rfl ?_
                refine s_gR (r := 101) E fg_X10_31 rfl rfl (jv_lt hj_380 (by decide)) (jv_r hj_380 (by decide +kernel)) dX10_readNext_121 ?_
                refine s_iload_n E dX10_readNext_124 rfl rfl ?_
                refine s_iconst (v := 1) E dX10_readNext_125 (by decide) ?_
                refine z_iadd (u := z_374.toInt) (v := 1) E dX10_readNext_126 rfl (by decide) (by omega) (by omega) (fun z_381 hz_381 => ?_)
                refine s_aload_n E dX10_readNext_127 rfl rfl ?_
                refine s_ldcS (i := 25) E (by decide) rfl dX10_readNext_128 ?_
                refine s_iconst (v := 1) E dX10_readNext_130 (by decide) ?_
                refine s_bipush (v := 9) E dX10_readNext_131 (by decide) ?_
                refine s_vI (As := [AX (sA aC 25), AI 1, AI 9]) (S := [AI z_381, AR 101]) E (Z_X10_told_95 l D aC b (upI u_375 101 z_374.toNatClampNeg z_377) 1 9 hj_380.1  25 (by decide) (by omega)) cv_X10_164 rfl rfl rfl (jv_lt hj_380 (by decide)) (Nat.le_of_ble_eq_true rfl) (Nat.le_of_ble_eq_true rfl) ⟨(Nat.le_of_ble_eq_true rfl), (Nat.le_of_ble_eq_true rfl)⟩ (Nat.le_of_ble_eq_true rfl) dX10_readNext_133 (fun z_384 u_382 hp_383 => ?_)
                obtain ⟨hz_384, hxz_384, hf_u_382_101, hp_383⟩ := hp_383
                have hc_ : (1 : Int32).toInt = 1 := by decide
                have hc_ : (9 : Int32).toInt = 9 := by decide
                have hj_385 := jv_trans hj_380 hp_383
                have hfa_101_0 := congrArg Int32.toInt (congrFun hf_u_382_101 0)
                have hfa_101_4 := congrArg Int32.toInt (congrFun hf_u_382_101 4)
                have hfa_101_5 := congrArg Int32.toInt (congrFun hf_u_382_101 5)
                have hfa_101_6 := congrArg Int32.toInt (congrFun hf_u_382_101 6)
                have hfa_101_7 := congrArg Int32.toInt (congrFun hf_u_382_101 7)
                have hfa_101_9 := congrArg Int32.toInt (congrFun hf_u_382_101 9)
                have hrz_384 : 0 ≤ z_384.toInt ∧ z_384.toInt ≤ 9 := by omega
                have hLw_ : (u_382.2.2.1 95 12).toInt = 0 → 1 ≤ z_384.toInt := by intro h0_; omega
                have fL_ := hf_u_382_101
                refine s_iast E rfl (jv_lt hj_385 (by decide)) (z_in (u := z_381.toInt) rfl (by omega) (by omega)) dX10_readNext_136 ?_
                have hj_387 : Jv w (upI u_382 101 z_381.toNatClampNeg z_384) := (jv_lad hj_385 (by omega) (by omega) (by omega) (by have hb_ := z32 z_384; omega) (by have hb_ := z32 z_384; omega))
                have hke_ : ((upI u_382 101 z_381.toNatClampNeg z_384).2.2.1 95 7).toInt = (u_382.2.2.1 95 7).toInt := rfl
                have hke_ : ((upI u_382 101 z_381.toNatClampNeg z_384).2.2.1 95 8).toInt = (u_382.2.2.1 95 8).toInt := rfl
                have hke_ : ((upI u_382 101 z_381.toNatClampNeg z_384).2.2.1 95 9).toInt = (u_382.2.2.1 95 9).toInt := rfl
                have hke_ : ((upI u_382 101 z_381.toNatClampNeg z_384).2.2.1 95 10).toInt = (u_382.2.2.1 95 10).toInt := rfl
                have hke_ : ((upI u_382 101 z_381.toNatClampNeg z_384).2.2.1 95 12).toInt = (u_382.2.2.1 95 12).toInt := rfl
                have hke_ : ((upI u_382 101 z_381.toNatClampNeg z_384).2.2.1 101 0).toInt = (u_382.2.2.1 101 0).toInt := keep_ne (u := z_381.toInt) rfl (by omega) (by omega)
                have hke_ : ((upI u_382 101 z_381.toNatClampNeg z_384).2.2.1 101 4).toInt = (u_382.2.2.1 101 4).toInt := keep_ne (u := z_381.toInt) rfl (by omega) (by omega)
                have hke_ : ((upI u_382 101 z_381.toNatClampNeg z_384).2.2.1 101 5).toInt = (u_382.2.2.1 101 5).toInt := keep_ne (u := z_381.toInt) rfl (by omega) (by omega)
                have hke_ : ((upI u_382 101 z_381.toNatClampNeg z_384).2.2.1 101 6).toInt = (u_382.2.2.1 101 6).toInt := keep_ne (u := z_381.toInt) rfl (by omega) (by omega)
                have hke_ : ((upI u_382 101 z_381.toNatClampNeg z_384).2.2.1 101 7).toInt = (u_382.2.2.1 101 7).toInt := keep_ne (u := z_381.toInt) rfl (by omega) (by omega)
                have hke_ : ((upI u_382 101 z_381.toNatClampNeg z_384).2.2.1 101 9).toInt = (u_382.2.2.1 101 9).toInt := keep_ne (u := z_381.toInt) rfl (by omega) (by omega)
                refine s_aload_n E dX10_readNext_137 rfl rfl ?_
                refine s_gR (r := 101) E fg_X10_31 rfl rfl (jv_lt hj_387 (by decide)) (jv_r hj_387 (by decide +kernel)) dX10_readNext_138 ?_
                refine s_iconst (v := 5) E dX10_readNext_141 (by decide) ?_
                refine s_dup2 E dX10_readNext_142 ?_
                refine s_iald E rfl (jv_lt hj_387 (by decide)) (z_in (u := 5) (by decide) (by omega) (by omega)) dX10_readNext_143 ?_
                refine z_nm (P := fun z => z.toInt = ((upI u_382 101 z_381.toNatClampNeg z_384).2.2.1 101 5).toInt ∧ 0 ≤ z.toInt ∧ z.toInt ≤ 6) ⟨rfl, (rw_101_5 hj_387)⟩ (fun z_388 hz_388 => ?_)
                refine s_iconst (v := 1) E dX10_readNext_144 (by decide) ?_
                refine z_iadd (u := z_388.toInt) (v := 1) E dX10_readNext_145 rfl (by decide) (by omega) (by omega) (fun z_389 hz_389 => ?_)
                have hhz_389 : 0 ≤ z_389.toInt ∧ z_389.toInt ≤ 6 := by omega
                refine s_iast E rfl (jv_lt hj_387 (by decide)) (z_in (u := 5) (by decide) (by omega) (by omega)) dX10_readNext_146 ?_
                refine s_world (w2 := (upI (upI u_382 101 z_381.toNatClampNeg z_384) 101 5 z_389)) rfl ?_
                have hj_391 : Jv w (upI (upI u_382 101 z_381.toNatClampNeg z_384) 101 5 z_389) := (jv_lad5 hj_387 (by omega) (by omega) (by omega) (lad_fin (by omega) (by omega) hLw_) (fun h0_ => lad_fin2 (N := (w.2.2.1 101 5).toInt) fL_ (by omega) (by omega) (by omega) (by omega) (by have q_ := hRm_ (by omega); omega)))
                have hke_ : ((upI (upI u_382 101 z_381.toNatClampNeg z_384) 101 5 z_389).2.2.1 95 7).toInt = ((upI u_382 101 z_381.toNatClampNeg z_384).2.2.1 95 7).toInt := rfl
                have hke_ : ((upI (upI u_382 101 z_381.toNatClampNeg z_384) 101 5 z_389).2.2.1 95 8).toInt = ((upI u_382 101 z_381.toNatClampNeg z_384).2.2.1 95 8).toInt := rfl
                have hke_ : ((upI (upI u_382 101 z_381.toNatClampNeg z_384) 101 5 z_389).2.2.1 95 9).toInt = ((upI u_382 101 z_381.toNatClampNeg z_384).2.2.1 95 9).toInt := rfl
                have hke_ : ((upI (upI u_382 101 z_381.toNatClampNeg z_384) 101 5 z_389).2.2.1 95 10).toInt = ((upI u_382 101 z_381.toNatClampNeg z_384).2.2.1 95 10).toInt := rfl
                have hke_ : ((upI (upI u_382 101 z_381.toNatClampNeg z_384) 101 5 z_389).2.2.1 95 12).toInt = ((upI u_382 101 z_381.toNatClampNeg z_384).2.2.1 95 12).toInt := rfl
                have hke_ : ((upI (upI u_382 101 z_381.toNatClampNeg z_384) 101 5 z_389).2.2.1 101 0).toInt = ((upI u_382 101 z_381.toNatClampNeg z_384).2.2.1 101 0).toInt := rfl
                have hke_ : ((upI (upI u_382 101 z_381.toNatClampNeg z_384) 101 5 z_389).2.2.1 101 4).toInt = ((upI u_382 101 z_381.toNatClampNeg z_384).2.2.1 101 4).toInt := rfl
                have hke_ : ((upI (upI u_382 101 z_381.toNatClampNeg z_384) 101 5 z_389).2.2.1 101 5).toInt = z_389.toInt := rfl
                have hke_ : ((upI (upI u_382 101 z_381.toNatClampNeg z_384) 101 5 z_389).2.2.1 101 6).toInt = ((upI u_382 101 z_381.toNatClampNeg z_384).2.2.1 101 6).toInt := rfl
                have hke_ : ((upI (upI u_382 101 z_381.toNatClampNeg z_384) 101 5 z_389).2.2.1 101 7).toInt = ((upI u_382 101 z_381.toNatClampNeg z_384).2.2.1 101 7).toInt := rfl
                have hke_ : ((upI (upI u_382 101 z_381.toNatClampNeg z_384) 101 5 z_389).2.2.1 101 9).toInt = ((upI u_382 101 z_381.toNatClampNeg z_384).2.2.1 101 9).toInt := rfl
                refine s_goto (tgt := 232) E dX10_readNext_147 (by decide) ?_
                exact r_void E dX10_readNext_232 ⟨(by omega), hj_391⟩
            ·
              have hd_ : ¬ (w.2.2.1 101 4).toInt = 12 := by first | exact (hq_.resolve_left (by omega)).1 (hT_.mp (by omega)) | (exfalso; omega)
              refine s_aload_n E dX10_readNext_80 rfl rfl ?_
              refine s_vV (As := []) (S := []) E (Z_X10_readDoor_95 l D aC b u_329  hj_332.1  (by omega) (by omega)) cv_X10_198 rfl rfl rfl (jv_lt hj_332 (by decide)) (Nat.le_of_ble_eq_true rfl) (Nat.le_of_ble_eq_true rfl) ⟨(Nat.le_of_ble_eq_true rfl), (Nat.le_of_ble_eq_true rfl)⟩ (Nat.le_of_ble_eq_true rfl) dX10_readNext_81 (fun u_392 hp_393 => ?_)
              obtain ⟨hx_hp_393, hp_393⟩ := hp_393
              have hj_394 := jv_trans hj_332 hp_393
              refine s_goto (tgt := 232) E dX10_readNext_84 (by decide) ?_
              exact r_void E dX10_readNext_232 ⟨(by omega), hj_394⟩
          ·
            exact r_void E dX10_readNext_70 ⟨(by omega), hJ⟩
        ·
          refine s_aload_n E dX10_readNext_58 rfl rfl ?_
          refine s_iconst (v := 3) E dX10_readNext_59 (by decide) ?_
          refine s_vV (As := [AI 3]) (S := []) E (Z_X10_errs_95 l D aC b w 3 hJ.1 (by decide)) cv_X10_153 rfl rfl rfl (jv_lt hJ (by decide)) (Nat.le_of_ble_eq_true rfl) (Nat.le_of_ble_eq_true rfl) ⟨(Nat.le_of_ble_eq_true rfl), (Nat.le_of_ble_eq_true rfl)⟩ (Nat.le_of_ble_eq_true rfl) dX10_readNext_60 (fun u_395 hp_396 => ?_)
          have hc_ : (3 : Int32).toInt = 3 := by decide
          obtain ⟨hx_hp_396, hf_u_395_101, hp_396⟩ := hp_396
          have hj_397 := jv_trans hJ hp_396
          have hfa_101_0 := congrArg Int32.toInt (congrFun hf_u_395_101 0)
          have hfa_101_4 := congrArg Int32.toInt (congrFun hf_u_395_101 4)
          have hfa_101_5 := congrArg Int32.toInt (congrFun hf_u_395_101 5)
          have hfa_101_6 := congrArg Int32.toInt (congrFun hf_u_395_101 6)
          have hfa_101_7 := congrArg Int32.toInt (congrFun hf_u_395_101 7)
          have hfa_101_9 := congrArg Int32.toInt (congrFun hf_u_395_101 9)
          refine s_aload_n E dX10_readNext_63 rfl rfl ?_
          refine s_vI (As := []) (S := []) E (Z_X10_good_95 l D aC b u_395  hj_397.1 ) cv_X10_130 rfl rfl rfl (jv_lt hj_397 (by decide)) (Nat.le_of_ble_eq_true rfl) (Nat.le_of_ble_eq_true rfl) ⟨(Nat.le_of_ble_eq_true rfl), (Nat.le_of_ble_eq_true rfl)⟩ (Nat.le_of_ble_eq_true rfl) dX10_readNext_64 (fun z_400 u_398 hp_399 => ?_)
          obtain ⟨hz_400, hxz_400, hp_399⟩ := hp_399
          subst hp_399
          refine z_if_ne (tgt := 71) (u := z_400.toInt) E dX10_readNext_67 (by decide) rfl (fun h_402 => ?_) (fun h_402 => ?_)
          ·
            have hn4_ := rw_101_4 hj_397
            have hn5_ := rw_101_5 hj_397
            have hn6_ := rw_101_6 hj_397
            have hn7_ := rw_101_7 hj_397
            refine s_aload_n E dX10_readNext_71 rfl rfl ?_
            refine s_ldcS (i := 20) E (by decide) rfl dX10_readNext_72 ?_
            refine s_vI (As := [AX (sA aC 20)]) (S := []) E (Z_X10_takes_95 l D aC b u_395  hj_397.1  20 (by decide) (by omega)) cv_X10_150 rfl rfl rfl (jv_lt hj_397 (by decide)) (Nat.le_of_ble_eq_true rfl) (Nat.le_of_ble_eq_true rfl) ⟨(Nat.le_of_ble_eq_true rfl), (Nat.le_of_ble_eq_true rfl)⟩ (Nat.le_of_ble_eq_true rfl) dX10_readNext_74 (fun z_405 u_403 hp_404 => ?_)
            obtain ⟨hz_405, hxz_405, hf_u_403_101, hp_404⟩ := hp_404
            have hj_406 := jv_trans hj_397 hp_404
            have hfa_101_0 := congrArg Int32.toInt (congrFun hf_u_403_101 0)
            have hfa_101_4 := congrArg Int32.toInt (congrFun hf_u_403_101 4)
            have hfa_101_5 := congrArg Int32.toInt (congrFun hf_u_403_101 5)
            have hfa_101_6 := congrArg Int32.toInt (congrFun hf_u_403_101 6)
            have hfa_101_7 := congrArg Int32.toInt (congrFun hf_u_403_101 7)
            have hfa_101_9 := congrArg Int32.toInt (congrFun hf_u_403_101 9)
            have hT_ := hxz_405.1
            have hE_ := hxz_405.2.1
            refine z_if_eq (tgt := 87) (u := z_405.toInt) E dX10_readNext_77 (by decide) rfl (fun h_407 => ?_) (fun h_407 => ?_)
            ·
              have hE1_ : u_395 = u_403 := hE_.resolve_left (by omega)
              refine s_aload_n E dX10_readNext_87 rfl rfl ?_
              refine s_ldcS (i := 21) E (by decide) rfl dX10_readNext_88 ?_
              refine s_vI (As := [AX (sA aC 21)]) (S := []) E (Z_X10_takes_95 l D aC b u_403  hj_406.1  21 (by decide) (by omega)) cv_X10_150 rfl rfl rfl (jv_lt hj_406 (by decide)) (Nat.le_of_ble_eq_true rfl) (Nat.le_of_ble_eq_true rfl) ⟨(Nat.le_of_ble_eq_true rfl), (Nat.le_of_ble_eq_true rfl)⟩ (Nat.le_of_ble_eq_true rfl) dX10_readNext_90 (fun z_410 u_408 hp_409 => ?_)
              obtain ⟨hz_410, hxz_410, hf_u_408_101, hp_409⟩ := hp_409
              have hj_411 := jv_trans hj_406 hp_409
              have hfa_101_0 := congrArg Int32.toInt (congrFun hf_u_408_101 0)
              have hfa_101_4 := congrArg Int32.toInt (congrFun hf_u_408_101 4)
              have hfa_101_5 := congrArg Int32.toInt (congrFun hf_u_408_101 5)
              have hfa_101_6 := congrArg Int32.toInt (congrFun hf_u_408_101 6)
              have hfa_101_7 := congrArg Int32.toInt (congrFun hf_u_408_101 7)
              have hfa_101_9 := congrArg Int32.toInt (congrFun hf_u_408_101 9)
              have hT2_ := hxz_410.1
              rw [← hE1_] at hT2_
              have hF_ := hxz_410.2.1
              refine z_if_eq (tgt := 150) (u := z_410.toInt) E dX10_readNext_93 (by decide) rfl (fun h_412 => ?_) (fun h_412 => ?_)
              ·
                have hE2_ : u_395 = u_408 := hE1_.trans (hF_.resolve_left (by omega))
                refine s_aload_n E dX10_readNext_150 rfl rfl ?_
                refine s_ldcS (i := 22) E (by decide) rfl dX10_readNext_151 ?_
                refine s_vI (As := [AX (sA aC 22)]) (S := []) E (Z_X10_takes_95 l D aC b u_408  hj_411.1  22 (by decide) (by omega)) cv_X10_150 rfl rfl rfl (jv_lt hj_411 (by decide)) (Nat.le_of_ble_eq_true rfl) (Nat.le_of_ble_eq_true rfl) ⟨(Nat.le_of_ble_eq_true rfl), (Nat.le_of_ble_eq_true rfl)⟩ (Nat.le_of_ble_eq_true rfl) dX10_readNext_153 (fun z_415 u_413 hp_414 => ?_)
                obtain ⟨hz_415, hxz_415, hf_u_413_101, hp_414⟩ := hp_414
                have hj_416 := jv_trans hj_411 hp_414
                have hfa_101_0 := congrArg Int32.toInt (congrFun hf_u_413_101 0)
                have hfa_101_4 := congrArg Int32.toInt (congrFun hf_u_413_101 4)
                have hfa_101_5 := congrArg Int32.toInt (congrFun hf_u_413_101 5)
                have hfa_101_6 := congrArg Int32.toInt (congrFun hf_u_413_101 6)
                have hfa_101_7 := congrArg Int32.toInt (congrFun hf_u_413_101 7)
                have hfa_101_9 := congrArg Int32.toInt (congrFun hf_u_413_101 9)
                have hT3_ := hxz_415.1
                rw [← hE2_] at hT3_
                have hG_ := hxz_415.2.1
                refine z_if_eq (tgt := 224) (u := z_415.toInt) E dX10_readNext_156 (by decide) rfl (fun h_417 => ?_) (fun h_417 => ?_)
                ·
                  have hd_ : ¬ (u_395.2.2.1 101 7).toInt = 10 := by first | exact (hq_.resolve_left (by omega)).2.2.2 (hw_30.mp (by omega)) | (exfalso; exact absurd (hT_.mpr (hw_3.mp (by omega))) (by omega)) | (exfalso; exact absurd (hT2_.mpr (hw_12.mp (by omega))) (by omega)) | (exfalso; exact absurd (hT3_.mpr (hw_21.mp (by omega))) (by omega)) | (exfalso; omega)
                  refine s_aload_n E dX10_readNext_224 rfl rfl ?_
                  refine s_vV (As := []) (S := []) E (Z_X10_advance_95 l D aC b u_413  hj_416.1 ) cv_X10_147 rfl rfl rfl (jv_lt hj_416 (by decide)) (Nat.le_of_ble_eq_true rfl) (Nat.le_of_ble_eq_true rfl) ⟨(Nat.le_of_ble_eq_true rfl), (Nat.le_of_ble_eq_true rfl)⟩ (Nat.le_of_ble_eq_true rfl) dX10_readNext_225 (fun u_418 hp_419 => ?_)
                  obtain ⟨hx_hp_419, hf_u_418_99, hf_u_418_101, hp_419⟩ := hp_419
                  have hj_420 := jv_trans hj_416 hp_419
                  have hfa_101_0 := congrArg Int32.toInt (congrFun hf_u_418_101 0)
                  have hfa_101_4 := congrArg Int32.toInt (congrFun hf_u_418_101 4)
                  have hfa_101_5 := congrArg Int32.toInt (congrFun hf_u_418_101 5)
                  have hfa_101_6 := congrArg Int32.toInt (congrFun hf_u_418_101 6)
                  have hfa_101_7 := congrArg Int32.toInt (congrFun hf_u_418_101 7)
                  have hfa_101_9 := congrArg Int32.toInt (congrFun hf_u_418_101 9)
                  refine s_aload_n E dX10_readNext_228 rfl rfl ?_
                  refine s_vV (As := []) (S := []) E (Z_X10_readBid_95 l D aC b u_418  hj_420.1  (by omega) (by omega)) cv_X10_206 rfl rfl rfl (jv_lt hj_420 (by decide)) (Nat.le_of_ble_eq_true rfl) (Nat.le_of_ble_eq_true rfl) ⟨(Nat.le_of_ble_eq_true rfl), (Nat.le_of_ble_eq_true rfl)⟩ (Nat.le_of_ble_eq_true rfl) dX10_readNext_229 (fun u_421 hp_422 => ?_)
                  obtain ⟨hx_hp_422, hp_422⟩ := hp_422
                  have hj_423 := jv_trans hj_420 hp_422
                  exact r_void E dX10_readNext_232 ⟨(by omega), hj_423⟩
                ·
                  have hd_ : ¬ (u_395.2.2.1 101 6).toInt = 8 := by first | exact (hq_.resolve_left (by omega)).2.2.1 (hT3_.mp (by omega)) | (exfalso; omega)
                  refine s_bipush (v := 58) E dX10_readNext_159 (by decide) ?_
                  refine s_iconst (v := 2) E dX10_readNext_161 (by decide) ?_
                  refine s_aload_n E dX10_readNext_162 rfl rfl ?_
                  refine s_gR (r := 101) E fg_X10_31 rfl rfl (jv_lt hj_416 (by decide)) (jv_r hj_416 (by decide +kernel)) dX10_readNext_163 ?_
                  refine s_bipush (v := 6) E dX10_readNext_166 (by decide) ?_
                  refine s_iald E rfl (jv_lt hj_416 (by decide)) (z_in (u := 6) (by decide) (by omega) (by omega)) dX10_readNext_168 ?_
                  refine z_nm (P := fun z => z.toInt = (u_413.2.2.1 101 6).toInt ∧ 0 ≤ z.toInt ∧ z.toInt ≤ 8) ⟨rfl, (rw_101_6 hj_416)⟩ (fun z_424 hz_424 => ?_)
                  refine z_imul (u := 2) (v := z_424.toInt) E dX10_readNext_169 (by decide) rfl (by omega) (by omega) (fun z_425 hz_425 => ?_)
                  have hhz_425 : 0 ≤ z_425.toInt ∧ z_425.toInt ≤ 14 := by omega
                  refine z_iadd (u := 58) (v := z_425.toInt) E dX10_readNext_170 (by decide) rfl (by omega) (by omega) (fun z_426 hz_426 => ?_)
                  refine s_istore_n (L2 := [some (AR 95), some (AI 1), some (AI z_426)]) E dX10_readNext_171 rfl (by decide) rfl ?_
                  refine s_aload_n E dX10_readNext_172 rfl rfl ?_
                  refine s_gR (r := 101) E fg_X10_31 rfl rfl (jv_lt hj_416 (by decide)) (jv_r hj_416 (by decide +kernel)) dX10_readNext_173 ?_
                  refine s_iload_n E dX10_readNext_176 rfl rfl ?_
                  refine s_aload_n E dX10_readNext_177 rfl rfl ?_
                  refine s_ldcS (i := 27) E (by decide) rfl dX10_readNext_178 ?_
                  refine s_iconst (v := 0) E dX10_readNext_180 (by decide) ?_
                  refine s_aload_n E dX10_readNext_181 rfl rfl ?_
                  refine s_gR (r := 101) E fg_X10_31 rfl rfl (jv_lt hj_416 (by decide)) (jv_r hj_416 (by decide +kernel)) dX10_readNext_182 ?_
                  refine s_iconst (v := 5) E dX10_readNext_185 (by decide) ?_
                  refine s_iald E rfl (jv_lt hj_416 (by decide)) (z_in (u := 5) (by decide) (by omega) (by omega)) dX10_readNext_186 ?_
                  refine z_nm (P := fun z => z.toInt = (u_413.2.2.1 101 5).toInt ∧ 0 ≤ z.toInt ∧ z.toInt ≤ 6) ⟨rfl, (rw_101_5 hj_416)⟩ (fun z_427 hz_427 => ?_)
                  refine s_iconst (v := 1) E dX10_readNext_187 (by decide) ?_
                  refine z_isub (u := z_427.toInt) (v := 1) E dX10_readNext_188 rfl (by decide) (by omega) (by omega) (fun z_428 hz_428 => ?_)
                  refine s_vI (As := [AX (sA aC 27), AI 0, AI z_428]) (S := [AI z_426, AR 101]) E (Z_X10_told_95 l D aC b u_413 0 z_428 hj_416.1  27 (by decide) (by omega)) cv_X10_164 rfl rfl rfl (jv_lt hj_416 (by decide)) (Nat.le_of_ble_eq_true rfl) (Nat.le_of_ble_eq_true rfl) ⟨(Nat.le_of_ble_eq_true rfl), (Nat.le_of_ble_eq_true rfl)⟩ (Nat.le_of_ble_eq_true rfl) dX10_readNext_189 (fun z_431 u_429 hp_430 => ?_)
                  obtain ⟨hz_431, hxz_431, hf_u_429_101, hp_430⟩ := hp_430
                  have hc_ : (0 : Int32).toInt = 0 := by decide
                  have hj_432 := jv_trans hj_416 hp_430
                  have hfa_101_0 := congrArg Int32.toInt (congrFun hf_u_429_101 0)
                  have hfa_101_4 := congrArg Int32.toInt (congrFun hf_u_429_101 4)
                  have hfa_101_5 := congrArg Int32.toInt (congrFun hf_u_429_101 5)
                  have hfa_101_6 := congrArg Int32.toInt (congrFun hf_u_429_101 6)
                  have hfa_101_7 := congrArg Int32.toInt (congrFun hf_u_429_101 7)
                  have hfa_101_9 := congrArg Int32.toInt (congrFun hf_u_429_101 9)
                  have hrz_431 : 0 ≤ z_431.toInt ∧ z_431.toInt ≤ 5 := by omega
                  refine s_iast E rfl (jv_lt hj_432 (by decide)) (z_in (u := z_426.toInt) rfl (by omega) (by omega)) dX10_readNext_192 ?_
                  have hj_434 : Jv w (upI u_429 101 z_426.toNatClampNeg z_431) := (jv_a_101 (i := z_426) (x := z_431) hj_432 0 5 58 72 2 z_426.toInt (by decide +kernel) (by decide) rfl (by omega) (by omega) (by omega) (by have hb_ := z32 z_431; omega) (by have hb_ := z32 z_431; omega))
                  have hke_ : ((upI u_429 101 z_426.toNatClampNeg z_431).2.2.1 95 7).toInt = (u_429.2.2.1 95 7).toInt := rfl
                  have hke_ : ((upI u_429 101 z_426.toNatClampNeg z_431).2.2.1 95 8).toInt = (u_429.2.2.1 95 8).toInt := rfl
                  have hke_ : ((upI u_429 101 z_426.toNatClampNeg z_431).2.2.1 95 9).toInt = (u_429.2.2.1 95 9).toInt := rfl
                  have hke_ : ((upI u_429 101 z_426.toNatClampNeg z_431).2.2.1 95 10).toInt = (u_429.2.2.1 95 10).toInt := rfl
                  have hke_ : ((upI u_429 101 z_426.toNatClampNeg z_431).2.2.1 95 12).toInt = (u_429.2.2.1 95 12).toInt := rfl
                  have hke_ : ((upI u_429 101 z_426.toNatClampNeg z_431).2.2.1 101 0).toInt = (u_429.2.2.1 101 0).toInt := keep_ne (u := z_426.toInt) rfl (by omega) (by omega)
                  have hke_ : ((upI u_429 101 z_426.toNatClampNeg z_431).2.2.1 101 4).toInt = (u_429.2.2.1 101 4).toInt := keep_ne (u := z_426.toInt) rfl (by omega) (by omega)
                  have hke_ : ((upI u_429 101 z_426.toNatClampNeg z_431).2.2.1 101 5).toInt = (u_429.2.2.1 101 5).toInt := keep_ne (u := z_426.toInt) rfl (by omega) (by omega)
                  have hke_ : ((upI u_429 101 z_426.toNatClampNeg z_431).2.2.1 101 6).toInt = (u_429.2.2.1 101 6).toInt := keep_ne (u := z_426.toInt) rfl (by omega) (by omega)
                  have hke_ : ((upI u_429 101 z_426.toNatClampNeg z_431).2.2.1 101 7).toInt = (u_429.2.2.1 101 7).toInt := keep_ne (u := z_426.toInt) rfl (by omega) (by omega)
                  have hke_ : ((upI u_429 101 z_426.toNatClampNeg z_431).2.2.1 101 9).toInt = (u_429.2.2.1 101 9).toInt := keep_ne (u := z_426.toInt) rfl (by omega) (by omega)
                  refine s_aload_n E dX10_readNext_193 rfl rfl ?_
                  refine s_gR (r := 101) E fg_X10_31 rfl rfl (jv_lt hj_434 (by decide)) (jv_r hj_434 (by decide +kernel)) dX10_readNext_194 ?_
                  refine s_iload_n E dX10_readNext_197 rfl rfl ?_
                  refine s_iconst (v := 1) E dX10_readNext_198 (by decide) ?_
                  refine z_iadd (u := z_426.toInt) (v := 1) E dX10_readNext_199 rfl (by decide) (by omega) (by omega) (fun z_435 hz_435 => ?_)
                  refine s_aload_n E dX10_readNext_200 rfl rfl ?_
                  refine s_ldcS (i := 28) E (by decide) rfl dX10_readNext_201 ?_
                  refine s_iconst (v := 1) E dX10_readNext_203 (by decide) ?_
                  refine s_bipush (v := 20) E dX10_readNext_204 (by decide) ?_
                  refine s_vI (As := [AX (sA aC 28), AI 1, AI 20]) (S := [AI z_435, AR 101]) E (Z_X10_told_95 l D aC b (upI u_429 101 z_426.toNatClampNeg z_431) 1 20 hj_434.1  28 (by decide) (by omega)) cv_X10_164 rfl rfl rfl (jv_lt hj_434 (by decide)) (Nat.le_of_ble_eq_true rfl) (Nat.le_of_ble_eq_true rfl) ⟨(Nat.le_of_ble_eq_true rfl), (Nat.le_of_ble_eq_true rfl)⟩ (Nat.le_of_ble_eq_true rfl) dX10_readNext_206 (fun z_438 u_436 hp_437 => ?_)
                  obtain ⟨hz_438, hxz_438, hf_u_436_101, hp_437⟩ := hp_437
                  have hc_ : (1 : Int32).toInt = 1 := by decide
                  have hc_ : (20 : Int32).toInt = 20 := by decide
                  have hj_439 := jv_trans hj_434 hp_437
                  have hfa_101_0 := congrArg Int32.toInt (congrFun hf_u_436_101 0)
                  have hfa_101_4 := congrArg Int32.toInt (congrFun hf_u_436_101 4)
                  have hfa_101_5 := congrArg Int32.toInt (congrFun hf_u_436_101 5)
                  have hfa_101_6 := congrArg Int32.toInt (congrFun hf_u_436_101 6)
                  have hfa_101_7 := congrArg Int32.toInt (congrFun hf_u_436_101 7)
                  have hfa_101_9 := congrArg Int32.toInt (congrFun hf_u_436_101 9)
                  have hrz_438 : 0 ≤ z_438.toInt ∧ z_438.toInt ≤ 20 := by omega
                  refine s_iast E rfl (jv_lt hj_439 (by decide)) (z_in (u := z_435.toInt) rfl (by omega) (by omega)) dX10_readNext_209 ?_
                  have hj_441 : Jv w (upI u_436 101 z_435.toNatClampNeg z_438) := (jv_a_101 (i := z_435) (x := z_438) hj_439 0 20 59 73 2 z_435.toInt (by decide +kernel) (by decide) rfl (by omega) (by omega) (by omega) (by have hb_ := z32 z_438; omega) (by have hb_ := z32 z_438; omega))
                  have hke_ : ((upI u_436 101 z_435.toNatClampNeg z_438).2.2.1 95 7).toInt = (u_436.2.2.1 95 7).toInt := rfl
                  have hke_ : ((upI u_436 101 z_435.toNatClampNeg z_438).2.2.1 95 8).toInt = (u_436.2.2.1 95 8).toInt := rfl
                  have hke_ : ((upI u_436 101 z_435.toNatClampNeg z_438).2.2.1 95 9).toInt = (u_436.2.2.1 95 9).toInt := rfl
                  have hke_ : ((upI u_436 101 z_435.toNatClampNeg z_438).2.2.1 95 10).toInt = (u_436.2.2.1 95 10).toInt := rfl
                  have hke_ : ((upI u_436 101 z_435.toNatClampNeg z_438).2.2.1 95 12).toInt = (u_436.2.2.1 95 12).toInt := rfl
                  have hke_ : ((upI u_436 101 z_435.toNatClampNeg z_438).2.2.1 101 0).toInt = (u_436.2.2.1 101 0).toInt := keep_ne (u := z_435.toInt) rfl (by omega) (by omega)
                  have hke_ : ((upI u_436 101 z_435.toNatClampNeg z_438).2.2.1 101 4).toInt = (u_436.2.2.1 101 4).toInt := keep_ne (u := z_435.toInt) rfl (by omega) (by omega)
                  have hke_ : ((upI u_436 101 z_435.toNatClampNeg z_438).2.2.1 101 5).toInt = (u_436.2.2.1 101 5).toInt := keep_ne (u := z_435.toInt) rfl (by omega) (by omega)
                  have hke_ : ((upI u_436 101 z_435.toNatClampNeg z_438).2.2.1 101 6).toInt = (u_436.2.2.1 101 6).toInt := keep_ne (u := z_435.toInt) rfl (by omega) (by omega)
                  have hke_ : ((upI u_436 101 z_435.toNatClampNeg z_438).2.2.1 101 7).toInt = (u_436.2.2.1 101 7).toInt := keep_ne (u := z_435.toInt) rfl (by omega) (by omega)
                  have hke_ : ((upI u_436 101 z_435.toNatClampNeg z_438).2.2.1 101 9).toInt = (u_436.2.2.1 101 9).toInt := keep_ne (u := z_435.toInt) rfl (by omega) (by omega)
                  refine s_aload_n E dX10_readNext_210 rfl rfl ?_
                  refine s_gR (r := 101) E fg_X10_31 rfl rfl (jv_lt hj_441 (by decide)) (jv_r hj_441 (by decide +kernel)) dX10_readNext_211 ?_
                  refine s_bipush (v := 6) E dX10_readNext_214 (by decide) ?_
                  refine s_dup2 E dX10_readNext_216 ?_
                  refine s_iald E rfl (jv_lt hj_441 (by decide)) (z_in (u := 6) (by decide) (by omega) (by omega)) dX10_readNext_217 ?_
                  refine z_nm (P := fun z => z.toInt = ((upI u_436 101 z_435.toNatClampNeg z_438).2.2.1 101 6).toInt ∧ 0 ≤ z.toInt ∧ z.toInt ≤ 8) ⟨rfl, (rw_101_6 hj_441)⟩ (fun z_442 hz_442 => ?_)
                  refine s_iconst (v := 1) E dX10_readNext_218 (by decide) ?_
                  refine z_iadd (u := z_442.toInt) (v := 1) E dX10_readNext_219 rfl (by decide) (by omega) (by omega) (fun z_443 hz_443 => ?_)
                  have hhz_443 : 0 ≤ z_443.toInt ∧ z_443.toInt ≤ 8 := by omega
                  refine s_iast E rfl (jv_lt hj_441 (by decide)) (z_in (u := 6) (by decide) (by omega) (by omega)) dX10_readNext_220 ?_
                  refine s_world (w2 := (upI (upI u_436 101 z_435.toNatClampNeg z_438) 101 6 z_443)) rfl ?_
                  have hj_445 : Jv w (upI (upI u_436 101 z_435.toNatClampNeg z_438) 101 6 z_443) := (jv_a_101 (i := 6) (x := z_443) hj_441 0 8 6 6 1 6 (by decide +kernel) (by decide) (by decide) (by omega) (by omega) (by omega) (by have hb_ := z32 z_443; omega) (by have hb_ := z32 z_443; omega))
                  have hke_ : ((upI (upI u_436 101 z_435.toNatClampNeg z_438) 101 6 z_443).2.2.1 95 7).toInt = ((upI u_436 101 z_435.toNatClampNeg z_438).2.2.1 95 7).toInt := rfl
                  have hke_ : ((upI (upI u_436 101 z_435.toNatClampNeg z_438) 101 6 z_443).2.2.1 95 8).toInt = ((upI u_436 101 z_435.toNatClampNeg z_438).2.2.1 95 8).toInt := rfl
                  have hke_ : ((upI (upI u_436 101 z_435.toNatClampNeg z_438) 101 6 z_443).2.2.1 95 9).toInt = ((upI u_436 101 z_435.toNatClampNeg z_438).2.2.1 95 9).toInt := rfl
                  have hke_ : ((upI (upI u_436 101 z_435.toNatClampNeg z_438) 101 6 z_443).2.2.1 95 10).toInt = ((upI u_436 101 z_435.toNatClampNeg z_438).2.2.1 95 10).toInt := rfl
                  have hke_ : ((upI (upI u_436 101 z_435.toNatClampNeg z_438) 101 6 z_443).2.2.1 95 12).toInt = ((upI u_436 101 z_435.toNatClampNeg z_438).2.2.1 95 12).toInt := rfl
                  have hke_ : ((upI (upI u_436 101 z_435.toNatClampNeg z_438) 101 6 z_443).2.2.1 101 0).toInt = ((upI u_436 101 z_435.toNatClampNeg z_438).2.2.1 101 0).toInt := rfl
                  have hke_ : ((upI (upI u_436 101 z_435.toNatClampNeg z_438) 101 6 z_443).2.2.1 101 4).toInt = ((upI u_436 101 z_435.toNatClampNeg z_438).2.2.1 101 4).toInt := rfl
                  have hke_ : ((upI (upI u_436 101 z_435.toNatClampNeg z_438) 101 6 z_443).2.2.1 101 5).toInt = ((upI u_436 101 z_435.toNatClampNeg z_438).2.2.1 101 5).toInt := rfl
                  have hke_ : ((upI (upI u_436 101 z_435.toNatClampNeg z_438) 101 6 z_443).2.2.1 101 6).toInt = z_443.toInt := rfl
                  have hke_ : ((upI (upI u_436 101 z_435.toNatClampNeg z_438) 101 6 z_443).2.2.1 101 7).toInt = ((upI u_436 101 z_435.toNatClampNeg z_438).2.2.1 101 7).toInt := rfl
                  have hke_ : ((upI (upI u_436 101 z_435.toNatClampNeg z_438) 101 6 z_443).2.2.1 101 9).toInt = ((upI u_436 101 z_435.toNatClampNeg z_438).2.2.1 101 9).toInt := rfl
                  refine s_goto (tgt := 232) E dX10_readNext_221 (by decide) ?_
                  exact r_void E dX10_readNext_232 ⟨(by omega), hj_445⟩
              ·
                have hd_ : ¬ (u_395.2.2.1 101 5).toInt = 6 := by first | exact (hq_.resolve_left (by omega)).2.1 (hT2_.mp (by omega)) | (exfalso; omega)
                refine s_bipush (v := 46) E dX10_readNext_96 (by decide) ?_
                refine s_iconst (v := 2) E dX10_readNext_98 (by decide) ?_
                refine s_aload_n E dX10_readNext_99 rfl rfl ?_
                refine s_gR (r := 101) E fg_X10_31 rfl rfl (jv_lt hj_411 (by decide)) (jv_r hj_411 (by decide +kernel)) dX10_readNext_100 ?_
                refine s_iconst (v := 5) E dX10_readNext_103 (by decide) ?_
                refine s_iald E rfl (jv_lt hj_411 (by decide)) (z_in (u := 5) (by decide) (by omega) (by omega)) dX10_readNext_104 ?_
                refine z_nm (P := fun z => z.toInt = (u_408.2.2.1 101 5).toInt ∧ 0 ≤ z.toInt ∧ z.toInt ≤ 6) ⟨rfl, (rw_101_5 hj_411)⟩ (fun z_446 hz_446 => ?_)
                refine z_imul (u := 2) (v := z_446.toInt) E dX10_readNext_105 (by decide) rfl (by omega) (by omega) (fun z_447 hz_447 => ?_)
                have hhz_447 : 0 ≤ z_447.toInt ∧ z_447.toInt ≤ 10 := by omega
                refine z_iadd (u := 46) (v := z_447.toInt) E dX10_readNext_106 (by decide) rfl (by omega) (by omega) (fun z_448 hz_448 => ?_)
                refine s_istore_n (L2 := [some (AR 95), some (AI 1), some (AI z_448)]) E dX10_readNext_107 rfl (by decide) rfl ?_
                refine s_aload_n E dX10_readNext_108 rfl rfl ?_
                refine s_gR (r := 101) E fg_X10_31 rfl rfl (jv_lt hj_411 (by decide)) (jv_r hj_411 (by decide +kernel)) dX10_readNext_109 ?_
                refine s_iload_n E dX10_readNext_112 rfl rfl ?_
                refine s_aload_n E dX10_readNext_113 rfl rfl ?_
                refine s_ldcS (i := 26) E (by decide) rfl dX10_readNext_114 ?_
                refine s_vI (As := [AX (sA aC 26)]) (S := [AI z_448, AR 101]) E (Z_X10_freshRoom_95 l D aC b u_408  hj_411.1  26 (by decide) (by omega)) cv_X10_182 rfl rfl rfl (jv_lt hj_411 (by decide)) (Nat.le_of_ble_eq_true rfl) (Nat.le_of_ble_eq_true rfl) ⟨(Nat.le_of_ble_eq_true rfl), (Nat.le_of_ble_eq_true rfl)⟩ (Nat.le_of_ble_eq_true rfl) dX10_readNext_116 (fun z_451 u_449 hp_450 => ?_)
                obtain ⟨hz_451, hxz_451, hf_u_449_101, hp_450⟩ := hp_450
                have hj_452 := jv_trans hj_411 hp_450
                have hfa_101_0 := congrArg Int32.toInt (congrFun hf_u_449_101 0)
                have hfa_101_4 := congrArg Int32.toInt (congrFun hf_u_449_101 4)
                have hfa_101_5 := congrArg Int32.toInt (congrFun hf_u_449_101 5)
                have hfa_101_6 := congrArg Int32.toInt (congrFun hf_u_449_101 6)
                have hfa_101_7 := congrArg Int32.toInt (congrFun hf_u_449_101 7)
                have hfa_101_9 := congrArg Int32.toInt (congrFun hf_u_449_101 9)
                have hrz_451 : 0 ≤ z_451.toInt ∧ z_451.toInt ≤ 7 := by omega
                have hRm_ : (u_449.2.2.1 95 12).toInt = 0 → z_451.toInt < (w.2.2.1 101 0).toInt := by intro h0_; omega
                refine s_iast E rfl (jv_lt hj_452 (by decide)) (z_in (u := z_448.toInt) rfl (by omega) (by omega)) dX10_readNext_119 ?_
                have hj_454 : Jv w (upI u_449 101 z_448.toNatClampNeg z_451) := (jv_lad0 hj_452 (by omega) (by omega) (by omega) (by have hb_ := z32 z_451; omega) (by have hb_ := z32 z_451; omega))
                have hke_ : ((upI u_449 101 z_448.toNatClampNeg z_451).2.2.1 95 7).toInt = (u_449.2.2.1 95 7).toInt := rfl
                have hke_ : ((upI u_449 101 z_448.toNatClampNeg z_451).2.2.1 95 8).toInt = (u_449.2.2.1 95 8).toInt := rfl
                have hke_ : ((upI u_449 101 z_448.toNatClampNeg z_451).2.2.1 95 9).toInt = (u_449.2.2.1 95 9).toInt := rfl
                have hke_ : ((upI u_449 101 z_448.toNatClampNeg z_451).2.2.1 95 10).toInt = (u_449.2.2.1 95 10).toInt := rfl
                have hke_ : ((upI u_449 101 z_448.toNatClampNeg z_451).2.2.1 95 12).toInt = (u_449.2.2.1 95 12).toInt := rfl
                have hke_ : ((upI u_449 101 z_448.toNatClampNeg z_451).2.2.1 101 0).toInt = (u_449.2.2.1 101 0).toInt := keep_ne (u := z_448.toInt) rfl (by omega) (by omega)
                have hke_ : ((upI u_449 101 z_448.toNatClampNeg z_451).2.2.1 101 4).toInt = (u_449.2.2.1 101 4).toInt := keep_ne (u := z_448.toInt) rfl (by omega) (by omega)
                have hke_ : ((upI u_449 101 z_448.toNatClampNeg z_451).2.2.1 101 5).toInt = (u_449.2.2.1 101 5).toInt := keep_ne (u := z_448.toInt) rfl (by omega) (by omega)
                have hke_ : ((upI u_449 101 z_448.toNatClampNeg z_451).2.2.1 101 6).toInt = (u_449.2.2.1 101 6).toInt := keep_ne (u := z_448.toInt) rfl (by omega) (by omega)
                have hke_ : ((upI u_449 101 z_448.toNatClampNeg z_451).2.2.1 101 7).toInt = (u_449.2.2.1 101 7).toInt := keep_ne (u := z_448.toInt) rfl (by omega) (by omega)
                have hke_ : ((upI u_449 101 z_448.toNatClampNeg z_451).2.2.1 101 9).toInt = (u_449.2.2.1 101 9).toInt := keep_ne (u := z_448.toInt) rfl (by omega) (by omega)
                refine s_aload_n E dX10_readNext_120 rfl rfl ?_
                refine s_gR (r := 101) E fg_X10_31 rfl rfl (jv_lt hj_454 (by decide)) (jv_r hj_454 (by decide +kernel)) dX10_readNext_121 ?_
                refine s_iload_n E dX10_readNext_124 rfl rfl ?_
                refine s_iconst (v := 1) E dX10_readNext_125 (by decide) ?_
                refine z_iadd (u := z_448.toInt) (v := 1) E dX10_readNext_126 rfl (by decide) (by omega) (by omega) (fun z_455 hz_455 => ?_)
                refine s_aload_n E dX10_readNext_127 rfl rfl ?_
                refine s_ldcS (i := 25) E (by decide) rfl dX10_readNext_128 ?_
                refine s_iconst (v := 1) E dX10_readNext_130 (by decide) ?_
                refine s_bipush (v := 9) E dX10_readNext_131 (by decide) ?_
                refine s_vI (As := [AX (sA aC 25), AI 1, AI 9]) (S := [AI z_455, AR 101]) E (Z_X10_told_95 l D aC b (upI u_449 101 z_448.toNatClampNeg z_451) 1 9 hj_454.1  25 (by decide) (by omega)) cv_X10_164 rfl rfl rfl (jv_lt hj_454 (by decide)) (Nat.le_of_ble_eq_true rfl) (Nat.le_of_ble_eq_true rfl) ⟨(Nat.le_of_ble_eq_true rfl), (Nat.le_of_ble_eq_true rfl)⟩ (Nat.le_of_ble_eq_true rfl) dX10_readNext_133 (fun z_458 u_456 hp_457 => ?_)
                obtain ⟨hz_458, hxz_458, hf_u_456_101, hp_457⟩ := hp_457
                have hc_ : (1 : Int32).toInt = 1 := by decide
                have hc_ : (9 : Int32).toInt = 9 := by decide
                have hj_459 := jv_trans hj_454 hp_457
                have hfa_101_0 := congrArg Int32.toInt (congrFun hf_u_456_101 0)
                have hfa_101_4 := congrArg Int32.toInt (congrFun hf_u_456_101 4)
                have hfa_101_5 := congrArg Int32.toInt (congrFun hf_u_456_101 5)
                have hfa_101_6 := congrArg Int32.toInt (congrFun hf_u_456_101 6)
                have hfa_101_7 := congrArg Int32.toInt (congrFun hf_u_456_101 7)
                have hfa_101_9 := congrArg Int32.toInt (congrFun hf_u_456_101 9)
                have hrz_458 : 0 ≤ z_458.toInt ∧ z_458.toInt ≤ 9 := by omega
                have hLw_ : (u_456.2.2.1 95 12).toInt = 0 → 1 ≤ z_458.toInt := by intro h0_; omega
                have fL_ := hf_u_456_101
                refine s_iast E rfl (jv_lt hj_459 (by decide)) (z_in (u := z_455.toInt) rfl (by omega) (by omega)) dX10_readNext_136 ?_
                have hj_461 : Jv w (upI u_456 101 z_455.toNatClampNeg z_458) := (jv_lad hj_459 (by omega) (by omega) (by omega) (by have hb_ := z32 z_458; omega) (by have hb_ := z32 z_458; omega))
                have hke_ : ((upI u_456 101 z_455.toNatClampNeg z_458).2.2.1 95 7).toInt = (u_456.2.2.1 95 7).toInt := rfl
                have hke_ : ((upI u_456 101 z_455.toNatClampNeg z_458).2.2.1 95 8).toInt = (u_456.2.2.1 95 8).toInt := rfl
                have hke_ : ((upI u_456 101 z_455.toNatClampNeg z_458).2.2.1 95 9).toInt = (u_456.2.2.1 95 9).toInt := rfl
                have hke_ : ((upI u_456 101 z_455.toNatClampNeg z_458).2.2.1 95 10).toInt = (u_456.2.2.1 95 10).toInt := rfl
                have hke_ : ((upI u_456 101 z_455.toNatClampNeg z_458).2.2.1 95 12).toInt = (u_456.2.2.1 95 12).toInt := rfl
                have hke_ : ((upI u_456 101 z_455.toNatClampNeg z_458).2.2.1 101 0).toInt = (u_456.2.2.1 101 0).toInt := keep_ne (u := z_455.toInt) rfl (by omega) (by omega)
                have hke_ : ((upI u_456 101 z_455.toNatClampNeg z_458).2.2.1 101 4).toInt = (u_456.2.2.1 101 4).toInt := keep_ne (u := z_455.toInt) rfl (by omega) (by omega)
                have hke_ : ((upI u_456 101 z_455.toNatClampNeg z_458).2.2.1 101 5).toInt = (u_456.2.2.1 101 5).toInt := keep_ne (u := z_455.toInt) rfl (by omega) (by omega)
                have hke_ : ((upI u_456 101 z_455.toNatClampNeg z_458).2.2.1 101 6).toInt = (u_456.2.2.1 101 6).toInt := keep_ne (u := z_455.toInt) rfl (by omega) (by omega)
                have hke_ : ((upI u_456 101 z_455.toNatClampNeg z_458).2.2.1 101 7).toInt = (u_456.2.2.1 101 7).toInt := keep_ne (u := z_455.toInt) rfl (by omega) (by omega)
                have hke_ : ((upI u_456 101 z_455.toNatClampNeg z_458).2.2.1 101 9).toInt = (u_456.2.2.1 101 9).toInt := keep_ne (u := z_455.toInt) rfl (by omega) (by omega)
                refine s_aload_n E dX10_readNext_137 rfl rfl ?_
                refine s_gR (r := 101) E fg_X10_31 rfl rfl (jv_lt hj_461 (by decide)) (jv_r hj_461 (by decide +kernel)) dX10_readNext_138 ?_
                refine s_iconst (v := 5) E dX10_readNext_141 (by decide) ?_
                refine s_dup2 E dX10_readNext_142 ?_
                refine s_iald E rfl (jv_lt hj_461 (by decide)) (z_in (u := 5) (by decide) (by omega) (by omega)) dX10_readNext_143 ?_
                refine z_nm (P := fun z => z.toInt = ((upI u_456 101 z_455.toNatClampNeg z_458).2.2.1 101 5).toInt ∧ 0 ≤ z.toInt ∧ z.toInt ≤ 6) ⟨rfl, (rw_101_5 hj_461)⟩ (fun z_462 hz_462 => ?_)
                refine s_iconst (v := 1) E dX10_readNext_144 (by decide) ?_
                refine z_iadd (u := z_462.toInt) (v := 1) E dX10_readNext_145 rfl (by decide) (by omega) (by omega) (fun z_463 hz_463 => ?_)
                have hhz_463 : 0 ≤ z_463.toInt ∧ z_463.toInt ≤ 6 := by omega
                refine s_iast E rfl (jv_lt hj_461 (by decide)) (z_in (u := 5) (by decide) (by omega) (by omega)) dX10_readNext_146 ?_
                refine s_world (w2 := (upI (upI u_456 101 z_455.toNatClampNeg z_458) 101 5 z_463)) rfl ?_
                have hj_465 : Jv w (upI (upI u_456 101 z_455.toNatClampNeg z_458) 101 5 z_463) := (jv_lad5 hj_461 (by omega) (by omega) (by omega) (lad_fin (by omega) (by omega) hLw_) (fun h0_ => lad_fin2 (N := (w.2.2.1 101 5).toInt) fL_ (by omega) (by omega) (by omega) (by omega) (by have q_ := hRm_ (by omega); omega)))
                have hke_ : ((upI (upI u_456 101 z_455.toNatClampNeg z_458) 101 5 z_463).2.2.1 95 7).toInt = ((upI u_456 101 z_455.toNatClampNeg z_458).2.2.1 95 7).toInt := rfl
                have hke_ : ((upI (upI u_456 101 z_455.toNatClampNeg z_458) 101 5 z_463).2.2.1 95 8).toInt = ((upI u_456 101 z_455.toNatClampNeg z_458).2.2.1 95 8).toInt := rfl
                have hke_ : ((upI (upI u_456 101 z_455.toNatClampNeg z_458) 101 5 z_463).2.2.1 95 9).toInt = ((upI u_456 101 z_455.toNatClampNeg z_458).2.2.1 95 9).toInt := rfl
                have hke_ : ((upI (upI u_456 101 z_455.toNatClampNeg z_458) 101 5 z_463).2.2.1 95 10).toInt = ((upI u_456 101 z_455.toNatClampNeg z_458).2.2.1 95 10).toInt := rfl
                have hke_ : ((upI (upI u_456 101 z_455.toNatClampNeg z_458) 101 5 z_463).2.2.1 95 12).toInt = ((upI u_456 101 z_455.toNatClampNeg z_458).2.2.1 95 12).toInt := rfl
                have hke_ : ((upI (upI u_456 101 z_455.toNatClampNeg z_458) 101 5 z_463).2.2.1 101 0).toInt = ((upI u_456 101 z_455.toNatClampNeg z_458).2.2.1 101 0).toInt := rfl
                have hke_ : ((upI (upI u_456 101 z_455.toNatClampNeg z_458) 101 5 z_463).2.2.1 101 4).toInt = ((upI u_456 101 z_455.toNatClampNeg z_458).2.2.1 101 4).toInt := rfl
                have hke_ : ((upI (upI u_456 101 z_455.toNatClampNeg z_458) 101 5 z_463).2.2.1 101 5).toInt = z_463.toInt := rfl
                have hke_ : ((upI (upI u_456 101 z_455.toNatClampNeg z_458) 101 5 z_463).2.2.1 101 6).toInt = ((upI u_456 101 z_455.toNatClampNeg z_458).2.2.1 101 6).toInt := rfl
                have hke_ : ((upI (upI u_456 101 z_455.toNatClampNeg z_458) 101 5 z_463).2.2.1 101 7).toInt = ((upI u_456 101 z_455.toNatClampNeg z_458).2.2.1 101 7).toInt := rfl
                have hke_ : ((upI (upI u_456 101 z_455.toNatClampNeg z_458) 101 5 z_463).2.2.1 101 9).toInt = ((upI u_456 101 z_455.toNatClampNeg z_458).2.2.1 101 9).toInt := rfl
                refine s_goto (tgt := 232) E dX10_readNext_147 (by decide) ?_
                exact r_void E dX10_readNext_232 ⟨(by omega), hj_465⟩
            ·
              have hd_ : ¬ (u_395.2.2.1 101 4).toInt = 12 := by first | exact (hq_.resolve_left (by omega)).1 (hT_.mp (by omega)) | (exfalso; omega)
              refine s_aload_n E dX10_readNext_80 rfl rfl ?_
              refine s_vV (As := []) (S := []) E (Z_X10_readDoor_95 l D aC b u_403  hj_406.1  (by omega) (by omega)) cv_X10_198 rfl rfl rfl (jv_lt hj_406 (by decide)) (Nat.le_of_ble_eq_true rfl) (Nat.le_of_ble_eq_true rfl) ⟨(Nat.le_of_ble_eq_true rfl), (Nat.le_of_ble_eq_true rfl)⟩ (Nat.le_of_ble_eq_true rfl) dX10_readNext_81 (fun u_466 hp_467 => ?_)
              obtain ⟨hx_hp_467, hp_467⟩ := hp_467
              have hj_468 := jv_trans hj_406 hp_467
              refine s_goto (tgt := 232) E dX10_readNext_84 (by decide) ?_
              exact r_void E dX10_readNext_232 ⟨(by omega), hj_468⟩
          ·
            exact r_void E dX10_readNext_70 ⟨(by omega), hj_397⟩
      ·
        refine s_aload_n E dX10_readNext_27 rfl rfl ?_
        refine s_ldcS (i := 23) E (by decide) rfl dX10_readNext_28 ?_
        refine s_vI (As := [AX (sA aC 23)]) (S := []) E (Z_X10_is_95 l D aC b w  hJ.1  23 (by decide)) cv_X10_143 rfl rfl rfl (jv_lt hJ (by decide)) (Nat.le_of_ble_eq_true rfl) (Nat.le_of_ble_eq_true rfl) ⟨(Nat.le_of_ble_eq_true rfl), (Nat.le_of_ble_eq_true rfl)⟩ (Nat.le_of_ble_eq_true rfl) dX10_readNext_30 (fun z_471 u_469 hp_470 => ?_)
        obtain ⟨hz_471, hxz_471, hp_470⟩ := hp_470
        subst hp_470
        have hw_30 := hxz_471
        refine z_if_eq (tgt := 40) (u := z_471.toInt) E dX10_readNext_33 (by decide) rfl (fun h_473 => ?_) (fun h_473 => ?_)
        ·
          refine s_iconst (v := 0) E dX10_readNext_40 (by decide) ?_
          refine s_istore_n (L2 := [some (AR 95), some (AI 0), none]) E dX10_readNext_41 rfl (by decide) rfl ?_
          refine s_iload_n E dX10_readNext_42 rfl rfl ?_
          refine z_if_ne (tgt := 51) (u := 0) E dX10_readNext_43 (by decide) (by decide) (fun h_474 => absurd h_474 (by omega)) (fun h_474 => ?_)
          refine s_aload_n E dX10_readNext_46 rfl rfl ?_
          refine s_iconst (v := 1) E dX10_readNext_47 (by decide) ?_
          refine s_vV (As := [AI 1]) (S := []) E (Z_X10_errs_95 l D aC b w 1 hJ.1 (by decide)) cv_X10_153 rfl rfl rfl (jv_lt hJ (by decide)) (Nat.le_of_ble_eq_true rfl) (Nat.le_of_ble_eq_true rfl) ⟨(Nat.le_of_ble_eq_true rfl), (Nat.le_of_ble_eq_true rfl)⟩ (Nat.le_of_ble_eq_true rfl) dX10_readNext_48 (fun u_475 hp_476 => ?_)
          have hc_ : (1 : Int32).toInt = 1 := by decide
          obtain ⟨hx_hp_476, hf_u_475_101, hp_476⟩ := hp_476
          have hj_477 := jv_trans hJ hp_476
          have hfa_101_0 := congrArg Int32.toInt (congrFun hf_u_475_101 0)
          have hfa_101_4 := congrArg Int32.toInt (congrFun hf_u_475_101 4)
          have hfa_101_5 := congrArg Int32.toInt (congrFun hf_u_475_101 5)
          have hfa_101_6 := congrArg Int32.toInt (congrFun hf_u_475_101 6)
          have hfa_101_7 := congrArg Int32.toInt (congrFun hf_u_475_101 7)
          have hfa_101_9 := congrArg Int32.toInt (congrFun hf_u_475_101 9)
          refine s_aload_n E dX10_readNext_51 rfl rfl ?_
          refine s_vI (As := []) (S := []) E (Z_X10_isFull_95 l D aC b u_475  hj_477.1 ) cv_X10_195 rfl rfl rfl (jv_lt hj_477 (by decide)) (Nat.le_of_ble_eq_true rfl) (Nat.le_of_ble_eq_true rfl) ⟨(Nat.le_of_ble_eq_true rfl), (Nat.le_of_ble_eq_true rfl)⟩ (Nat.le_of_ble_eq_true rfl) dX10_readNext_52 (fun z_480 u_478 hp_479 => ?_)
          obtain ⟨hz_480, hxz_480, hp_479⟩ := hp_479
          subst hp_479
          have hq_ := hxz_480
          refine z_if_eq (tgt := 63) (u := z_480.toInt) E dX10_readNext_55 (by decide) rfl (fun h_482 => ?_) (fun h_482 => ?_)
          ·
            refine s_aload_n E dX10_readNext_63 rfl rfl ?_
            refine s_vI (As := []) (S := []) E (Z_X10_good_95 l D aC b u_475  hj_477.1 ) cv_X10_130 rfl rfl rfl (jv_lt hj_477 (by decide)) (Nat.le_of_ble_eq_true rfl) (Nat.le_of_ble_eq_true rfl) ⟨(Nat.le_of_ble_eq_true rfl), (Nat.le_of_ble_eq_true rfl)⟩ (Nat.le_of_ble_eq_true rfl) dX10_readNext_64 (fun z_485 u_483 hp_484 => ?_)
            obtain ⟨hz_485, hxz_485, hp_484⟩ := hp_484
            subst hp_484
            refine z_if_ne (tgt := 71) (u := z_485.toInt) E dX10_readNext_67 (by decide) rfl (fun h_487 => ?_) (fun h_487 => ?_)
            ·
              have hn4_ := rw_101_4 hj_477
              have hn5_ := rw_101_5 hj_477
              have hn6_ := rw_101_6 hj_477
              have hn7_ := rw_101_7 hj_477
              refine s_aload_n E dX10_readNext_71 rfl rfl ?_
              refine s_ldcS (i := 20) E (by decide) rfl dX10_readNext_72 ?_
              refine s_vI (As := [AX (sA aC 20)]) (S := []) E (Z_X10_takes_95 l D aC b u_475  hj_477.1  20 (by decide) (by omega)) cv_X10_150 rfl rfl rfl (jv_lt hj_477 (by decide)) (Nat.le_of_ble_eq_true rfl) (Nat.le_of_ble_eq_true rfl) ⟨(Nat.le_of_ble_eq_true rfl), (Nat.le_of_ble_eq_true rfl)⟩ (Nat.le_of_ble_eq_true rfl) dX10_readNext_74 (fun z_490 u_488 hp_489 => ?_)
              obtain ⟨hz_490, hxz_490, hf_u_488_101, hp_489⟩ := hp_489
              have hj_491 := jv_trans hj_477 hp_489
              have hfa_101_0 := congrArg Int32.toInt (congrFun hf_u_488_101 0)
              have hfa_101_4 := congrArg Int32.toInt (congrFun hf_u_488_101 4)
              have hfa_101_5 := congrArg Int32.toInt (congrFun hf_u_488_101 5)
              have hfa_101_6 := congrArg Int32.toInt (congrFun hf_u_488_101 6)
              have hfa_101_7 := congrArg Int32.toInt (congrFun hf_u_488_101 7)
              have hfa_101_9 := congrArg Int32.toInt (congrFun hf_u_488_101 9)
              have hT_ := hxz_490.1
              have hE_ := hxz_490.2.1
              refine z_if_eq (tgt := 87) (u := z_490.toInt) E dX10_readNext_77 (by decide) rfl (fun h_492 => ?_) (fun h_492 => ?_)
              ·
                have hE1_ : u_475 = u_488 := hE_.resolve_left (by omega)
                refine s_aload_n E dX10_readNext_87 rfl rfl ?_
                refine s_ldcS (i := 21) E (by decide) rfl dX10_readNext_88 ?_
                refine s_vI (As := [AX (sA aC 21)]) (S := []) E (Z_X10_takes_95 l D aC b u_488  hj_491.1  21 (by decide) (by omega)) cv_X10_150 rfl rfl rfl (jv_lt hj_491 (by decide)) (Nat.le_of_ble_eq_true rfl) (Nat.le_of_ble_eq_true rfl) ⟨(Nat.le_of_ble_eq_true rfl), (Nat.le_of_ble_eq_true rfl)⟩ (Nat.le_of_ble_eq_true rfl) dX10_readNext_90 (fun z_495 u_493 hp_494 => ?_)
                obtain ⟨hz_495, hxz_495, hf_u_493_101, hp_494⟩ := hp_494
                have hj_496 := jv_trans hj_491 hp_494
                have hfa_101_0 := congrArg Int32.toInt (congrFun hf_u_493_101 0)
                have hfa_101_4 := congrArg Int32.toInt (congrFun hf_u_493_101 4)
                have hfa_101_5 := congrArg Int32.toInt (congrFun hf_u_493_101 5)
                have hfa_101_6 := congrArg Int32.toInt (congrFun hf_u_493_101 6)
                have hfa_101_7 := congrArg Int32.toInt (congrFun hf_u_493_101 7)
                have hfa_101_9 := congrArg Int32.toInt (congrFun hf_u_493_101 9)
                have hT2_ := hxz_495.1
                rw [← hE1_] at hT2_
                have hF_ := hxz_495.2.1
                refine z_if_eq (tgt := 150) (u := z_495.toInt) E dX10_readNext_93 (by decide) rfl (fun h_497 => ?_) (fun h_497 => ?_)
                ·
                  have hE2_ : u_475 = u_493 := hE1_.trans (hF_.resolve_left (by omega))
                  refine s_aload_n E dX10_readNext_150 rfl rfl ?_
                  refine s_ldcS (i := 22) E (by decide) rfl dX10_readNext_151 ?_
                  refine s_vI (As := [AX (sA aC 22)]) (S := []) E (Z_X10_takes_95 l D aC b u_493  hj_496.1  22 (by decide) (by omega)) cv_X10_150 rfl rfl rfl (jv_lt hj_496 (by decide)) (Nat.le_of_ble_eq_true rfl) (Nat.le_of_ble_eq_true rfl) ⟨(Nat.le_of_ble_eq_true rfl), (Nat.le_of_ble_eq_true rfl)⟩ (Nat.le_of_ble_eq_true rfl) dX10_readNext_153 (fun z_500 u_498 hp_499 => ?_)
                  obtain ⟨hz_500, hxz_500, hf_u_498_101, hp_499⟩ := hp_499
                  have hj_501 := jv_trans hj_496 hp_499
                  have hfa_101_0 := congrArg Int32.toInt (congrFun hf_u_498_101 0)
                  have hfa_101_4 := congrArg Int32.toInt (congrFun hf_u_498_101 4)
                  have hfa_101_5 := congrArg Int32.toInt (congrFun hf_u_498_101 5)
                  have hfa_101_6 := congrArg Int32.toInt (congrFun hf_u_498_101 6)
                  have hfa_101_7 := congrArg Int32.toInt (congrFun hf_u_498_101 7)
                  have hfa_101_9 := congrArg Int32.toInt (congrFun hf_u_498_101 9)
                  have hT3_ := hxz_500.1
                  rw [← hE2_] at hT3_
                  have hG_ := hxz_500.2.1
                  refine z_if_eq (tgt := 224) (u := z_500.toInt) E dX10_readNext_156 (by decide) rfl (fun h_502 => ?_) (fun h_502 => ?_)
                  ·
                    have hd_ : ¬ (u_475.2.2.1 101 7).toInt = 10 := by first | exact (hq_.resolve_left (by omega)).2.2.2 (hw_30.mp (by omega)) | (exfalso; exact absurd (hT_.mpr (hw_3.mp (by omega))) (by omega)) | (exfalso; exact absurd (hT2_.mpr (hw_12.mp (by omega))) (by omega)) | (exfalso; exact absurd (hT3_.mpr (hw_21.mp (by omega))) (by omega)) | (exfalso; omega)
                    refine s_aload_n E dX10_readNext_224 rfl rfl ?_
                    refine s_vV (As := []) (S := []) E (Z_X10_advance_95 l D aC b u_498  hj_501.1 ) cv_X10_147 rfl rfl rfl (jv_lt hj_501 (by decide)) (Nat.le_of_ble_eq_true rfl) (Nat.le_of_ble_eq_true rfl) ⟨(Nat.le_of_ble_eq_true rfl), (Nat.le_of_ble_eq_true rfl)⟩ (Nat.le_of_ble_eq_true rfl) dX10_readNext_225 (fun u_503 hp_504 => ?_)
                    obtain ⟨hx_hp_504, hf_u_503_99, hf_u_503_101, hp_504⟩ := hp_504
                    have hj_505 := jv_trans hj_501 hp_504
                    have hfa_101_0 := congrArg Int32.toInt (congrFun hf_u_503_101 0)
                    have hfa_101_4 := congrArg Int32.toInt (congrFun hf_u_503_101 4)
                    have hfa_101_5 := congrArg Int32.toInt (congrFun hf_u_503_101 5)
                    have hfa_101_6 := congrArg Int32.toInt (congrFun hf_u_503_101 6)
                    have hfa_101_7 := congrArg Int32.toInt (congrFun hf_u_503_101 7)
                    have hfa_101_9 := congrArg Int32.toInt (congrFun hf_u_503_101 9)
                    refine s_aload_n E dX10_readNext_228 rfl rfl ?_
                    refine s_vV (As := []) (S := []) E (Z_X10_readBid_95 l D aC b u_503  hj_505.1  (by omega) (by omega)) cv_X10_206 rfl rfl rfl (jv_lt hj_505 (by decide)) (Nat.le_of_ble_eq_true rfl) (Nat.le_of_ble_eq_true rfl) ⟨(Nat.le_of_ble_eq_true rfl), (Nat.le_of_ble_eq_true rfl)⟩ (Nat.le_of_ble_eq_true rfl) dX10_readNext_229 (fun u_506 hp_507 => ?_)
                    obtain ⟨hx_hp_507, hp_507⟩ := hp_507
                    have hj_508 := jv_trans hj_505 hp_507
                    exact r_void E dX10_readNext_232 ⟨(by omega), hj_508⟩
                  ·
                    have hd_ : ¬ (u_475.2.2.1 101 6).toInt = 8 := by first | exact (hq_.resolve_left (by omega)).2.2.1 (hT3_.mp (by omega)) | (exfalso; omega)
                    refine s_bipush (v := 58) E dX10_readNext_159 (by decide) ?_
                    refine s_iconst (v := 2) E dX10_readNext_161 (by decide) ?_
                    refine s_aload_n E dX10_readNext_162 rfl rfl ?_
                    refine s_gR (r := 101) E fg_X10_31 rfl rfl (jv_lt hj_501 (by decide)) (jv_r hj_501 (by decide +kernel)) dX10_readNext_163 ?_
                    refine s_bipush (v := 6) E dX10_readNext_166 (by decide) ?_
                    refine s_iald E rfl (jv_lt hj_501 (by decide)) (z_in (u := 6) (by decide) (by omega) (by omega)) dX10_readNext_168 ?_
                    refine z_nm (P := fun z => z.toInt = (u_498.2.2.1 101 6).toInt ∧ 0 ≤ z.toInt ∧ z.toInt ≤ 8) ⟨rfl, (rw_101_6 hj_501)⟩ (fun z_509 hz_509 => ?_)
                    refine z_imul (u := 2) (v := z_509.toInt) E dX10_readNext_169 (by decide) rfl (by omega) (by omega) (fun z_510 hz_510 => ?_)
                    have hhz_510 : 0 ≤ z_510.toInt ∧ z_510.toInt ≤ 14 := by omega
                    refine z_iadd (u := 58) (v := z_510.toInt) E dX10_readNext_170 (by decide) rfl (by omega) (by omega) (fun z_511 hz_511 => ?_)
                    refine s_istore_n (L2 := [some (AR 95), some (AI 0), some (AI z_511)]) E dX10_readNext_171 rfl (by decide) rfl ?_
                    refine s_aload_n E dX10_readNext_172 rfl rfl ?_
                    refine s_gR (r := 101) E fg_X10_31 rfl rfl (jv_lt hj_501 (by decide)) (jv_r hj_501 (by decide +kernel)) dX10_readNext_173 ?_
                    refine s_iload_n E dX10_readNext_176 rfl rfl ?_
                    refine s_aload_n E dX10_readNext_177 rfl rfl ?_
                    refine s_ldcS (i := 27) E (by decide) rfl dX10_readNext_178 ?_
                    refine s_iconst (v := 0) E dX10_readNext_180 (by decide) ?_
                    refine s_aload_n E dX10_readNext_181 rfl rfl ?_
                    refine s_gR (r := 101) E fg_X10_31 rfl rfl (jv_lt hj_501 (by decide)) (jv_r hj_501 (by decide +kernel)) dX10_readNext_182 ?_
                    refine s_iconst (v := 5) E dX10_readNext_185 (by decide) ?_
                    refine s_iald E rfl (jv_lt hj_501 (by decide)) (z_in (u := 5) (by decide) (by omega) (by omega)) dX10_readNext_186 ?_
                    refine z_nm (P := fun z => z.toInt = (u_498.2.2.1 101 5).toInt ∧ 0 ≤ z.toInt ∧ z.toInt ≤ 6) ⟨rfl, (rw_101_5 hj_501)⟩ (fun z_512 hz_512 => ?_)
                    refine s_iconst (v := 1) E dX10_readNext_187 (by decide) ?_
                    refine z_isub (u := z_512.toInt) (v := 1) E dX10_readNext_188 rfl (by decide) (by omega) (by omega) (fun z_513 hz_513 => ?_)
                    refine s_vI (As := [AX (sA aC 27), AI 0, AI z_513]) (S := [AI z_511, AR 101]) E (Z_X10_told_95 l D aC b u_498 0 z_513 hj_501.1  27 (by decide) (by omega)) cv_X10_164 rfl rfl rfl (jv_lt hj_501 (by decide)) (Nat.le_of_ble_eq_true rfl) (Nat.le_of_ble_eq_true rfl) ⟨(Nat.le_of_ble_eq_true rfl), (Nat.le_of_ble_eq_true rfl)⟩ (Nat.le_of_ble_eq_true rfl) dX10_readNext_189 (fun z_516 u_514 hp_515 => ?_)
                    obtain ⟨hz_516, hxz_516, hf_u_514_101, hp_515⟩ := hp_515
                    have hc_ : (0 : Int32).toInt = 0 := by decide
                    have hj_517 := jv_trans hj_501 hp_515
                    have hfa_101_0 := congrArg Int32.toInt (congrFun hf_u_514_101 0)
                    have hfa_101_4 := congrArg Int32.toInt (congrFun hf_u_514_101 4)
                    have hfa_101_5 := congrArg Int32.toInt (congrFun hf_u_514_101 5)
                    have hfa_101_6 := congrArg Int32.toInt (congrFun hf_u_514_101 6)
                    have hfa_101_7 := congrArg Int32.toInt (congrFun hf_u_514_101 7)
                    have hfa_101_9 := congrArg Int32.toInt (congrFun hf_u_514_101 9)
                    have hrz_516 : 0 ≤ z_516.toInt ∧ z_516.toInt ≤ 5 := by omega
                    refine s_iast E rfl (jv_lt hj_517 (by decide)) (z_in (u := z_511.toInt) rfl (by omega) (by omega)) dX10_readNext_192 ?_
                    have hj_519 : Jv w (upI u_514 101 z_511.toNatClampNeg z_516) := (jv_a_101 (i := z_511) (x := z_516) hj_517 0 5 58 72 2 z_511.toInt (by decide +kernel) (by decide) rfl (by omega) (by omega) (by omega) (by have hb_ := z32 z_516; omega) (by have hb_ := z32 z_516; omega))
                    have hke_ : ((upI u_514 101 z_511.toNatClampNeg z_516).2.2.1 95 7).toInt = (u_514.2.2.1 95 7).toInt := rfl
                    have hke_ : ((upI u_514 101 z_511.toNatClampNeg z_516).2.2.1 95 8).toInt = (u_514.2.2.1 95 8).toInt := rfl
                    have hke_ : ((upI u_514 101 z_511.toNatClampNeg z_516).2.2.1 95 9).toInt = (u_514.2.2.1 95 9).toInt := rfl
                    have hke_ : ((upI u_514 101 z_511.toNatClampNeg z_516).2.2.1 95 10).toInt = (u_514.2.2.1 95 10).toInt := rfl
                    have hke_ : ((upI u_514 101 z_511.toNatClampNeg z_516).2.2.1 95 12).toInt = (u_514.2.2.1 95 12).toInt := rfl
                    have hke_ : ((upI u_514 101 z_511.toNatClampNeg z_516).2.2.1 101 0).toInt = (u_514.2.2.1 101 0).toInt := keep_ne (u := z_511.toInt) rfl (by omega) (by omega)
                    have hke_ : ((upI u_514 101 z_511.toNatClampNeg z_516).2.2.1 101 4).toInt = (u_514.2.2.1 101 4).toInt := keep_ne (u := z_511.toInt) rfl (by omega) (by omega)
                    have hke_ : ((upI u_514 101 z_511.toNatClampNeg z_516).2.2.1 101 5).toInt = (u_514.2.2.1 101 5).toInt := keep_ne (u := z_511.toInt) rfl (by omega) (by omega)
                    have hke_ : ((upI u_514 101 z_511.toNatClampNeg z_516).2.2.1 101 6).toInt = (u_514.2.2.1 101 6).toInt := keep_ne (u := z_511.toInt) rfl (by omega) (by omega)
                    have hke_ : ((upI u_514 101 z_511.toNatClampNeg z_516).2.2.1 101 7).toInt = (u_514.2.2.1 101 7).toInt := keep_ne (u := z_511.toInt) rfl (by omega) (by omega)
                    have hke_ : ((upI u_514 101 z_511.toNatClampNeg z_516).2.2.1 101 9).toInt = (u_514.2.2.1 101 9).toInt := keep_ne (u := z_511.toInt) rfl (by omega) (by omega)
                    refine s_aload_n E dX10_readNext_193 rfl rfl ?_
                    refine s_gR (r := 101) E fg_X10_31 rfl rfl (jv_lt hj_519 (by decide)) (jv_r hj_519 (by decide +kernel)) dX10_readNext_194 ?_
                    refine s_iload_n E dX10_readNext_197 rfl rfl ?_
                    refine s_iconst (v := 1) E dX10_readNext_198 (by decide) ?_
                    refine z_iadd (u := z_511.toInt) (v := 1) E dX10_readNext_199 rfl (by decide) (by omega) (by omega) (fun z_520 hz_520 => ?_)
                    refine s_aload_n E dX10_readNext_200 rfl rfl ?_
                    refine s_ldcS (i := 28) E (by decide) rfl dX10_readNext_201 ?_
                    refine s_iconst (v := 1) E dX10_readNext_203 (by decide) ?_
                    refine s_bipush (v := 20) E dX10_readNext_204 (by decide) ?_
                    refine s_vI (As := [AX (sA aC 28), AI 1, AI 20]) (S := [AI z_520, AR 101]) E (Z_X10_told_95 l D aC b (upI u_514 101 z_511.toNatClampNeg z_516) 1 20 hj_519.1  28 (by decide) (by omega)) cv_X10_164 rfl rfl rfl (jv_lt hj_519 (by decide)) (Nat.le_of_ble_eq_true rfl) (Nat.le_of_ble_eq_true rfl) ⟨(Nat.le_of_ble_eq_true rfl), (Nat.le_of_ble_eq_true rfl)⟩ (Nat.le_of_ble_eq_true rfl) dX10_readNext_206 (fun z_523 u_521 hp_522 => ?_)
                    obtain ⟨hz_523, hxz_523, hf_u_521_101, hp_522⟩ := hp_522
                    have hc_ : (1 : Int32).toInt = 1 := by decide
                    have hc_ : (20 : Int32).toInt = 20 := by decide
                    have hj_524 := jv_trans hj_519 hp_522
                    have hfa_101_0 := congrArg Int32.toInt (congrFun hf_u_521_101 0)
                    have hfa_101_4 := congrArg Int32.toInt (congrFun hf_u_521_101 4)
                    have hfa_101_5 := congrArg Int32.toInt (congrFun hf_u_521_101 5)
                    have hfa_101_6 := congrArg Int32.toInt (congrFun hf_u_521_101 6)
                    have hfa_101_7 := congrArg Int32.toInt (congrFun hf_u_521_101 7)
                    have hfa_101_9 := congrArg Int32.toInt (congrFun hf_u_521_101 9)
                    have hrz_523 : 0 ≤ z_523.toInt ∧ z_523.toInt ≤ 20 := by omega
                    refine s_iast E rfl (jv_lt hj_524 (by decide)) (z_in (u := z_520.toInt) rfl (by omega) (by omega)) dX10_readNext_209 ?_
                    have hj_526 : Jv w (upI u_521 101 z_520.toNatClampNeg z_523) := (jv_a_101 (i := z_520) (x := z_523) hj_524 0 20 59 73 2 z_520.toInt (by decide +kernel) (by decide) rfl (by omega) (by omega) (by omega) (by have hb_ := z32 z_523; omega) (by have hb_ := z32 z_523; omega))
                    have hke_ : ((upI u_521 101 z_520.toNatClampNeg z_523).2.2.1 95 7).toInt = (u_521.2.2.1 95 7).toInt := rfl
                    have hke_ : ((upI u_521 101 z_520.toNatClampNeg z_523).2.2.1 95 8).toInt = (u_521.2.2.1 95 8).toInt := rfl
                    have hke_ : ((upI u_521 101 z_520.toNatClampNeg z_523).2.2.1 95 9).toInt = (u_521.2.2.1 95 9).toInt := rfl
                    have hke_ : ((upI u_521 101 z_520.toNatClampNeg z_523).2.2.1 95 10).toInt = (u_521.2.2.1 95 10).toInt := rfl
                    have hke_ : ((upI u_521 101 z_520.toNatClampNeg z_523).2.2.1 95 12).toInt = (u_521.2.2.1 95 12).toInt := rfl
                    have hke_ : ((upI u_521 101 z_520.toNatClampNeg z_523).2.2.1 101 0).toInt = (u_521.2.2.1 101 0).toInt := keep_ne (u := z_520.toInt) rfl (by omega) (by omega)
                    have hke_ : ((upI u_521 101 z_520.toNatClampNeg z_523).2.2.1 101 4).toInt = (u_521.2.2.1 101 4).toInt := keep_ne (u := z_520.toInt) rfl (by omega) (by omega)
                    have hke_ : ((upI u_521 101 z_520.toNatClampNeg z_523).2.2.1 101 5).toInt = (u_521.2.2.1 101 5).toInt := keep_ne (u := z_520.toInt) rfl (by omega) (by omega)
                    have hke_ : ((upI u_521 101 z_520.toNatClampNeg z_523).2.2.1 101 6).toInt = (u_521.2.2.1 101 6).toInt := keep_ne (u := z_520.toInt) rfl (by omega) (by omega)
                    have hke_ : ((upI u_521 101 z_520.toNatClampNeg z_523).2.2.1 101 7).toInt = (u_521.2.2.1 101 7).toInt := keep_ne (u := z_520.toInt) rfl (by omega) (by omega)
                    have hke_ : ((upI u_521 101 z_520.toNatClampNeg z_523).2.2.1 101 9).toInt = (u_521.2.2.1 101 9).toInt := keep_ne (u := z_520.toInt) rfl (by omega) (by omega)
                    refine s_aload_n E dX10_readNext_210 rfl rfl ?_
                    refine s_gR (r := 101) E fg_X10_31 rfl rfl (jv_lt hj_526 (by decide)) (jv_r hj_526 (by decide +kernel)) dX10_readNext_211 ?_
                    refine s_bipush (v := 6) E dX10_readNext_214 (by decide) ?_
                    refine s_dup2 E dX10_readNext_216 ?_
                    refine s_iald E rfl (jv_lt hj_526 (by decide)) (z_in (u := 6) (by decide) (by omega) (by omega)) dX10_readNext_217 ?_
                    refine z_nm (P := fun z => z.toInt = ((upI u_521 101 z_520.toNatClampNeg z_523).2.2.1 101 6).toInt ∧ 0 ≤ z.toInt ∧ z.toInt ≤ 8) ⟨rfl, (rw_101_6 hj_526)⟩ (fun z_527 hz_527 => ?_)
                    refine s_iconst (v := 1) E dX10_readNext_218 (by decide) ?_
                    refine z_iadd (u := z_527.toInt) (v := 1) E dX10_readNext_219 rfl (by decide) (by omega) (by omega) (fun z_528 hz_528 => ?_)
                    have hhz_528 : 0 ≤ z_528.toInt ∧ z_528.toInt ≤ 8 := by omega
                    refine s_iast E rfl (jv_lt hj_526 (by decide)) (z_in (u := 6) (by decide) (by omega) (by omega)) dX10_readNext_220 ?_
                    refine s_world (w2 := (upI (upI u_521 101 z_520.toNatClampNeg z_523) 101 6 z_528)) rfl ?_
                    have hj_530 : Jv w (upI (upI u_521 101 z_520.toNatClampNeg z_523) 101 6 z_528) := (jv_a_101 (i := 6) (x := z_528) hj_526 0 8 6 6 1 6 (by decide +kernel) (by decide) (by decide) (by omega) (by omega) (by omega) (by have hb_ := z32 z_528; omega) (by have hb_ := z32 z_528; omega))
                    have hke_ : ((upI (upI u_521 101 z_520.toNatClampNeg z_523) 101 6 z_528).2.2.1 95 7).toInt = ((upI u_521 101 z_520.toNatClampNeg z_523).2.2.1 95 7).toInt := rfl
                    have hke_ : ((upI (upI u_521 101 z_520.toNatClampNeg z_523) 101 6 z_528).2.2.1 95 8).toInt = ((upI u_521 101 z_520.toNatClampNeg z_523).2.2.1 95 8).toInt := rfl
                    have hke_ : ((upI (upI u_521 101 z_520.toNatClampNeg z_523) 101 6 z_528).2.2.1 95 9).toInt = ((upI u_521 101 z_520.toNatClampNeg z_523).2.2.1 95 9).toInt := rfl
                    have hke_ : ((upI (upI u_521 101 z_520.toNatClampNeg z_523) 101 6 z_528).2.2.1 95 10).toInt = ((upI u_521 101 z_520.toNatClampNeg z_523).2.2.1 95 10).toInt := rfl
                    have hke_ : ((upI (upI u_521 101 z_520.toNatClampNeg z_523) 101 6 z_528).2.2.1 95 12).toInt = ((upI u_521 101 z_520.toNatClampNeg z_523).2.2.1 95 12).toInt := rfl
                    have hke_ : ((upI (upI u_521 101 z_520.toNatClampNeg z_523) 101 6 z_528).2.2.1 101 0).toInt = ((upI u_521 101 z_520.toNatClampNeg z_523).2.2.1 101 0).toInt := rfl
                    have hke_ : ((upI (upI u_521 101 z_520.toNatClampNeg z_523) 101 6 z_528).2.2.1 101 4).toInt = ((upI u_521 101 z_520.toNatClampNeg z_523).2.2.1 101 4).toInt := rfl
                    have hke_ : ((upI (upI u_521 101 z_520.toNatClampNeg z_523) 101 6 z_528).2.2.1 101 5).toInt = ((upI u_521 101 z_520.toNatClampNeg z_523).2.2.1 101 5).toInt := rfl
                    have hke_ : ((upI (upI u_521 101 z_520.toNatClampNeg z_523) 101 6 z_528).2.2.1 101 6).toInt = z_528.toInt := rfl
                    have hke_ : ((upI (upI u_521 101 z_520.toNatClampNeg z_523) 101 6 z_528).2.2.1 101 7).toInt = ((upI u_521 101 z_520.toNatClampNeg z_523).2.2.1 101 7).toInt := rfl
                    have hke_ : ((upI (upI u_521 101 z_520.toNatClampNeg z_523) 101 6 z_528).2.2.1 101 9).toInt = ((upI u_521 101 z_520.toNatClampNeg z_523).2.2.1 101 9).toInt := rfl
                    refine s_goto (tgt := 232) E dX10_readNext_221 (by decide) ?_
                    exact r_void E dX10_readNext_232 ⟨(by omega), hj_530⟩
                ·
                  have hd_ : ¬ (u_475.2.2.1 101 5).toInt = 6 := by first | exact (hq_.resolve_left (by omega)).2.1 (hT2_.mp (by omega)) | (exfalso; omega)
                  refine s_bipush (v := 46) E dX10_readNext_96 (by decide) ?_
                  refine s_iconst (v := 2) E dX10_readNext_98 (by decide) ?_
                  refine s_aload_n E dX10_readNext_99 rfl rfl ?_
                  refine s_gR (r := 101) E fg_X10_31 rfl rfl (jv_lt hj_496 (by decide)) (jv_r hj_496 (by decide +kernel)) dX10_readNext_100 ?_
                  refine s_iconst (v := 5) E dX10_readNext_103 (by decide) ?_
                  refine s_iald E rfl (jv_lt hj_496 (by decide)) (z_in (u := 5) (by decide) (by omega) (by omega)) dX10_readNext_104 ?_
                  refine z_nm (P := fun z => z.toInt = (u_493.2.2.1 101 5).toInt ∧ 0 ≤ z.toInt ∧ z.toInt ≤ 6) ⟨rfl, (rw_101_5 hj_496)⟩ (fun z_531 hz_531 => ?_)
                  refine z_imul (u := 2) (v := z_531.toInt) E dX10_readNext_105 (by decide) rfl (by omega) (by omega) (fun z_532 hz_532 => ?_)
                  have hhz_532 : 0 ≤ z_532.toInt ∧ z_532.toInt ≤ 10 := by omega
                  refine z_iadd (u := 46) (v := z_532.toInt) E dX10_readNext_106 (by decide) rfl (by omega) (by omega) (fun z_533 hz_533 => ?_)
                  refine s_istore_n (L2 := [some (AR 95), some (AI 0), some (AI z_533)]) E dX10_readNext_107 rfl (by decide) rfl ?_
                  refine s_aload_n E dX10_readNext_108 rfl rfl ?_
                  refine s_gR (r := 101) E fg_X10_31 rfl rfl (jv_lt hj_496 (by decide)) (jv_r hj_496 (by decide +kernel)) dX10_readNext_109 ?_
                  refine s_iload_n E dX10_readNext_112 rfl rfl ?_
                  refine s_aload_n E dX10_readNext_113 rfl rfl ?_
                  refine s_ldcS (i := 26) E (by decide) rfl dX10_readNext_114 ?_
                  refine s_vI (As := [AX (sA aC 26)]) (S := [AI z_533, AR 101]) E (Z_X10_freshRoom_95 l D aC b u_493  hj_496.1  26 (by decide) (by omega)) cv_X10_182 rfl rfl rfl (jv_lt hj_496 (by decide)) (Nat.le_of_ble_eq_true rfl) (Nat.le_of_ble_eq_true rfl) ⟨(Nat.le_of_ble_eq_true rfl), (Nat.le_of_ble_eq_true rfl)⟩ (Nat.le_of_ble_eq_true rfl) dX10_readNext_116 (fun z_536 u_534 hp_535 => ?_)
                  obtain ⟨hz_536, hxz_536, hf_u_534_101, hp_535⟩ := hp_535
                  have hj_537 := jv_trans hj_496 hp_535
                  have hfa_101_0 := congrArg Int32.toInt (congrFun hf_u_534_101 0)
                  have hfa_101_4 := congrArg Int32.toInt (congrFun hf_u_534_101 4)
                  have hfa_101_5 := congrArg Int32.toInt (congrFun hf_u_534_101 5)
                  have hfa_101_6 := congrArg Int32.toInt (congrFun hf_u_534_101 6)
                  have hfa_101_7 := congrArg Int32.toInt (congrFun hf_u_534_101 7)
                  have hfa_101_9 := congrArg Int32.toInt (congrFun hf_u_534_101 9)
                  have hrz_536 : 0 ≤ z_536.toInt ∧ z_536.toInt ≤ 7 := by omega
                  have hRm_ : (u_534.2.2.1 95 12).toInt = 0 → z_536.toInt < (w.2.2.1 101 0).toInt := by intro h0_; omega
                  refine s_iast E rfl (jv_lt hj_537 (by decide)) (z_in (u := z_533.toInt) rfl (by omega) (by omega)) dX10_readNext_119 ?_
                  have hj_539 : Jv w (upI u_534 101 z_533.toNatClampNeg z_536) := (jv_lad0 hj_537 (by omega) (by omega) (by omega) (by have hb_ := z32 z_536; omega) (by have hb_ := z32 z_536; omega))
                  have hke_ : ((upI u_534 101 z_533.toNatClampNeg z_536).2.2.1 95 7).toInt = (u_534.2.2.1 95 7).toInt := rfl
                  have hke_ : ((upI u_534 101 z_533.toNatClampNeg z_536).2.2.1 95 8).toInt = (u_534.2.2.1 95 8).toInt := rfl
                  have hke_ : ((upI u_534 101 z_533.toNatClampNeg z_536).2.2.1 95 9).toInt = (u_534.2.2.1 95 9).toInt := rfl
                  have hke_ : ((upI u_534 101 z_533.toNatClampNeg z_536).2.2.1 95 10).toInt = (u_534.2.2.1 95 10).toInt := rfl
                  have hke_ : ((upI u_534 101 z_533.toNatClampNeg z_536).2.2.1 95 12).toInt = (u_534.2.2.1 95 12).toInt := rfl
                  have hke_ : ((upI u_534 101 z_533.toNatClampNeg z_536).2.2.1 101 0).toInt = (u_534.2.2.1 101 0).toInt := keep_ne (u := z_533.toInt) rfl (by omega) (by omega)
                  have hke_ : ((upI u_534 101 z_533.toNatClampNeg z_536).2.2.1 101 4).toInt = (u_534.2.2.1 101 4).toInt := keep_ne (u := z_533.toInt) rfl (by omega) (by omega)
                  have hke_ : ((upI u_534 101 z_533.toNatClampNeg z_536).2.2.1 101 5).toInt = (u_534.2.2.1 101 5).toInt := keep_ne (u := z_533.toInt) rfl (by omega) (by omega)
                  have hke_ : ((upI u_534 101 z_533.toNatClampNeg z_536).2.2.1 101 6).toInt = (u_534.2.2.1 101 6).toInt := keep_ne (u := z_533.toInt) rfl (by omega) (by omega)
                  have hke_ : ((upI u_534 101 z_533.toNatClampNeg z_536).2.2.1 101 7).toInt = (u_534.2.2.1 101 7).toInt := keep_ne (u := z_533.toInt) rfl (by omega) (by omega)
                  have hke_ : ((upI u_534 101 z_533.toNatClampNeg z_536).2.2.1 101 9).toInt = (u_534.2.2.1 101 9).toInt := keep_ne (u := z_533.toInt) rfl (by omega) (by omega)
                  refine s_aload_n E dX10_readNext_120 rfl rfl ?_
                  refine s_gR (r := 101) E fg_X10_31 rfl rfl (jv_lt hj_539 (by decide)) (jv_r hj_539 (by decide +kernel)) dX10_readNext_121 ?_
                  refine s_iload_n E dX10_readNext_124 rfl rfl ?_
                  refine s_iconst (v := 1) E dX10_readNext_125 (by decide) ?_
                  refine z_iadd (u := z_533.toInt) (v := 1) E dX10_readNext_126 rfl (by decide) (by omega) (by omega) (fun z_540 hz_540 => ?_)
                  refine s_aload_n E dX10_readNext_127 rfl rfl ?_
                  refine s_ldcS (i := 25) E (by decide) rfl dX10_readNext_128 ?_
                  refine s_iconst (v := 1) E dX10_readNext_130 (by decide) ?_
                  refine s_bipush (v := 9) E dX10_readNext_131 (by decide) ?_
                  refine s_vI (As := [AX (sA aC 25), AI 1, AI 9]) (S := [AI z_540, AR 101]) E (Z_X10_told_95 l D aC b (upI u_534 101 z_533.toNatClampNeg z_536) 1 9 hj_539.1  25 (by decide) (by omega)) cv_X10_164 rfl rfl rfl (jv_lt hj_539 (by decide)) (Nat.le_of_ble_eq_true rfl) (Nat.le_of_ble_eq_true rfl) ⟨(Nat.le_of_ble_eq_true rfl), (Nat.le_of_ble_eq_true rfl)⟩ (Nat.le_of_ble_eq_true rfl) dX10_readNext_133 (fun z_543 u_541 hp_542 => ?_)
                  obtain ⟨hz_543, hxz_543, hf_u_541_101, hp_542⟩ := hp_542
                  have hc_ : (1 : Int32).toInt = 1 := by decide
                  have hc_ : (9 : Int32).toInt = 9 := by decide
                  have hj_544 := jv_trans hj_539 hp_542
                  have hfa_101_0 := congrArg Int32.toInt (congrFun hf_u_541_101 0)
                  have hfa_101_4 := congrArg Int32.toInt (congrFun hf_u_541_101 4)
                  have hfa_101_5 := congrArg Int32.toInt (congrFun hf_u_541_101 5)
                  have hfa_101_6 := congrArg Int32.toInt (congrFun hf_u_541_101 6)
                  have hfa_101_7 := congrArg Int32.toInt (congrFun hf_u_541_101 7)
                  have hfa_101_9 := congrArg Int32.toInt (congrFun hf_u_541_101 9)
                  have hrz_543 : 0 ≤ z_543.toInt ∧ z_543.toInt ≤ 9 := by omega
                  have hLw_ : (u_541.2.2.1 95 12).toInt = 0 → 1 ≤ z_543.toInt := by intro h0_; omega
                  have fL_ := hf_u_541_101
                  refine s_iast E rfl (jv_lt hj_544 (by decide)) (z_in (u := z_540.toInt) rfl (by omega) (by omega)) dX10_readNext_136 ?_
                  have hj_546 : Jv w (upI u_541 101 z_540.toNatClampNeg z_543) := (jv_lad hj_544 (by omega) (by omega) (by omega) (by have hb_ := z32 z_543; omega) (by have hb_ := z32 z_543; omega))
                  have hke_ : ((upI u_541 101 z_540.toNatClampNeg z_543).2.2.1 95 7).toInt = (u_541.2.2.1 95 7).toInt := rfl
                  have hke_ : ((upI u_541 101 z_540.toNatClampNeg z_543).2.2.1 95 8).toInt = (u_541.2.2.1 95 8).toInt := rfl
                  have hke_ : ((upI u_541 101 z_540.toNatClampNeg z_543).2.2.1 95 9).toInt = (u_541.2.2.1 95 9).toInt := rfl
                  have hke_ : ((upI u_541 101 z_540.toNatClampNeg z_543).2.2.1 95 10).toInt = (u_541.2.2.1 95 10).toInt := rfl
                  have hke_ : ((upI u_541 101 z_540.toNatClampNeg z_543).2.2.1 95 12).toInt = (u_541.2.2.1 95 12).toInt := rfl
                  have hke_ : ((upI u_541 101 z_540.toNatClampNeg z_543).2.2.1 101 0).toInt = (u_541.2.2.1 101 0).toInt := keep_ne (u := z_540.toInt) rfl (by omega) (by omega)
                  have hke_ : ((upI u_541 101 z_540.toNatClampNeg z_543).2.2.1 101 4).toInt = (u_541.2.2.1 101 4).toInt := keep_ne (u := z_540.toInt) rfl (by omega) (by omega)
                  have hke_ : ((upI u_541 101 z_540.toNatClampNeg z_543).2.2.1 101 5).toInt = (u_541.2.2.1 101 5).toInt := keep_ne (u := z_540.toInt) rfl (by omega) (by omega)
                  have hke_ : ((upI u_541 101 z_540.toNatClampNeg z_543).2.2.1 101 6).toInt = (u_541.2.2.1 101 6).toInt := keep_ne (u := z_540.toInt) rfl (by omega) (by omega)
                  have hke_ : ((upI u_541 101 z_540.toNatClampNeg z_543).2.2.1 101 7).toInt = (u_541.2.2.1 101 7).toInt := keep_ne (u := z_540.toInt) rfl (by omega) (by omega)
                  have hke_ : ((upI u_541 101 z_540.toNatClampNeg z_543).2.2.1 101 9).toInt = (u_541.2.2.1 101 9).toInt := keep_ne (u := z_540.toInt) rfl (by omega) (by omega)
                  refine s_aload_n E dX10_readNext_137 rfl rfl ?_
                  refine s_gR (r := 101) E fg_X10_31 rfl rfl (jv_lt hj_546 (by decide)) (jv_r hj_546 (by decide +kernel)) dX10_readNext_138 ?_
                  refine s_iconst (v := 5) E dX10_readNext_141 (by decide) ?_
                  refine s_dup2 E dX10_readNext_142 ?_
                  refine s_iald E rfl (jv_lt hj_546 (by decide)) (z_in (u := 5) (by decide) (by omega) (by omega)) dX10_readNext_143 ?_
                  refine z_nm (P := fun z => z.toInt = ((upI u_541 101 z_540.toNatClampNeg z_543).2.2.1 101 5).toInt ∧ 0 ≤ z.toInt ∧ z.toInt ≤ 6) ⟨rfl, (rw_101_5 hj_546)⟩ (fun z_547 hz_547 => ?_)
                  refine s_iconst (v := 1) E dX10_readNext_144 (by decide) ?_
                  refine z_iadd (u := z_547.toInt) (v := 1) E dX10_readNext_145 rfl (by decide) (by omega) (by omega) (fun z_548 hz_548 => ?_)
                  have hhz_548 : 0 ≤ z_548.toInt ∧ z_548.toInt ≤ 6 := by omega
                  refine s_iast E rfl (jv_lt hj_546 (by decide)) (z_in (u := 5) (by decide) (by omega) (by omega)) dX10_readNext_146 ?_
                  refine s_world (w2 := (upI (upI u_541 101 z_540.toNatClampNeg z_543) 101 5 z_548)) rfl ?_
                  have hj_550 : Jv w (upI (upI u_541 101 z_540.toNatClampNeg z_543) 101 5 z_548) := (jv_lad5 hj_546 (by omega) (by omega) (by omega) (lad_fin (by omega) (by omega) hLw_) (fun h0_ => lad_fin2 (N := (w.2.2.1 101 5).toInt) fL_ (by omega) (by omega) (by omega) (by omega) (by have q_ := hRm_ (by omega); omega)))
                  have hke_ : ((upI (upI u_541 101 z_540.toNatClampNeg z_543) 101 5 z_548).2.2.1 95 7).toInt = ((upI u_541 101 z_540.toNatClampNeg z_543).2.2.1 95 7).toInt := rfl
                  have hke_ : ((upI (upI u_541 101 z_540.toNatClampNeg z_543) 101 5 z_548).2.2.1 95 8).toInt = ((upI u_541 101 z_540.toNatClampNeg z_543).2.2.1 95 8).toInt := rfl
                  have hke_ : ((upI (upI u_541 101 z_540.toNatClampNeg z_543) 101 5 z_548).2.2.1 95 9).toInt = ((upI u_541 101 z_540.toNatClampNeg z_543).2.2.1 95 9).toInt := rfl
                  have hke_ : ((upI (upI u_541 101 z_540.toNatClampNeg z_543) 101 5 z_548).2.2.1 95 10).toInt = ((upI u_541 101 z_540.toNatClampNeg z_543).2.2.1 95 10).toInt := rfl
                  have hke_ : ((upI (upI u_541 101 z_540.toNatClampNeg z_543) 101 5 z_548).2.2.1 95 12).toInt = ((upI u_541 101 z_540.toNatClampNeg z_543).2.2.1 95 12).toInt := rfl
                  have hke_ : ((upI (upI u_541 101 z_540.toNatClampNeg z_543) 101 5 z_548).2.2.1 101 0).toInt = ((upI u_541 101 z_540.toNatClampNeg z_543).2.2.1 101 0).toInt := rfl
                  have hke_ : ((upI (upI u_541 101 z_540.toNatClampNeg z_543) 101 5 z_548).2.2.1 101 4).toInt = ((upI u_541 101 z_540.toNatClampNeg z_543).2.2.1 101 4).toInt := rfl
                  have hke_ : ((upI (upI u_541 101 z_540.toNatClampNeg z_543) 101 5 z_548).2.2.1 101 5).toInt = z_548.toInt := rfl
                  have hke_ : ((upI (upI u_541 101 z_540.toNatClampNeg z_543) 101 5 z_548).2.2.1 101 6).toInt = ((upI u_541 101 z_540.toNatClampNeg z_543).2.2.1 101 6).toInt := rfl
                  have hke_ : ((upI (upI u_541 101 z_540.toNatClampNeg z_543) 101 5 z_548).2.2.1 101 7).toInt = ((upI u_541 101 z_540.toNatClampNeg z_543).2.2.1 101 7).toInt := rfl
                  have hke_ : ((upI (upI u_541 101 z_540.toNatClampNeg z_543) 101 5 z_548).2.2.1 101 9).toInt = ((upI u_541 101 z_540.toNatClampNeg z_543).2.2.1 101 9).toInt := rfl
                  refine s_goto (tgt := 232) E dX10_readNext_147 (by decide) ?_
                  exact r_void E dX10_readNext_232 ⟨(by omega), hj_550⟩
              ·
                have hd_ : ¬ (u_475.2.2.1 101 4).toInt = 12 := by first | exact (hq_.resolve_left (by omega)).1 (hT_.mp (by omega)) | (exfalso; omega)
                refine s_aload_n E dX10_readNext_80 rfl rfl ?_
                refine s_vV (As := []) (S := []) E (Z_X10_readDoor_95 l D aC b u_488  hj_491.1  (by omega) (by omega)) cv_X10_198 rfl rfl rfl (jv_lt hj_491 (by decide)) (Nat.le_of_ble_eq_true rfl) (Nat.le_of_ble_eq_true rfl) ⟨(Nat.le_of_ble_eq_true rfl), (Nat.le_of_ble_eq_true rfl)⟩ (Nat.le_of_ble_eq_true rfl) dX10_readNext_81 (fun u_551 hp_552 => ?_)
                obtain ⟨hx_hp_552, hp_552⟩ := hp_552
                have hj_553 := jv_trans hj_491 hp_552
                refine s_goto (tgt := 232) E dX10_readNext_84 (by decide) ?_
                exact r_void E dX10_readNext_232 ⟨(by omega), hj_553⟩
            ·
              exact r_void E dX10_readNext_70 ⟨(by omega), hj_477⟩
          ·
            refine s_aload_n E dX10_readNext_58 rfl rfl ?_
            refine s_iconst (v := 3) E dX10_readNext_59 (by decide) ?_
            refine s_vV (As := [AI 3]) (S := []) E (Z_X10_errs_95 l D aC b u_475 3 hj_477.1 (by decide)) cv_X10_153 rfl rfl rfl (jv_lt hj_477 (by decide)) (Nat.le_of_ble_eq_true rfl) (Nat.le_of_ble_eq_true rfl) ⟨(Nat.le_of_ble_eq_true rfl), (Nat.le_of_ble_eq_true rfl)⟩ (Nat.le_of_ble_eq_true rfl) dX10_readNext_60 (fun u_554 hp_555 => ?_)
            have hc_ : (3 : Int32).toInt = 3 := by decide
            obtain ⟨hx_hp_555, hf_u_554_101, hp_555⟩ := hp_555
            have hj_556 := jv_trans hj_477 hp_555
            have hfa_101_0 := congrArg Int32.toInt (congrFun hf_u_554_101 0)
            have hfa_101_4 := congrArg Int32.toInt (congrFun hf_u_554_101 4)
            have hfa_101_5 := congrArg Int32.toInt (congrFun hf_u_554_101 5)
            have hfa_101_6 := congrArg Int32.toInt (congrFun hf_u_554_101 6)
            have hfa_101_7 := congrArg Int32.toInt (congrFun hf_u_554_101 7)
            have hfa_101_9 := congrArg Int32.toInt (congrFun hf_u_554_101 9)
            refine s_aload_n E dX10_readNext_63 rfl rfl ?_
            refine s_vI (As := []) (S := []) E (Z_X10_good_95 l D aC b u_554  hj_556.1 ) cv_X10_130 rfl rfl rfl (jv_lt hj_556 (by decide)) (Nat.le_of_ble_eq_true rfl) (Nat.le_of_ble_eq_true rfl) ⟨(Nat.le_of_ble_eq_true rfl), (Nat.le_of_ble_eq_true rfl)⟩ (Nat.le_of_ble_eq_true rfl) dX10_readNext_64 (fun z_559 u_557 hp_558 => ?_)
            obtain ⟨hz_559, hxz_559, hp_558⟩ := hp_558
            subst hp_558
            refine z_if_ne (tgt := 71) (u := z_559.toInt) E dX10_readNext_67 (by decide) rfl (fun h_561 => ?_) (fun h_561 => ?_)
            ·
              have hn4_ := rw_101_4 hj_556
              have hn5_ := rw_101_5 hj_556
              have hn6_ := rw_101_6 hj_556
              have hn7_ := rw_101_7 hj_556
              refine s_aload_n E dX10_readNext_71 rfl rfl ?_
              refine s_ldcS (i := 20) E (by decide) rfl dX10_readNext_72 ?_
              refine s_vI (As := [AX (sA aC 20)]) (S := []) E (Z_X10_takes_95 l D aC b u_554  hj_556.1  20 (by decide) (by omega)) cv_X10_150 rfl rfl rfl (jv_lt hj_556 (by decide)) (Nat.le_of_ble_eq_true rfl) (Nat.le_of_ble_eq_true rfl) ⟨(Nat.le_of_ble_eq_true rfl), (Nat.le_of_ble_eq_true rfl)⟩ (Nat.le_of_ble_eq_true rfl) dX10_readNext_74 (fun z_564 u_562 hp_563 => ?_)
              obtain ⟨hz_564, hxz_564, hf_u_562_101, hp_563⟩ := hp_563
              have hj_565 := jv_trans hj_556 hp_563
              have hfa_101_0 := congrArg Int32.toInt (congrFun hf_u_562_101 0)
              have hfa_101_4 := congrArg Int32.toInt (congrFun hf_u_562_101 4)
              have hfa_101_5 := congrArg Int32.toInt (congrFun hf_u_562_101 5)
              have hfa_101_6 := congrArg Int32.toInt (congrFun hf_u_562_101 6)
              have hfa_101_7 := congrArg Int32.toInt (congrFun hf_u_562_101 7)
              have hfa_101_9 := congrArg Int32.toInt (congrFun hf_u_562_101 9)
              have hT_ := hxz_564.1
              have hE_ := hxz_564.2.1
              refine z_if_eq (tgt := 87) (u := z_564.toInt) E dX10_readNext_77 (by decide) rfl (fun h_566 => ?_) (fun h_566 => ?_)
              ·
                have hE1_ : u_554 = u_562 := hE_.resolve_left (by omega)
                refine s_aload_n E dX10_readNext_87 rfl rfl ?_
                refine s_ldcS (i := 21) E (by decide) rfl dX10_readNext_88 ?_
                refine s_vI (As := [AX (sA aC 21)]) (S := []) E (Z_X10_takes_95 l D aC b u_562  hj_565.1  21 (by decide) (by omega)) cv_X10_150 rfl rfl rfl (jv_lt hj_565 (by decide)) (Nat.le_of_ble_eq_true rfl) (Nat.le_of_ble_eq_true rfl) ⟨(Nat.le_of_ble_eq_true rfl), (Nat.le_of_ble_eq_true rfl)⟩ (Nat.le_of_ble_eq_true rfl) dX10_readNext_90 (fun z_569 u_567 hp_568 => ?_)
                obtain ⟨hz_569, hxz_569, hf_u_567_101, hp_568⟩ := hp_568
                have hj_570 := jv_trans hj_565 hp_568
                have hfa_101_0 := congrArg Int32.toInt (congrFun hf_u_567_101 0)
                have hfa_101_4 := congrArg Int32.toInt (congrFun hf_u_567_101 4)
                have hfa_101_5 := congrArg Int32.toInt (congrFun hf_u_567_101 5)
                have hfa_101_6 := congrArg Int32.toInt (congrFun hf_u_567_101 6)
                have hfa_101_7 := congrArg Int32.toInt (congrFun hf_u_567_101 7)
                have hfa_101_9 := congrArg Int32.toInt (congrFun hf_u_567_101 9)
                have hT2_ := hxz_569.1
                rw [← hE1_] at hT2_
                have hF_ := hxz_569.2.1
                refine z_if_eq (tgt := 150) (u := z_569.toInt) E dX10_readNext_93 (by decide) rfl (fun h_571 => ?_) (fun h_571 => ?_)
                ·
                  have hE2_ : u_554 = u_567 := hE1_.trans (hF_.resolve_left (by omega))
                  refine s_aload_n E dX10_readNext_150 rfl rfl ?_
                  refine s_ldcS (i := 22) E (by decide) rfl dX10_readNext_151 ?_
                  refine s_vI (As := [AX (sA aC 22)]) (S := []) E (Z_X10_takes_95 l D aC b u_567  hj_570.1  22 (by decide) (by omega)) cv_X10_150 rfl rfl rfl (jv_lt hj_570 (by decide)) (Nat.le_of_ble_eq_true rfl) (Nat.le_of_ble_eq_true rfl) ⟨(Nat.le_of_ble_eq_true rfl), (Nat.le_of_ble_eq_true rfl)⟩ (Nat.le_of_ble_eq_true rfl) dX10_readNext_153 (fun z_574 u_572 hp_573 => ?_)
                  obtain ⟨hz_574, hxz_574, hf_u_572_101, hp_573⟩ := hp_573
                  have hj_575 := jv_trans hj_570 hp_573
                  have hfa_101_0 := congrArg Int32.toInt (congrFun hf_u_572_101 0)
                  have hfa_101_4 := congrArg Int32.toInt (congrFun hf_u_572_101 4)
                  have hfa_101_5 := congrArg Int32.toInt (congrFun hf_u_572_101 5)
                  have hfa_101_6 := congrArg Int32.toInt (congrFun hf_u_572_101 6)
                  have hfa_101_7 := congrArg Int32.toInt (congrFun hf_u_572_101 7)
                  have hfa_101_9 := congrArg Int32.toInt (congrFun hf_u_572_101 9)
                  have hT3_ := hxz_574.1
                  rw [← hE2_] at hT3_
                  have hG_ := hxz_574.2.1
                  refine z_if_eq (tgt := 224) (u := z_574.toInt) E dX10_readNext_156 (by decide) rfl (fun h_576 => ?_) (fun h_576 => ?_)
                  ·
                    have hd_ : ¬ (u_554.2.2.1 101 7).toInt = 10 := by first | exact (hq_.resolve_left (by omega)).2.2.2 (hw_30.mp (by omega)) | (exfalso; exact absurd (hT_.mpr (hw_3.mp (by omega))) (by omega)) | (exfalso; exact absurd (hT2_.mpr (hw_12.mp (by omega))) (by omega)) | (exfalso; exact absurd (hT3_.mpr (hw_21.mp (by omega))) (by omega)) | (exfalso; omega)
                    refine s_aload_n E dX10_readNext_224 rfl rfl ?_
                    refine s_vV (As := []) (S := []) E (Z_X10_advance_95 l D aC b u_572  hj_575.1 ) cv_X10_147 rfl rfl rfl (jv_lt hj_575 (by decide)) (Nat.le_of_ble_eq_true rfl) (Nat.le_of_ble_eq_true rfl) ⟨(Nat.le_of_ble_eq_true rfl), (Nat.le_of_ble_eq_true rfl)⟩ (Nat.le_of_ble_eq_true rfl) dX10_readNext_225 (fun u_577 hp_578 => ?_)
                    obtain ⟨hx_hp_578, hf_u_577_99, hf_u_577_101, hp_578⟩ := hp_578
                    have hj_579 := jv_trans hj_575 hp_578
                    have hfa_101_0 := congrArg Int32.toInt (congrFun hf_u_577_101 0)
                    have hfa_101_4 := congrArg Int32.toInt (congrFun hf_u_577_101 4)
                    have hfa_101_5 := congrArg Int32.toInt (congrFun hf_u_577_101 5)
                    have hfa_101_6 := congrArg Int32.toInt (congrFun hf_u_577_101 6)
                    have hfa_101_7 := congrArg Int32.toInt (congrFun hf_u_577_101 7)
                    have hfa_101_9 := congrArg Int32.toInt (congrFun hf_u_577_101 9)
                    refine s_aload_n E dX10_readNext_228 rfl rfl ?_
                    refine s_vV (As := []) (S := []) E (Z_X10_readBid_95 l D aC b u_577  hj_579.1  (by omega) (by omega)) cv_X10_206 rfl rfl rfl (jv_lt hj_579 (by decide)) (Nat.le_of_ble_eq_true rfl) (Nat.le_of_ble_eq_true rfl) ⟨(Nat.le_of_ble_eq_true rfl), (Nat.le_of_ble_eq_true rfl)⟩ (Nat.le_of_ble_eq_true rfl) dX10_readNext_229 (fun u_580 hp_581 => ?_)
                    obtain ⟨hx_hp_581, hp_581⟩ := hp_581
                    have hj_582 := jv_trans hj_579 hp_581
                    exact r_void E dX10_readNext_232 ⟨(by omega), hj_582⟩
                  ·
                    have hd_ : ¬ (u_554.2.2.1 101 6).toInt = 8 := by first | exact (hq_.resolve_left (by omega)).2.2.1 (hT3_.mp (by omega)) | (exfalso; omega)
                    refine s_bipush (v := 58) E dX10_readNext_159 (by decide) ?_
                    refine s_iconst (v := 2) E dX10_readNext_161 (by decide) ?_
                    refine s_aload_n E dX10_readNext_162 rfl rfl ?_
                    refine s_gR (r := 101) E fg_X10_31 rfl rfl (jv_lt hj_575 (by decide)) (jv_r hj_575 (by decide +kernel)) dX10_readNext_163 ?_
                    refine s_bipush (v := 6) E dX10_readNext_166 (by decide) ?_
                    refine s_iald E rfl (jv_lt hj_575 (by decide)) (z_in (u := 6) (by decide) (by omega) (by omega)) dX10_readNext_168 ?_
                    refine z_nm (P := fun z => z.toInt = (u_572.2.2.1 101 6).toInt ∧ 0 ≤ z.toInt ∧ z.toInt ≤ 8) ⟨rfl, (rw_101_6 hj_575)⟩ (fun z_583 hz_583 => ?_)
                    refine z_imul (u := 2) (v := z_583.toInt) E dX10_readNext_169 (by decide) rfl (by omega) (by omega) (fun z_584 hz_584 => ?_)
                    have hhz_584 : 0 ≤ z_584.toInt ∧ z_584.toInt ≤ 14 := by omega
                    refine z_iadd (u := 58) (v := z_584.toInt) E dX10_readNext_170 (by decide) rfl (by omega) (by omega) (fun z_585 hz_585 => ?_)
                    refine s_istore_n (L2 := [some (AR 95), some (AI 0), some (AI z_585)]) E dX10_readNext_171 rfl (by decide) rfl ?_
                    refine s_aload_n E dX10_readNext_172 rfl rfl ?_
                    refine s_gR (r := 101) E fg_X10_31 rfl rfl (jv_lt hj_575 (by decide)) (jv_r hj_575 (by decide +kernel)) dX10_readNext_173 ?_
                    refine s_iload_n E dX10_readNext_176 rfl rfl ?_
                    refine s_aload_n E dX10_readNext_177 rfl rfl ?_
                    refine s_ldcS (i := 27) E (by decide) rfl dX10_readNext_178 ?_
                    refine s_iconst (v := 0) E dX10_readNext_180 (by decide) ?_
                    refine s_aload_n E dX10_readNext_181 rfl rfl ?_
                    refine s_gR (r := 101) E fg_X10_31 rfl rfl (jv_lt hj_575 (by decide)) (jv_r hj_575 (by decide +kernel)) dX10_readNext_182 ?_
                    refine s_iconst (v := 5) E dX10_readNext_185 (by decide) ?_
                    refine s_iald E rfl (jv_lt hj_575 (by decide)) (z_in (u := 5) (by decide) (by omega) (by omega)) dX10_readNext_186 ?_
                    refine z_nm (P := fun z => z.toInt = (u_572.2.2.1 101 5).toInt ∧ 0 ≤ z.toInt ∧ z.toInt ≤ 6) ⟨rfl, (rw_101_5 hj_575)⟩ (fun z_586 hz_586 => ?_)
                    refine s_iconst (v := 1) E dX10_readNext_187 (by decide) ?_
                    refine z_isub (u := z_586.toInt) (v := 1) E dX10_readNext_188 rfl (by decide) (by omega) (by omega) (fun z_587 hz_587 => ?_)
                    refine s_vI (As := [AX (sA aC 27), AI 0, AI z_587]) (S := [AI z_585, AR 101]) E (Z_X10_told_95 l D aC b u_572 0 z_587 hj_575.1  27 (by decide) (by omega)) cv_X10_164 rfl rfl rfl (jv_lt hj_575 (by decide)) (Nat.le_of_ble_eq_true rfl) (Nat.le_of_ble_eq_true rfl) ⟨(Nat.le_of_ble_eq_true rfl), (Nat.le_of_ble_eq_true rfl)⟩ (Nat.le_of_ble_eq_true rfl) dX10_readNext_189 (fun z_590 u_588 hp_589 => ?_)
                    obtain ⟨hz_590, hxz_590, hf_u_588_101, hp_589⟩ := hp_589
                    have hc_ : (0 : Int32).toInt = 0 := by decide
                    have hj_591 := jv_trans hj_575 hp_589
                    have hfa_101_0 := congrArg Int32.toInt (congrFun hf_u_588_101 0)
                    have hfa_101_4 := congrArg Int32.toInt (congrFun hf_u_588_101 4)
                    have hfa_101_5 := congrArg Int32.toInt (congrFun hf_u_588_101 5)
                    have hfa_101_6 := congrArg Int32.toInt (congrFun hf_u_588_101 6)
                    have hfa_101_7 := congrArg Int32.toInt (congrFun hf_u_588_101 7)
                    have hfa_101_9 := congrArg Int32.toInt (congrFun hf_u_588_101 9)
                    have hrz_590 : 0 ≤ z_590.toInt ∧ z_590.toInt ≤ 5 := by omega
                    refine s_iast E rfl (jv_lt hj_591 (by decide)) (z_in (u := z_585.toInt) rfl (by omega) (by omega)) dX10_readNext_192 ?_
                    have hj_593 : Jv w (upI u_588 101 z_585.toNatClampNeg z_590) := (jv_a_101 (i := z_585) (x := z_590) hj_591 0 5 58 72 2 z_585.toInt (by decide +kernel) (by decide) rfl (by omega) (by omega) (by omega) (by have hb_ := z32 z_590; omega) (by have hb_ := z32 z_590; omega))
                    have hke_ : ((upI u_588 101 z_585.toNatClampNeg z_590).2.2.1 95 7).toInt = (u_588.2.2.1 95 7).toInt := rfl
                    have hke_ : ((upI u_588 101 z_585.toNatClampNeg z_590).2.2.1 95 8).toInt = (u_588.2.2.1 95 8).toInt := rfl
                    have hke_ : ((upI u_588 101 z_585.toNatClampNeg z_590).2.2.1 95 9).toInt = (u_588.2.2.1 95 9).toInt := rfl
                    have hke_ : ((upI u_588 101 z_585.toNatClampNeg z_590).2.2.1 95 10).toInt = (u_588.2.2.1 95 10).toInt := rfl
                    have hke_ : ((upI u_588 101 z_585.toNatClampNeg z_590).2.2.1 95 12).toInt = (u_588.2.2.1 95 12).toInt := rfl
                    have hke_ : ((upI u_588 101 z_585.toNatClampNeg z_590).2.2.1 101 0).toInt = (u_588.2.2.1 101 0).toInt := keep_ne (u := z_585.toInt) rfl (by omega) (by omega)
                    have hke_ : ((upI u_588 101 z_585.toNatClampNeg z_590).2.2.1 101 4).toInt = (u_588.2.2.1 101 4).toInt := keep_ne (u := z_585.toInt) rfl (by omega) (by omega)
                    have hke_ : ((upI u_588 101 z_585.toNatClampNeg z_590).2.2.1 101 5).toInt = (u_588.2.2.1 101 5).toInt := keep_ne (u := z_585.toInt) rfl (by omega) (by omega)
                    have hke_ : ((upI u_588 101 z_585.toNatClampNeg z_590).2.2.1 101 6).toInt = (u_588.2.2.1 101 6).toInt := keep_ne (u := z_585.toInt) rfl (by omega) (by omega)
                    have hke_ : ((upI u_588 101 z_585.toNatClampNeg z_590).2.2.1 101 7).toInt = (u_588.2.2.1 101 7).toInt := keep_ne (u := z_585.toInt) rfl (by omega) (by omega)
                    have hke_ : ((upI u_588 101 z_585.toNatClampNeg z_590).2.2.1 101 9).toInt = (u_588.2.2.1 101 9).toInt := keep_ne (u := z_585.toInt) rfl (by omega) (by omega)
                    refine s_aload_n E dX10_readNext_193 rfl rfl ?_
                    refine s_gR (r := 101) E fg_X10_31 rfl rfl (jv_lt hj_593 (by decide)) (jv_r hj_593 (by decide +kernel)) dX10_readNext_194 ?_
                    refine s_iload_n E dX10_readNext_197 rfl rfl ?_
                    refine s_iconst (v := 1) E dX10_readNext_198 (by decide) ?_
                    refine z_iadd (u := z_585.toInt) (v := 1) E dX10_readNext_199 rfl (by decide) (by omega) (by omega) (fun z_594 hz_594 => ?_)
                    refine s_aload_n E dX10_readNext_200 rfl rfl ?_
                    refine s_ldcS (i := 28) E (by decide) rfl dX10_readNext_201 ?_
                    refine s_iconst (v := 1) E dX10_readNext_203 (by decide) ?_
                    refine s_bipush (v := 20) E dX10_readNext_204 (by decide) ?_
                    refine s_vI (As := [AX (sA aC 28), AI 1, AI 20]) (S := [AI z_594, AR 101]) E (Z_X10_told_95 l D aC b (upI u_588 101 z_585.toNatClampNeg z_590) 1 20 hj_593.1  28 (by decide) (by omega)) cv_X10_164 rfl rfl rfl (jv_lt hj_593 (by decide)) (Nat.le_of_ble_eq_true rfl) (Nat.le_of_ble_eq_true rfl) ⟨(Nat.le_of_ble_eq_true rfl), (Nat.le_of_ble_eq_true rfl)⟩ (Nat.le_of_ble_eq_true rfl) dX10_readNext_206 (fun z_597 u_595 hp_596 => ?_)
                    obtain ⟨hz_597, hxz_597, hf_u_595_101, hp_596⟩ := hp_596
                    have hc_ : (1 : Int32).toInt = 1 := by decide
                    have hc_ : (20 : Int32).toInt = 20 := by decide
                    have hj_598 := jv_trans hj_593 hp_596
                    have hfa_101_0 := congrArg Int32.toInt (congrFun hf_u_595_101 0)
                    have hfa_101_4 := congrArg Int32.toInt (congrFun hf_u_595_101 4)
                    have hfa_101_5 := congrArg Int32.toInt (congrFun hf_u_595_101 5)
                    have hfa_101_6 := congrArg Int32.toInt (congrFun hf_u_595_101 6)
                    have hfa_101_7 := congrArg Int32.toInt (congrFun hf_u_595_101 7)
                    have hfa_101_9 := congrArg Int32.toInt (congrFun hf_u_595_101 9)
                    have hrz_597 : 0 ≤ z_597.toInt ∧ z_597.toInt ≤ 20 := by omega
                    refine s_iast E rfl (jv_lt hj_598 (by decide)) (z_in (u := z_594.toInt) rfl (by omega) (by omega)) dX10_readNext_209 ?_
                    have hj_600 : Jv w (upI u_595 101 z_594.toNatClampNeg z_597) := (jv_a_101 (i := z_594) (x := z_597) hj_598 0 20 59 73 2 z_594.toInt (by decide +kernel) (by decide) rfl (by omega) (by omega) (by omega) (by have hb_ := z32 z_597; omega) (by have hb_ := z32 z_597; omega))
                    have hke_ : ((upI u_595 101 z_594.toNatClampNeg z_597).2.2.1 95 7).toInt = (u_595.2.2.1 95 7).toInt := rfl
                    have hke_ : ((upI u_595 101 z_594.toNatClampNeg z_597).2.2.1 95 8).toInt = (u_595.2.2.1 95 8).toInt := rfl
                    have hke_ : ((upI u_595 101 z_594.toNatClampNeg z_597).2.2.1 95 9).toInt = (u_595.2.2.1 95 9).toInt := rfl
                    have hke_ : ((upI u_595 101 z_594.toNatClampNeg z_597).2.2.1 95 10).toInt = (u_595.2.2.1 95 10).toInt := rfl
                    have hke_ : ((upI u_595 101 z_594.toNatClampNeg z_597).2.2.1 95 12).toInt = (u_595.2.2.1 95 12).toInt := rfl
                    have hke_ : ((upI u_595 101 z_594.toNatClampNeg z_597).2.2.1 101 0).toInt = (u_595.2.2.1 101 0).toInt := keep_ne (u := z_594.toInt) rfl (by omega) (by omega)
                    have hke_ : ((upI u_595 101 z_594.toNatClampNeg z_597).2.2.1 101 4).toInt = (u_595.2.2.1 101 4).toInt := keep_ne (u := z_594.toInt) rfl (by omega) (by omega)
                    have hke_ : ((upI u_595 101 z_594.toNatClampNeg z_597).2.2.1 101 5).toInt = (u_595.2.2.1 101 5).toInt := keep_ne (u := z_594.toInt) rfl (by omega) (by omega)
                    have hke_ : ((upI u_595 101 z_594.toNatClampNeg z_597).2.2.1 101 6).toInt = (u_595.2.2.1 101 6).toInt := keep_ne (u := z_594.toInt) rfl (by omega) (by omega)
                    have hke_ : ((upI u_595 101 z_594.toNatClampNeg z_597).2.2.1 101 7).toInt = (u_595.2.2.1 101 7).toInt := keep_ne (u := z_594.toInt) rfl (by omega) (by omega)
                    have hke_ : ((upI u_595 101 z_594.toNatClampNeg z_597).2.2.1 101 9).toInt = (u_595.2.2.1 101 9).toInt := keep_ne (u := z_594.toInt) rfl (by omega) (by omega)
                    refine s_aload_n E dX10_readNext_210 rfl rfl ?_
                    refine s_gR (r := 101) E fg_X10_31 rfl rfl (jv_lt hj_600 (by decide)) (jv_r hj_600 (by decide +kernel)) dX10_readNext_211 ?_
                    refine s_bipush (v := 6) E dX10_readNext_214 (by decide) ?_
                    refine s_dup2 E dX10_readNext_216 ?_
                    refine s_iald E rfl (jv_lt hj_600 (by decide)) (z_in (u := 6) (by decide) (by omega) (by omega)) dX10_readNext_217 ?_
                    refine z_nm (P := fun z => z.toInt = ((upI u_595 101 z_594.toNatClampNeg z_597).2.2.1 101 6).toInt ∧ 0 ≤ z.toInt ∧ z.toInt ≤ 8) ⟨rfl, (rw_101_6 hj_600)⟩ (fun z_601 hz_601 => ?_)
                    refine s_iconst (v := 1) E dX10_readNext_218 (by decide) ?_
                    refine z_iadd (u := z_601.toInt) (v := 1) E dX10_readNext_219 rfl (by decide) (by omega) (by omega) (fun z_602 hz_602 => ?_)
                    have hhz_602 : 0 ≤ z_602.toInt ∧ z_602.toInt ≤ 8 := by omega
                    refine s_iast E rfl (jv_lt hj_600 (by decide)) (z_in (u := 6) (by decide) (by omega) (by omega)) dX10_readNext_220 ?_
                    refine s_world (w2 := (upI (upI u_595 101 z_594.toNatClampNeg z_597) 101 6 z_602)) rfl ?_
                    have hj_604 : Jv w (upI (upI u_595 101 z_594.toNatClampNeg z_597) 101 6 z_602) := (jv_a_101 (i := 6) (x := z_602) hj_600 0 8 6 6 1 6 (by decide +kernel) (by decide) (by decide) (by omega) (by omega) (by omega) (by have hb_ := z32 z_602; omega) (by have hb_ := z32 z_602; omega))
                    have hke_ : ((upI (upI u_595 101 z_594.toNatClampNeg z_597) 101 6 z_602).2.2.1 95 7).toInt = ((upI u_595 101 z_594.toNatClampNeg z_597).2.2.1 95 7).toInt := rfl
                    have hke_ : ((upI (upI u_595 101 z_594.toNatClampNeg z_597) 101 6 z_602).2.2.1 95 8).toInt = ((upI u_595 101 z_594.toNatClampNeg z_597).2.2.1 95 8).toInt := rfl
                    have hke_ : ((upI (upI u_595 101 z_594.toNatClampNeg z_597) 101 6 z_602).2.2.1 95 9).toInt = ((upI u_595 101 z_594.toNatClampNeg z_597).2.2.1 95 9).toInt := rfl
                    have hke_ : ((upI (upI u_595 101 z_594.toNatClampNeg z_597) 101 6 z_602).2.2.1 95 10).toInt = ((upI u_595 101 z_594.toNatClampNeg z_597).2.2.1 95 10).toInt := rfl
                    have hke_ : ((upI (upI u_595 101 z_594.toNatClampNeg z_597) 101 6 z_602).2.2.1 95 12).toInt = ((upI u_595 101 z_594.toNatClampNeg z_597).2.2.1 95 12).toInt := rfl
                    have hke_ : ((upI (upI u_595 101 z_594.toNatClampNeg z_597) 101 6 z_602).2.2.1 101 0).toInt = ((upI u_595 101 z_594.toNatClampNeg z_597).2.2.1 101 0).toInt := rfl
                    have hke_ : ((upI (upI u_595 101 z_594.toNatClampNeg z_597) 101 6 z_602).2.2.1 101 4).toInt = ((upI u_595 101 z_594.toNatClampNeg z_597).2.2.1 101 4).toInt := rfl
                    have hke_ : ((upI (upI u_595 101 z_594.toNatClampNeg z_597) 101 6 z_602).2.2.1 101 5).toInt = ((upI u_595 101 z_594.toNatClampNeg z_597).2.2.1 101 5).toInt := rfl
                    have hke_ : ((upI (upI u_595 101 z_594.toNatClampNeg z_597) 101 6 z_602).2.2.1 101 6).toInt = z_602.toInt := rfl
                    have hke_ : ((upI (upI u_595 101 z_594.toNatClampNeg z_597) 101 6 z_602).2.2.1 101 7).toInt = ((upI u_595 101 z_594.toNatClampNeg z_597).2.2.1 101 7).toInt := rfl
                    have hke_ : ((upI (upI u_595 101 z_594.toNatClampNeg z_597) 101 6 z_602).2.2.1 101 9).toInt = ((upI u_595 101 z_594.toNatClampNeg z_597).2.2.1 101 9).toInt := rfl
                    refine s_goto (tgt := 232) E dX10_readNext_221 (by decide) ?_
                    exact r_void E dX10_readNext_232 ⟨(by omega), hj_604⟩
                ·
                  have hd_ : ¬ (u_554.2.2.1 101 5).toInt = 6 := by first | exact (hq_.resolve_left (by omega)).2.1 (hT2_.mp (by omega)) | (exfalso; omega)
                  refine s_bipush (v := 46) E dX10_readNext_96 (by decide) ?_
                  refine s_iconst (v := 2) E dX10_readNext_98 (by decide) ?_
                  refine s_aload_n E dX10_readNext_99 rfl rfl ?_
                  refine s_gR (r := 101) E fg_X10_31 rfl rfl (jv_lt hj_570 (by decide)) (jv_r hj_570 (by decide +kernel)) dX10_readNext_100 ?_
                  refine s_iconst (v := 5) E dX10_readNext_103 (by decide) ?_
                  refine s_iald E rfl (jv_lt hj_570 (by decide)) (z_in (u := 5) (by decide) (by omega) (by omega)) dX10_readNext_104 ?_
                  refine z_nm (P := fun z => z.toInt = (u_567.2.2.1 101 5).toInt ∧ 0 ≤ z.toInt ∧ z.toInt ≤ 6) ⟨rfl, (rw_101_5 hj_570)⟩ (fun z_605 hz_605 => ?_)
                  refine z_imul (u := 2) (v := z_605.toInt) E dX10_readNext_105 (by decide) rfl (by omega) (by omega) (fun z_606 hz_606 => ?_)
                  have hhz_606 : 0 ≤ z_606.toInt ∧ z_606.toInt ≤ 10 := by omega
                  refine z_iadd (u := 46) (v := z_606.toInt) E dX10_readNext_106 (by decide) rfl (by omega) (by omega) (fun z_607 hz_607 => ?_)
                  refine s_istore_n (L2 := [some (AR 95), some (AI 0), some (AI z_607)]) E dX10_readNext_107 rfl (by decide) rfl ?_
                  refine s_aload_n E dX10_readNext_108 rfl rfl ?_
                  refine s_gR (r := 101) E fg_X10_31 rfl rfl (jv_lt hj_570 (by decide)) (jv_r hj_570 (by decide +kernel)) dX10_readNext_109 ?_
                  refine s_iload_n E dX10_readNext_112 rfl rfl ?_
                  refine s_aload_n E dX10_readNext_113 rfl rfl ?_
                  refine s_ldcS (i := 26) E (by decide) rfl dX10_readNext_114 ?_
                  refine s_vI (As := [AX (sA aC 26)]) (S := [AI z_607, AR 101]) E (Z_X10_freshRoom_95 l D aC b u_567  hj_570.1  26 (by decide) (by omega)) cv_X10_182 rfl rfl rfl (jv_lt hj_570 (by decide)) (Nat.le_of_ble_eq_true rfl) (Nat.le_of_ble_eq_true rfl) ⟨(Nat.le_of_ble_eq_true rfl), (Nat.le_of_ble_eq_true rfl)⟩ (Nat.le_of_ble_eq_true rfl) dX10_readNext_116 (fun z_610 u_608 hp_609 => ?_)
                  obtain ⟨hz_610, hxz_610, hf_u_608_101, hp_609⟩ := hp_609
                  have hj_611 := jv_trans hj_570 hp_609
                  have hfa_101_0 := congrArg Int32.toInt (congrFun hf_u_608_101 0)
                  have hfa_101_4 := congrArg Int32.toInt (congrFun hf_u_608_101 4)
                  have hfa_101_5 := congrArg Int32.toInt (congrFun hf_u_608_101 5)
                  have hfa_101_6 := congrArg Int32.toInt (congrFun hf_u_608_101 6)
                  have hfa_101_7 := congrArg Int32.toInt (congrFun hf_u_608_101 7)
                  have hfa_101_9 := congrArg Int32.toInt (congrFun hf_u_608_101 9)
                  have hrz_610 : 0 ≤ z_610.toInt ∧ z_610.toInt ≤ 7 := by omega
                  have hRm_ : (u_608.2.2.1 95 12).toInt = 0 → z_610.toInt < (w.2.2.1 101 0).toInt := by intro h0_; omega
                  refine s_iast E rfl (jv_lt hj_611 (by decide)) (z_in (u := z_607.toInt) rfl (by omega) (by omega)) dX10_readNext_119 ?_
                  have hj_613 : Jv w (upI u_608 101 z_607.toNatClampNeg z_610) := (jv_lad0 hj_611 (by omega) (by omega) (by omega) (by have hb_ := z32 z_610; omega) (by have hb_ := z32 z_610; omega))
                  have hke_ : ((upI u_608 101 z_607.toNatClampNeg z_610).2.2.1 95 7).toInt = (u_608.2.2.1 95 7).toInt := rfl
                  have hke_ : ((upI u_608 101 z_607.toNatClampNeg z_610).2.2.1 95 8).toInt = (u_608.2.2.1 95 8).toInt := rfl
                  have hke_ : ((upI u_608 101 z_607.toNatClampNeg z_610).2.2.1 95 9).toInt = (u_608.2.2.1 95 9).toInt := rfl
                  have hke_ : ((upI u_608 101 z_607.toNatClampNeg z_610).2.2.1 95 10).toInt = (u_608.2.2.1 95 10).toInt := rfl
                  have hke_ : ((upI u_608 101 z_607.toNatClampNeg z_610).2.2.1 95 12).toInt = (u_608.2.2.1 95 12).toInt := rfl
                  have hke_ : ((upI u_608 101 z_607.toNatClampNeg z_610).2.2.1 101 0).toInt = (u_608.2.2.1 101 0).toInt := keep_ne (u := z_607.toInt) rfl (by omega) (by omega)
                  have hke_ : ((upI u_608 101 z_607.toNatClampNeg z_610).2.2.1 101 4).toInt = (u_608.2.2.1 101 4).toInt := keep_ne (u := z_607.toInt) rfl (by omega) (by omega)
                  have hke_ : ((upI u_608 101 z_607.toNatClampNeg z_610).2.2.1 101 5).toInt = (u_608.2.2.1 101 5).toInt := keep_ne (u := z_607.toInt) rfl (by omega) (by omega)
                  have hke_ : ((upI u_608 101 z_607.toNatClampNeg z_610).2.2.1 101 6).toInt = (u_608.2.2.1 101 6).toInt := keep_ne (u := z_607.toInt) rfl (by omega) (by omega)
                  have hke_ : ((upI u_608 101 z_607.toNatClampNeg z_610).2.2.1 101 7).toInt = (u_608.2.2.1 101 7).toInt := keep_ne (u := z_607.toInt) rfl (by omega) (by omega)
                  have hke_ : ((upI u_608 101 z_607.toNatClampNeg z_610).2.2.1 101 9).toInt = (u_608.2.2.1 101 9).toInt := keep_ne (u := z_607.toInt) rfl (by omega) (by omega)
                  refine s_aload_n E dX10_readNext_120 rfl rfl ?_
                  refine s_gR (r := 101) E fg_X10_31 rfl rfl (jv_lt hj_613 (by decide)) (jv_r hj_613 (by decide +kernel)) dX10_readNext_121 ?_
                  refine s_iload_n E dX10_readNext_124 rfl rfl ?_
                  refine s_iconst (v := 1) E dX10_readNext_125 (by decide) ?_
                  refine z_iadd (u := z_607.toInt) (v := 1) E dX10_readNext_126 rfl (by decide) (by omega) (by omega) (fun z_614 hz_614 => ?_)
                  refine s_aload_n E dX10_readNext_127 rfl rfl ?_
                  refine s_ldcS (i := 25) E (by decide) rfl dX10_readNext_128 ?_
                  refine s_iconst (v := 1) E dX10_readNext_130 (by decide) ?_
                  refine s_bipush (v := 9) E dX10_readNext_131 (by decide) ?_
                  refine s_vI (As := [AX (sA aC 25), AI 1, AI 9]) (S := [AI z_614, AR 101]) E (Z_X10_told_95 l D aC b (upI u_608 101 z_607.toNatClampNeg z_610) 1 9 hj_613.1  25 (by decide) (by omega)) cv_X10_164 rfl rfl rfl (jv_lt hj_613 (by decide)) (Nat.le_of_ble_eq_true rfl) (Nat.le_of_ble_eq_true rfl) ⟨(Nat.le_of_ble_eq_true rfl), (Nat.le_of_ble_eq_true rfl)⟩ (Nat.le_of_ble_eq_true rfl) dX10_readNext_133 (fun z_617 u_615 hp_616 => ?_)
                  obtain ⟨hz_617, hxz_617, hf_u_615_101, hp_616⟩ := hp_616
                  have hc_ : (1 : Int32).toInt = 1 := by decide
                  have hc_ : (9 : Int32).toInt = 9 := by decide
                  have hj_618 := jv_trans hj_613 hp_616
                  have hfa_101_0 := congrArg Int32.toInt (congrFun hf_u_615_101 0)
                  have hfa_101_4 := congrArg Int32.toInt (congrFun hf_u_615_101 4)
                  have hfa_101_5 := congrArg Int32.toInt (congrFun hf_u_615_101 5)
                  have hfa_101_6 := congrArg Int32.toInt (congrFun hf_u_615_101 6)
                  have hfa_101_7 := congrArg Int32.toInt (congrFun hf_u_615_101 7)
                  have hfa_101_9 := congrArg Int32.toInt (congrFun hf_u_615_101 9)
                  have hrz_617 : 0 ≤ z_617.toInt ∧ z_617.toInt ≤ 9 := by omega
                  have hLw_ : (u_615.2.2.1 95 12).toInt = 0 → 1 ≤ z_617.toInt := by intro h0_; omega
                  have fL_ := hf_u_615_101
                  refine s_iast E rfl (jv_lt hj_618 (by decide)) (z_in (u := z_614.toInt) rfl (by omega) (by omega)) dX10_readNext_136 ?_
                  have hj_620 : Jv w (upI u_615 101 z_614.toNatClampNeg z_617) := (jv_lad hj_618 (by omega) (by omega) (by omega) (by have hb_ := z32 z_617; omega) (by have hb_ := z32 z_617; omega))
                  have hke_ : ((upI u_615 101 z_614.toNatClampNeg z_617).2.2.1 95 7).toInt = (u_615.2.2.1 95 7).toInt := rfl
                  have hke_ : ((upI u_615 101 z_614.toNatClampNeg z_617).2.2.1 95 8).toInt = (u_615.2.2.1 95 8).toInt := rfl
                  have hke_ : ((upI u_615 101 z_614.toNatClampNeg z_617).2.2.1 95 9).toInt = (u_615.2.2.1 95 9).toInt := rfl
                  have hke_ : ((upI u_615 101 z_614.toNatClampNeg z_617).2.2.1 95 10).toInt = (u_615.2.2.1 95 10).toInt := rfl
                  have hke_ : ((upI u_615 101 z_614.toNatClampNeg z_617).2.2.1 95 12).toInt = (u_615.2.2.1 95 12).toInt := rfl
                  have hke_ : ((upI u_615 101 z_614.toNatClampNeg z_617).2.2.1 101 0).toInt = (u_615.2.2.1 101 0).toInt := keep_ne (u := z_614.toInt) rfl (by omega) (by omega)
                  have hke_ : ((upI u_615 101 z_614.toNatClampNeg z_617).2.2.1 101 4).toInt = (u_615.2.2.1 101 4).toInt := keep_ne (u := z_614.toInt) rfl (by omega) (by omega)
                  have hke_ : ((upI u_615 101 z_614.toNatClampNeg z_617).2.2.1 101 5).toInt = (u_615.2.2.1 101 5).toInt := keep_ne (u := z_614.toInt) rfl (by omega) (by omega)
                  have hke_ : ((upI u_615 101 z_614.toNatClampNeg z_617).2.2.1 101 6).toInt = (u_615.2.2.1 101 6).toInt := keep_ne (u := z_614.toInt) rfl (by omega) (by omega)
                  have hke_ : ((upI u_615 101 z_614.toNatClampNeg z_617).2.2.1 101 7).toInt = (u_615.2.2.1 101 7).toInt := keep_ne (u := z_614.toInt) rfl (by omega) (by omega)
                  have hke_ : ((upI u_615 101 z_614.toNatClampNeg z_617).2.2.1 101 9).toInt = (u_615.2.2.1 101 9).toInt := keep_ne (u := z_614.toInt) rfl (by omega) (by omega)
                  refine s_aload_n E dX10_readNext_137 rfl rfl ?_
                  refine s_gR (r := 101) E fg_X10_31 rfl rfl (jv_lt hj_620 (by decide)) (jv_r hj_620 (by decide +kernel)) dX10_readNext_138 ?_
                  refine s_iconst (v := 5) E dX10_readNext_141 (by decide) ?_
                  refine s_dup2 E dX10_readNext_142 ?_
                  refine s_iald E rfl (jv_lt hj_620 (by decide)) (z_in (u := 5) (by decide) (by omega) (by omega)) dX10_readNext_143 ?_
                  refine z_nm (P := fun z => z.toInt = ((upI u_615 101 z_614.toNatClampNeg z_617).2.2.1 101 5).toInt ∧ 0 ≤ z.toInt ∧ z.toInt ≤ 6) ⟨rfl, (rw_101_5 hj_620)⟩ (fun z_621 hz_621 => ?_)
                  refine s_iconst (v := 1) E dX10_readNext_144 (by decide) ?_
                  refine z_iadd (u := z_621.toInt) (v := 1) E dX10_readNext_145 rfl (by decide) (by omega) (by omega) (fun z_622 hz_622 => ?_)
                  have hhz_622 : 0 ≤ z_622.toInt ∧ z_622.toInt ≤ 6 := by omega
                  refine s_iast E rfl (jv_lt hj_620 (by decide)) (z_in (u := 5) (by decide) (by omega) (by omega)) dX10_readNext_146 ?_
                  refine s_world (w2 := (upI (upI u_615 101 z_614.toNatClampNeg z_617) 101 5 z_622)) rfl ?_
                  have hj_624 : Jv w (upI (upI u_615 101 z_614.toNatClampNeg z_617) 101 5 z_622) := (jv_lad5 hj_620 (by omega) (by omega) (by omega) (lad_fin (by omega) (by omega) hLw_) (fun h0_ => lad_fin2 (N := (w.2.2.1 101 5).toInt) fL_ (by omega) (by omega) (by omega) (by omega) (by have q_ := hRm_ (by omega); omega)))
                  have hke_ : ((upI (upI u_615 101 z_614.toNatClampNeg z_617) 101 5 z_622).2.2.1 95 7).toInt = ((upI u_615 101 z_614.toNatClampNeg z_617).2.2.1 95 7).toInt := rfl
                  have hke_ : ((upI (upI u_615 101 z_614.toNatClampNeg z_617) 101 5 z_622).2.2.1 95 8).toInt = ((upI u_615 101 z_614.toNatClampNeg z_617).2.2.1 95 8).toInt := rfl
                  have hke_ : ((upI (upI u_615 101 z_614.toNatClampNeg z_617) 101 5 z_622).2.2.1 95 9).toInt = ((upI u_615 101 z_614.toNatClampNeg z_617).2.2.1 95 9).toInt := rfl
                  have hke_ : ((upI (upI u_615 101 z_614.toNatClampNeg z_617) 101 5 z_622).2.2.1 95 10).toInt = ((upI u_615 101 z_614.toNatClampNeg z_617).2.2.1 95 10).toInt := rfl
                  have hke_ : ((upI (upI u_615 101 z_614.toNatClampNeg z_617) 101 5 z_622).2.2.1 95 12).toInt = ((upI u_615 101 z_614.toNatClampNeg z_617).2.2.1 95 12).toInt := rfl
                  have hke_ : ((upI (upI u_615 101 z_614.toNatClampNeg z_617) 101 5 z_622).2.2.1 101 0).toInt = ((upI u_615 101 z_614.toNatClampNeg z_617).2.2.1 101 0).toInt := rfl
                  have hke_ : ((upI (upI u_615 101 z_614.toNatClampNeg z_617) 101 5 z_622).2.2.1 101 4).toInt = ((upI u_615 101 z_614.toNatClampNeg z_617).2.2.1 101 4).toInt := rfl
                  have hke_ : ((upI (upI u_615 101 z_614.toNatClampNeg z_617) 101 5 z_622).2.2.1 101 5).toInt = z_622.toInt := rfl
                  have hke_ : ((upI (upI u_615 101 z_614.toNatClampNeg z_617) 101 5 z_622).2.2.1 101 6).toInt = ((upI u_615 101 z_614.toNatClampNeg z_617).2.2.1 101 6).toInt := rfl
                  have hke_ : ((upI (upI u_615 101 z_614.toNatClampNeg z_617) 101 5 z_622).2.2.1 101 7).toInt = ((upI u_615 101 z_614.toNatClampNeg z_617).2.2.1 101 7).toInt := rfl
                  have hke_ : ((upI (upI u_615 101 z_614.toNatClampNeg z_617) 101 5 z_622).2.2.1 101 9).toInt = ((upI u_615 101 z_614.toNatClampNeg z_617).2.2.1 101 9).toInt := rfl
                  refine s_goto (tgt := 232) E dX10_readNext_147 (by decide) ?_
                  exact r_void E dX10_readNext_232 ⟨(by omega), hj_624⟩
              ·
                have hd_ : ¬ (u_554.2.2.1 101 4).toInt = 12 := by first | exact (hq_.resolve_left (by omega)).1 (hT_.mp (by omega)) | (exfalso; omega)
                refine s_aload_n E dX10_readNext_80 rfl rfl ?_
                refine s_vV (As := []) (S := []) E (Z_X10_readDoor_95 l D aC b u_562  hj_565.1  (by omega) (by omega)) cv_X10_198 rfl rfl rfl (jv_lt hj_565 (by decide)) (Nat.le_of_ble_eq_true rfl) (Nat.le_of_ble_eq_true rfl) ⟨(Nat.le_of_ble_eq_true rfl), (Nat.le_of_ble_eq_true rfl)⟩ (Nat.le_of_ble_eq_true rfl) dX10_readNext_81 (fun u_625 hp_626 => ?_)
                obtain ⟨hx_hp_626, hp_626⟩ := hp_626
                have hj_627 := jv_trans hj_565 hp_626
                refine s_goto (tgt := 232) E dX10_readNext_84 (by decide) ?_
                exact r_void E dX10_readNext_232 ⟨(by omega), hj_627⟩
            ·
              exact r_void E dX10_readNext_70 ⟨(by omega), hj_556⟩
        ·
          refine s_iconst (v := 1) E dX10_readNext_36 (by decide) ?_
          refine s_goto (tgt := 41) E dX10_readNext_37 (by decide) ?_
          refine s_istore_n (L2 := [some (AR 95), some (AI 1), none]) E dX10_readNext_41 rfl (by decide) rfl ?_
          refine s_iload_n E dX10_readNext_42 rfl rfl ?_
          refine z_if_ne (tgt := 51) (u := 1) E dX10_readNext_43 (by decide) (by decide) (fun h_628 => ?_) (fun h_628 => absurd h_628 (by omega))
          refine s_aload_n E dX10_readNext_51 rfl rfl ?_
          refine s_vI (As := []) (S := []) E (Z_X10_isFull_95 l D aC b w  hJ.1 ) cv_X10_195 rfl rfl rfl (jv_lt hJ (by decide)) (Nat.le_of_ble_eq_true rfl) (Nat.le_of_ble_eq_true rfl) ⟨(Nat.le_of_ble_eq_true rfl), (Nat.le_of_ble_eq_true rfl)⟩ (Nat.le_of_ble_eq_true rfl) dX10_readNext_52 (fun z_631 u_629 hp_630 => ?_)
          obtain ⟨hz_631, hxz_631, hp_630⟩ := hp_630
          subst hp_630
          have hq_ := hxz_631
          refine z_if_eq (tgt := 63) (u := z_631.toInt) E dX10_readNext_55 (by decide) rfl (fun h_633 => ?_) (fun h_633 => ?_)
          ·
            refine s_aload_n E dX10_readNext_63 rfl rfl ?_
            refine s_vI (As := []) (S := []) E (Z_X10_good_95 l D aC b w  hJ.1 ) cv_X10_130 rfl rfl rfl (jv_lt hJ (by decide)) (Nat.le_of_ble_eq_true rfl) (Nat.le_of_ble_eq_true rfl) ⟨(Nat.le_of_ble_eq_true rfl), (Nat.le_of_ble_eq_true rfl)⟩ (Nat.le_of_ble_eq_true rfl) dX10_readNext_64 (fun z_636 u_634 hp_635 => ?_)
            obtain ⟨hz_636, hxz_636, hp_635⟩ := hp_635
            subst hp_635
            refine z_if_ne (tgt := 71) (u := z_636.toInt) E dX10_readNext_67 (by decide) rfl (fun h_638 => ?_) (fun h_638 => ?_)
            ·
              have hn4_ := rw_101_4 hJ
              have hn5_ := rw_101_5 hJ
              have hn6_ := rw_101_6 hJ
              have hn7_ := rw_101_7 hJ
              refine s_aload_n E dX10_readNext_71 rfl rfl ?_
              refine s_ldcS (i := 20) E (by decide) rfl dX10_readNext_72 ?_
              refine s_vI (As := [AX (sA aC 20)]) (S := []) E (Z_X10_takes_95 l D aC b w  hJ.1  20 (by decide) (by omega)) cv_X10_150 rfl rfl rfl (jv_lt hJ (by decide)) (Nat.le_of_ble_eq_true rfl) (Nat.le_of_ble_eq_true rfl) ⟨(Nat.le_of_ble_eq_true rfl), (Nat.le_of_ble_eq_true rfl)⟩ (Nat.le_of_ble_eq_true rfl) dX10_readNext_74 (fun z_641 u_639 hp_640 => ?_)
              obtain ⟨hz_641, hxz_641, hf_u_639_101, hp_640⟩ := hp_640
              have hj_642 := jv_trans hJ hp_640
              have hfa_101_0 := congrArg Int32.toInt (congrFun hf_u_639_101 0)
              have hfa_101_4 := congrArg Int32.toInt (congrFun hf_u_639_101 4)
              have hfa_101_5 := congrArg Int32.toInt (congrFun hf_u_639_101 5)
              have hfa_101_6 := congrArg Int32.toInt (congrFun hf_u_639_101 6)
              have hfa_101_7 := congrArg Int32.toInt (congrFun hf_u_639_101 7)
              have hfa_101_9 := congrArg Int32.toInt (congrFun hf_u_639_101 9)
              have hT_ := hxz_641.1
              have hE_ := hxz_641.2.1
              refine z_if_eq (tgt := 87) (u := z_641.toInt) E dX10_readNext_77 (by decide) rfl (fun h_643 => ?_) (fun h_643 => ?_)
              ·
                have hE1_ : w = u_639 := hE_.resolve_left (by omega)
                refine s_aload_n E dX10_readNext_87 rfl rfl ?_
                refine s_ldcS (i := 21) E (by decide) rfl dX10_readNext_88 ?_
                refine s_vI (As := [AX (sA aC 21)]) (S := []) E (Z_X10_takes_95 l D aC b u_639  hj_642.1  21 (by decide) (by omega)) cv_X10_150 rfl rfl rfl (jv_lt hj_642 (by decide)) (Nat.le_of_ble_eq_true rfl) (Nat.le_of_ble_eq_true rfl) ⟨(Nat.le_of_ble_eq_true rfl), (Nat.le_of_ble_eq_true rfl)⟩ (Nat.le_of_ble_eq_true rfl) dX10_readNext_90 (fun z_646 u_644 hp_645 => ?_)
                obtain ⟨hz_646, hxz_646, hf_u_644_101, hp_645⟩ := hp_645
                have hj_647 := jv_trans hj_642 hp_645
                have hfa_101_0 := congrArg Int32.toInt (congrFun hf_u_644_101 0)
                have hfa_101_4 := congrArg Int32.toInt (congrFun hf_u_644_101 4)
                have hfa_101_5 := congrArg Int32.toInt (congrFun hf_u_644_101 5)
                have hfa_101_6 := congrArg Int32.toInt (congrFun hf_u_644_101 6)
                have hfa_101_7 := congrArg Int32.toInt (congrFun hf_u_644_101 7)
                have hfa_101_9 := congrArg Int32.toInt (congrFun hf_u_644_101 9)
                have hT2_ := hxz_646.1
                rw [← hE1_] at hT2_
                have hF_ := hxz_646.2.1
                refine z_if_eq (tgt := 150) (u := z_646.toInt) E dX10_readNext_93 (by decide) rfl (fun h_648 => ?_) (fun h_648 => ?_)
                ·
                  have hE2_ : w = u_644 := hE1_.trans (hF_.resolve_left (by omega))
                  refine s_aload_n E dX10_readNext_150 rfl rfl ?_
                  refine s_ldcS (i := 22) E (by decide) rfl dX10_readNext_151 ?_
                  refine s_vI (As := [AX (sA aC 22)]) (S := []) E (Z_X10_takes_95 l D aC b u_644  hj_647.1  22 (by decide) (by omega)) cv_X10_150 rfl rfl rfl (jv_lt hj_647 (by decide)) (Nat.le_of_ble_eq_true rfl) (Nat.le_of_ble_eq_true rfl) ⟨(Nat.le_of_ble_eq_true rfl), (Nat.le_of_ble_eq_true rfl)⟩ (Nat.le_of_ble_eq_true rfl) dX10_readNext_153 (fun z_651 u_649 hp_650 => ?_)
                  obtain ⟨hz_651, hxz_651, hf_u_649_101, hp_650⟩ := hp_650
                  have hj_652 := jv_trans hj_647 hp_650
                  have hfa_101_0 := congrArg Int32.toInt (congrFun hf_u_649_101 0)
                  have hfa_101_4 := congrArg Int32.toInt (congrFun hf_u_649_101 4)
                  have hfa_101_5 := congrArg Int32.toInt (congrFun hf_u_649_101 5)
                  have hfa_101_6 := congrArg Int32.toInt (congrFun hf_u_649_101 6)
                  have hfa_101_7 := congrArg Int32.toInt (congrFun hf_u_649_101 7)
                  have hfa_101_9 := congrArg Int32.toInt (congrFun hf_u_649_101 9)
                  have hT3_ := hxz_651.1
                  rw [← hE2_] at hT3_
                  have hG_ := hxz_651.2.1
                  refine z_if_eq (tgt := 224) (u := z_651.toInt) E dX10_readNext_156 (by decide) rfl (fun h_653 => ?_) (fun h_653 => ?_)
                  ·
                    have hd_ : ¬ (w.2.2.1 101 7).toInt = 10 := by first | exact (hq_.resolve_left (by omega)).2.2.2 (hw_30.mp (by omega)) | (exfalso; exact absurd (hT_.mpr (hw_3.mp (by omega))) (by omega)) | (exfalso; exact absurd (hT2_.mpr (hw_12.mp (by omega))) (by omega)) | (exfalso; exact absurd (hT3_.mpr (hw_21.mp (by omega))) (by omega)) | (exfalso; omega)
                    refine s_aload_n E dX10_readNext_224 rfl rfl ?_
                    refine s_vV (As := []) (S := []) E (Z_X10_advance_95 l D aC b u_649  hj_652.1 ) cv_X10_147 rfl rfl rfl (jv_lt hj_652 (by decide)) (Nat.le_of_ble_eq_true rfl) (Nat.le_of_ble_eq_true rfl) ⟨(Nat.le_of_ble_eq_true rfl), (Nat.le_of_ble_eq_true rfl)⟩ (Nat.le_of_ble_eq_true rfl) dX10_readNext_225 (fun u_654 hp_655 => ?_)
                    obtain ⟨hx_hp_655, hf_u_654_99, hf_u_654_101, hp_655⟩ := hp_655
                    have hj_656 := jv_trans hj_652 hp_655
                    have hfa_101_0 := congrArg Int32.toInt (congrFun hf_u_654_101 0)
                    have hfa_101_4 := congrArg Int32.toInt (congrFun hf_u_654_101 4)
                    have hfa_101_5 := congrArg Int32.toInt (congrFun hf_u_654_101 5)
                    have hfa_101_6 := congrArg Int32.toInt (congrFun hf_u_654_101 6)
                    have hfa_101_7 := congrArg Int32.toInt (congrFun hf_u_654_101 7)
                    have hfa_101_9 := congrArg Int32.toInt (congrFun hf_u_654_101 9)
                    refine s_aload_n E dX10_readNext_228 rfl rfl ?_
                    refine s_vV (As := []) (S := []) E (Z_X10_readBid_95 l D aC b u_654  hj_656.1  (by omega) (by omega)) cv_X10_206 rfl rfl rfl (jv_lt hj_656 (by decide)) (Nat.le_of_ble_eq_true rfl) (Nat.le_of_ble_eq_true rfl) ⟨(Nat.le_of_ble_eq_true rfl), (Nat.le_of_ble_eq_true rfl)⟩ (Nat.le_of_ble_eq_true rfl) dX10_readNext_229 (fun u_657 hp_658 => ?_)
                    obtain ⟨hx_hp_658, hp_658⟩ := hp_658
                    have hj_659 := jv_trans hj_656 hp_658
                    exact r_void E dX10_readNext_232 ⟨(by omega), hj_659⟩
                  ·
                    have hd_ : ¬ (w.2.2.1 101 6).toInt = 8 := by first | exact (hq_.resolve_left (by omega)).2.2.1 (hT3_.mp (by omega)) | (exfalso; omega)
                    refine s_bipush (v := 58) E dX10_readNext_159 (by decide) ?_
                    refine s_iconst (v := 2) E dX10_readNext_161 (by decide) ?_
                    refine s_aload_n E dX10_readNext_162 rfl rfl ?_
                    refine s_gR (r := 101) E fg_X10_31 rfl rfl (jv_lt hj_652 (by decide)) (jv_r hj_652 (by decide +kernel)) dX10_readNext_163 ?_
                    refine s_bipush (v := 6) E dX10_readNext_166 (by decide) ?_
                    refine s_iald E rfl (jv_lt hj_652 (by decide)) (z_in (u := 6) (by decide) (by omega) (by omega)) dX10_readNext_168 ?_
                    refine z_nm (P := fun z => z.toInt = (u_649.2.2.1 101 6).toInt ∧ 0 ≤ z.toInt ∧ z.toInt ≤ 8) ⟨rfl, (rw_101_6 hj_652)⟩ (fun z_660 hz_660 => ?_)
                    refine z_imul (u := 2) (v := z_660.toInt) E dX10_readNext_169 (by decide) rfl (by omega) (by omega) (fun z_661 hz_661 => ?_)
                    have hhz_661 : 0 ≤ z_661.toInt ∧ z_661.toInt ≤ 14 := by omega
                    refine z_iadd (u := 58) (v := z_661.toInt) E dX10_readNext_170 (by decide) rfl (by omega) (by omega) (fun z_662 hz_662 => ?_)
                    refine s_istore_n (L2 := [some (AR 95), some (AI 1), some (AI z_662)]) E dX10_readNext_171 rfl (by decide) rfl ?_
                    refine s_aload_n E dX10_readNext_172 rfl rfl ?_
                    refine s_gR (r := 101) E fg_X10_31 rfl rfl (jv_lt hj_652 (by decide)) (jv_r hj_652 (by decide +kernel)) dX10_readNext_173 ?_
                    refine s_iload_n E dX10_readNext_176 rfl rfl ?_
                    refine s_aload_n E dX10_readNext_177 rfl rfl ?_
                    refine s_ldcS (i := 27) E (by decide) rfl dX10_readNext_178 ?_
                    refine s_iconst (v := 0) E dX10_readNext_180 (by decide) ?_
                    refine s_aload_n E dX10_readNext_181 rfl rfl ?_
                    refine s_gR (r := 101) E fg_X10_31 rfl rfl (jv_lt hj_652 (by decide)) (jv_r hj_652 (by decide +kernel)) dX10_readNext_182 ?_
                    refine s_iconst (v := 5) E dX10_readNext_185 (by decide) ?_
                    refine s_iald E rfl (jv_lt hj_652 (by decide)) (z_in (u := 5) (by decide) (by omega) (by omega)) dX10_readNext_186 ?_
                    refine z_nm (P := fun z => z.toInt = (u_649.2.2.1 101 5).toInt ∧ 0 ≤ z.toInt ∧ z.toInt ≤ 6) ⟨rfl, (rw_101_5 hj_652)⟩ (fun z_663 hz_663 => ?_)
                    refine s_iconst (v := 1) E dX10_readNext_187 (by decide) ?_
                    refine z_isub (u := z_663.toInt) (v := 1) E dX10_readNext_188 rfl (by decide) (by omega) (by omega) (fun z_664 hz_664 => ?_)
                    refine s_vI (As := [AX (sA aC 27), AI 0, AI z_664]) (S := [AI z_662, AR 101]) E (Z_X10_told_95 l D aC b u_649 0 z_664 hj_652.1  27 (by decide) (by omega)) cv_X10_164 rfl rfl rfl (jv_lt hj_652 (by decide)) (Nat.le_of_ble_eq_true rfl) (Nat.le_of_ble_eq_true rfl) ⟨(Nat.le_of_ble_eq_true rfl), (Nat.le_of_ble_eq_true rfl)⟩ (Nat.le_of_ble_eq_true rfl) dX10_readNext_189 (fun z_667 u_665 hp_666 => ?_)
                    obtain ⟨hz_667, hxz_667, hf_u_665_101, hp_666⟩ := hp_666
                    have hc_ : (0 : Int32).toInt = 0 := by decide
                    have hj_668 := jv_trans hj_652 hp_666
                    have hfa_101_0 := congrArg Int32.toInt (congrFun hf_u_665_101 0)
                    have hfa_101_4 := congrArg Int32.toInt (congrFun hf_u_665_101 4)
                    have hfa_101_5 := congrArg Int32.toInt (congrFun hf_u_665_101 5)
                    have hfa_101_6 := congrArg Int32.toInt (congrFun hf_u_665_101 6)
                    have hfa_101_7 := congrArg Int32.toInt (congrFun hf_u_665_101 7)
                    have hfa_101_9 := congrArg Int32.toInt (congrFun hf_u_665_101 9)
                    have hrz_667 : 0 ≤ z_667.toInt ∧ z_667.toInt ≤ 5 := by omega
                    refine s_iast E rfl (jv_lt hj_668 (by decide)) (z_in (u := z_662.toInt) rfl (by omega) (by omega)) dX10_readNext_192 ?_
                    have hj_670 : Jv w (upI u_665 101 z_662.toNatClampNeg z_667) := (jv_a_101 (i := z_662) (x := z_667) hj_668 0 5 58 72 2 z_662.toInt (by decide +kernel) (by decide) rfl (by omega) (by omega) (by omega) (by have hb_ := z32 z_667; omega) (by have hb_ := z32 z_667; omega))
                    have hke_ : ((upI u_665 101 z_662.toNatClampNeg z_667).2.2.1 95 7).toInt = (u_665.2.2.1 95 7).toInt := rfl
                    have hke_ : ((upI u_665 101 z_662.toNatClampNeg z_667).2.2.1 95 8).toInt = (u_665.2.2.1 95 8).toInt := rfl
                    have hke_ : ((upI u_665 101 z_662.toNatClampNeg z_667).2.2.1 95 9).toInt = (u_665.2.2.1 95 9).toInt := rfl
                    have hke_ : ((upI u_665 101 z_662.toNatClampNeg z_667).2.2.1 95 10).toInt = (u_665.2.2.1 95 10).toInt := rfl
                    have hke_ : ((upI u_665 101 z_662.toNatClampNeg z_667).2.2.1 95 12).toInt = (u_665.2.2.1 95 12).toInt := rfl
                    have hke_ : ((upI u_665 101 z_662.toNatClampNeg z_667).2.2.1 101 0).toInt = (u_665.2.2.1 101 0).toInt := keep_ne (u := z_662.toInt) rfl (by omega) (by omega)
                    have hke_ : ((upI u_665 101 z_662.toNatClampNeg z_667).2.2.1 101 4).toInt = (u_665.2.2.1 101 4).toInt := keep_ne (u := z_662.toInt) rfl (by omega) (by omega)
                    have hke_ : ((upI u_665 101 z_662.toNatClampNeg z_667).2.2.1 101 5).toInt = (u_665.2.2.1 101 5).toInt := keep_ne (u := z_662.toInt) rfl (by omega) (by omega)
                    have hke_ : ((upI u_665 101 z_662.toNatClampNeg z_667).2.2.1 101 6).toInt = (u_665.2.2.1 101 6).toInt := keep_ne (u := z_662.toInt) rfl (by omega) (by omega)
                    have hke_ : ((upI u_665 101 z_662.toNatClampNeg z_667).2.2.1 101 7).toInt = (u_665.2.2.1 101 7).toInt := keep_ne (u := z_662.toInt) rfl (by omega) (by omega)
                    have hke_ : ((upI u_665 101 z_662.toNatClampNeg z_667).2.2.1 101 9).toInt = (u_665.2.2.1 101 9).toInt := keep_ne (u := z_662.toInt) rfl (by omega) (by omega)
                    refine s_aload_n E dX10_readNext_193 rfl rfl ?_
                    refine s_gR (r := 101) E fg_X10_31 rfl rfl (jv_lt hj_670 (by decide)) (jv_r hj_670 (by decide +kernel)) dX10_readNext_194 ?_
                    refine s_iload_n E dX10_readNext_197 rfl rfl ?_
                    refine s_iconst (v := 1) E dX10_readNext_198 (by decide) ?_
                    refine z_iadd (u := z_662.toInt) (v := 1) E dX10_readNext_199 rfl (by decide) (by omega) (by omega) (fun z_671 hz_671 => ?_)
                    refine s_aload_n E dX10_readNext_200 rfl rfl ?_
                    refine s_ldcS (i := 28) E (by decide) rfl dX10_readNext_201 ?_
                    refine s_iconst (v := 1) E dX10_readNext_203 (by decide) ?_
                    refine s_bipush (v := 20) E dX10_readNext_204 (by decide) ?_
                    refine s_vI (As := [AX (sA aC 28), AI 1, AI 20]) (S := [AI z_671, AR 101]) E (Z_X10_told_95 l D aC b (upI u_665 101 z_662.toNatClampNeg z_667) 1 20 hj_670.1  28 (by decide) (by omega)) cv_X10_164 rfl rfl rfl (jv_lt hj_670 (by decide)) (Nat.le_of_ble_eq_true rfl) (Nat.le_of_ble_eq_true rfl) ⟨(Nat.le_of_ble_eq_true rfl), (Nat.le_of_ble_eq_true rfl)⟩ (Nat.le_of_ble_eq_true rfl) dX10_readNext_206 (fun z_674 u_672 hp_673 => ?_)
                    obtain ⟨hz_674, hxz_674, hf_u_672_101, hp_673⟩ := hp_673
                    have hc_ : (1 : Int32).toInt = 1 := by decide
                    have hc_ : (20 : Int32).toInt = 20 := by decide
                    have hj_675 := jv_trans hj_670 hp_673
                    have hfa_101_0 := congrArg Int32.toInt (congrFun hf_u_672_101 0)
                    have hfa_101_4 := congrArg Int32.toInt (congrFun hf_u_672_101 4)
                    have hfa_101_5 := congrArg Int32.toInt (congrFun hf_u_672_101 5)
                    have hfa_101_6 := congrArg Int32.toInt (congrFun hf_u_672_101 6)
                    have hfa_101_7 := congrArg Int32.toInt (congrFun hf_u_672_101 7)
                    have hfa_101_9 := congrArg Int32.toInt (congrFun hf_u_672_101 9)
                    have hrz_674 : 0 ≤ z_674.toInt ∧ z_674.toInt ≤ 20 := by omega
                    refine s_iast E rfl (jv_lt hj_675 (by decide)) (z_in (u := z_671.toInt) rfl (by omega) (by omega)) dX10_readNext_209 ?_
                    have hj_677 : Jv w (upI u_672 101 z_671.toNatClampNeg z_674) := (jv_a_101 (i := z_671) (x := z_674) hj_675 0 20 59 73 2 z_671.toInt (by decide +kernel) (by decide) rfl (by omega) (by omega) (by omega) (by have hb_ := z32 z_674; omega) (by have hb_ := z32 z_674; omega))
                    have hke_ : ((upI u_672 101 z_671.toNatClampNeg z_674).2.2.1 95 7).toInt = (u_672.2.2.1 95 7).toInt := rfl
                    have hke_ : ((upI u_672 101 z_671.toNatClampNeg z_674).2.2.1 95 8).toInt = (u_672.2.2.1 95 8).toInt := rfl
                    have hke_ : ((upI u_672 101 z_671.toNatClampNeg z_674).2.2.1 95 9).toInt = (u_672.2.2.1 95 9).toInt := rfl
                    have hke_ : ((upI u_672 101 z_671.toNatClampNeg z_674).2.2.1 95 10).toInt = (u_672.2.2.1 95 10).toInt := rfl
                    have hke_ : ((upI u_672 101 z_671.toNatClampNeg z_674).2.2.1 95 12).toInt = (u_672.2.2.1 95 12).toInt := rfl
                    have hke_ : ((upI u_672 101 z_671.toNatClampNeg z_674).2.2.1 101 0).toInt = (u_672.2.2.1 101 0).toInt := keep_ne (u := z_671.toInt) rfl (by omega) (by omega)
                    have hke_ : ((upI u_672 101 z_671.toNatClampNeg z_674).2.2.1 101 4).toInt = (u_672.2.2.1 101 4).toInt := keep_ne (u := z_671.toInt) rfl (by omega) (by omega)
                    have hke_ : ((upI u_672 101 z_671.toNatClampNeg z_674).2.2.1 101 5).toInt = (u_672.2.2.1 101 5).toInt := keep_ne (u := z_671.toInt) rfl (by omega) (by omega)
                    have hke_ : ((upI u_672 101 z_671.toNatClampNeg z_674).2.2.1 101 6).toInt = (u_672.2.2.1 101 6).toInt := keep_ne (u := z_671.toInt) rfl (by omega) (by omega)
                    have hke_ : ((upI u_672 101 z_671.toNatClampNeg z_674).2.2.1 101 7).toInt = (u_672.2.2.1 101 7).toInt := keep_ne (u := z_671.toInt) rfl (by omega) (by omega)
                    have hke_ : ((upI u_672 101 z_671.toNatClampNeg z_674).2.2.1 101 9).toInt = (u_672.2.2.1 101 9).toInt := keep_ne (u := z_671.toInt) rfl (by omega) (by omega)
                    refine s_aload_n E dX10_readNext_210 rfl rfl ?_
                    refine s_gR (r := 101) E fg_X10_31 rfl rfl (jv_lt hj_677 (by decide)) (jv_r hj_677 (by decide +kernel)) dX10_readNext_211 ?_
                    refine s_bipush (v := 6) E dX10_readNext_214 (by decide) ?_
                    refine s_dup2 E dX10_readNext_216 ?_
                    refine s_iald E rfl (jv_lt hj_677 (by decide)) (z_in (u := 6) (by decide) (by omega) (by omega)) dX10_readNext_217 ?_
                    refine z_nm (P := fun z => z.toInt = ((upI u_672 101 z_671.toNatClampNeg z_674).2.2.1 101 6).toInt ∧ 0 ≤ z.toInt ∧ z.toInt ≤ 8) ⟨rfl, (rw_101_6 hj_677)⟩ (fun z_678 hz_678 => ?_)
                    refine s_iconst (v := 1) E dX10_readNext_218 (by decide) ?_
                    refine z_iadd (u := z_678.toInt) (v := 1) E dX10_readNext_219 rfl (by decide) (by omega) (by omega) (fun z_679 hz_679 => ?_)
                    have hhz_679 : 0 ≤ z_679.toInt ∧ z_679.toInt ≤ 8 := by omega
                    refine s_iast E rfl (jv_lt hj_677 (by decide)) (z_in (u := 6) (by decide) (by omega) (by omega)) dX10_readNext_220 ?_
                    refine s_world (w2 := (upI (upI u_672 101 z_671.toNatClampNeg z_674) 101 6 z_679)) rfl ?_
                    have hj_681 : Jv w (upI (upI u_672 101 z_671.toNatClampNeg z_674) 101 6 z_679) := (jv_a_101 (i := 6) (x := z_679) hj_677 0 8 6 6 1 6 (by decide +kernel) (by decide) (by decide) (by omega) (by omega) (by omega) (by have hb_ := z32 z_679; omega) (by have hb_ := z32 z_679; omega))
                    have hke_ : ((upI (upI u_672 101 z_671.toNatClampNeg z_674) 101 6 z_679).2.2.1 95 7).toInt = ((upI u_672 101 z_671.toNatClampNeg z_674).2.2.1 95 7).toInt := rfl
                    have hke_ : ((upI (upI u_672 101 z_671.toNatClampNeg z_674) 101 6 z_679).2.2.1 95 8).toInt = ((upI u_672 101 z_671.toNatClampNeg z_674).2.2.1 95 8).toInt := rfl
                    have hke_ : ((upI (upI u_672 101 z_671.toNatClampNeg z_674) 101 6 z_679).2.2.1 95 9).toInt = ((upI u_672 101 z_671.toNatClampNeg z_674).2.2.1 95 9).toInt := rfl
                    have hke_ : ((upI (upI u_672 101 z_671.toNatClampNeg z_674) 101 6 z_679).2.2.1 95 10).toInt = ((upI u_672 101 z_671.toNatClampNeg z_674).2.2.1 95 10).toInt := rfl
                    have hke_ : ((upI (upI u_672 101 z_671.toNatClampNeg z_674) 101 6 z_679).2.2.1 95 12).toInt = ((upI u_672 101 z_671.toNatClampNeg z_674).2.2.1 95 12).toInt := rfl
                    have hke_ : ((upI (upI u_672 101 z_671.toNatClampNeg z_674) 101 6 z_679).2.2.1 101 0).toInt = ((upI u_672 101 z_671.toNatClampNeg z_674).2.2.1 101 0).toInt := rfl
                    have hke_ : ((upI (upI u_672 101 z_671.toNatClampNeg z_674) 101 6 z_679).2.2.1 101 4).toInt = ((upI u_672 101 z_671.toNatClampNeg z_674).2.2.1 101 4).toInt := rfl
                    have hke_ : ((upI (upI u_672 101 z_671.toNatClampNeg z_674) 101 6 z_679).2.2.1 101 5).toInt = ((upI u_672 101 z_671.toNatClampNeg z_674).2.2.1 101 5).toInt := rfl
                    have hke_ : ((upI (upI u_672 101 z_671.toNatClampNeg z_674) 101 6 z_679).2.2.1 101 6).toInt = z_679.toInt := rfl
                    have hke_ : ((upI (upI u_672 101 z_671.toNatClampNeg z_674) 101 6 z_679).2.2.1 101 7).toInt = ((upI u_672 101 z_671.toNatClampNeg z_674).2.2.1 101 7).toInt := rfl
                    have hke_ : ((upI (upI u_672 101 z_671.toNatClampNeg z_674) 101 6 z_679).2.2.1 101 9).toInt = ((upI u_672 101 z_671.toNatClampNeg z_674).2.2.1 101 9).toInt := rfl
                    refine s_goto (tgt := 232) E dX10_readNext_221 (by decide) ?_
                    exact r_void E dX10_readNext_232 ⟨(by omega), hj_681⟩
                ·
                  have hd_ : ¬ (w.2.2.1 101 5).toInt = 6 := by first | exact (hq_.resolve_left (by omega)).2.1 (hT2_.mp (by omega)) | (exfalso; omega)
                  refine s_bipush (v := 46) E dX10_readNext_96 (by decide) ?_
                  refine s_iconst (v := 2) E dX10_readNext_98 (by decide) ?_
                  refine s_aload_n E dX10_readNext_99 rfl rfl ?_
                  refine s_gR (r := 101) E fg_X10_31 rfl rfl (jv_lt hj_647 (by decide)) (jv_r hj_647 (by decide +kernel)) dX10_readNext_100 ?_
                  refine s_iconst (v := 5) E dX10_readNext_103 (by decide) ?_
                  refine s_iald E rfl (jv_lt hj_647 (by decide)) (z_in (u := 5) (by decide) (by omega) (by omega)) dX10_readNext_104 ?_
                  refine z_nm (P := fun z => z.toInt = (u_644.2.2.1 101 5).toInt ∧ 0 ≤ z.toInt ∧ z.toInt ≤ 6) ⟨rfl, (rw_101_5 hj_647)⟩ (fun z_682 hz_682 => ?_)
                  refine z_imul (u := 2) (v := z_682.toInt) E dX10_readNext_105 (by decide) rfl (by omega) (by omega) (fun z_683 hz_683 => ?_)
                  have hhz_683 : 0 ≤ z_683.toInt ∧ z_683.toInt ≤ 10 := by omega
                  refine z_iadd (u := 46) (v := z_683.toInt) E dX10_readNext_106 (by decide) rfl (by omega) (by omega) (fun z_684 hz_684 => ?_)
                  refine s_istore_n (L2 := [some (AR 95), some (AI 1), some (AI z_684)]) E dX10_readNext_107 rfl (by decide) rfl ?_
                  refine s_aload_n E dX10_readNext_108 rfl rfl ?_
                  refine s_gR (r := 101) E fg_X10_31 rfl rfl (jv_lt hj_647 (by decide)) (jv_r hj_647 (by decide +kernel)) dX10_readNext_109 ?_
                  refine s_iload_n E dX10_readNext_112 rfl rfl ?_
                  refine s_aload_n E dX10_readNext_113 rfl rfl ?_
                  refine s_ldcS (i := 26) E (by decide) rfl dX10_readNext_114 ?_
                  refine s_vI (As := [AX (sA aC 26)]) (S := [AI z_684, AR 101]) E (Z_X10_freshRoom_95 l D aC b u_644  hj_647.1  26 (by decide) (by omega)) cv_X10_182 rfl rfl rfl (jv_lt hj_647 (by decide)) (Nat.le_of_ble_eq_true rfl) (Nat.le_of_ble_eq_true rfl) ⟨(Nat.le_of_ble_eq_true rfl), (Nat.le_of_ble_eq_true rfl)⟩ (Nat.le_of_ble_eq_true rfl) dX10_readNext_116 (fun z_687 u_685 hp_686 => ?_)
                  obtain ⟨hz_687, hxz_687, hf_u_685_101, hp_686⟩ := hp_686
                  have hj_688 := jv_trans hj_647 hp_686
                  have hfa_101_0 := congrArg Int32.toInt (congrFun hf_u_685_101 0)
                  have hfa_101_4 := congrArg Int32.toInt (congrFun hf_u_685_101 4)
                  have hfa_101_5 := congrArg Int32.toInt (congrFun hf_u_685_101 5)
                  have hfa_101_6 := congrArg Int32.toInt (congrFun hf_u_685_101 6)
                  have hfa_101_7 := congrArg Int32.toInt (congrFun hf_u_685_101 7)
                  have hfa_101_9 := congrArg Int32.toInt (congrFun hf_u_685_101 9)
                  have hrz_687 : 0 ≤ z_687.toInt ∧ z_687.toInt ≤ 7 := by omega
                  have hRm_ : (u_685.2.2.1 95 12).toInt = 0 → z_687.toInt < (w.2.2.1 101 0).toInt := by intro h0_; omega
                  refine s_iast E rfl (jv_lt hj_688 (by decide)) (z_in (u := z_684.toInt) rfl (by omega) (by omega)) dX10_readNext_119 ?_
                  have hj_690 : Jv w (upI u_685 101 z_684.toNatClampNeg z_687) := (jv_lad0 hj_688 (by omega) (by omega) (by omega) (by have hb_ := z32 z_687; omega) (by have hb_ := z32 z_687; omega))
                  have hke_ : ((upI u_685 101 z_684.toNatClampNeg z_687).2.2.1 95 7).toInt = (u_685.2.2.1 95 7).toInt := rfl
                  have hke_ : ((upI u_685 101 z_684.toNatClampNeg z_687).2.2.1 95 8).toInt = (u_685.2.2.1 95 8).toInt := rfl
                  have hke_ : ((upI u_685 101 z_684.toNatClampNeg z_687).2.2.1 95 9).toInt = (u_685.2.2.1 95 9).toInt := rfl
                  have hke_ : ((upI u_685 101 z_684.toNatClampNeg z_687).2.2.1 95 10).toInt = (u_685.2.2.1 95 10).toInt := rfl
                  have hke_ : ((upI u_685 101 z_684.toNatClampNeg z_687).2.2.1 95 12).toInt = (u_685.2.2.1 95 12).toInt := rfl
                  have hke_ : ((upI u_685 101 z_684.toNatClampNeg z_687).2.2.1 101 0).toInt = (u_685.2.2.1 101 0).toInt := keep_ne (u := z_684.toInt) rfl (by omega) (by omega)
                  have hke_ : ((upI u_685 101 z_684.toNatClampNeg z_687).2.2.1 101 4).toInt = (u_685.2.2.1 101 4).toInt := keep_ne (u := z_684.toInt) rfl (by omega) (by omega)
                  have hke_ : ((upI u_685 101 z_684.toNatClampNeg z_687).2.2.1 101 5).toInt = (u_685.2.2.1 101 5).toInt := keep_ne (u := z_684.toInt) rfl (by omega) (by omega)
                  have hke_ : ((upI u_685 101 z_684.toNatClampNeg z_687).2.2.1 101 6).toInt = (u_685.2.2.1 101 6).toInt := keep_ne (u := z_684.toInt) rfl (by omega) (by omega)
                  have hke_ : ((upI u_685 101 z_684.toNatClampNeg z_687).2.2.1 101 7).toInt = (u_685.2.2.1 101 7).toInt := keep_ne (u := z_684.toInt) rfl (by omega) (by omega)
                  have hke_ : ((upI u_685 101 z_684.toNatClampNeg z_687).2.2.1 101 9).toInt = (u_685.2.2.1 101 9).toInt := keep_ne (u := z_684.toInt) rfl (by omega) (by omega)
                  refine s_aload_n E dX10_readNext_120 rfl rfl ?_
                  refine s_gR (r := 101) E fg_X10_31 rfl rfl (jv_lt hj_690 (by decide)) (jv_r hj_690 (by decide +kernel)) dX10_readNext_121 ?_
                  refine s_iload_n E dX10_readNext_124 rfl rfl ?_
                  refine s_iconst (v := 1) E dX10_readNext_125 (by decide) ?_
                  refine z_iadd (u := z_684.toInt) (v := 1) E dX10_readNext_126 rfl (by decide) (by omega) (by omega) (fun z_691 hz_691 => ?_)
                  refine s_aload_n E dX10_readNext_127 rfl rfl ?_
                  refine s_ldcS (i := 25) E (by decide) rfl dX10_readNext_128 ?_
                  refine s_iconst (v := 1) E dX10_readNext_130 (by decide) ?_
                  refine s_bipush (v := 9) E dX10_readNext_131 (by decide) ?_
                  refine s_vI (As := [AX (sA aC 25), AI 1, AI 9]) (S := [AI z_691, AR 101]) E (Z_X10_told_95 l D aC b (upI u_685 101 z_684.toNatClampNeg z_687) 1 9 hj_690.1  25 (by decide) (by omega)) cv_X10_164 rfl rfl rfl (jv_lt hj_690 (by decide)) (Nat.le_of_ble_eq_true rfl) (Nat.le_of_ble_eq_true rfl) ⟨(Nat.le_of_ble_eq_true rfl), (Nat.le_of_ble_eq_true rfl)⟩ (Nat.le_of_ble_eq_true rfl) dX10_readNext_133 (fun z_694 u_692 hp_693 => ?_)
                  obtain ⟨hz_694, hxz_694, hf_u_692_101, hp_693⟩ := hp_693
                  have hc_ : (1 : Int32).toInt = 1 := by decide
                  have hc_ : (9 : Int32).toInt = 9 := by decide
                  have hj_695 := jv_trans hj_690 hp_693
                  have hfa_101_0 := congrArg Int32.toInt (congrFun hf_u_692_101 0)
                  have hfa_101_4 := congrArg Int32.toInt (congrFun hf_u_692_101 4)
                  have hfa_101_5 := congrArg Int32.toInt (congrFun hf_u_692_101 5)
                  have hfa_101_6 := congrArg Int32.toInt (congrFun hf_u_692_101 6)
                  have hfa_101_7 := congrArg Int32.toInt (congrFun hf_u_692_101 7)
                  have hfa_101_9 := congrArg Int32.toInt (congrFun hf_u_692_101 9)
                  have hrz_694 : 0 ≤ z_694.toInt ∧ z_694.toInt ≤ 9 := by omega
                  have hLw_ : (u_692.2.2.1 95 12).toInt = 0 → 1 ≤ z_694.toInt := by intro h0_; omega
                  have fL_ := hf_u_692_101
                  refine s_iast E rfl (jv_lt hj_695 (by decide)) (z_in (u := z_691.toInt) rfl (by omega) (by omega)) dX10_readNext_136 ?_
                  have hj_697 : Jv w (upI u_692 101 z_691.toNatClampNeg z_694) := (jv_lad hj_695 (by omega) (by omega) (by omega) (by have hb_ := z32 z_694; omega) (by have hb_ := z32 z_694; omega))
                  have hke_ : ((upI u_692 101 z_691.toNatClampNeg z_694).2.2.1 95 7).toInt = (u_692.2.2.1 95 7).toInt := rfl
                  have hke_ : ((upI u_692 101 z_691.toNatClampNeg z_694).2.2.1 95 8).toInt = (u_692.2.2.1 95 8).toInt := rfl
                  have hke_ : ((upI u_692 101 z_691.toNatClampNeg z_694).2.2.1 95 9).toInt = (u_692.2.2.1 95 9).toInt := rfl
                  have hke_ : ((upI u_692 101 z_691.toNatClampNeg z_694).2.2.1 95 10).toInt = (u_692.2.2.1 95 10).toInt := rfl
                  have hke_ : ((upI u_692 101 z_691.toNatClampNeg z_694).2.2.1 95 12).toInt = (u_692.2.2.1 95 12).toInt := rfl
                  have hke_ : ((upI u_692 101 z_691.toNatClampNeg z_694).2.2.1 101 0).toInt = (u_692.2.2.1 101 0).toInt := keep_ne (u := z_691.toInt) rfl (by omega) (by omega)
                  have hke_ : ((upI u_692 101 z_691.toNatClampNeg z_694).2.2.1 101 4).toInt = (u_692.2.2.1 101 4).toInt := keep_ne (u := z_691.toInt) rfl (by omega) (by omega)
                  have hke_ : ((upI u_692 101 z_691.toNatClampNeg z_694).2.2.1 101 5).toInt = (u_692.2.2.1 101 5).toInt := keep_ne (u := z_691.toInt) rfl (by omega) (by omega)
                  have hke_ : ((upI u_692 101 z_691.toNatClampNeg z_694).2.2.1 101 6).toInt = (u_692.2.2.1 101 6).toInt := keep_ne (u := z_691.toInt) rfl (by omega) (by omega)
                  have hke_ : ((upI u_692 101 z_691.toNatClampNeg z_694).2.2.1 101 7).toInt = (u_692.2.2.1 101 7).toInt := keep_ne (u := z_691.toInt) rfl (by omega) (by omega)
                  have hke_ : ((upI u_692 101 z_691.toNatClampNeg z_694).2.2.1 101 9).toInt = (u_692.2.2.1 101 9).toInt := keep_ne (u := z_691.toInt) rfl (by omega) (by omega)
                  refine s_aload_n E dX10_readNext_137 rfl rfl ?_
                  refine s_gR (r := 101) E fg_X10_31 rfl rfl (jv_lt hj_697 (by decide)) (jv_r hj_697 (by decide +kernel)) dX10_readNext_138 ?_
                  refine s_iconst (v := 5) E dX10_readNext_141 (by decide) ?_
                  refine s_dup2 E dX10_readNext_142 ?_
                  refine s_iald E rfl (jv_lt hj_697 (by decide)) (z_in (u := 5) (by decide) (by omega) (by omega)) dX10_readNext_143 ?_
                  refine z_nm (P := fun z => z.toInt = ((upI u_692 101 z_691.toNatClampNeg z_694).2.2.1 101 5).toInt ∧ 0 ≤ z.toInt ∧ z.toInt ≤ 6) ⟨rfl, (rw_101_5 hj_697)⟩ (fun z_698 hz_698 => ?_)
                  refine s_iconst (v := 1) E dX10_readNext_144 (by decide) ?_
                  refine z_iadd (u := z_698.toInt) (v := 1) E dX10_readNext_145 rfl (by decide) (by omega) (by omega) (fun z_699 hz_699 => ?_)
                  have hhz_699 : 0 ≤ z_699.toInt ∧ z_699.toInt ≤ 6 := by omega
                  refine s_iast E rfl (jv_lt hj_697 (by decide)) (z_in (u := 5) (by decide) (by omega) (by omega)) dX10_readNext_146 ?_
                  refine s_world (w2 := (upI (upI u_692 101 z_691.toNatClampNeg z_694) 101 5 z_699)) rfl ?_
                  have hj_701 : Jv w (upI (upI u_692 101 z_691.toNatClampNeg z_694) 101 5 z_699) := (jv_lad5 hj_697 (by omega) (by omega) (by omega) (lad_fin (by omega) (by omega) hLw_) (fun h0_ => lad_fin2 (N := (w.2.2.1 101 5).toInt) fL_ (by omega) (by omega) (by omega) (by omega) (by have q_ := hRm_ (by omega); omega)))
                  have hke_ : ((upI (upI u_692 101 z_691.toNatClampNeg z_694) 101 5 z_699).2.2.1 95 7).toInt = ((upI u_692 101 z_691.toNatClampNeg z_694).2.2.1 95 7).toInt := rfl
                  have hke_ : ((upI (upI u_692 101 z_691.toNatClampNeg z_694) 101 5 z_699).2.2.1 95 8).toInt = ((upI u_692 101 z_691.toNatClampNeg z_694).2.2.1 95 8).toInt := rfl
                  have hke_ : ((upI (upI u_692 101 z_691.toNatClampNeg z_694) 101 5 z_699).2.2.1 95 9).toInt = ((upI u_692 101 z_691.toNatClampNeg z_694).2.2.1 95 9).toInt := rfl
                  have hke_ : ((upI (upI u_692 101 z_691.toNatClampNeg z_694) 101 5 z_699).2.2.1 95 10).toInt = ((upI u_692 101 z_691.toNatClampNeg z_694).2.2.1 95 10).toInt := rfl
                  have hke_ : ((upI (upI u_692 101 z_691.toNatClampNeg z_694) 101 5 z_699).2.2.1 95 12).toInt = ((upI u_692 101 z_691.toNatClampNeg z_694).2.2.1 95 12).toInt := rfl
                  have hke_ : ((upI (upI u_692 101 z_691.toNatClampNeg z_694) 101 5 z_699).2.2.1 101 0).toInt = ((upI u_692 101 z_691.toNatClampNeg z_694).2.2.1 101 0).toInt := rfl
                  have hke_ : ((upI (upI u_692 101 z_691.toNatClampNeg z_694) 101 5 z_699).2.2.1 101 4).toInt = ((upI u_692 101 z_691.toNatClampNeg z_694).2.2.1 101 4).toInt := rfl
                  have hke_ : ((upI (upI u_692 101 z_691.toNatClampNeg z_694) 101 5 z_699).2.2.1 101 5).toInt = z_699.toInt := rfl
                  have hke_ : ((upI (upI u_692 101 z_691.toNatClampNeg z_694) 101 5 z_699).2.2.1 101 6).toInt = ((upI u_692 101 z_691.toNatClampNeg z_694).2.2.1 101 6).toInt := rfl
                  have hke_ : ((upI (upI u_692 101 z_691.toNatClampNeg z_694) 101 5 z_699).2.2.1 101 7).toInt = ((upI u_692 101 z_691.toNatClampNeg z_694).2.2.1 101 7).toInt := rfl
                  have hke_ : ((upI (upI u_692 101 z_691.toNatClampNeg z_694) 101 5 z_699).2.2.1 101 9).toInt = ((upI u_692 101 z_691.toNatClampNeg z_694).2.2.1 101 9).toInt := rfl
                  refine s_goto (tgt := 232) E dX10_readNext_147 (by decide) ?_
                  exact r_void E dX10_readNext_232 ⟨(by omega), hj_701⟩
              ·
                have hd_ : ¬ (w.2.2.1 101 4).toInt = 12 := by first | exact (hq_.resolve_left (by omega)).1 (hT_.mp (by omega)) | (exfalso; omega)
                refine s_aload_n E dX10_readNext_80 rfl rfl ?_
                refine s_vV (As := []) (S := []) E (Z_X10_readDoor_95 l D aC b u_639  hj_642.1  (by omega) (by omega)) cv_X10_198 rfl rfl rfl (jv_lt hj_642 (by decide)) (Nat.le_of_ble_eq_true rfl) (Nat.le_of_ble_eq_true rfl) ⟨(Nat.le_of_ble_eq_true rfl), (Nat.le_of_ble_eq_true rfl)⟩ (Nat.le_of_ble_eq_true rfl) dX10_readNext_81 (fun u_702 hp_703 => ?_)
                obtain ⟨hx_hp_703, hp_703⟩ := hp_703
                have hj_704 := jv_trans hj_642 hp_703
                refine s_goto (tgt := 232) E dX10_readNext_84 (by decide) ?_
                exact r_void E dX10_readNext_232 ⟨(by omega), hj_704⟩
            ·
              exact r_void E dX10_readNext_70 ⟨(by omega), hJ⟩
          ·
            refine s_aload_n E dX10_readNext_58 rfl rfl ?_
            refine s_iconst (v := 3) E dX10_readNext_59 (by decide) ?_
            refine s_vV (As := [AI 3]) (S := []) E (Z_X10_errs_95 l D aC b w 3 hJ.1 (by decide)) cv_X10_153 rfl rfl rfl (jv_lt hJ (by decide)) (Nat.le_of_ble_eq_true rfl) (Nat.le_of_ble_eq_true rfl) ⟨(Nat.le_of_ble_eq_true rfl), (Nat.le_of_ble_eq_true rfl)⟩ (Nat.le_of_ble_eq_true rfl) dX10_readNext_60 (fun u_705 hp_706 => ?_)
            have hc_ : (3 : Int32).toInt = 3 := by decide
            obtain ⟨hx_hp_706, hf_u_705_101, hp_706⟩ := hp_706
            have hj_707 := jv_trans hJ hp_706
            have hfa_101_0 := congrArg Int32.toInt (congrFun hf_u_705_101 0)
            have hfa_101_4 := congrArg Int32.toInt (congrFun hf_u_705_101 4)
            have hfa_101_5 := congrArg Int32.toInt (congrFun hf_u_705_101 5)
            have hfa_101_6 := congrArg Int32.toInt (congrFun hf_u_705_101 6)
            have hfa_101_7 := congrArg Int32.toInt (congrFun hf_u_705_101 7)
            have hfa_101_9 := congrArg Int32.toInt (congrFun hf_u_705_101 9)
            refine s_aload_n E dX10_readNext_63 rfl rfl ?_
            refine s_vI (As := []) (S := []) E (Z_X10_good_95 l D aC b u_705  hj_707.1 ) cv_X10_130 rfl rfl rfl (jv_lt hj_707 (by decide)) (Nat.le_of_ble_eq_true rfl) (Nat.le_of_ble_eq_true rfl) ⟨(Nat.le_of_ble_eq_true rfl), (Nat.le_of_ble_eq_true rfl)⟩ (Nat.le_of_ble_eq_true rfl) dX10_readNext_64 (fun z_710 u_708 hp_709 => ?_)
            obtain ⟨hz_710, hxz_710, hp_709⟩ := hp_709
            subst hp_709
            refine z_if_ne (tgt := 71) (u := z_710.toInt) E dX10_readNext_67 (by decide) rfl (fun h_712 => ?_) (fun h_712 => ?_)
            ·
              have hn4_ := rw_101_4 hj_707
              have hn5_ := rw_101_5 hj_707
              have hn6_ := rw_101_6 hj_707
              have hn7_ := rw_101_7 hj_707
              refine s_aload_n E dX10_readNext_71 rfl rfl ?_
              refine s_ldcS (i := 20) E (by decide) rfl dX10_readNext_72 ?_
              refine s_vI (As := [AX (sA aC 20)]) (S := []) E (Z_X10_takes_95 l D aC b u_705  hj_707.1  20 (by decide) (by omega)) cv_X10_150 rfl rfl rfl (jv_lt hj_707 (by decide)) (Nat.le_of_ble_eq_true rfl) (Nat.le_of_ble_eq_true rfl) ⟨(Nat.le_of_ble_eq_true rfl), (Nat.le_of_ble_eq_true rfl)⟩ (Nat.le_of_ble_eq_true rfl) dX10_readNext_74 (fun z_715 u_713 hp_714 => ?_)
              obtain ⟨hz_715, hxz_715, hf_u_713_101, hp_714⟩ := hp_714
              have hj_716 := jv_trans hj_707 hp_714
              have hfa_101_0 := congrArg Int32.toInt (congrFun hf_u_713_101 0)
              have hfa_101_4 := congrArg Int32.toInt (congrFun hf_u_713_101 4)
              have hfa_101_5 := congrArg Int32.toInt (congrFun hf_u_713_101 5)
              have hfa_101_6 := congrArg Int32.toInt (congrFun hf_u_713_101 6)
              have hfa_101_7 := congrArg Int32.toInt (congrFun hf_u_713_101 7)
              have hfa_101_9 := congrArg Int32.toInt (congrFun hf_u_713_101 9)
              have hT_ := hxz_715.1
              have hE_ := hxz_715.2.1
              refine z_if_eq (tgt := 87) (u := z_715.toInt) E dX10_readNext_77 (by decide) rfl (fun h_717 => ?_) (fun h_717 => ?_)
              ·
                have hE1_ : u_705 = u_713 := hE_.resolve_left (by omega)
                refine s_aload_n E dX10_readNext_87 rfl rfl ?_
                refine s_ldcS (i := 21) E (by decide) rfl dX10_readNext_88 ?_
                refine s_vI (As := [AX (sA aC 21)]) (S := []) E (Z_X10_takes_95 l D aC b u_713  hj_716.1  21 (by decide) (by omega)) cv_X10_150 rfl rfl rfl (jv_lt hj_716 (by decide)) (Nat.le_of_ble_eq_true rfl) (Nat.le_of_ble_eq_true rfl) ⟨(Nat.le_of_ble_eq_true rfl), (Nat.le_of_ble_eq_true rfl)⟩ (Nat.le_of_ble_eq_true rfl) dX10_readNext_90 (fun z_720 u_718 hp_719 => ?_)
                obtain ⟨hz_720, hxz_720, hf_u_718_101, hp_719⟩ := hp_719
                have hj_721 := jv_trans hj_716 hp_719
                have hfa_101_0 := congrArg Int32.toInt (congrFun hf_u_718_101 0)
                have hfa_101_4 := congrArg Int32.toInt (congrFun hf_u_718_101 4)
                have hfa_101_5 := congrArg Int32.toInt (congrFun hf_u_718_101 5)
                have hfa_101_6 := congrArg Int32.toInt (congrFun hf_u_718_101 6)
                have hfa_101_7 := congrArg Int32.toInt (congrFun hf_u_718_101 7)
                have hfa_101_9 := congrArg Int32.toInt (congrFun hf_u_718_101 9)
                have hT2_ := hxz_720.1
                rw [← hE1_] at hT2_
                have hF_ := hxz_720.2.1
                refine z_if_eq (tgt := 150) (u := z_720.toInt) E dX10_readNext_93 (by decide) rfl (fun h_722 => ?_) (fun h_722 => ?_)
                ·
                  have hE2_ : u_705 = u_718 := hE1_.trans (hF_.resolve_left (by omega))
                  refine s_aload_n E dX10_readNext_150 rfl rfl ?_
                  refine s_ldcS (i := 22) E (by decide) rfl dX10_readNext_151 ?_
                  refine s_vI (As := [AX (sA aC 22)]) (S := []) E (Z_X10_takes_95 l D aC b u_718  hj_721.1  22 (by decide) (by omega)) cv_X10_150 rfl rfl rfl (jv_lt hj_721 (by decide)) (Nat.le_of_ble_eq_true rfl) (Nat.le_of_ble_eq_true rfl) ⟨(Nat.le_of_ble_eq_true rfl), (Nat.le_of_ble_eq_true rfl)⟩ (Nat.le_of_ble_eq_true rfl) dX10_readNext_153 (fun z_725 u_723 hp_724 => ?_)
                  obtain ⟨hz_725, hxz_725, hf_u_723_101, hp_724⟩ := hp_724
                  have hj_726 := jv_trans hj_721 hp_724
                  have hfa_101_0 := congrArg Int32.toInt (congrFun hf_u_723_101 0)
                  have hfa_101_4 := congrArg Int32.toInt (congrFun hf_u_723_101 4)
                  have hfa_101_5 := congrArg Int32.toInt (congrFun hf_u_723_101 5)
                  have hfa_101_6 := congrArg Int32.toInt (congrFun hf_u_723_101 6)
                  have hfa_101_7 := congrArg Int32.toInt (congrFun hf_u_723_101 7)
                  have hfa_101_9 := congrArg Int32.toInt (congrFun hf_u_723_101 9)
                  have hT3_ := hxz_725.1
                  rw [← hE2_] at hT3_
                  have hG_ := hxz_725.2.1
                  refine z_if_eq (tgt := 224) (u := z_725.toInt) E dX10_readNext_156 (by decide) rfl (fun h_727 => ?_) (fun h_727 => ?_)
                  ·
                    have hd_ : ¬ (u_705.2.2.1 101 7).toInt = 10 := by first | exact (hq_.resolve_left (by omega)).2.2.2 (hw_30.mp (by omega)) | (exfalso; exact absurd (hT_.mpr (hw_3.mp (by omega))) (by omega)) | (exfalso; exact absurd (hT2_.mpr (hw_12.mp (by omega))) (by omega)) | (exfalso; exact absurd (hT3_.mpr (hw_21.mp (by omega))) (by omega)) | (exfalso; omega)
                    refine s_aload_n E dX10_readNext_224 rfl rfl ?_
                    refine s_vV (As := []) (S := []) E (Z_X10_advance_95 l D aC b u_723  hj_726.1 ) cv_X10_147 rfl rfl rfl (jv_lt hj_726 (by decide)) (Nat.le_of_ble_eq_true rfl) (Nat.le_of_ble_eq_true rfl) ⟨(Nat.le_of_ble_eq_true rfl), (Nat.le_of_ble_eq_true rfl)⟩ (Nat.le_of_ble_eq_true rfl) dX10_readNext_225 (fun u_728 hp_729 => ?_)
                    obtain ⟨hx_hp_729, hf_u_728_99, hf_u_728_101, hp_729⟩ := hp_729
                    have hj_730 := jv_trans hj_726 hp_729
                    have hfa_101_0 := congrArg Int32.toInt (congrFun hf_u_728_101 0)
                    have hfa_101_4 := congrArg Int32.toInt (congrFun hf_u_728_101 4)
                    have hfa_101_5 := congrArg Int32.toInt (congrFun hf_u_728_101 5)
                    have hfa_101_6 := congrArg Int32.toInt (congrFun hf_u_728_101 6)
                    have hfa_101_7 := congrArg Int32.toInt (congrFun hf_u_728_101 7)
                    have hfa_101_9 := congrArg Int32.toInt (congrFun hf_u_728_101 9)
                    refine s_aload_n E dX10_readNext_228 rfl rfl ?_
                    refine s_vV (As := []) (S := []) E (Z_X10_readBid_95 l D aC b u_728  hj_730.1  (by omega) (by omega)) cv_X10_206 rfl rfl rfl (jv_lt hj_730 (by decide)) (Nat.le_of_ble_eq_true rfl) (Nat.le_of_ble_eq_true rfl) ⟨(Nat.le_of_ble_eq_true rfl), (Nat.le_of_ble_eq_true rfl)⟩ (Nat.le_of_ble_eq_true rfl) dX10_readNext_229 (fun u_731 hp_732 => ?_)
                    obtain ⟨hx_hp_732, hp_732⟩ := hp_732
                    have hj_733 := jv_trans hj_730 hp_732
                    exact r_void E dX10_readNext_232 ⟨(by omega), hj_733⟩
                  ·
                    have hd_ : ¬ (u_705.2.2.1 101 6).toInt = 8 := by first | exact (hq_.resolve_left (by omega)).2.2.1 (hT3_.mp (by omega)) | (exfalso; omega)
                    refine s_bipush (v := 58) E dX10_readNext_159 (by decide) ?_
                    refine s_iconst (v := 2) E dX10_readNext_161 (by decide) ?_
                    refine s_aload_n E dX10_readNext_162 rfl rfl ?_
                    refine s_gR (r := 101) E fg_X10_31 rfl rfl (jv_lt hj_726 (by decide)) (jv_r hj_726 (by decide +kernel)) dX10_readNext_163 ?_
                    refine s_bipush (v := 6) E dX10_readNext_166 (by decide) ?_
                    refine s_iald E rfl (jv_lt hj_726 (by decide)) (z_in (u := 6) (by decide) (by omega) (by omega)) dX10_readNext_168 ?_
                    refine z_nm (P := fun z => z.toInt = (u_723.2.2.1 101 6).toInt ∧ 0 ≤ z.toInt ∧ z.toInt ≤ 8) ⟨rfl, (rw_101_6 hj_726)⟩ (fun z_734 hz_734 => ?_)
                    refine z_imul (u := 2) (v := z_734.toInt) E dX10_readNext_169 (by decide) rfl (by omega) (by omega) (fun z_735 hz_735 => ?_)
                    have hhz_735 : 0 ≤ z_735.toInt ∧ z_735.toInt ≤ 14 := by omega
                    refine z_iadd (u := 58) (v := z_735.toInt) E dX10_readNext_170 (by decide) rfl (by omega) (by omega) (fun z_736 hz_736 => ?_)
                    refine s_istore_n (L2 := [some (AR 95), some (AI 1), some (AI z_736)]) E dX10_readNext_171 rfl (by decide) rfl ?_
                    refine s_aload_n E dX10_readNext_172 rfl rfl ?_
                    refine s_gR (r := 101) E fg_X10_31 rfl rfl (jv_lt hj_726 (by decide)) (jv_r hj_726 (by decide +kernel)) dX10_readNext_173 ?_
                    refine s_iload_n E dX10_readNext_176 rfl rfl ?_
                    refine s_aload_n E dX10_readNext_177 rfl rfl ?_
                    refine s_ldcS (i := 27) E (by decide) rfl dX10_readNext_178 ?_
                    refine s_iconst (v := 0) E dX10_readNext_180 (by decide) ?_
                    refine s_aload_n E dX10_readNext_181 rfl rfl ?_
                    refine s_gR (r := 101) E fg_X10_31 rfl rfl (jv_lt hj_726 (by decide)) (jv_r hj_726 (by decide +kernel)) dX10_readNext_182 ?_
                    refine s_iconst (v := 5) E dX10_readNext_185 (by decide) ?_
                    refine s_iald E rfl (jv_lt hj_726 (by decide)) (z_in (u := 5) (by decide) (by omega) (by omega)) dX10_readNext_186 ?_
                    refine z_nm (P := fun z => z.toInt = (u_723.2.2.1 101 5).toInt ∧ 0 ≤ z.toInt ∧ z.toInt ≤ 6) ⟨rfl, (rw_101_5 hj_726)⟩ (fun z_737 hz_737 => ?_)
                    refine s_iconst (v := 1) E dX10_readNext_187 (by decide) ?_
                    refine z_isub (u := z_737.toInt) (v := 1) E dX10_readNext_188 rfl (by decide) (by omega) (by omega) (fun z_738 hz_738 => ?_)
                    refine s_vI (As := [AX (sA aC 27), AI 0, AI z_738]) (S := [AI z_736, AR 101]) E (Z_X10_told_95 l D aC b u_723 0 z_738 hj_726.1  27 (by decide) (by omega)) cv_X10_164 rfl rfl rfl (jv_lt hj_726 (by decide)) (Nat.le_of_ble_eq_true rfl) (Nat.le_of_ble_eq_true rfl) ⟨(Nat.le_of_ble_eq_true rfl), (Nat.le_of_ble_eq_true rfl)⟩ (Nat.le_of_ble_eq_true rfl) dX10_readNext_189 (fun z_741 u_739 hp_740 => ?_)
                    obtain ⟨hz_741, hxz_741, hf_u_739_101, hp_740⟩ := hp_740
                    have hc_ : (0 : Int32).toInt = 0 := by decide
                    have hj_742 := jv_trans hj_726 hp_740
                    have hfa_101_0 := congrArg Int32.toInt (congrFun hf_u_739_101 0)
                    have hfa_101_4 := congrArg Int32.toInt (congrFun hf_u_739_101 4)
                    have hfa_101_5 := congrArg Int32.toInt (congrFun hf_u_739_101 5)
                    have hfa_101_6 := congrArg Int32.toInt (congrFun hf_u_739_101 6)
                    have hfa_101_7 := congrArg Int32.toInt (congrFun hf_u_739_101 7)
                    have hfa_101_9 := congrArg Int32.toInt (congrFun hf_u_739_101 9)
                    have hrz_741 : 0 ≤ z_741.toInt ∧ z_741.toInt ≤ 5 := by omega
                    refine s_iast E rfl (jv_lt hj_742 (by decide)) (z_in (u := z_736.toInt) rfl (by omega) (by omega)) dX10_readNext_192 ?_
                    have hj_744 : Jv w (upI u_739 101 z_736.toNatClampNeg z_741) := (jv_a_101 (i := z_736) (x := z_741) hj_742 0 5 58 72 2 z_736.toInt (by decide +kernel) (by decide) rfl (by omega) (by omega) (by omega) (by have hb_ := z32 z_741; omega) (by have hb_ := z32 z_741; omega))
                    have hke_ : ((upI u_739 101 z_736.toNatClampNeg z_741).2.2.1 95 7).toInt = (u_739.2.2.1 95 7).toInt := rfl
                    have hke_ : ((upI u_739 101 z_736.toNatClampNeg z_741).2.2.1 95 8).toInt = (u_739.2.2.1 95 8).toInt := rfl
                    have hke_ : ((upI u_739 101 z_736.toNatClampNeg z_741).2.2.1 95 9).toInt = (u_739.2.2.1 95 9).toInt := rfl
                    have hke_ : ((upI u_739 101 z_736.toNatClampNeg z_741).2.2.1 95 10).toInt = (u_739.2.2.1 95 10).toInt := rfl
                    have hke_ : ((upI u_739 101 z_736.toNatClampNeg z_741).2.2.1 95 12).toInt = (u_739.2.2.1 95 12).toInt := rfl
                    have hke_ : ((upI u_739 101 z_736.toNatClampNeg z_741).2.2.1 101 0).toInt = (u_739.2.2.1 101 0).toInt := keep_ne (u := z_736.toInt) rfl (by omega) (by omega)
                    have hke_ : ((upI u_739 101 z_736.toNatClampNeg z_741).2.2.1 101 4).toInt = (u_739.2.2.1 101 4).toInt := keep_ne (u := z_736.toInt) rfl (by omega) (by omega)
                    have hke_ : ((upI u_739 101 z_736.toNatClampNeg z_741).2.2.1 101 5).toInt = (u_739.2.2.1 101 5).toInt := keep_ne (u := z_736.toInt) rfl (by omega) (by omega)
                    have hke_ : ((upI u_739 101 z_736.toNatClampNeg z_741).2.2.1 101 6).toInt = (u_739.2.2.1 101 6).toInt := keep_ne (u := z_736.toInt) rfl (by omega) (by omega)
                    have hke_ : ((upI u_739 101 z_736.toNatClampNeg z_741).2.2.1 101 7).toInt = (u_739.2.2.1 101 7).toInt := keep_ne (u := z_736.toInt) rfl (by omega) (by omega)
                    have hke_ : ((upI u_739 101 z_736.toNatClampNeg z_741).2.2.1 101 9).toInt = (u_739.2.2.1 101 9).toInt := keep_ne (u := z_736.toInt) rfl (by omega) (by omega)
                    refine s_aload_n E dX10_readNext_193 rfl rfl ?_
                    refine s_gR (r := 101) E fg_X10_31 rfl rfl (jv_lt hj_744 (by decide)) (jv_r hj_744 (by decide +kernel)) dX10_readNext_194 ?_
                    refine s_iload_n E dX10_readNext_197 rfl rfl ?_
                    refine s_iconst (v := 1) E dX10_readNext_198 (by decide) ?_
                    refine z_iadd (u := z_736.toInt) (v := 1) E dX10_readNext_199 rfl (by decide) (by omega) (by omega) (fun z_745 hz_745 => ?_)
                    refine s_aload_n E dX10_readNext_200 rfl rfl ?_
                    refine s_ldcS (i := 28) E (by decide) rfl dX10_readNext_201 ?_
                    refine s_iconst (v := 1) E dX10_readNext_203 (by decide) ?_
                    refine s_bipush (v := 20) E dX10_readNext_204 (by decide) ?_
                    refine s_vI (As := [AX (sA aC 28), AI 1, AI 20]) (S := [AI z_745, AR 101]) E (Z_X10_told_95 l D aC b (upI u_739 101 z_736.toNatClampNeg z_741) 1 20 hj_744.1  28 (by decide) (by omega)) cv_X10_164 rfl rfl rfl (jv_lt hj_744 (by decide)) (Nat.le_of_ble_eq_true rfl) (Nat.le_of_ble_eq_true rfl) ⟨(Nat.le_of_ble_eq_true rfl), (Nat.le_of_ble_eq_true rfl)⟩ (Nat.le_of_ble_eq_true rfl) dX10_readNext_206 (fun z_748 u_746 hp_747 => ?_)
                    obtain ⟨hz_748, hxz_748, hf_u_746_101, hp_747⟩ := hp_747
                    have hc_ : (1 : Int32).toInt = 1 := by decide
                    have hc_ : (20 : Int32).toInt = 20 := by decide
                    have hj_749 := jv_trans hj_744 hp_747
                    have hfa_101_0 := congrArg Int32.toInt (congrFun hf_u_746_101 0)
                    have hfa_101_4 := congrArg Int32.toInt (congrFun hf_u_746_101 4)
                    have hfa_101_5 := congrArg Int32.toInt (congrFun hf_u_746_101 5)
                    have hfa_101_6 := congrArg Int32.toInt (congrFun hf_u_746_101 6)
                    have hfa_101_7 := congrArg Int32.toInt (congrFun hf_u_746_101 7)
                    have hfa_101_9 := congrArg Int32.toInt (congrFun hf_u_746_101 9)
                    have hrz_748 : 0 ≤ z_748.toInt ∧ z_748.toInt ≤ 20 := by omega
                    refine s_iast E rfl (jv_lt hj_749 (by decide)) (z_in (u := z_745.toInt) rfl (by omega) (by omega)) dX10_readNext_209 ?_
                    have hj_751 : Jv w (upI u_746 101 z_745.toNatClampNeg z_748) := (jv_a_101 (i := z_745) (x := z_748) hj_749 0 20 59 73 2 z_745.toInt (by decide +kernel) (by decide) rfl (by omega) (by omega) (by omega) (by have hb_ := z32 z_748; omega) (by have hb_ := z32 z_748; omega))
                    have hke_ : ((upI u_746 101 z_745.toNatClampNeg z_748).2.2.1 95 7).toInt = (u_746.2.2.1 95 7).toInt := rfl
                    have hke_ : ((upI u_746 101 z_745.toNatClampNeg z_748).2.2.1 95 8).toInt = (u_746.2.2.1 95 8).toInt := rfl
                    have hke_ : ((upI u_746 101 z_745.toNatClampNeg z_748).2.2.1 95 9).toInt = (u_746.2.2.1 95 9).toInt := rfl
                    have hke_ : ((upI u_746 101 z_745.toNatClampNeg z_748).2.2.1 95 10).toInt = (u_746.2.2.1 95 10).toInt := rfl
                    have hke_ : ((upI u_746 101 z_745.toNatClampNeg z_748).2.2.1 95 12).toInt = (u_746.2.2.1 95 12).toInt := rfl
                    have hke_ : ((upI u_746 101 z_745.toNatClampNeg z_748).2.2.1 101 0).toInt = (u_746.2.2.1 101 0).toInt := keep_ne (u := z_745.toInt) rfl (by omega) (by omega)
                    have hke_ : ((upI u_746 101 z_745.toNatClampNeg z_748).2.2.1 101 4).toInt = (u_746.2.2.1 101 4).toInt := keep_ne (u := z_745.toInt) rfl (by omega) (by omega)
                    have hke_ : ((upI u_746 101 z_745.toNatClampNeg z_748).2.2.1 101 5).toInt = (u_746.2.2.1 101 5).toInt := keep_ne (u := z_745.toInt) rfl (by omega) (by omega)
                    have hke_ : ((upI u_746 101 z_745.toNatClampNeg z_748).2.2.1 101 6).toInt = (u_746.2.2.1 101 6).toInt := keep_ne (u := z_745.toInt) rfl (by omega) (by omega)
                    have hke_ : ((upI u_746 101 z_745.toNatClampNeg z_748).2.2.1 101 7).toInt = (u_746.2.2.1 101 7).toInt := keep_ne (u := z_745.toInt) rfl (by omega) (by omega)
                    have hke_ : ((upI u_746 101 z_745.toNatClampNeg z_748).2.2.1 101 9).toInt = (u_746.2.2.1 101 9).toInt := keep_ne (u := z_745.toInt) rfl (by omega) (by omega)
                    refine s_aload_n E dX10_readNext_210 rfl rfl ?_
                    refine s_gR (r := 101) E fg_X10_31 rfl rfl (jv_lt hj_751 (by decide)) (jv_r hj_751 (by decide +kernel)) dX10_readNext_211 ?_
                    refine s_bipush (v := 6) E dX10_readNext_214 (by decide) ?_
                    refine s_dup2 E dX10_readNext_216 ?_
                    refine s_iald E rfl (jv_lt hj_751 (by decide)) (z_in (u := 6) (by decide) (by omega) (by omega)) dX10_readNext_217 ?_
                    refine z_nm (P := fun z => z.toInt = ((upI u_746 101 z_745.toNatClampNeg z_748).2.2.1 101 6).toInt ∧ 0 ≤ z.toInt ∧ z.toInt ≤ 8) ⟨rfl, (rw_101_6 hj_751)⟩ (fun z_752 hz_752 => ?_)
                    refine s_iconst (v := 1) E dX10_readNext_218 (by decide) ?_
                    refine z_iadd (u := z_752.toInt) (v := 1) E dX10_readNext_219 rfl (by decide) (by omega) (by omega) (fun z_753 hz_753 => ?_)
                    have hhz_753 : 0 ≤ z_753.toInt ∧ z_753.toInt ≤ 8 := by omega
                    refine s_iast E rfl (jv_lt hj_751 (by decide)) (z_in (u := 6) (by decide) (by omega) (by omega)) dX10_readNext_220 ?_
                    refine s_world (w2 := (upI (upI u_746 101 z_745.toNatClampNeg z_748) 101 6 z_753)) rfl ?_
                    have hj_755 : Jv w (upI (upI u_746 101 z_745.toNatClampNeg z_748) 101 6 z_753) := (jv_a_101 (i := 6) (x := z_753) hj_751 0 8 6 6 1 6 (by decide +kernel) (by decide) (by decide) (by omega) (by omega) (by omega) (by have hb_ := z32 z_753; omega) (by have hb_ := z32 z_753; omega))
                    have hke_ : ((upI (upI u_746 101 z_745.toNatClampNeg z_748) 101 6 z_753).2.2.1 95 7).toInt = ((upI u_746 101 z_745.toNatClampNeg z_748).2.2.1 95 7).toInt := rfl
                    have hke_ : ((upI (upI u_746 101 z_745.toNatClampNeg z_748) 101 6 z_753).2.2.1 95 8).toInt = ((upI u_746 101 z_745.toNatClampNeg z_748).2.2.1 95 8).toInt := rfl
                    have hke_ : ((upI (upI u_746 101 z_745.toNatClampNeg z_748) 101 6 z_753).2.2.1 95 9).toInt = ((upI u_746 101 z_745.toNatClampNeg z_748).2.2.1 95 9).toInt := rfl
                    have hke_ : ((upI (upI u_746 101 z_745.toNatClampNeg z_748) 101 6 z_753).2.2.1 95 10).toInt = ((upI u_746 101 z_745.toNatClampNeg z_748).2.2.1 95 10).toInt := rfl
                    have hke_ : ((upI (upI u_746 101 z_745.toNatClampNeg z_748) 101 6 z_753).2.2.1 95 12).toInt = ((upI u_746 101 z_745.toNatClampNeg z_748).2.2.1 95 12).toInt := rfl
                    have hke_ : ((upI (upI u_746 101 z_745.toNatClampNeg z_748) 101 6 z_753).2.2.1 101 0).toInt = ((upI u_746 101 z_745.toNatClampNeg z_748).2.2.1 101 0).toInt := rfl
                    have hke_ : ((upI (upI u_746 101 z_745.toNatClampNeg z_748) 101 6 z_753).2.2.1 101 4).toInt = ((upI u_746 101 z_745.toNatClampNeg z_748).2.2.1 101 4).toInt := rfl
                    have hke_ : ((upI (upI u_746 101 z_745.toNatClampNeg z_748) 101 6 z_753).2.2.1 101 5).toInt = ((upI u_746 101 z_745.toNatClampNeg z_748).2.2.1 101 5).toInt := rfl
                    have hke_ : ((upI (upI u_746 101 z_745.toNatClampNeg z_748) 101 6 z_753).2.2.1 101 6).toInt = z_753.toInt := rfl
                    have hke_ : ((upI (upI u_746 101 z_745.toNatClampNeg z_748) 101 6 z_753).2.2.1 101 7).toInt = ((upI u_746 101 z_745.toNatClampNeg z_748).2.2.1 101 7).toInt := rfl
                    have hke_ : ((upI (upI u_746 101 z_745.toNatClampNeg z_748) 101 6 z_753).2.2.1 101 9).toInt = ((upI u_746 101 z_745.toNatClampNeg z_748).2.2.1 101 9).toInt := rfl
                    refine s_goto (tgt := 232) E dX10_readNext_221 (by decide) ?_
                    exact r_void E dX10_readNext_232 ⟨(by omega), hj_755⟩
                ·
                  have hd_ : ¬ (u_705.2.2.1 101 5).toInt = 6 := by first | exact (hq_.resolve_left (by omega)).2.1 (hT2_.mp (by omega)) | (exfalso; omega)
                  refine s_bipush (v := 46) E dX10_readNext_96 (by decide) ?_
                  refine s_iconst (v := 2) E dX10_readNext_98 (by decide) ?_
                  refine s_aload_n E dX10_readNext_99 rfl rfl ?_
                  refine s_gR (r := 101) E fg_X10_31 rfl rfl (jv_lt hj_721 (by decide)) (jv_r hj_721 (by decide +kernel)) dX10_readNext_100 ?_
                  refine s_iconst (v := 5) E dX10_readNext_103 (by decide) ?_
                  refine s_iald E rfl (jv_lt hj_721 (by decide)) (z_in (u := 5) (by decide) (by omega) (by omega)) dX10_readNext_104 ?_
                  refine z_nm (P := fun z => z.toInt = (u_718.2.2.1 101 5).toInt ∧ 0 ≤ z.toInt ∧ z.toInt ≤ 6) ⟨rfl, (rw_101_5 hj_721)⟩ (fun z_756 hz_756 => ?_)
                  refine z_imul (u := 2) (v := z_756.toInt) E dX10_readNext_105 (by decide) rfl (by omega) (by omega) (fun z_757 hz_757 => ?_)
                  have hhz_757 : 0 ≤ z_757.toInt ∧ z_757.toInt ≤ 10 := by omega
                  refine z_iadd (u := 46) (v := z_757.toInt) E dX10_readNext_106 (by decide) rfl (by omega) (by omega) (fun z_758 hz_758 => ?_)
                  refine s_istore_n (L2 := [some (AR 95), some (AI 1), some (AI z_758)]) E dX10_readNext_107 rfl (by decide) rfl ?_
                  refine s_aload_n E dX10_readNext_108 rfl rfl ?_
                  refine s_gR (r := 101) E fg_X10_31 rfl rfl (jv_lt hj_721 (by decide)) (jv_r hj_721 (by decide +kernel)) dX10_readNext_109 ?_
                  refine s_iload_n E dX10_readNext_112 rfl rfl ?_
                  refine s_aload_n E dX10_readNext_113 rfl rfl ?_
                  refine s_ldcS (i := 26) E (by decide) rfl dX10_readNext_114 ?_
                  refine s_vI (As := [AX (sA aC 26)]) (S := [AI z_758, AR 101]) E (Z_X10_freshRoom_95 l D aC b u_718  hj_721.1  26 (by decide) (by omega)) cv_X10_182 rfl rfl rfl (jv_lt hj_721 (by decide)) (Nat.le_of_ble_eq_true rfl) (Nat.le_of_ble_eq_true rfl) ⟨(Nat.le_of_ble_eq_true rfl), (Nat.le_of_ble_eq_true rfl)⟩ (Nat.le_of_ble_eq_true rfl) dX10_readNext_116 (fun z_761 u_759 hp_760 => ?_)
                  obtain ⟨hz_761, hxz_761, hf_u_759_101, hp_760⟩ := hp_760
                  have hj_762 := jv_trans hj_721 hp_760
                  have hfa_101_0 := congrArg Int32.toInt (congrFun hf_u_759_101 0)
                  have hfa_101_4 := congrArg Int32.toInt (congrFun hf_u_759_101 4)
                  have hfa_101_5 := congrArg Int32.toInt (congrFun hf_u_759_101 5)
                  have hfa_101_6 := congrArg Int32.toInt (congrFun hf_u_759_101 6)
                  have hfa_101_7 := congrArg Int32.toInt (congrFun hf_u_759_101 7)
                  have hfa_101_9 := congrArg Int32.toInt (congrFun hf_u_759_101 9)
                  have hrz_761 : 0 ≤ z_761.toInt ∧ z_761.toInt ≤ 7 := by omega
                  have hRm_ : (u_759.2.2.1 95 12).toInt = 0 → z_761.toInt < (w.2.2.1 101 0).toInt := by intro h0_; omega
                  refine s_iast E rfl (jv_lt hj_762 (by decide)) (z_in (u := z_758.toInt) rfl (by omega) (by omega)) dX10_readNext_119 ?_
                  have hj_764 : Jv w (upI u_759 101 z_758.toNatClampNeg z_761) := (jv_lad0 hj_762 (by omega) (by omega) (by omega) (by have hb_ := z32 z_761; omega) (by have hb_ := z32 z_761; omega))
                  have hke_ : ((upI u_759 101 z_758.toNatClampNeg z_761).2.2.1 95 7).toInt = (u_759.2.2.1 95 7).toInt := rfl
                  have hke_ : ((upI u_759 101 z_758.toNatClampNeg z_761).2.2.1 95 8).toInt = (u_759.2.2.1 95 8).toInt := rfl
                  have hke_ : ((upI u_759 101 z_758.toNatClampNeg z_761).2.2.1 95 9).toInt = (u_759.2.2.1 95 9).toInt := rfl
                  have hke_ : ((upI u_759 101 z_758.toNatClampNeg z_761).2.2.1 95 10).toInt = (u_759.2.2.1 95 10).toInt := rfl
                  have hke_ : ((upI u_759 101 z_758.toNatClampNeg z_761).2.2.1 95 12).toInt = (u_759.2.2.1 95 12).toInt := rfl
                  have hke_ : ((upI u_759 101 z_758.toNatClampNeg z_761).2.2.1 101 0).toInt = (u_759.2.2.1 101 0).toInt := keep_ne (u := z_758.toInt) rfl (by omega) (by omega)
                  have hke_ : ((upI u_759 101 z_758.toNatClampNeg z_761).2.2.1 101 4).toInt = (u_759.2.2.1 101 4).toInt := keep_ne (u := z_758.toInt) rfl (by omega) (by omega)
                  have hke_ : ((upI u_759 101 z_758.toNatClampNeg z_761).2.2.1 101 5).toInt = (u_759.2.2.1 101 5).toInt := keep_ne (u := z_758.toInt) rfl (by omega) (by omega)
                  have hke_ : ((upI u_759 101 z_758.toNatClampNeg z_761).2.2.1 101 6).toInt = (u_759.2.2.1 101 6).toInt := keep_ne (u := z_758.toInt) rfl (by omega) (by omega)
                  have hke_ : ((upI u_759 101 z_758.toNatClampNeg z_761).2.2.1 101 7).toInt = (u_759.2.2.1 101 7).toInt := keep_ne (u := z_758.toInt) rfl (by omega) (by omega)
                  have hke_ : ((upI u_759 101 z_758.toNatClampNeg z_761).2.2.1 101 9).toInt = (u_759.2.2.1 101 9).toInt := keep_ne (u := z_758.toInt) rfl (by omega) (by omega)
                  refine s_aload_n E dX10_readNext_120 rfl rfl ?_
                  refine s_gR (r := 101) E fg_X10_31 rfl rfl (jv_lt hj_764 (by decide)) (jv_r hj_764 (by decide +kernel)) dX10_readNext_121 ?_
                  refine s_iload_n E dX10_readNext_124 rfl rfl ?_
                  refine s_iconst (v := 1) E dX10_readNext_125 (by decide) ?_
                  refine z_iadd (u := z_758.toInt) (v := 1) E dX10_readNext_126 rfl (by decide) (by omega) (by omega) (fun z_765 hz_765 => ?_)
                  refine s_aload_n E dX10_readNext_127 rfl rfl ?_
                  refine s_ldcS (i := 25) E (by decide) rfl dX10_readNext_128 ?_
                  refine s_iconst (v := 1) E dX10_readNext_130 (by decide) ?_
                  refine s_bipush (v := 9) E dX10_readNext_131 (by decide) ?_
                  refine s_vI (As := [AX (sA aC 25), AI 1, AI 9]) (S := [AI z_765, AR 101]) E (Z_X10_told_95 l D aC b (upI u_759 101 z_758.toNatClampNeg z_761) 1 9 hj_764.1  25 (by decide) (by omega)) cv_X10_164 rfl rfl rfl (jv_lt hj_764 (by decide)) (Nat.le_of_ble_eq_true rfl) (Nat.le_of_ble_eq_true rfl) ⟨(Nat.le_of_ble_eq_true rfl), (Nat.le_of_ble_eq_true rfl)⟩ (Nat.le_of_ble_eq_true rfl) dX10_readNext_133 (fun z_768 u_766 hp_767 => ?_)
                  obtain ⟨hz_768, hxz_768, hf_u_766_101, hp_767⟩ := hp_767
                  have hc_ : (1 : Int32).toInt = 1 := by decide
                  have hc_ : (9 : Int32).toInt = 9 := by decide
                  have hj_769 := jv_trans hj_764 hp_767
                  have hfa_101_0 := congrArg Int32.toInt (congrFun hf_u_766_101 0)
                  have hfa_101_4 := congrArg Int32.toInt (congrFun hf_u_766_101 4)
                  have hfa_101_5 := congrArg Int32.toInt (congrFun hf_u_766_101 5)
                  have hfa_101_6 := congrArg Int32.toInt (congrFun hf_u_766_101 6)
                  have hfa_101_7 := congrArg Int32.toInt (congrFun hf_u_766_101 7)
                  have hfa_101_9 := congrArg Int32.toInt (congrFun hf_u_766_101 9)
                  have hrz_768 : 0 ≤ z_768.toInt ∧ z_768.toInt ≤ 9 := by omega
                  have hLw_ : (u_766.2.2.1 95 12).toInt = 0 → 1 ≤ z_768.toInt := by intro h0_; omega
                  have fL_ := hf_u_766_101
                  refine s_iast E rfl (jv_lt hj_769 (by decide)) (z_in (u := z_765.toInt) rfl (by omega) (by omega)) dX10_readNext_136 ?_
                  have hj_771 : Jv w (upI u_766 101 z_765.toNatClampNeg z_768) := (jv_lad hj_769 (by omega) (by omega) (by omega) (by have hb_ := z32 z_768; omega) (by have hb_ := z32 z_768; omega))
                  have hke_ : ((upI u_766 101 z_765.toNatClampNeg z_768).2.2.1 95 7).toInt = (u_766.2.2.1 95 7).toInt := rfl
                  have hke_ : ((upI u_766 101 z_765.toNatClampNeg z_768).2.2.1 95 8).toInt = (u_766.2.2.1 95 8).toInt := rfl
                  have hke_ : ((upI u_766 101 z_765.toNatClampNeg z_768).2.2.1 95 9).toInt = (u_766.2.2.1 95 9).toInt := rfl
                  have hke_ : ((upI u_766 101 z_765.toNatClampNeg z_768).2.2.1 95 10).toInt = (u_766.2.2.1 95 10).toInt := rfl
                  have hke_ : ((upI u_766 101 z_765.toNatClampNeg z_768).2.2.1 95 12).toInt = (u_766.2.2.1 95 12).toInt := rfl
                  have hke_ : ((upI u_766 101 z_765.toNatClampNeg z_768).2.2.1 101 0).toInt = (u_766.2.2.1 101 0).toInt := keep_ne (u := z_765.toInt) rfl (by omega) (by omega)
                  have hke_ : ((upI u_766 101 z_765.toNatClampNeg z_768).2.2.1 101 4).toInt = (u_766.2.2.1 101 4).toInt := keep_ne (u := z_765.toInt) rfl (by omega) (by omega)
                  have hke_ : ((upI u_766 101 z_765.toNatClampNeg z_768).2.2.1 101 5).toInt = (u_766.2.2.1 101 5).toInt := keep_ne (u := z_765.toInt) rfl (by omega) (by omega)
                  have hke_ : ((upI u_766 101 z_765.toNatClampNeg z_768).2.2.1 101 6).toInt = (u_766.2.2.1 101 6).toInt := keep_ne (u := z_765.toInt) rfl (by omega) (by omega)
                  have hke_ : ((upI u_766 101 z_765.toNatClampNeg z_768).2.2.1 101 7).toInt = (u_766.2.2.1 101 7).toInt := keep_ne (u := z_765.toInt) rfl (by omega) (by omega)
                  have hke_ : ((upI u_766 101 z_765.toNatClampNeg z_768).2.2.1 101 9).toInt = (u_766.2.2.1 101 9).toInt := keep_ne (u := z_765.toInt) rfl (by omega) (by omega)
                  refine s_aload_n E dX10_readNext_137 rfl rfl ?_
                  refine s_gR (r := 101) E fg_X10_31 rfl rfl (jv_lt hj_771 (by decide)) (jv_r hj_771 (by decide +kernel)) dX10_readNext_138 ?_
                  refine s_iconst (v := 5) E dX10_readNext_141 (by decide) ?_
                  refine s_dup2 E dX10_readNext_142 ?_
                  refine s_iald E rfl (jv_lt hj_771 (by decide)) (z_in (u := 5) (by decide) (by omega) (by omega)) dX10_readNext_143 ?_
                  refine z_nm (P := fun z => z.toInt = ((upI u_766 101 z_765.toNatClampNeg z_768).2.2.1 101 5).toInt ∧ 0 ≤ z.toInt ∧ z.toInt ≤ 6) ⟨rfl, (rw_101_5 hj_771)⟩ (fun z_772 hz_772 => ?_)
                  refine s_iconst (v := 1) E dX10_readNext_144 (by decide) ?_
                  refine z_iadd (u := z_772.toInt) (v := 1) E dX10_readNext_145 rfl (by decide) (by omega) (by omega) (fun z_773 hz_773 => ?_)
                  have hhz_773 : 0 ≤ z_773.toInt ∧ z_773.toInt ≤ 6 := by omega
                  refine s_iast E rfl (jv_lt hj_771 (by decide)) (z_in (u := 5) (by decide) (by omega) (by omega)) dX10_readNext_146 ?_
                  refine s_world (w2 := (upI (upI u_766 101 z_765.toNatClampNeg z_768) 101 5 z_773)) rfl ?_
                  have hj_775 : Jv w (upI (upI u_766 101 z_765.toNatClampNeg z_768) 101 5 z_773) := (jv_lad5 hj_771 (by omega) (by omega) (by omega) (lad_fin (by omega) (by omega) hLw_) (fun h0_ => lad_fin2 (N := (w.2.2.1 101 5).toInt) fL_ (by omega) (by omega) (by omega) (by omega) (by have q_ := hRm_ (by omega); omega)))
                  have hke_ : ((upI (upI u_766 101 z_765.toNatClampNeg z_768) 101 5 z_773).2.2.1 95 7).toInt = ((upI u_766 101 z_765.toNatClampNeg z_768).2.2.1 95 7).toInt := rfl
                  have hke_ : ((upI (upI u_766 101 z_765.toNatClampNeg z_768) 101 5 z_773).2.2.1 95 8).toInt = ((upI u_766 101 z_765.toNatClampNeg z_768).2.2.1 95 8).toInt := rfl
                  have hke_ : ((upI (upI u_766 101 z_765.toNatClampNeg z_768) 101 5 z_773).2.2.1 95 9).toInt = ((upI u_766 101 z_765.toNatClampNeg z_768).2.2.1 95 9).toInt := rfl
                  have hke_ : ((upI (upI u_766 101 z_765.toNatClampNeg z_768) 101 5 z_773).2.2.1 95 10).toInt = ((upI u_766 101 z_765.toNatClampNeg z_768).2.2.1 95 10).toInt := rfl
                  have hke_ : ((upI (upI u_766 101 z_765.toNatClampNeg z_768) 101 5 z_773).2.2.1 95 12).toInt = ((upI u_766 101 z_765.toNatClampNeg z_768).2.2.1 95 12).toInt := rfl
                  have hke_ : ((upI (upI u_766 101 z_765.toNatClampNeg z_768) 101 5 z_773).2.2.1 101 0).toInt = ((upI u_766 101 z_765.toNatClampNeg z_768).2.2.1 101 0).toInt := rfl
                  have hke_ : ((upI (upI u_766 101 z_765.toNatClampNeg z_768) 101 5 z_773).2.2.1 101 4).toInt = ((upI u_766 101 z_765.toNatClampNeg z_768).2.2.1 101 4).toInt := rfl
                  have hke_ : ((upI (upI u_766 101 z_765.toNatClampNeg z_768) 101 5 z_773).2.2.1 101 5).toInt = z_773.toInt := rfl
                  have hke_ : ((upI (upI u_766 101 z_765.toNatClampNeg z_768) 101 5 z_773).2.2.1 101 6).toInt = ((upI u_766 101 z_765.toNatClampNeg z_768).2.2.1 101 6).toInt := rfl
                  have hke_ : ((upI (upI u_766 101 z_765.toNatClampNeg z_768) 101 5 z_773).2.2.1 101 7).toInt = ((upI u_766 101 z_765.toNatClampNeg z_768).2.2.1 101 7).toInt := rfl
                  have hke_ : ((upI (upI u_766 101 z_765.toNatClampNeg z_768) 101 5 z_773).2.2.1 101 9).toInt = ((upI u_766 101 z_765.toNatClampNeg z_768).2.2.1 101 9).toInt := rfl
                  refine s_goto (tgt := 232) E dX10_readNext_147 (by decide) ?_
                  exact r_void E dX10_readNext_232 ⟨(by omega), hj_775⟩
              ·
                have hd_ : ¬ (u_705.2.2.1 101 4).toInt = 12 := by first | exact (hq_.resolve_left (by omega)).1 (hT_.mp (by omega)) | (exfalso; omega)
                refine s_aload_n E dX10_readNext_80 rfl rfl ?_
                refine s_vV (As := []) (S := []) E (Z_X10_readDoor_95 l D aC b u_713  hj_716.1  (by omega) (by omega)) cv_X10_198 rfl rfl rfl (jv_lt hj_716 (by decide)) (Nat.le_of_ble_eq_true rfl) (Nat.le_of_ble_eq_true rfl) ⟨(Nat.le_of_ble_eq_true rfl), (Nat.le_of_ble_eq_true rfl)⟩ (Nat.le_of_ble_eq_true rfl) dX10_readNext_81 (fun u_776 hp_777 => ?_)
                obtain ⟨hx_hp_777, hp_777⟩ := hp_777
                have hj_778 := jv_trans hj_716 hp_777
                refine s_goto (tgt := 232) E dX10_readNext_84 (by decide) ?_
                exact r_void E dX10_readNext_232 ⟨(by omega), hj_778⟩
            ·
              exact r_void E dX10_readNext_70 ⟨(by omega), hj_707⟩
