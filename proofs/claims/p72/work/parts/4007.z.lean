set_option maxRecDepth 20000 in
set_option maxHeartbeats 2000000 in
theorem Z_X10_readNext_95 (l : Launch) (D : va_G) (aC : Nat → ClassId) (b : Nat) (w : XW)  (hI : Iv w) (hpi : (w.2.2.1 95 9).toInt ≤ (w.2.2.1 95 8).toInt ∧ ((w.2.2.1 95 10).toInt = 0 ∨ (w.2.2.1 95 9).toInt < (w.2.2.1 95 8).toInt)) : CnV l D aC b M_X10_readNext 10 331 0 0 [AR 95] w (fun u => ((u.2.2.1 95 7).toInt = (w.2.2.1 95 7).toInt ∧ ((u.2.2.1 95 12).toInt = 0 → (w.2.2.1 95 12).toInt = 0) ∧ (w.2.2.1 95 9).toInt ≤ (u.2.2.1 95 9).toInt ∧ (u.2.2.1 95 9).toInt ≤ (u.2.2.1 95 8).toInt ∧ ((u.2.2.1 95 10).toInt = 0 ∨ (u.2.2.1 95 9).toInt < (u.2.2.1 95 8).toInt) ∧ (u.2.2.1 101 9).toInt = (w.2.2.1 101 9).toInt) ∧ Jv w u) := by
  refine cn_V (own := RX10) (nm := "readNext") (L0 := [some (AR 95), none, none]) (by decide +kernel) rfl rfl (Nat.le_of_ble_eq_true rfl) rfl ?_
  intro p e s m args below meth c E hin
  have hJ : Jv w w := jv_rfl hI
  refine s_join (pcJ := 63) (LJ := [some (AR 95), none, none]) (P := fun v_ => (((v_.2.2.1 95 12).toInt = 0 → Hid (isP v_ 20 ∨ isP v_ 21 ∨ isP v_ 22 ∨ isP v_ 23) ∧ Hid ((isP v_ 20 → ¬ (v_.2.2.1 101 4).toInt = 12) ∧ (isP v_ 21 → ¬ (v_.2.2.1 101 5).toInt = 6) ∧ (isP v_ 22 → ¬ (v_.2.2.1 101 6).toInt = 8) ∧ (isP v_ 23 → ¬ (v_.2.2.1 101 7).toInt = 10))) ∧ (v_.2.2.1 95 7).toInt = (w.2.2.1 95 7).toInt ∧ (v_.2.2.1 95 8).toInt = (w.2.2.1 95 8).toInt ∧ (v_.2.2.1 95 9).toInt = (w.2.2.1 95 9).toInt ∧ (v_.2.2.1 95 10).toInt = (w.2.2.1 95 10).toInt ∧ ((v_.2.2.1 95 12).toInt = 0 → (w.2.2.1 95 12).toInt = 0) ∧ (v_.2.2.1 101 0).toInt = (w.2.2.1 101 0).toInt ∧ (v_.2.2.1 101 4).toInt = (w.2.2.1 101 4).toInt ∧ (v_.2.2.1 101 5).toInt = (w.2.2.1 101 5).toInt ∧ (v_.2.2.1 101 6).toInt = (w.2.2.1 101 6).toInt ∧ (v_.2.2.1 101 7).toInt = (w.2.2.1 101 7).toInt ∧ (v_.2.2.1 101 9).toInt = (w.2.2.1 101 9).toInt) ∧ Jv w v_) (fun v63 hP63 => ?_) (fun kj63 => ?_)
  ·
    obtain ⟨hP63, hj63⟩ := hP63
    refine s_aload_n E dX10_readNext_63 rfl rfl ?_
    refine s_vI (As := []) (S := []) E (Z_X10_good_95 l D aC b v63  hj63.1 ) cv_X10_130 rfl rfl rfl (jv_lt hj63 (by decide)) (Nat.le_of_ble_eq_true rfl) (Nat.le_of_ble_eq_true rfl) ⟨(Nat.le_of_ble_eq_true rfl), (Nat.le_of_ble_eq_true rfl)⟩ (Nat.le_of_ble_eq_true rfl) dX10_readNext_64 (fun z_3 u_1 hp_2 => ?_)
    obtain ⟨hz_3, hxz_3, hp_2⟩ := hp_2
    subst hp_2
    refine z_if_ne (tgt := 71) (u := z_3.toInt) E dX10_readNext_67 (by decide) rfl (fun h_5 => ?_) (fun h_5 => ?_)
    ·
      obtain ⟨hk_, hq2_⟩ := hP63.1 (by omega)
      have hfw_ := hP63.2.2.2.2.2.1 (by omega)
      obtain ⟨-, hP1_, hP2_, hP3_, hP4_, -, hP5_⟩ := hP63
      have hn4_ := rw_101_4 hj63
      have hn5_ := rw_101_5 hj63
      have hn6_ := rw_101_6 hj63
      have hn7_ := rw_101_7 hj63
      refine s_aload_n E dX10_readNext_71 rfl rfl ?_
      refine s_ldcS (i := 20) E (by decide) rfl dX10_readNext_72 ?_
      refine s_vI (As := [AX (sA aC 20)]) (S := []) E (Z_X10_takes_95 l D aC b v63  hj63.1  20 (by decide) (by omega)) cv_X10_150 rfl rfl rfl (jv_lt hj63 (by decide)) (Nat.le_of_ble_eq_true rfl) (Nat.le_of_ble_eq_true rfl) ⟨(Nat.le_of_ble_eq_true rfl), (Nat.le_of_ble_eq_true rfl)⟩ (Nat.le_of_ble_eq_true rfl) dX10_readNext_74 (fun z_8 u_6 hp_7 => ?_)
      obtain ⟨hz_8, hxz_8, hf_u_6_101, hp_7⟩ := hp_7
      have hj_9 := jv_trans hj63 hp_7
      have hfa_101_0 := congrArg Int32.toInt (congrFun hf_u_6_101 0)
      have hfa_101_4 := congrArg Int32.toInt (congrFun hf_u_6_101 4)
      have hfa_101_5 := congrArg Int32.toInt (congrFun hf_u_6_101 5)
      have hfa_101_6 := congrArg Int32.toInt (congrFun hf_u_6_101 6)
      have hfa_101_7 := congrArg Int32.toInt (congrFun hf_u_6_101 7)
      have hfa_101_9 := congrArg Int32.toInt (congrFun hf_u_6_101 9)
      have hT_ : Hid _ := hxz_8.1
      have hE_ : Hid _ := hxz_8.2.1
      obtain ⟨-, -, a1_, -, a3_, a4_, a5_⟩ := hxz_8
      clear hpi
      refine z_if_eq (tgt := 87) (u := z_8.toInt) E dX10_readNext_77 (by decide) rfl (fun h_10 => ?_) (fun h_10 => ?_)
      ·
        have hE1_ : v63 = u_6 := hE_.out.resolve_left (by omega)
        refine s_aload_n E dX10_readNext_87 rfl rfl ?_
        refine s_ldcS (i := 21) E (by decide) rfl dX10_readNext_88 ?_
        refine s_vI (As := [AX (sA aC 21)]) (S := []) E (Z_X10_takes_95 l D aC b u_6  hj_9.1  21 (by decide) (by omega)) cv_X10_150 rfl rfl rfl (jv_lt hj_9 (by decide)) (Nat.le_of_ble_eq_true rfl) (Nat.le_of_ble_eq_true rfl) ⟨(Nat.le_of_ble_eq_true rfl), (Nat.le_of_ble_eq_true rfl)⟩ (Nat.le_of_ble_eq_true rfl) dX10_readNext_90 (fun z_13 u_11 hp_12 => ?_)
        obtain ⟨hz_13, hxz_13, hf_u_11_101, hp_12⟩ := hp_12
        have hj_14 := jv_trans hj_9 hp_12
        have hfa_101_0 := congrArg Int32.toInt (congrFun hf_u_11_101 0)
        have hfa_101_4 := congrArg Int32.toInt (congrFun hf_u_11_101 4)
        have hfa_101_5 := congrArg Int32.toInt (congrFun hf_u_11_101 5)
        have hfa_101_6 := congrArg Int32.toInt (congrFun hf_u_11_101 6)
        have hfa_101_7 := congrArg Int32.toInt (congrFun hf_u_11_101 7)
        have hfa_101_9 := congrArg Int32.toInt (congrFun hf_u_11_101 9)
        have hT2_ : Hid _ := hxz_13.1
        have hF_ : Hid _ := hxz_13.2.1
        obtain ⟨-, -, b1_, -, b3_, b4_, b5_⟩ := hxz_13
        rw [← hE1_] at hT2_
        clear a5_
        refine z_if_eq (tgt := 150) (u := z_13.toInt) E dX10_readNext_93 (by decide) rfl (fun h_15 => ?_) (fun h_15 => ?_)
        ·
          have hE2_ : v63 = u_11 := hE1_.trans (hF_.out.resolve_left (by omega))
          refine s_aload_n E dX10_readNext_150 rfl rfl ?_
          refine s_ldcS (i := 22) E (by decide) rfl dX10_readNext_151 ?_
          refine s_vI (As := [AX (sA aC 22)]) (S := []) E (Z_X10_takes_95 l D aC b u_11  hj_14.1  22 (by decide) (by omega)) cv_X10_150 rfl rfl rfl (jv_lt hj_14 (by decide)) (Nat.le_of_ble_eq_true rfl) (Nat.le_of_ble_eq_true rfl) ⟨(Nat.le_of_ble_eq_true rfl), (Nat.le_of_ble_eq_true rfl)⟩ (Nat.le_of_ble_eq_true rfl) dX10_readNext_153 (fun z_18 u_16 hp_17 => ?_)
          obtain ⟨hz_18, hxz_18, hf_u_16_101, hp_17⟩ := hp_17
          have hj_19 := jv_trans hj_14 hp_17
          have hfa_101_0 := congrArg Int32.toInt (congrFun hf_u_16_101 0)
          have hfa_101_4 := congrArg Int32.toInt (congrFun hf_u_16_101 4)
          have hfa_101_5 := congrArg Int32.toInt (congrFun hf_u_16_101 5)
          have hfa_101_6 := congrArg Int32.toInt (congrFun hf_u_16_101 6)
          have hfa_101_7 := congrArg Int32.toInt (congrFun hf_u_16_101 7)
          have hfa_101_9 := congrArg Int32.toInt (congrFun hf_u_16_101 9)
          have hT3_ : Hid _ := hxz_18.1
          have hG_ : Hid _ := hxz_18.2.1
          obtain ⟨-, -, c1_, -, c3_, c4_, c5_⟩ := hxz_18
          rw [← hE2_] at hT3_
          clear b5_
          refine z_if_eq (tgt := 224) (u := z_18.toInt) E dX10_readNext_156 (by decide) rfl (fun h_20 => ?_) (fun h_20 => ?_)
          ·
            have hd_ : ¬ (v63.2.2.1 101 7).toInt = 10 := hq2_.out.2.2.2 (((hk_.out.resolve_left (fun h_ => absurd (hT_.out.mpr h_) (by omega))).resolve_left (fun h_ => absurd (hT2_.out.mpr h_) (by omega))).resolve_left (fun h_ => absurd (hT3_.out.mpr h_) (by omega)))
            refine s_aload_n E dX10_readNext_224 rfl rfl ?_
            refine s_vV (As := []) (S := []) E (Z_X10_advance_95 l D aC b u_16  hj_19.1 ) cv_X10_147 rfl rfl rfl (jv_lt hj_19 (by decide)) (Nat.le_of_ble_eq_true rfl) (Nat.le_of_ble_eq_true rfl) ⟨(Nat.le_of_ble_eq_true rfl), (Nat.le_of_ble_eq_true rfl)⟩ (Nat.le_of_ble_eq_true rfl) dX10_readNext_225 (fun u_21 hp_22 => ?_)
            obtain ⟨hx_hp_22, hf_u_21_99, hf_u_21_101, hp_22⟩ := hp_22
            have hj_23 := jv_trans hj_19 hp_22
            have hfa_101_0 := congrArg Int32.toInt (congrFun hf_u_21_101 0)
            have hfa_101_4 := congrArg Int32.toInt (congrFun hf_u_21_101 4)
            have hfa_101_5 := congrArg Int32.toInt (congrFun hf_u_21_101 5)
            have hfa_101_6 := congrArg Int32.toInt (congrFun hf_u_21_101 6)
            have hfa_101_7 := congrArg Int32.toInt (congrFun hf_u_21_101 7)
            have hfa_101_9 := congrArg Int32.toInt (congrFun hf_u_21_101 9)
            refine s_aload_n E dX10_readNext_228 rfl rfl ?_
            refine s_vV (As := []) (S := []) E (Z_X10_readBid_95 l D aC b u_21  hj_23.1  (by omega) (by omega)) cv_X10_206 rfl rfl rfl (jv_lt hj_23 (by decide)) (Nat.le_of_ble_eq_true rfl) (Nat.le_of_ble_eq_true rfl) ⟨(Nat.le_of_ble_eq_true rfl), (Nat.le_of_ble_eq_true rfl)⟩ (Nat.le_of_ble_eq_true rfl) dX10_readNext_229 (fun u_24 hp_25 => ?_)
            obtain ⟨hx_hp_25, hp_25⟩ := hp_25
            have hj_26 := jv_trans hj_23 hp_25
            exact r_void E dX10_readNext_232 ⟨(by omega), hj_26⟩
          ·
            have hd_ : ¬ (v63.2.2.1 101 6).toInt = 8 := hq2_.out.2.2.1 (hT3_.out.mp (by omega))
            refine s_bipush (v := 58) E dX10_readNext_159 (by decide) ?_
            refine s_iconst (v := 2) E dX10_readNext_161 (by decide) ?_
            refine s_aload_n E dX10_readNext_162 rfl rfl ?_
            refine s_gR (r := 101) E fg_X10_31 rfl rfl (jv_lt hj_19 (by decide)) (jv_r hj_19 (by decide +kernel)) dX10_readNext_163 ?_
            refine s_bipush (v := 6) E dX10_readNext_166 (by decide) ?_
            refine s_iald E rfl (jv_lt hj_19 (by decide)) (z_in (u := 6) (by decide) (by omega) (by omega)) dX10_readNext_168 ?_
            refine z_nm (P := fun z => z.toInt = (u_16.2.2.1 101 6).toInt ∧ 0 ≤ z.toInt ∧ z.toInt ≤ 8) ⟨rfl, (rw_101_6 hj_19)⟩ (fun z_27 hz_27 => ?_)
            refine z_imul (u := 2) (v := z_27.toInt) E dX10_readNext_169 (by decide) rfl (by omega) (by omega) (fun z_28 hz_28 => ?_)
            have hhz_28 : 0 ≤ z_28.toInt ∧ z_28.toInt ≤ 14 := by omega
            refine z_iadd (u := 58) (v := z_28.toInt) E dX10_readNext_170 (by decide) rfl (by omega) (by omega) (fun z_29 hz_29 => ?_)
            refine s_istore_n (L2 := [some (AR 95), none, some (AI z_29)]) E dX10_readNext_171 rfl (by decide) rfl ?_
            refine s_aload_n E dX10_readNext_172 rfl rfl ?_
            refine s_gR (r := 101) E fg_X10_31 rfl rfl (jv_lt hj_19 (by decide)) (jv_r hj_19 (by decide +kernel)) dX10_readNext_173 ?_
            refine s_iload_n E dX10_readNext_176 rfl rfl ?_
            refine s_aload_n E dX10_readNext_177 rfl rfl ?_
            refine s_ldcS (i := 27) E (by decide) rfl dX10_readNext_178 ?_
            refine s_iconst (v := 0) E dX10_readNext_180 (by decide) ?_
            refine s_aload_n E dX10_readNext_181 rfl rfl ?_
            refine s_gR (r := 101) E fg_X10_31 rfl rfl (jv_lt hj_19 (by decide)) (jv_r hj_19 (by decide +kernel)) dX10_readNext_182 ?_
            refine s_iconst (v := 5) E dX10_readNext_185 (by decide) ?_
            refine s_iald E rfl (jv_lt hj_19 (by decide)) (z_in (u := 5) (by decide) (by omega) (by omega)) dX10_readNext_186 ?_
            refine z_nm (P := fun z => z.toInt = (u_16.2.2.1 101 5).toInt ∧ 0 ≤ z.toInt ∧ z.toInt ≤ 6) ⟨rfl, (rw_101_5 hj_19)⟩ (fun z_30 hz_30 => ?_)
            refine s_iconst (v := 1) E dX10_readNext_187 (by decide) ?_
            refine z_isub (u := z_30.toInt) (v := 1) E dX10_readNext_188 rfl (by decide) (by omega) (by omega) (fun z_31 hz_31 => ?_)
            refine s_vI (As := [AX (sA aC 27), AI 0, AI z_31]) (S := [AI z_29, AR 101]) E (Z_X10_told_95 l D aC b u_16 0 z_31 hj_19.1  27 (by decide) (by omega)) cv_X10_164 rfl rfl rfl (jv_lt hj_19 (by decide)) (Nat.le_of_ble_eq_true rfl) (Nat.le_of_ble_eq_true rfl) ⟨(Nat.le_of_ble_eq_true rfl), (Nat.le_of_ble_eq_true rfl)⟩ (Nat.le_of_ble_eq_true rfl) dX10_readNext_189 (fun z_34 u_32 hp_33 => ?_)
            obtain ⟨hz_34, hxz_34, hf_u_32_101, hp_33⟩ := hp_33
            have hc_ : (0 : Int32).toInt = 0 := by decide
            have hj_35 := jv_trans hj_19 hp_33
            have hfa_101_0 := congrArg Int32.toInt (congrFun hf_u_32_101 0)
            have hfa_101_4 := congrArg Int32.toInt (congrFun hf_u_32_101 4)
            have hfa_101_5 := congrArg Int32.toInt (congrFun hf_u_32_101 5)
            have hfa_101_6 := congrArg Int32.toInt (congrFun hf_u_32_101 6)
            have hfa_101_7 := congrArg Int32.toInt (congrFun hf_u_32_101 7)
            have hfa_101_9 := congrArg Int32.toInt (congrFun hf_u_32_101 9)
            have hrz_34 : 0 ≤ z_34.toInt ∧ z_34.toInt ≤ 5 := by omega
            obtain ⟨-, -, d1_, -, d3_, d4_, d5_⟩ := hxz_34
            clear c5_
            refine s_iast E rfl (jv_lt hj_35 (by decide)) (z_in (u := z_29.toInt) rfl (by omega) (by omega)) dX10_readNext_192 ?_
            have hj_37 : Jv w (upI u_32 101 z_29.toNatClampNeg z_34) := (jv_a_101 (i := z_29) (x := z_34) hj_35 0 5 58 72 2 z_29.toInt (by decide +kernel) (by decide) rfl (by omega) (by omega) (by omega) (by have hb_ := z32 z_34; omega) (by have hb_ := z32 z_34; omega))
            have hke_ : ((upI u_32 101 z_29.toNatClampNeg z_34).2.2.1 95 7).toInt = (u_32.2.2.1 95 7).toInt := rfl
            have hke_ : ((upI u_32 101 z_29.toNatClampNeg z_34).2.2.1 95 8).toInt = (u_32.2.2.1 95 8).toInt := rfl
            have hke_ : ((upI u_32 101 z_29.toNatClampNeg z_34).2.2.1 95 9).toInt = (u_32.2.2.1 95 9).toInt := rfl
            have hke_ : ((upI u_32 101 z_29.toNatClampNeg z_34).2.2.1 95 10).toInt = (u_32.2.2.1 95 10).toInt := rfl
            have hke_ : ((upI u_32 101 z_29.toNatClampNeg z_34).2.2.1 95 12).toInt = (u_32.2.2.1 95 12).toInt := rfl
            have hke_ : ((upI u_32 101 z_29.toNatClampNeg z_34).2.2.1 101 0).toInt = (u_32.2.2.1 101 0).toInt := keep_ne (u := z_29.toInt) rfl (by omega) (by omega)
            have hke_ : ((upI u_32 101 z_29.toNatClampNeg z_34).2.2.1 101 4).toInt = (u_32.2.2.1 101 4).toInt := keep_ne (u := z_29.toInt) rfl (by omega) (by omega)
            have hke_ : ((upI u_32 101 z_29.toNatClampNeg z_34).2.2.1 101 5).toInt = (u_32.2.2.1 101 5).toInt := keep_ne (u := z_29.toInt) rfl (by omega) (by omega)
            have hke_ : ((upI u_32 101 z_29.toNatClampNeg z_34).2.2.1 101 6).toInt = (u_32.2.2.1 101 6).toInt := keep_ne (u := z_29.toInt) rfl (by omega) (by omega)
            have hke_ : ((upI u_32 101 z_29.toNatClampNeg z_34).2.2.1 101 7).toInt = (u_32.2.2.1 101 7).toInt := keep_ne (u := z_29.toInt) rfl (by omega) (by omega)
            have hke_ : ((upI u_32 101 z_29.toNatClampNeg z_34).2.2.1 101 9).toInt = (u_32.2.2.1 101 9).toInt := keep_ne (u := z_29.toInt) rfl (by omega) (by omega)
            refine s_aload_n E dX10_readNext_193 rfl rfl ?_
            refine s_gR (r := 101) E fg_X10_31 rfl rfl (jv_lt hj_37 (by decide)) (jv_r hj_37 (by decide +kernel)) dX10_readNext_194 ?_
            refine s_iload_n E dX10_readNext_197 rfl rfl ?_
            refine s_iconst (v := 1) E dX10_readNext_198 (by decide) ?_
            refine z_iadd (u := z_29.toInt) (v := 1) E dX10_readNext_199 rfl (by decide) (by omega) (by omega) (fun z_38 hz_38 => ?_)
            refine s_aload_n E dX10_readNext_200 rfl rfl ?_
            refine s_ldcS (i := 28) E (by decide) rfl dX10_readNext_201 ?_
            refine s_iconst (v := 1) E dX10_readNext_203 (by decide) ?_
            refine s_bipush (v := 20) E dX10_readNext_204 (by decide) ?_
            refine s_vI (As := [AX (sA aC 28), AI 1, AI 20]) (S := [AI z_38, AR 101]) E (Z_X10_told_95 l D aC b (upI u_32 101 z_29.toNatClampNeg z_34) 1 20 hj_37.1  28 (by decide) (by omega)) cv_X10_164 rfl rfl rfl (jv_lt hj_37 (by decide)) (Nat.le_of_ble_eq_true rfl) (Nat.le_of_ble_eq_true rfl) ⟨(Nat.le_of_ble_eq_true rfl), (Nat.le_of_ble_eq_true rfl)⟩ (Nat.le_of_ble_eq_true rfl) dX10_readNext_206 (fun z_41 u_39 hp_40 => ?_)
            obtain ⟨hz_41, hxz_41, hf_u_39_101, hp_40⟩ := hp_40
            have hc_ : (1 : Int32).toInt = 1 := by decide
            have hc_ : (20 : Int32).toInt = 20 := by decide
            have hj_42 := jv_trans hj_37 hp_40
            have hfa_101_0 := congrArg Int32.toInt (congrFun hf_u_39_101 0)
            have hfa_101_4 := congrArg Int32.toInt (congrFun hf_u_39_101 4)
            have hfa_101_5 := congrArg Int32.toInt (congrFun hf_u_39_101 5)
            have hfa_101_6 := congrArg Int32.toInt (congrFun hf_u_39_101 6)
            have hfa_101_7 := congrArg Int32.toInt (congrFun hf_u_39_101 7)
            have hfa_101_9 := congrArg Int32.toInt (congrFun hf_u_39_101 9)
            have hrz_41 : 0 ≤ z_41.toInt ∧ z_41.toInt ≤ 20 := by omega
            obtain ⟨-, -, g1_, -, g3_, g4_, g5_⟩ := hxz_41
            clear d5_
            refine s_iast E rfl (jv_lt hj_42 (by decide)) (z_in (u := z_38.toInt) rfl (by omega) (by omega)) dX10_readNext_209 ?_
            have hj_44 : Jv w (upI u_39 101 z_38.toNatClampNeg z_41) := (jv_a_101 (i := z_38) (x := z_41) hj_42 0 20 59 73 2 z_38.toInt (by decide +kernel) (by decide) rfl (by omega) (by omega) (by omega) (by have hb_ := z32 z_41; omega) (by have hb_ := z32 z_41; omega))
            have hke_ : ((upI u_39 101 z_38.toNatClampNeg z_41).2.2.1 95 7).toInt = (u_39.2.2.1 95 7).toInt := rfl
            have hke_ : ((upI u_39 101 z_38.toNatClampNeg z_41).2.2.1 95 8).toInt = (u_39.2.2.1 95 8).toInt := rfl
            have hke_ : ((upI u_39 101 z_38.toNatClampNeg z_41).2.2.1 95 9).toInt = (u_39.2.2.1 95 9).toInt := rfl
            have hke_ : ((upI u_39 101 z_38.toNatClampNeg z_41).2.2.1 95 10).toInt = (u_39.2.2.1 95 10).toInt := rfl
            have hke_ : ((upI u_39 101 z_38.toNatClampNeg z_41).2.2.1 95 12).toInt = (u_39.2.2.1 95 12).toInt := rfl
            have hke_ : ((upI u_39 101 z_38.toNatClampNeg z_41).2.2.1 101 0).toInt = (u_39.2.2.1 101 0).toInt := keep_ne (u := z_38.toInt) rfl (by omega) (by omega)
            have hke_ : ((upI u_39 101 z_38.toNatClampNeg z_41).2.2.1 101 4).toInt = (u_39.2.2.1 101 4).toInt := keep_ne (u := z_38.toInt) rfl (by omega) (by omega)
            have hke_ : ((upI u_39 101 z_38.toNatClampNeg z_41).2.2.1 101 5).toInt = (u_39.2.2.1 101 5).toInt := keep_ne (u := z_38.toInt) rfl (by omega) (by omega)
            have hke_ : ((upI u_39 101 z_38.toNatClampNeg z_41).2.2.1 101 6).toInt = (u_39.2.2.1 101 6).toInt := keep_ne (u := z_38.toInt) rfl (by omega) (by omega)
            have hke_ : ((upI u_39 101 z_38.toNatClampNeg z_41).2.2.1 101 7).toInt = (u_39.2.2.1 101 7).toInt := keep_ne (u := z_38.toInt) rfl (by omega) (by omega)
            have hke_ : ((upI u_39 101 z_38.toNatClampNeg z_41).2.2.1 101 9).toInt = (u_39.2.2.1 101 9).toInt := keep_ne (u := z_38.toInt) rfl (by omega) (by omega)
            refine s_aload_n E dX10_readNext_210 rfl rfl ?_
            refine s_gR (r := 101) E fg_X10_31 rfl rfl (jv_lt hj_44 (by decide)) (jv_r hj_44 (by decide +kernel)) dX10_readNext_211 ?_
            refine s_bipush (v := 6) E dX10_readNext_214 (by decide) ?_
            refine s_dup2 E dX10_readNext_216 ?_
            refine s_iald E rfl (jv_lt hj_44 (by decide)) (z_in (u := 6) (by decide) (by omega) (by omega)) dX10_readNext_217 ?_
            refine z_nm (P := fun z => z.toInt = ((upI u_39 101 z_38.toNatClampNeg z_41).2.2.1 101 6).toInt ∧ 0 ≤ z.toInt ∧ z.toInt ≤ 8) ⟨rfl, (rw_101_6 hj_44)⟩ (fun z_45 hz_45 => ?_)
            refine s_iconst (v := 1) E dX10_readNext_218 (by decide) ?_
            refine z_iadd (u := z_45.toInt) (v := 1) E dX10_readNext_219 rfl (by decide) (by omega) (by omega) (fun z_46 hz_46 => ?_)
            have hhz_46 : 0 ≤ z_46.toInt ∧ z_46.toInt ≤ 8 := by omega
            refine s_iast E rfl (jv_lt hj_44 (by decide)) (z_in (u := 6) (by decide) (by omega) (by omega)) dX10_readNext_220 ?_
            refine s_world (w2 := (upI (upI u_39 101 z_38.toNatClampNeg z_41) 101 6 z_46)) rfl ?_
            have hj_48 : Jv w (upI (upI u_39 101 z_38.toNatClampNeg z_41) 101 6 z_46) := (jv_a_101 (i := 6) (x := z_46) hj_44 0 8 6 6 1 6 (by decide +kernel) (by decide) (by decide) (by omega) (by omega) (by omega) (by have hb_ := z32 z_46; omega) (by have hb_ := z32 z_46; omega))
            have hke_ : ((upI (upI u_39 101 z_38.toNatClampNeg z_41) 101 6 z_46).2.2.1 95 7).toInt = ((upI u_39 101 z_38.toNatClampNeg z_41).2.2.1 95 7).toInt := rfl
            have hke_ : ((upI (upI u_39 101 z_38.toNatClampNeg z_41) 101 6 z_46).2.2.1 95 8).toInt = ((upI u_39 101 z_38.toNatClampNeg z_41).2.2.1 95 8).toInt := rfl
            have hke_ : ((upI (upI u_39 101 z_38.toNatClampNeg z_41) 101 6 z_46).2.2.1 95 9).toInt = ((upI u_39 101 z_38.toNatClampNeg z_41).2.2.1 95 9).toInt := rfl
            have hke_ : ((upI (upI u_39 101 z_38.toNatClampNeg z_41) 101 6 z_46).2.2.1 95 10).toInt = ((upI u_39 101 z_38.toNatClampNeg z_41).2.2.1 95 10).toInt := rfl
            have hke_ : ((upI (upI u_39 101 z_38.toNatClampNeg z_41) 101 6 z_46).2.2.1 95 12).toInt = ((upI u_39 101 z_38.toNatClampNeg z_41).2.2.1 95 12).toInt := rfl
            have hke_ : ((upI (upI u_39 101 z_38.toNatClampNeg z_41) 101 6 z_46).2.2.1 101 0).toInt = ((upI u_39 101 z_38.toNatClampNeg z_41).2.2.1 101 0).toInt := rfl
            have hke_ : ((upI (upI u_39 101 z_38.toNatClampNeg z_41) 101 6 z_46).2.2.1 101 4).toInt = ((upI u_39 101 z_38.toNatClampNeg z_41).2.2.1 101 4).toInt := rfl
            have hke_ : ((upI (upI u_39 101 z_38.toNatClampNeg z_41) 101 6 z_46).2.2.1 101 5).toInt = ((upI u_39 101 z_38.toNatClampNeg z_41).2.2.1 101 5).toInt := rfl
            have hke_ : ((upI (upI u_39 101 z_38.toNatClampNeg z_41) 101 6 z_46).2.2.1 101 6).toInt = z_46.toInt := rfl
            have hke_ : ((upI (upI u_39 101 z_38.toNatClampNeg z_41) 101 6 z_46).2.2.1 101 7).toInt = ((upI u_39 101 z_38.toNatClampNeg z_41).2.2.1 101 7).toInt := rfl
            have hke_ : ((upI (upI u_39 101 z_38.toNatClampNeg z_41) 101 6 z_46).2.2.1 101 9).toInt = ((upI u_39 101 z_38.toNatClampNeg z_41).2.2.1 101 9).toInt := rfl
            refine s_goto (tgt := 232) E dX10_readNext_221 (by decide) ?_
            exact r_void E dX10_readNext_232 ⟨(by omega), hj_48⟩
        ·
          have hd_ : ¬ (v63.2.2.1 101 5).toInt = 6 := hq2_.out.2.1 (hT2_.out.mp (by omega))
          refine s_bipush (v := 46) E dX10_readNext_96 (by decide) ?_
          refine s_iconst (v := 2) E dX10_readNext_98 (by decide) ?_
          refine s_aload_n E dX10_readNext_99 rfl rfl ?_
          refine s_gR (r := 101) E fg_X10_31 rfl rfl (jv_lt hj_14 (by decide)) (jv_r hj_14 (by decide +kernel)) dX10_readNext_100 ?_
          refine s_iconst (v := 5) E dX10_readNext_103 (by decide) ?_
          refine s_iald E rfl (jv_lt hj_14 (by decide)) (z_in (u := 5) (by decide) (by omega) (by omega)) dX10_readNext_104 ?_
          refine z_nm (P := fun z => z.toInt = (u_11.2.2.1 101 5).toInt ∧ 0 ≤ z.toInt ∧ z.toInt ≤ 6) ⟨rfl, (rw_101_5 hj_14)⟩ (fun z_49 hz_49 => ?_)
          refine z_imul (u := 2) (v := z_49.toInt) E dX10_readNext_105 (by decide) rfl (by omega) (by omega) (fun z_50 hz_50 => ?_)
          have hhz_50 : 0 ≤ z_50.toInt ∧ z_50.toInt ≤ 10 := by omega
          refine z_iadd (u := 46) (v := z_50.toInt) E dX10_readNext_106 (by decide) rfl (by omega) (by omega) (fun z_51 hz_51 => ?_)
          refine s_istore_n (L2 := [some (AR 95), none, some (AI z_51)]) E dX10_readNext_107 rfl (by decide) rfl ?_
          refine s_aload_n E dX10_readNext_108 rfl rfl ?_
          refine s_gR (r := 101) E fg_X10_31 rfl rfl (jv_lt hj_14 (by decide)) (jv_r hj_14 (by decide +kernel)) dX10_readNext_109 ?_
          refine s_iload_n E dX10_readNext_112 rfl rfl ?_
          refine s_aload_n E dX10_readNext_113 rfl rfl ?_
          refine s_ldcS (i := 26) E (by decide) rfl dX10_readNext_114 ?_
          refine s_vI (As := [AX (sA aC 26)]) (S := [AI z_51, AR 101]) E (Z_X10_freshRoom_95 l D aC b u_11  hj_14.1  26 (by decide) (by omega)) cv_X10_182 rfl rfl rfl (jv_lt hj_14 (by decide)) (Nat.le_of_ble_eq_true rfl) (Nat.le_of_ble_eq_true rfl) ⟨(Nat.le_of_ble_eq_true rfl), (Nat.le_of_ble_eq_true rfl)⟩ (Nat.le_of_ble_eq_true rfl) dX10_readNext_116 (fun z_54 u_52 hp_53 => ?_)
          obtain ⟨hz_54, hxz_54, hf_u_52_101, hp_53⟩ := hp_53
          have hj_55 := jv_trans hj_14 hp_53
          have hfa_101_0 := congrArg Int32.toInt (congrFun hf_u_52_101 0)
          have hfa_101_4 := congrArg Int32.toInt (congrFun hf_u_52_101 4)
          have hfa_101_5 := congrArg Int32.toInt (congrFun hf_u_52_101 5)
          have hfa_101_6 := congrArg Int32.toInt (congrFun hf_u_52_101 6)
          have hfa_101_7 := congrArg Int32.toInt (congrFun hf_u_52_101 7)
          have hfa_101_9 := congrArg Int32.toInt (congrFun hf_u_52_101 9)
          have hrz_54 : 0 ≤ z_54.toInt ∧ z_54.toInt ≤ 7 := by omega
          have hRm_ : Hid ((u_52.2.2.1 95 12).toInt = 0 → z_54.toInt < (w.2.2.1 101 0).toInt) := fun h0_ => by have q_ := hxz_54.2.1 h0_; omega
          obtain ⟨-, -, d1_, -, d3_, d4_, d5_⟩ := hxz_54
          clear b5_
          refine s_iast E rfl (jv_lt hj_55 (by decide)) (z_in (u := z_51.toInt) rfl (by omega) (by omega)) dX10_readNext_119 ?_
          have hj_57 : Jv w (upI u_52 101 z_51.toNatClampNeg z_54) := (jv_lad0 hj_55 (by omega) (by omega) (by omega) (by have hb_ := z32 z_54; omega) (by have hb_ := z32 z_54; omega))
          have hke_ : ((upI u_52 101 z_51.toNatClampNeg z_54).2.2.1 95 7).toInt = (u_52.2.2.1 95 7).toInt := rfl
          have hke_ : ((upI u_52 101 z_51.toNatClampNeg z_54).2.2.1 95 8).toInt = (u_52.2.2.1 95 8).toInt := rfl
          have hke_ : ((upI u_52 101 z_51.toNatClampNeg z_54).2.2.1 95 9).toInt = (u_52.2.2.1 95 9).toInt := rfl
          have hke_ : ((upI u_52 101 z_51.toNatClampNeg z_54).2.2.1 95 10).toInt = (u_52.2.2.1 95 10).toInt := rfl
          have hke_ : ((upI u_52 101 z_51.toNatClampNeg z_54).2.2.1 95 12).toInt = (u_52.2.2.1 95 12).toInt := rfl
          have hke_ : ((upI u_52 101 z_51.toNatClampNeg z_54).2.2.1 101 0).toInt = (u_52.2.2.1 101 0).toInt := keep_ne (u := z_51.toInt) rfl (by omega) (by omega)
          have hke_ : ((upI u_52 101 z_51.toNatClampNeg z_54).2.2.1 101 4).toInt = (u_52.2.2.1 101 4).toInt := keep_ne (u := z_51.toInt) rfl (by omega) (by omega)
          have hke_ : ((upI u_52 101 z_51.toNatClampNeg z_54).2.2.1 101 5).toInt = (u_52.2.2.1 101 5).toInt := keep_ne (u := z_51.toInt) rfl (by omega) (by omega)
          have hke_ : ((upI u_52 101 z_51.toNatClampNeg z_54).2.2.1 101 6).toInt = (u_52.2.2.1 101 6).toInt := keep_ne (u := z_51.toInt) rfl (by omega) (by omega)
          have hke_ : ((upI u_52 101 z_51.toNatClampNeg z_54).2.2.1 101 7).toInt = (u_52.2.2.1 101 7).toInt := keep_ne (u := z_51.toInt) rfl (by omega) (by omega)
          have hke_ : ((upI u_52 101 z_51.toNatClampNeg z_54).2.2.1 101 9).toInt = (u_52.2.2.1 101 9).toInt := keep_ne (u := z_51.toInt) rfl (by omega) (by omega)
          refine s_aload_n E dX10_readNext_120 rfl rfl ?_
          refine s_gR (r := 101) E fg_X10_31 rfl rfl (jv_lt hj_57 (by decide)) (jv_r hj_57 (by decide +kernel)) dX10_readNext_121 ?_
          refine s_iload_n E dX10_readNext_124 rfl rfl ?_
          refine s_iconst (v := 1) E dX10_readNext_125 (by decide) ?_
          refine z_iadd (u := z_51.toInt) (v := 1) E dX10_readNext_126 rfl (by decide) (by omega) (by omega) (fun z_58 hz_58 => ?_)
          refine s_aload_n E dX10_readNext_127 rfl rfl ?_
          refine s_ldcS (i := 25) E (by decide) rfl dX10_readNext_128 ?_
          refine s_iconst (v := 1) E dX10_readNext_130 (by decide) ?_
          refine s_bipush (v := 9) E dX10_readNext_131 (by decide) ?_
          refine s_vI (As := [AX (sA aC 25), AI 1, AI 9]) (S := [AI z_58, AR 101]) E (Z_X10_told_95 l D aC b (upI u_52 101 z_51.toNatClampNeg z_54) 1 9 hj_57.1  25 (by decide) (by omega)) cv_X10_164 rfl rfl rfl (jv_lt hj_57 (by decide)) (Nat.le_of_ble_eq_true rfl) (Nat.le_of_ble_eq_true rfl) ⟨(Nat.le_of_ble_eq_true rfl), (Nat.le_of_ble_eq_true rfl)⟩ (Nat.le_of_ble_eq_true rfl) dX10_readNext_133 (fun z_61 u_59 hp_60 => ?_)
          obtain ⟨hz_61, hxz_61, hf_u_59_101, hp_60⟩ := hp_60
          have hc_ : (1 : Int32).toInt = 1 := by decide
          have hc_ : (9 : Int32).toInt = 9 := by decide
          have hj_62 := jv_trans hj_57 hp_60
          have hfa_101_0 := congrArg Int32.toInt (congrFun hf_u_59_101 0)
          have hfa_101_4 := congrArg Int32.toInt (congrFun hf_u_59_101 4)
          have hfa_101_5 := congrArg Int32.toInt (congrFun hf_u_59_101 5)
          have hfa_101_6 := congrArg Int32.toInt (congrFun hf_u_59_101 6)
          have hfa_101_7 := congrArg Int32.toInt (congrFun hf_u_59_101 7)
          have hfa_101_9 := congrArg Int32.toInt (congrFun hf_u_59_101 9)
          have hrz_61 : 0 ≤ z_61.toInt ∧ z_61.toInt ≤ 9 := by omega
          have hLw_ : Hid ((u_59.2.2.1 95 12).toInt = 0 → 1 ≤ z_61.toInt) := fun h0_ => by have q_ := hxz_61.2.1 h0_; omega
          have fL_ := hf_u_59_101
          obtain ⟨-, -, g1_, g2_, g3_, g4_, g5_⟩ := hxz_61
          clear d5_
          refine s_iast E rfl (jv_lt hj_62 (by decide)) (z_in (u := z_58.toInt) rfl (by omega) (by omega)) dX10_readNext_136 ?_
          have hj_64 : Jv w (upI u_59 101 z_58.toNatClampNeg z_61) := (jv_lad hj_62 (by omega) (by omega) (by omega) (by have hb_ := z32 z_61; omega) (by have hb_ := z32 z_61; omega))
          have hke_ : ((upI u_59 101 z_58.toNatClampNeg z_61).2.2.1 95 7).toInt = (u_59.2.2.1 95 7).toInt := rfl
          have hke_ : ((upI u_59 101 z_58.toNatClampNeg z_61).2.2.1 95 8).toInt = (u_59.2.2.1 95 8).toInt := rfl
          have hke_ : ((upI u_59 101 z_58.toNatClampNeg z_61).2.2.1 95 9).toInt = (u_59.2.2.1 95 9).toInt := rfl
          have hke_ : ((upI u_59 101 z_58.toNatClampNeg z_61).2.2.1 95 10).toInt = (u_59.2.2.1 95 10).toInt := rfl
          have hke_ : ((upI u_59 101 z_58.toNatClampNeg z_61).2.2.1 95 12).toInt = (u_59.2.2.1 95 12).toInt := rfl
          have hke_ : ((upI u_59 101 z_58.toNatClampNeg z_61).2.2.1 101 0).toInt = (u_59.2.2.1 101 0).toInt := keep_ne (u := z_58.toInt) rfl (by omega) (by omega)
          have hke_ : ((upI u_59 101 z_58.toNatClampNeg z_61).2.2.1 101 4).toInt = (u_59.2.2.1 101 4).toInt := keep_ne (u := z_58.toInt) rfl (by omega) (by omega)
          have hke_ : ((upI u_59 101 z_58.toNatClampNeg z_61).2.2.1 101 5).toInt = (u_59.2.2.1 101 5).toInt := keep_ne (u := z_58.toInt) rfl (by omega) (by omega)
          have hke_ : ((upI u_59 101 z_58.toNatClampNeg z_61).2.2.1 101 6).toInt = (u_59.2.2.1 101 6).toInt := keep_ne (u := z_58.toInt) rfl (by omega) (by omega)
          have hke_ : ((upI u_59 101 z_58.toNatClampNeg z_61).2.2.1 101 7).toInt = (u_59.2.2.1 101 7).toInt := keep_ne (u := z_58.toInt) rfl (by omega) (by omega)
          have hke_ : ((upI u_59 101 z_58.toNatClampNeg z_61).2.2.1 101 9).toInt = (u_59.2.2.1 101 9).toInt := keep_ne (u := z_58.toInt) rfl (by omega) (by omega)
          refine s_aload_n E dX10_readNext_137 rfl rfl ?_
          refine s_gR (r := 101) E fg_X10_31 rfl rfl (jv_lt hj_64 (by decide)) (jv_r hj_64 (by decide +kernel)) dX10_readNext_138 ?_
          refine s_iconst (v := 5) E dX10_readNext_141 (by decide) ?_
          refine s_dup2 E dX10_readNext_142 ?_
          refine s_iald E rfl (jv_lt hj_64 (by decide)) (z_in (u := 5) (by decide) (by omega) (by omega)) dX10_readNext_143 ?_
          refine z_nm (P := fun z => z.toInt = ((upI u_59 101 z_58.toNatClampNeg z_61).2.2.1 101 5).toInt ∧ 0 ≤ z.toInt ∧ z.toInt ≤ 6) ⟨rfl, (rw_101_5 hj_64)⟩ (fun z_65 hz_65 => ?_)
          refine s_iconst (v := 1) E dX10_readNext_144 (by decide) ?_
          refine z_iadd (u := z_65.toInt) (v := 1) E dX10_readNext_145 rfl (by decide) (by omega) (by omega) (fun z_66 hz_66 => ?_)
          have hhz_66 : 0 ≤ z_66.toInt ∧ z_66.toInt ≤ 6 := by omega
          refine s_iast E rfl (jv_lt hj_64 (by decide)) (z_in (u := 5) (by decide) (by omega) (by omega)) dX10_readNext_146 ?_
          refine s_world (w2 := (upI (upI u_59 101 z_58.toNatClampNeg z_61) 101 5 z_66)) rfl ?_
          have hj_68 : Jv w (upI (upI u_59 101 z_58.toNatClampNeg z_61) 101 5 z_66) := (jv_lad5 hj_64 (by omega) (by omega) (by omega) (lad_fin (by omega) (by omega) hLw_.out) (fun h0_ => lad_fin2 (N := (w.2.2.1 101 5).toInt) fL_ (by omega) (by omega) (by omega) (by omega) (by have q_ := hRm_.out (by omega); omega)))
          have hke_ : ((upI (upI u_59 101 z_58.toNatClampNeg z_61) 101 5 z_66).2.2.1 95 7).toInt = ((upI u_59 101 z_58.toNatClampNeg z_61).2.2.1 95 7).toInt := rfl
          have hke_ : ((upI (upI u_59 101 z_58.toNatClampNeg z_61) 101 5 z_66).2.2.1 95 8).toInt = ((upI u_59 101 z_58.toNatClampNeg z_61).2.2.1 95 8).toInt := rfl
          have hke_ : ((upI (upI u_59 101 z_58.toNatClampNeg z_61) 101 5 z_66).2.2.1 95 9).toInt = ((upI u_59 101 z_58.toNatClampNeg z_61).2.2.1 95 9).toInt := rfl
          have hke_ : ((upI (upI u_59 101 z_58.toNatClampNeg z_61) 101 5 z_66).2.2.1 95 10).toInt = ((upI u_59 101 z_58.toNatClampNeg z_61).2.2.1 95 10).toInt := rfl
          have hke_ : ((upI (upI u_59 101 z_58.toNatClampNeg z_61) 101 5 z_66).2.2.1 95 12).toInt = ((upI u_59 101 z_58.toNatClampNeg z_61).2.2.1 95 12).toInt := rfl
          have hke_ : ((upI (upI u_59 101 z_58.toNatClampNeg z_61) 101 5 z_66).2.2.1 101 0).toInt = ((upI u_59 101 z_58.toNatClampNeg z_61).2.2.1 101 0).toInt := rfl
          have hke_ : ((upI (upI u_59 101 z_58.toNatClampNeg z_61) 101 5 z_66).2.2.1 101 4).toInt = ((upI u_59 101 z_58.toNatClampNeg z_61).2.2.1 101 4).toInt := rfl
          have hke_ : ((upI (upI u_59 101 z_58.toNatClampNeg z_61) 101 5 z_66).2.2.1 101 5).toInt = z_66.toInt := rfl
          have hke_ : ((upI (upI u_59 101 z_58.toNatClampNeg z_61) 101 5 z_66).2.2.1 101 6).toInt = ((upI u_59 101 z_58.toNatClampNeg z_61).2.2.1 101 6).toInt := rfl
          have hke_ : ((upI (upI u_59 101 z_58.toNatClampNeg z_61) 101 5 z_66).2.2.1 101 7).toInt = ((upI u_59 101 z_58.toNatClampNeg z_61).2.2.1 101 7).toInt := rfl
          have hke_ : ((upI (upI u_59 101 z_58.toNatClampNeg z_61) 101 5 z_66).2.2.1 101 9).toInt = ((upI u_59 101 z_58.toNatClampNeg z_61).2.2.1 101 9).toInt := rfl
          refine s_goto (tgt := 232) E dX10_readNext_147 (by decide) ?_
          exact r_void E dX10_readNext_232 ⟨(by omega), hj_68⟩
      ·
        have hd_ : ¬ (v63.2.2.1 101 4).toInt = 12 := hq2_.out.1 (hT_.out.mp (by omega))
        refine s_aload_n E dX10_readNext_80 rfl rfl ?_
        refine s_vV (As := []) (S := []) E (Z_X10_readDoor_95 l D aC b u_6  hj_9.1  (by omega) (by omega)) cv_X10_198 rfl rfl rfl (jv_lt hj_9 (by decide)) (Nat.le_of_ble_eq_true rfl) (Nat.le_of_ble_eq_true rfl) ⟨(Nat.le_of_ble_eq_true rfl), (Nat.le_of_ble_eq_true rfl)⟩ (Nat.le_of_ble_eq_true rfl) dX10_readNext_81 (fun u_69 hp_70 => ?_)
        obtain ⟨hx_hp_70, hp_70⟩ := hp_70
        have hj_71 := jv_trans hj_9 hp_70
        refine s_goto (tgt := 232) E dX10_readNext_84 (by decide) ?_
        exact r_void E dX10_readNext_232 ⟨(by omega), hj_71⟩
    ·
      exact r_void E dX10_readNext_70 ⟨(by omega), hj63⟩
  ·
    refine s_aload_n E dX10_readNext_0 rfl rfl ?_
    refine s_ldcS (i := 20) E (by decide) rfl dX10_readNext_1 ?_
    refine s_vI (As := [AX (sA aC 20)]) (S := []) E (Z_X10_is_95 l D aC b w  hJ.1  20 (by decide)) cv_X10_143 rfl rfl rfl (jv_lt hJ (by decide)) (Nat.le_of_ble_eq_true rfl) (Nat.le_of_ble_eq_true rfl) ⟨(Nat.le_of_ble_eq_true rfl), (Nat.le_of_ble_eq_true rfl)⟩ (Nat.le_of_ble_eq_true rfl) dX10_readNext_3 (fun z_74 u_72 hp_73 => ?_)
    obtain ⟨hz_74, hxz_74, hp_73⟩ := hp_73
    subst hp_73
    have hw_3 : Hid _ := hxz_74
    clear hxz_74
    refine z_if_ne (tgt := 36) (u := z_74.toInt) E dX10_readNext_6 (by decide) rfl (fun h_76 => ?_) (fun h_76 => ?_)
    ·
      refine s_iconst (v := 1) E dX10_readNext_36 (by decide) ?_
      refine s_goto (tgt := 41) E dX10_readNext_37 (by decide) ?_
      refine s_istore_n (L2 := [some (AR 95), some (AI 1), none]) E dX10_readNext_41 rfl (by decide) rfl ?_
      refine s_iload_n E dX10_readNext_42 rfl rfl ?_
      refine z_if_ne (tgt := 51) (u := 1) E dX10_readNext_43 (by decide) (by decide) (fun h_77 => ?_) (fun h_77 => absurd h_77 (by omega))
      refine s_aload_n E dX10_readNext_51 rfl rfl ?_
      refine s_vI (As := []) (S := []) E (Z_X10_isFull_95 l D aC b w  hJ.1 ) cv_X10_195 rfl rfl rfl (jv_lt hJ (by decide)) (Nat.le_of_ble_eq_true rfl) (Nat.le_of_ble_eq_true rfl) ⟨(Nat.le_of_ble_eq_true rfl), (Nat.le_of_ble_eq_true rfl)⟩ (Nat.le_of_ble_eq_true rfl) dX10_readNext_52 (fun z_80 u_78 hp_79 => ?_)
      obtain ⟨hz_80, hxz_80, hp_79⟩ := hp_79
      subst hp_79
      have hq_ : Hid _ := hxz_80
      clear hxz_80
      refine z_if_eq (tgt := 63) (u := z_80.toInt) E dX10_readNext_55 (by decide) rfl (fun h_82 => ?_) (fun h_82 => ?_)
      ·
        refine s_drop (i := 1) (L2 := [some (AR 95), none, none]) rfl ?_
        exact kj63 w ⟨(by first | exact ⟨fun h0_ => absurd h0_ (by omega), by omega⟩ | exact ⟨fun _ => ⟨(by first | exact Or.inl (hw_3.out.mp (by omega)) | exact Or.inr (Or.inl (hw_12.out.mp (by omega))) | exact Or.inr (Or.inr (Or.inl (hw_21.out.mp (by omega)))) | exact Or.inr (Or.inr (Or.inr (hw_30.out.mp (by omega))))), hq_.out.resolve_left (by omega)⟩, by omega⟩), hJ⟩
      ·
        refine s_aload_n E dX10_readNext_58 rfl rfl ?_
        refine s_iconst (v := 3) E dX10_readNext_59 (by decide) ?_
        refine s_vV (As := [AI 3]) (S := []) E (Z_X10_errs_95 l D aC b w 3 hJ.1 (by decide)) cv_X10_153 rfl rfl rfl (jv_lt hJ (by decide)) (Nat.le_of_ble_eq_true rfl) (Nat.le_of_ble_eq_true rfl) ⟨(Nat.le_of_ble_eq_true rfl), (Nat.le_of_ble_eq_true rfl)⟩ (Nat.le_of_ble_eq_true rfl) dX10_readNext_60 (fun u_83 hp_84 => ?_)
        have hc_ : (3 : Int32).toInt = 3 := by decide
        obtain ⟨hx_hp_84, hf_u_83_101, hp_84⟩ := hp_84
        have hj_85 := jv_trans hJ hp_84
        have hfa_101_0 := congrArg Int32.toInt (congrFun hf_u_83_101 0)
        have hfa_101_4 := congrArg Int32.toInt (congrFun hf_u_83_101 4)
        have hfa_101_5 := congrArg Int32.toInt (congrFun hf_u_83_101 5)
        have hfa_101_6 := congrArg Int32.toInt (congrFun hf_u_83_101 6)
        have hfa_101_7 := congrArg Int32.toInt (congrFun hf_u_83_101 7)
        have hfa_101_9 := congrArg Int32.toInt (congrFun hf_u_83_101 9)
        refine s_drop (i := 1) (L2 := [some (AR 95), none, none]) rfl ?_
        exact kj63 u_83 ⟨(by first | exact ⟨fun h0_ => absurd h0_ (by omega), by omega⟩ | exact ⟨fun _ => ⟨(by first | exact Or.inl (hw_3.out.mp (by omega)) | exact Or.inr (Or.inl (hw_12.out.mp (by omega))) | exact Or.inr (Or.inr (Or.inl (hw_21.out.mp (by omega)))) | exact Or.inr (Or.inr (Or.inr (hw_30.out.mp (by omega))))), hq_.out.resolve_left (by omega)⟩, by omega⟩), hj_85⟩
    ·
      refine s_aload_n E dX10_readNext_9 rfl rfl ?_
      refine s_ldcS (i := 21) E (by decide) rfl dX10_readNext_10 ?_
      refine s_vI (As := [AX (sA aC 21)]) (S := []) E (Z_X10_is_95 l D aC b w  hJ.1  21 (by decide)) cv_X10_143 rfl rfl rfl (jv_lt hJ (by decide)) (Nat.le_of_ble_eq_true rfl) (Nat.le_of_ble_eq_true rfl) ⟨(Nat.le_of_ble_eq_true rfl), (Nat.le_of_ble_eq_true rfl)⟩ (Nat.le_of_ble_eq_true rfl) dX10_readNext_12 (fun z_88 u_86 hp_87 => ?_)
      obtain ⟨hz_88, hxz_88, hp_87⟩ := hp_87
      subst hp_87
      have hw_12 : Hid _ := hxz_88
      clear hxz_88
      refine z_if_ne (tgt := 36) (u := z_88.toInt) E dX10_readNext_15 (by decide) rfl (fun h_90 => ?_) (fun h_90 => ?_)
      ·
        refine s_iconst (v := 1) E dX10_readNext_36 (by decide) ?_
        refine s_goto (tgt := 41) E dX10_readNext_37 (by decide) ?_
        refine s_istore_n (L2 := [some (AR 95), some (AI 1), none]) E dX10_readNext_41 rfl (by decide) rfl ?_
        refine s_iload_n E dX10_readNext_42 rfl rfl ?_
        refine z_if_ne (tgt := 51) (u := 1) E dX10_readNext_43 (by decide) (by decide) (fun h_91 => ?_) (fun h_91 => absurd h_91 (by omega))
        refine s_aload_n E dX10_readNext_51 rfl rfl ?_
        refine s_vI (As := []) (S := []) E (Z_X10_isFull_95 l D aC b w  hJ.1 ) cv_X10_195 rfl rfl rfl (jv_lt hJ (by decide)) (Nat.le_of_ble_eq_true rfl) (Nat.le_of_ble_eq_true rfl) ⟨(Nat.le_of_ble_eq_true rfl), (Nat.le_of_ble_eq_true rfl)⟩ (Nat.le_of_ble_eq_true rfl) dX10_readNext_52 (fun z_94 u_92 hp_93 => ?_)
        obtain ⟨hz_94, hxz_94, hp_93⟩ := hp_93
        subst hp_93
        have hq_ : Hid _ := hxz_94
        clear hxz_94
        refine z_if_eq (tgt := 63) (u := z_94.toInt) E dX10_readNext_55 (by decide) rfl (fun h_96 => ?_) (fun h_96 => ?_)
        ·
          refine s_drop (i := 1) (L2 := [some (AR 95), none, none]) rfl ?_
          exact kj63 w ⟨(by first | exact ⟨fun h0_ => absurd h0_ (by omega), by omega⟩ | exact ⟨fun _ => ⟨(by first | exact Or.inl (hw_3.out.mp (by omega)) | exact Or.inr (Or.inl (hw_12.out.mp (by omega))) | exact Or.inr (Or.inr (Or.inl (hw_21.out.mp (by omega)))) | exact Or.inr (Or.inr (Or.inr (hw_30.out.mp (by omega))))), hq_.out.resolve_left (by omega)⟩, by omega⟩), hJ⟩
        ·
          refine s_aload_n E dX10_readNext_58 rfl rfl ?_
          refine s_iconst (v := 3) E dX10_readNext_59 (by decide) ?_
          refine s_vV (As := [AI 3]) (S := []) E (Z_X10_errs_95 l D aC b w 3 hJ.1 (by decide)) cv_X10_153 rfl rfl rfl (jv_lt hJ (by decide)) (Nat.le_of_ble_eq_true rfl) (Nat.le_of_ble_eq_true rfl) ⟨(Nat.le_of_ble_eq_true rfl), (Nat.le_of_ble_eq_true rfl)⟩ (Nat.le_of_ble_eq_true rfl) dX10_readNext_60 (fun u_97 hp_98 => ?_)
          have hc_ : (3 : Int32).toInt = 3 := by decide
          obtain ⟨hx_hp_98, hf_u_97_101, hp_98⟩ := hp_98
          have hj_99 := jv_trans hJ hp_98
          have hfa_101_0 := congrArg Int32.toInt (congrFun hf_u_97_101 0)
          have hfa_101_4 := congrArg Int32.toInt (congrFun hf_u_97_101 4)
          have hfa_101_5 := congrArg Int32.toInt (congrFun hf_u_97_101 5)
          have hfa_101_6 := congrArg Int32.toInt (congrFun hf_u_97_101 6)
          have hfa_101_7 := congrArg Int32.toInt (congrFun hf_u_97_101 7)
          have hfa_101_9 := congrArg Int32.toInt (congrFun hf_u_97_101 9)
          refine s_drop (i := 1) (L2 := [some (AR 95), none, none]) rfl ?_
          exact kj63 u_97 ⟨(by first | exact ⟨fun h0_ => absurd h0_ (by omega), by omega⟩ | exact ⟨fun _ => ⟨(by first | exact Or.inl (hw_3.out.mp (by omega)) | exact Or.inr (Or.inl (hw_12.out.mp (by omega))) | exact Or.inr (Or.inr (Or.inl (hw_21.out.mp (by omega)))) | exact Or.inr (Or.inr (Or.inr (hw_30.out.mp (by omega))))), hq_.out.resolve_left (by omega)⟩, by omega⟩), hj_99⟩
      ·
        refine s_aload_n E dX10_readNext_18 rfl rfl ?_
        refine s_ldcS (i := 22) E (by decide) rfl dX10_readNext_19 ?_
        refine s_vI (As := [AX (sA aC 22)]) (S := []) E (Z_X10_is_95 l D aC b w  hJ.1  22 (by decide)) cv_X10_143 rfl rfl rfl (jv_lt hJ (by decide)) (Nat.le_of_ble_eq_true rfl) (Nat.le_of_ble_eq_true rfl) ⟨(Nat.le_of_ble_eq_true rfl), (Nat.le_of_ble_eq_true rfl)⟩ (Nat.le_of_ble_eq_true rfl) dX10_readNext_21 (fun z_102 u_100 hp_101 => ?_)
        obtain ⟨hz_102, hxz_102, hp_101⟩ := hp_101
        subst hp_101
        have hw_21 : Hid _ := hxz_102
        clear hxz_102
        refine z_if_ne (tgt := 36) (u := z_102.toInt) E dX10_readNext_24 (by decide) rfl (fun h_104 => ?_) (fun h_104 => ?_)
        ·
          refine s_iconst (v := 1) E dX10_readNext_36 (by decide) ?_
          refine s_goto (tgt := 41) E dX10_readNext_37 (by decide) ?_
          refine s_istore_n (L2 := [some (AR 95), some (AI 1), none]) E dX10_readNext_41 rfl (by decide) rfl ?_
          refine s_iload_n E dX10_readNext_42 rfl rfl ?_
          refine z_if_ne (tgt := 51) (u := 1) E dX10_readNext_43 (by decide) (by decide) (fun h_105 => ?_) (fun h_105 => absurd h_105 (by omega))
          refine s_aload_n E dX10_readNext_51 rfl rfl ?_
          refine s_vI (As := []) (S := []) E (Z_X10_isFull_95 l D aC b w  hJ.1 ) cv_X10_195 rfl rfl rfl (jv_lt hJ (by decide)) (Nat.le_of_ble_eq_true rfl) (Nat.le_of_ble_eq_true rfl) ⟨(Nat.le_of_ble_eq_true rfl), (Nat.le_of_ble_eq_true rfl)⟩ (Nat.le_of_ble_eq_true rfl) dX10_readNext_52 (fun z_108 u_106 hp_107 => ?_)
          obtain ⟨hz_108, hxz_108, hp_107⟩ := hp_107
          subst hp_107
          have hq_ : Hid _ := hxz_108
          clear hxz_108
          refine z_if_eq (tgt := 63) (u := z_108.toInt) E dX10_readNext_55 (by decide) rfl (fun h_110 => ?_) (fun h_110 => ?_)
          ·
            refine s_drop (i := 1) (L2 := [some (AR 95), none, none]) rfl ?_
            exact kj63 w ⟨(by first | exact ⟨fun h0_ => absurd h0_ (by omega), by omega⟩ | exact ⟨fun _ => ⟨(by first | exact Or.inl (hw_3.out.mp (by omega)) | exact Or.inr (Or.inl (hw_12.out.mp (by omega))) | exact Or.inr (Or.inr (Or.inl (hw_21.out.mp (by omega)))) | exact Or.inr (Or.inr (Or.inr (hw_30.out.mp (by omega))))), hq_.out.resolve_left (by omega)⟩, by omega⟩), hJ⟩
          ·
            refine s_aload_n E dX10_readNext_58 rfl rfl ?_
            refine s_iconst (v := 3) E dX10_readNext_59 (by decide) ?_
            refine s_vV (As := [AI 3]) (S := []) E (Z_X10_errs_95 l D aC b w 3 hJ.1 (by decide)) cv_X10_153 rfl rfl rfl (jv_lt hJ (by decide)) (Nat.le_of_ble_eq_true rfl) (Nat.le_of_ble_eq_true rfl) ⟨(Nat.le_of_ble_eq_true rfl), (Nat.le_of_ble_eq_true rfl)⟩ (Nat.le_of_ble_eq_true rfl) dX10_readNext_60 (fun u_111 hp_112 => ?_)
            have hc_ : (3 : Int32).toInt = 3 := by decide
            obtain ⟨hx_hp_112, hf_u_111_101, hp_112⟩ := hp_112
            have hj_113 := jv_trans hJ hp_112
            have hfa_101_0 := congrArg Int32.toInt (congrFun hf_u_111_101 0)
            have hfa_101_4 := congrArg Int32.toInt (congrFun hf_u_111_101 4)
            have hfa_101_5 := congrArg Int32.toInt (congrFun hf_u_111_101 5)
            have hfa_101_6 := congrArg Int32.toInt (congrFun hf_u_111_101 6)
            have hfa_101_7 := congrArg Int32.toInt (congrFun hf_u_111_101 7)
            have hfa_101_9 := congrArg Int32.toInt (congrFun hf_u_111_101 9)
            refine s_drop (i := 1) (L2 := [some (AR 95), none, none]) rfl ?_
            exact kj63 u_111 ⟨(by first | exact ⟨fun h0_ => absurd h0_ (by omega), by omega⟩ | exact ⟨fun _ => ⟨(by first | exact Or.inl (hw_3.out.mp (by omega)) | exact Or.inr (Or.inl (hw_12.out.mp (by omega))) | exact Or.inr (Or.inr (Or.inl (hw_21.out.mp (by omega)))) | exact Or.inr (Or.inr (Or.inr (hw_30.out.mp (by omega))))), hq_.out.resolve_left (by omega)⟩, by omega⟩), hj_113⟩
        ·
          refine s_aload_n E dX10_readNext_27 rfl rfl ?_
          refine s_ldcS (i := 23) E (by decide) rfl dX10_readNext_28 ?_
          refine s_vI (As := [AX (sA aC 23)]) (S := []) E (Z_X10_is_95 l D aC b w  hJ.1  23 (by decide)) cv_X10_143 rfl rfl rfl (jv_lt hJ (by decide)) (Nat.le_of_ble_eq_true rfl) (Nat.le_of_ble_eq_true rfl) ⟨(Nat.le_of_ble_eq_true rfl), (Nat.le_of_ble_eq_true rfl)⟩ (Nat.le_of_ble_eq_true rfl) dX10_readNext_30 (fun z_116 u_114 hp_115 => ?_)
          obtain ⟨hz_116, hxz_116, hp_115⟩ := hp_115
          subst hp_115
          have hw_30 : Hid _ := hxz_116
          clear hxz_116
          refine z_if_eq (tgt := 40) (u := z_116.toInt) E dX10_readNext_33 (by decide) rfl (fun h_118 => ?_) (fun h_118 => ?_)
          ·
            refine s_iconst (v := 0) E dX10_readNext_40 (by decide) ?_
            refine s_istore_n (L2 := [some (AR 95), some (AI 0), none]) E dX10_readNext_41 rfl (by decide) rfl ?_
            refine s_iload_n E dX10_readNext_42 rfl rfl ?_
            refine z_if_ne (tgt := 51) (u := 0) E dX10_readNext_43 (by decide) (by decide) (fun h_119 => absurd h_119 (by omega)) (fun h_119 => ?_)
            refine s_aload_n E dX10_readNext_46 rfl rfl ?_
            refine s_iconst (v := 1) E dX10_readNext_47 (by decide) ?_
            refine s_vV (As := [AI 1]) (S := []) E (Z_X10_errs_95 l D aC b w 1 hJ.1 (by decide)) cv_X10_153 rfl rfl rfl (jv_lt hJ (by decide)) (Nat.le_of_ble_eq_true rfl) (Nat.le_of_ble_eq_true rfl) ⟨(Nat.le_of_ble_eq_true rfl), (Nat.le_of_ble_eq_true rfl)⟩ (Nat.le_of_ble_eq_true rfl) dX10_readNext_48 (fun u_120 hp_121 => ?_)
            have hc_ : (1 : Int32).toInt = 1 := by decide
            obtain ⟨hx_hp_121, hf_u_120_101, hp_121⟩ := hp_121
            have hj_122 := jv_trans hJ hp_121
            have hfa_101_0 := congrArg Int32.toInt (congrFun hf_u_120_101 0)
            have hfa_101_4 := congrArg Int32.toInt (congrFun hf_u_120_101 4)
            have hfa_101_5 := congrArg Int32.toInt (congrFun hf_u_120_101 5)
            have hfa_101_6 := congrArg Int32.toInt (congrFun hf_u_120_101 6)
            have hfa_101_7 := congrArg Int32.toInt (congrFun hf_u_120_101 7)
            have hfa_101_9 := congrArg Int32.toInt (congrFun hf_u_120_101 9)
            refine s_aload_n E dX10_readNext_51 rfl rfl ?_
            refine s_vI (As := []) (S := []) E (Z_X10_isFull_95 l D aC b u_120  hj_122.1 ) cv_X10_195 rfl rfl rfl (jv_lt hj_122 (by decide)) (Nat.le_of_ble_eq_true rfl) (Nat.le_of_ble_eq_true rfl) ⟨(Nat.le_of_ble_eq_true rfl), (Nat.le_of_ble_eq_true rfl)⟩ (Nat.le_of_ble_eq_true rfl) dX10_readNext_52 (fun z_125 u_123 hp_124 => ?_)
            obtain ⟨hz_125, hxz_125, hp_124⟩ := hp_124
            subst hp_124
            have hq_ : Hid _ := hxz_125
            clear hxz_125
            refine z_if_eq (tgt := 63) (u := z_125.toInt) E dX10_readNext_55 (by decide) rfl (fun h_127 => ?_) (fun h_127 => ?_)
            ·
              refine s_drop (i := 1) (L2 := [some (AR 95), none, none]) rfl ?_
              exact kj63 u_120 ⟨(by first | exact ⟨fun h0_ => absurd h0_ (by omega), by omega⟩ | exact ⟨fun _ => ⟨(by first | exact Or.inl (hw_3.out.mp (by omega)) | exact Or.inr (Or.inl (hw_12.out.mp (by omega))) | exact Or.inr (Or.inr (Or.inl (hw_21.out.mp (by omega)))) | exact Or.inr (Or.inr (Or.inr (hw_30.out.mp (by omega))))), hq_.out.resolve_left (by omega)⟩, by omega⟩), hj_122⟩
            ·
              refine s_aload_n E dX10_readNext_58 rfl rfl ?_
              refine s_iconst (v := 3) E dX10_readNext_59 (by decide) ?_
              refine s_vV (As := [AI 3]) (S := []) E (Z_X10_errs_95 l D aC b u_120 3 hj_122.1 (by decide)) cv_X10_153 rfl rfl rfl (jv_lt hj_122 (by decide)) (Nat.le_of_ble_eq_true rfl) (Nat.le_of_ble_eq_true rfl) ⟨(Nat.le_of_ble_eq_true rfl), (Nat.le_of_ble_eq_true rfl)⟩ (Nat.le_of_ble_eq_true rfl) dX10_readNext_60 (fun u_128 hp_129 => ?_)
              have hc_ : (3 : Int32).toInt = 3 := by decide
              obtain ⟨hx_hp_129, hf_u_128_101, hp_129⟩ := hp_129
              have hj_130 := jv_trans hj_122 hp_129
              have hfa_101_0 := congrArg Int32.toInt (congrFun hf_u_128_101 0)
              have hfa_101_4 := congrArg Int32.toInt (congrFun hf_u_128_101 4)
              have hfa_101_5 := congrArg Int32.toInt (congrFun hf_u_128_101 5)
              have hfa_101_6 := congrArg Int32.toInt (congrFun hf_u_128_101 6)
              have hfa_101_7 := congrArg Int32.toInt (congrFun hf_u_128_101 7)
              have hfa_101_9 := congrArg Int32.toInt (congrFun hf_u_128_101 9)
              refine s_drop (i := 1) (L2 := [some (AR 95), none, none]) rfl ?_
              exact kj63 u_128 ⟨(by first | exact ⟨fun h0_ => absurd h0_ (by omega), by omega⟩ | exact ⟨fun _ => ⟨(by first | exact Or.inl (hw_3.out.mp (by omega)) | exact Or.inr (Or.inl (hw_12.out.mp (by omega))) | exact Or.inr (Or.inr (Or.inl (hw_21.out.mp (by omega)))) | exact Or.inr (Or.inr (Or.inr (hw_30.out.mp (by omega))))), hq_.out.resolve_left (by omega)⟩, by omega⟩), hj_130⟩
          ·
            refine s_iconst (v := 1) E dX10_readNext_36 (by decide) ?_
            refine s_goto (tgt := 41) E dX10_readNext_37 (by decide) ?_
            refine s_istore_n (L2 := [some (AR 95), some (AI 1), none]) E dX10_readNext_41 rfl (by decide) rfl ?_
            refine s_iload_n E dX10_readNext_42 rfl rfl ?_
            refine z_if_ne (tgt := 51) (u := 1) E dX10_readNext_43 (by decide) (by decide) (fun h_131 => ?_) (fun h_131 => absurd h_131 (by omega))
            refine s_aload_n E dX10_readNext_51 rfl rfl ?_
            refine s_vI (As := []) (S := []) E (Z_X10_isFull_95 l D aC b w  hJ.1 ) cv_X10_195 rfl rfl rfl (jv_lt hJ (by decide)) (Nat.le_of_ble_eq_true rfl) (Nat.le_of_ble_eq_true rfl) ⟨(Nat.le_of_ble_eq_true rfl), (Nat.le_of_ble_eq_true rfl)⟩ (Nat.le_of_ble_eq_true rfl) dX10_readNext_52 (fun z_134 u_132 hp_133 => ?_)
            obtain ⟨hz_134, hxz_134, hp_133⟩ := hp_133
            subst hp_133
            have hq_ : Hid _ := hxz_134
            clear hxz_134
            refine z_if_eq (tgt := 63) (u := z_134.toInt) E dX10_readNext_55 (by decide) rfl (fun h_136 => ?_) (fun h_136 => ?_)
            ·
              refine s_drop (i := 1) (L2 := [some (AR 95), none, none]) rfl ?_
              exact kj63 w ⟨(by first | exact ⟨fun h0_ => absurd h0_ (by omega), by omega⟩ | exact ⟨fun _ => ⟨(by first | exact Or.inl (hw_3.out.mp (by omega)) | exact Or.inr (Or.inl (hw_12.out.mp (by omega))) | exact Or.inr (Or.inr (Or.inl (hw_21.out.mp (by omega)))) | exact Or.inr (Or.inr (Or.inr (hw_30.out.mp (by omega))))), hq_.out.resolve_left (by omega)⟩, by omega⟩), hJ⟩
            ·
              refine s_aload_n E dX10_readNext_58 rfl rfl ?_
              refine s_iconst (v := 3) E dX10_readNext_59 (by decide) ?_
              refine s_vV (As := [AI 3]) (S := []) E (Z_X10_errs_95 l D aC b w 3 hJ.1 (by decide)) cv_X10_153 rfl rfl rfl (jv_lt hJ (by decide)) (Nat.le_of_ble_eq_true rfl) (Nat.le_of_ble_eq_true rfl) ⟨(Nat.le_of_ble_eq_true rfl), (Nat.le_of_ble_eq_true rfl)⟩ (Nat.le_of_ble_eq_true rfl) dX10_readNext_60 (fun u_137 hp_138 => ?_)
              have hc_ : (3 : Int32).toInt = 3 := by decide
              obtain ⟨hx_hp_138, hf_u_137_101, hp_138⟩ := hp_138
              have hj_139 := jv_trans hJ hp_138
              have hfa_101_0 := congrArg Int32.toInt (congrFun hf_u_137_101 0)
              have hfa_101_4 := congrArg Int32.toInt (congrFun hf_u_137_101 4)
              have hfa_101_5 := congrArg Int32.toInt (congrFun hf_u_137_101 5)
              have hfa_101_6 := congrArg Int32.toInt (congrFun hf_u_137_101 6)
              have hfa_101_7 := congrArg Int32.toInt (congrFun hf_u_137_101 7)
              have hfa_101_9 := congrArg Int32.toInt (congrFun hf_u_137_101 9)
              refine s_drop (i := 1) (L2 := [some (AR 95), none, none]) rfl ?_
              exact kj63 u_137 ⟨(by first | exact ⟨fun h0_ => absurd h0_ (by omega), by omega⟩ | exact ⟨fun _ => ⟨(by first | exact Or.inl (hw_3.out.mp (by omega)) | exact Or.inr (Or.inl (hw_12.out.mp (by omega))) | exact Or.inr (Or.inr (Or.inl (hw_21.out.mp (by omega)))) | exact Or.inr (Or.inr (Or.inr (hw_30.out.mp (by omega))))), hq_.out.resolve_left (by omega)⟩, by omega⟩), hj_139⟩
