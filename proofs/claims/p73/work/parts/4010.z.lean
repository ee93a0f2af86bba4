set_option maxRecDepth 20000 in
set_option maxHeartbeats 2000000 in
theorem Z_X10_layMinisters_95 (l : Launch) (D : va_G) (aC : Nat → ClassId) (b : Nat) (w : XW)  (hI : Iv w)  : CnV l D aC b M_X10_layMinisters 0 0 0 0 [AR 95] w (fun u => Jv w u) := by
  refine cn_V (own := RX10) (nm := "layMinisters") (L0 := [some (AR 95), none, none]) (by decide +kernel) rfl rfl (Nat.le_of_ble_eq_true rfl) rfl ?_
  intro p e s m args below meth c E hin
  have hJ : Jv w w := jv_rfl hI
  refine s_iconst (v := 0) E dX10_layMinisters_0 (by decide) ?_
  refine s_istore_n (L2 := [some (AR 95), some (AI 0), none]) E dX10_layMinisters_1 rfl (by decide) rfl ?_
  refine z_loop (St := Int32) (Pi := fun q2_1_0 v2 => (0 ≤ q2_1_0.toInt ∧ q2_1_0.toInt ≤ 8) ∧ Jv w v2) (Lf := fun q2_1_0 => [some (AR 95), some (AI q2_1_0), none]) (fun q2_1_0 _ => (9 - q2_1_0.toInt).toNat) 0 ⟨⟨by decide, by decide⟩, hJ⟩ ?_
  rintro q2_1_0 v2 ⟨hq2_1, hj_1⟩ ih2
  refine s_loc (L2 := [some (AR 95), some (AI q2_1_0), none]) rfl ?_
  refine s_iload_n E dX10_layMinisters_2 rfl rfl ?_
  refine s_aload_n E dX10_layMinisters_3 rfl rfl ?_
  refine s_gR (r := 96) E fg_X10_9 rfl rfl (jv_lt hj_1 (by decide)) (jv_r hj_1 (by decide +kernel)) dX10_layMinisters_4 ?_
  refine s_bipush (v := 6) E dX10_layMinisters_7 (by decide) ?_
  refine s_iald E rfl (jv_lt hj_1 (by decide)) (z_in (u := 6) (by decide) (by omega) (by omega)) dX10_layMinisters_9 ?_
  refine z_nm (P := fun z => z.toInt = (v2.2.2.1 96 6).toInt ∧ 0 ≤ z.toInt ∧ z.toInt ≤ 8) ⟨rfl, (rw_96_6 hj_1)⟩ (fun z_2 hz_2 => ?_)
  refine z_icmp_ge (tgt := 36) (u := q2_1_0.toInt) (v := z_2.toInt) E dX10_layMinisters_10 (by decide) rfl rfl (fun h_3 => ?_) (fun h_3 => ?_)
  ·
    refine s_iconst (v := 0) E dX10_layMinisters_36 (by decide) ?_
    refine s_istore_n (L2 := [some (AR 95), some (AI 0), none]) E dX10_layMinisters_37 rfl (by decide) rfl ?_
    refine z_loop (St := Int32) (Pi := fun q38_1_3 v38 => (0 ≤ q38_1_3.toInt ∧ q38_1_3.toInt ≤ 30) ∧ Jv w v38) (Lf := fun q38_1_3 => [some (AR 95), some (AI q38_1_3), none]) (fun q38_1_3 _ => (31 - q38_1_3.toInt).toNat) 0 ⟨⟨by decide, by decide⟩, hj_1⟩ ?_
    rintro q38_1_3 v38 ⟨hq38_1, hj_4⟩ ih38
    refine s_loc (L2 := [some (AR 95), some (AI q38_1_3), none]) rfl ?_
    refine s_iload_n E dX10_layMinisters_38 rfl rfl ?_
    refine s_aload_n E dX10_layMinisters_39 rfl rfl ?_
    refine s_gR (r := 96) E fg_X10_9 rfl rfl (jv_lt hj_4 (by decide)) (jv_r hj_4 (by decide +kernel)) dX10_layMinisters_40 ?_
    refine s_bipush (v := 8) E dX10_layMinisters_43 (by decide) ?_
    refine s_iald E rfl (jv_lt hj_4 (by decide)) (z_in (u := 8) (by decide) (by omega) (by omega)) dX10_layMinisters_45 ?_
    refine z_nm (P := fun z => z.toInt = (v38.2.2.1 96 8).toInt ∧ 0 ≤ z.toInt ∧ z.toInt ≤ 30) ⟨rfl, (rw_96_8 hj_4)⟩ (fun z_5 hz_5 => ?_)
    refine z_icmp_ge (tgt := 85) (u := q38_1_3.toInt) (v := z_5.toInt) E dX10_layMinisters_46 (by decide) rfl rfl (fun h_6 => ?_) (fun h_6 => ?_)
    ·
      refine s_iconst (v := 0) E dX10_layMinisters_85 (by decide) ?_
      refine s_istore_n (L2 := [some (AR 95), some (AI 0), none]) E dX10_layMinisters_86 rfl (by decide) rfl ?_
      refine z_loop (St := Int32) (Pi := fun q87_1_6 v87 => (0 ≤ q87_1_6.toInt ∧ q87_1_6.toInt ≤ 6) ∧ Jv w v87) (Lf := fun q87_1_6 => [some (AR 95), some (AI q87_1_6), none]) (fun q87_1_6 _ => (7 - q87_1_6.toInt).toNat) 0 ⟨⟨by decide, by decide⟩, hj_4⟩ ?_
      rintro q87_1_6 v87 ⟨hq87_1, hj_7⟩ ih87
      refine s_loc (L2 := [some (AR 95), some (AI q87_1_6), none]) rfl ?_
      refine s_iload_n E dX10_layMinisters_87 rfl rfl ?_
      refine s_bipush (v := 6) E dX10_layMinisters_88 (by decide) ?_
      refine z_icmp_ge (tgt := 106) (u := q87_1_6.toInt) (v := 6) E dX10_layMinisters_90 (by decide) rfl (by decide) (fun h_8 => ?_) (fun h_8 => ?_)
      ·
        refine s_iconst (v := 0) E dX10_layMinisters_106 (by decide) ?_
        refine s_istore_n (L2 := [some (AR 95), some (AI 0), none]) E dX10_layMinisters_107 rfl (by decide) rfl ?_
        refine z_loop (St := Int32) (Pi := fun q108_1_8 v108 => (0 ≤ q108_1_8.toInt ∧ q108_1_8.toInt ≤ 8) ∧ Jv w v108) (Lf := fun q108_1_8 => [some (AR 95), some (AI q108_1_8), none]) (fun q108_1_8 _ => (9 - q108_1_8.toInt).toNat) 0 ⟨⟨by decide, by decide⟩, hj_7⟩ ?_
        rintro q108_1_8 v108 ⟨hq108_1, hj_9⟩ ih108
        refine s_loc (L2 := [some (AR 95), some (AI q108_1_8), none]) rfl ?_
        refine s_iload_n E dX10_layMinisters_108 rfl rfl ?_
        refine s_aload_n E dX10_layMinisters_109 rfl rfl ?_
        refine s_gR (r := 96) E fg_X10_9 rfl rfl (jv_lt hj_9 (by decide)) (jv_r hj_9 (by decide +kernel)) dX10_layMinisters_110 ?_
        refine s_bipush (v := 6) E dX10_layMinisters_113 (by decide) ?_
        refine s_iald E rfl (jv_lt hj_9 (by decide)) (z_in (u := 6) (by decide) (by omega) (by omega)) dX10_layMinisters_115 ?_
        refine z_nm (P := fun z => z.toInt = (v108.2.2.1 96 6).toInt ∧ 0 ≤ z.toInt ∧ z.toInt ≤ 8) ⟨rfl, (rw_96_6 hj_9)⟩ (fun z_10 hz_10 => ?_)
        refine z_icmp_ge (tgt := 152) (u := q108_1_8.toInt) (v := z_10.toInt) E dX10_layMinisters_116 (by decide) rfl rfl (fun h_11 => ?_) (fun h_11 => ?_)
        ·
          exact r_void E dX10_layMinisters_152 hj_9
        ·
          refine s_aload_n E dX10_layMinisters_119 rfl rfl ?_
          refine s_gR (r := 105) E fg_X10_43 rfl rfl (jv_lt hj_9 (by decide)) (jv_r hj_9 (by decide +kernel)) dX10_layMinisters_120 ?_
          refine s_aload_n E dX10_layMinisters_123 rfl rfl ?_
          refine s_gR (r := 104) E fg_X10_40 rfl rfl (jv_lt hj_9 (by decide)) (jv_r hj_9 (by decide +kernel)) dX10_layMinisters_124 ?_
          refine s_iload_n E dX10_layMinisters_127 rfl rfl ?_
          refine s_iald E rfl (jv_lt hj_9 (by decide)) (z_in (u := q108_1_8.toInt) rfl (by omega) (by omega)) dX10_layMinisters_128 ?_
          refine z_nm (P := fun z => z.toInt = (v108.2.2.1 104 q108_1_8.toNatClampNeg).toInt ∧ 0 ≤ z.toInt ∧ z.toInt ≤ 5) ⟨rfl, (ra_104 hj_9 _)⟩ (fun z_12 hz_12 => ?_)
          refine s_dup2 E dX10_layMinisters_129 ?_
          refine s_iald E rfl (jv_lt hj_9 (by decide)) (z_in (u := z_12.toInt) rfl (by omega) (by omega)) dX10_layMinisters_130 ?_
          refine z_nm (P := fun z => (-2147483648) ≤ z.toInt ∧ z.toInt ≤ 2147483647) (z32 _) (fun z_13 hz_13 => ?_)
          refine s_aload_n E dX10_layMinisters_131 rfl rfl ?_
          refine s_gR (r := 96) E fg_X10_9 rfl rfl (jv_lt hj_9 (by decide)) (jv_r hj_9 (by decide +kernel)) dX10_layMinisters_132 ?_
          refine s_bipush (v := 58) E dX10_layMinisters_135 (by decide) ?_
          refine s_iconst (v := 2) E dX10_layMinisters_137 (by decide) ?_
          refine s_iload_n E dX10_layMinisters_138 rfl rfl ?_
          refine z_imul (u := 2) (v := q108_1_8.toInt) E dX10_layMinisters_139 (by decide) rfl (by omega) (by omega) (fun z_14 hz_14 => ?_)
          refine z_iadd (u := 58) (v := z_14.toInt) E dX10_layMinisters_140 (by decide) rfl (by omega) (by omega) (fun z_15 hz_15 => ?_)
          refine s_iconst (v := 1) E dX10_layMinisters_141 (by decide) ?_
          refine z_iadd (u := z_15.toInt) (v := 1) E dX10_layMinisters_142 rfl (by decide) (by omega) (by omega) (fun z_16 hz_16 => ?_)
          refine s_iald E rfl (jv_lt hj_9 (by decide)) (z_in (u := z_16.toInt) rfl (by omega) (by omega)) dX10_layMinisters_143 ?_
          refine z_nm (P := fun z => z.toInt = (v108.2.2.1 96 z_16.toNatClampNeg).toInt ∧ 0 ≤ z.toInt ∧ z.toInt ≤ 20) ⟨rfl, (rs_v hj_9 (by decide) 0 20 59 73 2 z_16 z_16.toInt (by decide +kernel) rfl (by omega) (by omega) (by omega))⟩ (fun z_17 hz_17 => ?_)
          refine s_iadd E dX10_layMinisters_144 ?_
          refine z_nm (P := fun z => (-2147483648) ≤ z.toInt ∧ z.toInt ≤ 2147483647) (z32 _) (fun z_18 hz_18 => ?_)
          refine s_iast E rfl (jv_lt hj_9 (by decide)) (z_in (u := z_12.toInt) rfl (by omega) (by omega)) dX10_layMinisters_145 ?_
          refine s_gen (P := fun v => Jv w v ∧ (v.2.2.1 96 6).toInt = (v108.2.2.1 96 6).toInt) ⟨(jv_a_105 hj_9 (by have hb_ := z32 z_18; omega) (by have hb_ := z32 z_18; omega)), rfl⟩ (fun v_19 hj_20 => ?_)
          obtain ⟨hj_20, hk_21k0⟩ := hj_20
          refine z_iinc (u := q108_1_8.toInt) (L2 := fun z_22 => [some (AR 95), some (AI z_22), none]) E dX10_layMinisters_146 rfl rfl (by decide) (fun _ => rfl) (by decide) (by omega) (by omega) (fun z_22 hz_22 => ?_)
          refine s_goto (tgt := 108) E dX10_layMinisters_149 (by decide) ?_
          exact ih108 z_22 v_19 ⟨⟨by have hb_ := z32 z_22; omega, by have hb_ := z32 z_22; omega⟩, hj_20⟩ (by first | omega | decide | (dsimp only; omega) | (dsimp only; decide))
      ·
        refine s_aload_n E dX10_layMinisters_93 rfl rfl ?_
        refine s_gR (r := 105) E fg_X10_43 rfl rfl (jv_lt hj_7 (by decide)) (jv_r hj_7 (by decide +kernel)) dX10_layMinisters_94 ?_
        refine s_iload_n E dX10_layMinisters_97 rfl rfl ?_
        refine s_iconst (v := 0) E dX10_layMinisters_98 (by decide) ?_
        refine s_iast E rfl (jv_lt hj_7 (by decide)) (z_in (u := q87_1_6.toInt) rfl (by omega) (by omega)) dX10_layMinisters_99 ?_
        refine s_gen (P := Jv w) (jv_a_105 hj_7 (by decide) (by decide)) (fun v_23 hj_24 => ?_)
        refine z_iinc (u := q87_1_6.toInt) (L2 := fun z_25 => [some (AR 95), some (AI z_25), none]) E dX10_layMinisters_100 rfl rfl (by decide) (fun _ => rfl) (by decide) (by omega) (by omega) (fun z_25 hz_25 => ?_)
        refine s_goto (tgt := 87) E dX10_layMinisters_103 (by decide) ?_
        exact ih87 z_25 v_23 ⟨⟨by have hb_ := z32 z_25; omega, by have hb_ := z32 z_25; omega⟩, hj_24⟩ (by first | omega | decide | (dsimp only; omega) | (dsimp only; decide))
    ·
      refine s_aload_n E dX10_layMinisters_49 rfl rfl ?_
      refine s_gR (r := 96) E fg_X10_9 rfl rfl (jv_lt hj_4 (by decide)) (jv_r hj_4 (by decide +kernel)) dX10_layMinisters_50 ?_
      refine s_bipush (v := 104) E dX10_layMinisters_53 (by decide) ?_
      refine s_iload_n E dX10_layMinisters_55 rfl rfl ?_
      refine z_iadd (u := 104) (v := q38_1_3.toInt) E dX10_layMinisters_56 (by decide) rfl (by omega) (by omega) (fun z_26 hz_26 => ?_)
      refine s_iald E rfl (jv_lt hj_4 (by decide)) (z_in (u := z_26.toInt) rfl (by omega) (by omega)) dX10_layMinisters_57 ?_
      refine z_nm (P := fun z => z.toInt = (v38.2.2.1 96 z_26.toNatClampNeg).toInt ∧ 0 ≤ z.toInt ∧ z.toInt ≤ 100075 ∧ (104 ≤ z_26.toInt → z_26.toInt < 134 → okA z.toInt)) ⟨rfl, (rs_w hj_4 (by decide) 0 100075 104 133 1 z_26 z_26.toInt (by decide +kernel) rfl (by omega) (by omega) (by omega))⟩ (fun z_27 hz_27 => ?_)
      have hkz_27 := hz_27.2.2.2 (by omega) (by omega)
      unfold okA at hkz_27
      refine s_ldc E k_1504 rfl dX10_layMinisters_58 ?_
      refine z_isub (u := z_27.toInt) (v := 100000) E dX10_layMinisters_60 rfl (by decide) (by omega) (by omega) (fun z_28 hz_28 => ?_)
      refine s_istore_n (L2 := [some (AR 95), some (AI q38_1_3), some (AI z_28)]) E dX10_layMinisters_61 rfl (by decide) rfl ?_
      refine s_iload_n E dX10_layMinisters_62 rfl rfl ?_
      refine z_if_lt (tgt := 79) (u := z_28.toInt) E dX10_layMinisters_63 (by decide) rfl (fun h_29 => ?_) (fun h_29 => ?_)
      ·
        refine z_iinc (u := q38_1_3.toInt) (L2 := fun z_30 => [some (AR 95), some (AI z_30), some (AI z_28)]) E dX10_layMinisters_79 rfl rfl (by decide) (fun _ => rfl) (by decide) (by omega) (by omega) (fun z_30 hz_30 => ?_)
        refine s_goto (tgt := 38) E dX10_layMinisters_82 (by decide) ?_
        refine s_drop (i := 2) (L2 := [some (AR 95), some (AI z_30), none]) rfl ?_
        exact ih38 z_30 v38 ⟨⟨by have hb_ := z32 z_30; omega, by have hb_ := z32 z_30; omega⟩, hj_4⟩ (by first | omega | decide | (dsimp only; omega) | (dsimp only; decide))
      ·
        refine s_aload_n E dX10_layMinisters_66 rfl rfl ?_
        refine s_gR (r := 104) E fg_X10_40 rfl rfl (jv_lt hj_4 (by decide)) (jv_r hj_4 (by decide +kernel)) dX10_layMinisters_67 ?_
        refine s_iload_n E dX10_layMinisters_70 rfl rfl ?_
        refine s_bipush (v := 10) E dX10_layMinisters_71 (by decide) ?_
        refine z_idiv (u := z_28.toInt) (v := 10) E dX10_layMinisters_73 rfl (by decide) (by omega) (by omega) (fun z_31 hz_31 => ?_)
        refine s_iload_n E dX10_layMinisters_74 rfl rfl ?_
        refine s_bipush (v := 10) E dX10_layMinisters_75 (by decide) ?_
        refine z_irem (u := z_28.toInt) (v := 10) E dX10_layMinisters_77 rfl (by decide) (by omega) (by omega) (fun z_32 hz_32 => ?_)
        have hhz_32 : 0 ≤ z_32.toInt ∧ z_32.toInt ≤ 5 := by omega
        refine s_iast E rfl (jv_lt hj_4 (by decide)) (z_in (u := z_31.toInt) rfl (by omega) (by omega)) dX10_layMinisters_78 ?_
        refine s_gen (P := fun v => Jv w v ∧ (v.2.2.1 96 8).toInt = (v38.2.2.1 96 8).toInt) ⟨(jv_a_104 hj_4 (by have hb_ := z32 z_32; omega) (by have hb_ := z32 z_32; omega)), rfl⟩ (fun v_33 hj_34 => ?_)
        obtain ⟨hj_34, hk_35k0⟩ := hj_34
        refine z_iinc (u := q38_1_3.toInt) (L2 := fun z_36 => [some (AR 95), some (AI z_36), some (AI z_28)]) E dX10_layMinisters_79 rfl rfl (by decide) (fun _ => rfl) (by decide) (by omega) (by omega) (fun z_36 hz_36 => ?_)
        refine s_goto (tgt := 38) E dX10_layMinisters_82 (by decide) ?_
        refine s_drop (i := 2) (L2 := [some (AR 95), some (AI z_36), none]) rfl ?_
        exact ih38 z_36 v_33 ⟨⟨by have hb_ := z32 z_36; omega, by have hb_ := z32 z_36; omega⟩, hj_34⟩ (by first | omega | decide | (dsimp only; omega) | (dsimp only; decide))
  ·
    refine s_aload_n E dX10_layMinisters_13 rfl rfl ?_
    refine s_gR (r := 104) E fg_X10_40 rfl rfl (jv_lt hj_1 (by decide)) (jv_r hj_1 (by decide +kernel)) dX10_layMinisters_14 ?_
    refine s_iload_n E dX10_layMinisters_17 rfl rfl ?_
    refine s_aload_n E dX10_layMinisters_18 rfl rfl ?_
    refine s_gR (r := 96) E fg_X10_9 rfl rfl (jv_lt hj_1 (by decide)) (jv_r hj_1 (by decide +kernel)) dX10_layMinisters_19 ?_
    refine s_bipush (v := 58) E dX10_layMinisters_22 (by decide) ?_
    refine s_iconst (v := 2) E dX10_layMinisters_24 (by decide) ?_
    refine s_iload_n E dX10_layMinisters_25 rfl rfl ?_
    refine z_imul (u := 2) (v := q2_1_0.toInt) E dX10_layMinisters_26 (by decide) rfl (by omega) (by omega) (fun z_37 hz_37 => ?_)
    refine z_iadd (u := 58) (v := z_37.toInt) E dX10_layMinisters_27 (by decide) rfl (by omega) (by omega) (fun z_38 hz_38 => ?_)
    refine s_iald E rfl (jv_lt hj_1 (by decide)) (z_in (u := z_38.toInt) rfl (by omega) (by omega)) dX10_layMinisters_28 ?_
    refine z_nm (P := fun z => z.toInt = (v2.2.2.1 96 z_38.toNatClampNeg).toInt ∧ 0 ≤ z.toInt ∧ z.toInt ≤ 5) ⟨rfl, (rs_v hj_1 (by decide) 0 5 58 72 2 z_38 z_38.toInt (by decide +kernel) rfl (by omega) (by omega) (by omega))⟩ (fun z_39 hz_39 => ?_)
    refine s_iast E rfl (jv_lt hj_1 (by decide)) (z_in (u := q2_1_0.toInt) rfl (by omega) (by omega)) dX10_layMinisters_29 ?_
    refine s_gen (P := fun v => Jv w v ∧ (v.2.2.1 96 6).toInt = (v2.2.2.1 96 6).toInt) ⟨(jv_a_104 hj_1 (by have hb_ := z32 z_39; omega) (by have hb_ := z32 z_39; omega)), rfl⟩ (fun v_40 hj_41 => ?_)
    obtain ⟨hj_41, hk_42k0⟩ := hj_41
    refine z_iinc (u := q2_1_0.toInt) (L2 := fun z_43 => [some (AR 95), some (AI z_43), none]) E dX10_layMinisters_30 rfl rfl (by decide) (fun _ => rfl) (by decide) (by omega) (by omega) (fun z_43 hz_43 => ?_)
    refine s_goto (tgt := 2) E dX10_layMinisters_33 (by decide) ?_
    exact ih2 z_43 v_40 ⟨⟨by have hb_ := z32 z_43; omega, by have hb_ := z32 z_43; omega⟩, hj_41⟩ (by first | omega | decide | (dsimp only; omega) | (dsimp only; decide))
set_option maxRecDepth 20000 in
set_option maxHeartbeats 2000000 in
theorem Z_X10_wayOf_95 (l : Launch) (D : va_G) (aC : Nat → ClassId) (b : Nat) (w : XW) (x1 : Int32) (x2 : Int32) (x3 : Int32) (hI : Iv w) (hx1 : 0 ≤ x1.toInt ∧ x1.toInt ≤ 9) (hx2 : 0 ≤ x2.toInt ∧ x2.toInt ≤ 7) (hx3 : 0 ≤ x3.toInt ∧ x3.toInt ≤ 7) : CnI l D aC b M_X10_wayOf 0 0 0 0 [AR 95, AI x1, AI x2, AI x3] w (fun r u => (0 ≤ r.toInt ∧ r.toInt ≤ 1000000000) ∧ (r.toInt = gw (w.2.2.1 102) x1.toInt.toNat x2.toInt.toNat x3.toInt.toNat) ∧ w = u) := by
  refine cn_I (own := RX10) (nm := "wayOf") (L0 := [some (AR 95), some (AI x1), some (AI x2), some (AI x3)]) (by decide +kernel) rfl rfl (Nat.le_of_ble_eq_true rfl) rfl ?_
  intro p e s m args below meth c E hin
  have hJ : Jv w w := jv_rfl hI
  refine s_aload_n E dX10_wayOf_0 rfl rfl ?_
  refine s_gR (r := 102) E fg_X10_34 rfl rfl (jv_lt hJ (by decide)) (jv_r hJ (by decide +kernel)) dX10_wayOf_1 ?_
  refine s_iload_n E dX10_wayOf_4 rfl rfl ?_
  refine s_bipush (v := 8) E dX10_wayOf_5 (by decide) ?_
  refine z_imul (u := x1.toInt) (v := 8) E dX10_wayOf_7 rfl (by decide) (by omega) (by omega) (fun z_1 hz_1 => ?_)
  refine s_iload_n E dX10_wayOf_8 rfl rfl ?_
  refine z_iadd (u := z_1.toInt) (v := x2.toInt) E dX10_wayOf_9 rfl rfl (by omega) (by omega) (fun z_2 hz_2 => ?_)
  refine s_bipush (v := 8) E dX10_wayOf_10 (by decide) ?_
  refine z_imul (u := z_2.toInt) (v := 8) E dX10_wayOf_12 rfl (by decide) (by omega) (by omega) (fun z_3 hz_3 => ?_)
  refine s_iload_n E dX10_wayOf_13 rfl rfl ?_
  refine z_iadd (u := z_3.toInt) (v := x3.toInt) E dX10_wayOf_14 rfl rfl (by omega) (by omega) (fun z_4 hz_4 => ?_)
  have hi_ : z_4.toNatClampNeg = 64 * x1.toInt.toNat + 8 * x2.toInt.toNat + x3.toInt.toNat := by have e_ : z_4.toNatClampNeg = z_4.toInt.toNat := rfl; omega
  refine s_iald E rfl (jv_lt hJ (by decide)) (z_in (u := z_4.toInt) rfl (by omega) (by omega)) dX10_wayOf_15 ?_
  refine z_nm (P := fun z => z.toInt = (w.2.2.1 102 z_4.toNatClampNeg).toInt ∧ 0 ≤ z.toInt ∧ z.toInt ≤ 1000000000) ⟨rfl, (ra_102 hJ _)⟩ (fun z_5 hz_5 => ?_)
  exact r_int E dX10_wayOf_16 ⟨⟨by have hb_ := z32 z_5; omega, by have hb_ := z32 z_5; omega⟩, (by unfold gw; rw [← hi_]; omega), rfl⟩
