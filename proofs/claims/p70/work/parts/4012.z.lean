set_option maxRecDepth 20000 in
set_option maxHeartbeats 2000000 in
theorem Z_X10_biddenOf_95 (l : Launch) (D : va_G) (aC : Nat → ClassId) (b : Nat) (w : XW) (x1 : Int32) (x2 : Int32) (hI : Iv w) (hx1 : 0 ≤ x1.toInt ∧ x1.toInt ≤ 5) (hx2 : 0 ≤ x2.toInt ∧ x2.toInt ≤ 14) : CnI l D aC b M_X10_biddenOf 0 0 0 0 [AR 95, AI x1, AI x2] w (fun r u => ((-1) ≤ r.toInt ∧ r.toInt ≤ 7 ∧ (¬ r.toInt = 0 ∨ (0 ≤ (w.2.2.1 96 7).toInt ∧ (w.2.2.1 96 7).toInt ≤ 10)) ∧ (¬ r.toInt = 0 ∨ (0 ≤ (w.2.2.1 96 8).toInt ∧ (w.2.2.1 96 8).toInt ≤ 30)) ∧ (r.toInt = 0 ∨ (0 ≤ (w.2.2.1 96 7).toInt ∧ (w.2.2.1 96 7).toInt ≤ 10)) ∧ (r.toInt = 0 ∨ (0 ≤ (w.2.2.1 96 8).toInt ∧ (w.2.2.1 96 8).toInt ≤ 30))) ∧ w = u) := by
  refine cn_I (own := RX10) (nm := "biddenOf") (L0 := [some (AR 95), some (AI x1), some (AI x2), none, none, none, none, none, none, none, none]) (by decide +kernel) rfl rfl (Nat.le_of_ble_eq_true rfl) rfl ?_
  intro p e s m args below meth c E hin
  have hJ : Jv w w := jv_rfl hI
  refine s_iconst (v := (-1)) E dX10_biddenOf_0 (by decide) ?_
  refine s_istore_n (L2 := [some (AR 95), some (AI x1), some (AI x2), some (AI (-1)), none, none, none, none, none, none, none]) E dX10_biddenOf_1 rfl (by decide) rfl ?_
  refine s_iconst (v := (-1)) E dX10_biddenOf_2 (by decide) ?_
  refine s_istore (L2 := [some (AR 95), some (AI x1), some (AI x2), some (AI (-1)), some (AI (-1)), none, none, none, none, none, none]) E dX10_biddenOf_3 (by decide) rfl ?_
  refine s_iconst (v := 0) E dX10_biddenOf_5 (by decide) ?_
  refine s_istore (L2 := [some (AR 95), some (AI x1), some (AI x2), some (AI (-1)), some (AI (-1)), some (AI 0), none, none, none, none, none]) E dX10_biddenOf_6 (by decide) rfl ?_
  refine z_loop (St := Int32 × Int32 × Int32) (Pi := fun ⟨q8_3_0, q8_4_0, q8_5_0⟩ v8 => ((-1) ≤ q8_3_0.toInt ∧ q8_3_0.toInt ≤ 7) ∧ ((-1) ≤ q8_4_0.toInt ∧ q8_4_0.toInt ≤ 14) ∧ (0 ≤ q8_5_0.toInt ∧ q8_5_0.toInt ≤ 40) ∧ w = v8) (Lf := fun ⟨q8_3_0, q8_4_0, q8_5_0⟩ => [some (AR 95), some (AI x1), some (AI x2), some (AI q8_3_0), some (AI q8_4_0), some (AI q8_5_0), none, none, none, none, none]) (fun ⟨q8_3_0, q8_4_0, q8_5_0⟩ _ => (41 - q8_5_0.toInt).toNat) ⟨(-1), (-1), 0⟩ ⟨⟨by decide, by decide⟩, ⟨by decide, by decide⟩, ⟨by decide, by decide⟩, rfl⟩ ?_
  rintro ⟨q8_3_0, q8_4_0, q8_5_0⟩ v8 ⟨hq8_3, hq8_4, hq8_5, hv_⟩ ih8
  subst hv_
  refine s_loc (L2 := [some (AR 95), some (AI x1), some (AI x2), some (AI q8_3_0), some (AI q8_4_0), some (AI q8_5_0), none, none, none, none, none]) rfl ?_
  refine s_iload E dX10_biddenOf_8 rfl ?_
  refine s_aload_n E dX10_biddenOf_10 rfl rfl ?_
  refine s_gR (r := 96) E fg_X10_9 rfl rfl (jv_lt hJ (by decide)) (jv_r hJ (by decide +kernel)) dX10_biddenOf_11 ?_
  refine s_bipush (v := 7) E dX10_biddenOf_14 (by decide) ?_
  refine s_iald E rfl (jv_lt hJ (by decide)) (z_in (u := 7) (by decide) (by omega) (by omega)) dX10_biddenOf_16 ?_
  refine z_nm (P := fun z => z.toInt = (w.2.2.1 96 7).toInt ∧ 0 ≤ z.toInt ∧ z.toInt ≤ 10) ⟨rfl, (rw_96_7 hJ)⟩ (fun z_2 hz_2 => ?_)
  refine s_aload_n E dX10_biddenOf_17 rfl rfl ?_
  refine s_gR (r := 96) E fg_X10_9 rfl rfl (jv_lt hJ (by decide)) (jv_r hJ (by decide +kernel)) dX10_biddenOf_18 ?_
  refine s_bipush (v := 8) E dX10_biddenOf_21 (by decide) ?_
  refine s_iald E rfl (jv_lt hJ (by decide)) (z_in (u := 8) (by decide) (by omega) (by omega)) dX10_biddenOf_23 ?_
  refine z_nm (P := fun z => z.toInt = (w.2.2.1 96 8).toInt ∧ 0 ≤ z.toInt ∧ z.toInt ≤ 30) ⟨rfl, (rw_96_8 hJ)⟩ (fun z_3 hz_3 => ?_)
  refine z_iadd (u := z_2.toInt) (v := z_3.toInt) E dX10_biddenOf_24 rfl rfl (by omega) (by omega) (fun z_4 hz_4 => ?_)
  refine z_icmp_ge (tgt := 210) (u := q8_5_0.toInt) (v := z_4.toInt) E dX10_biddenOf_25 (by decide) rfl rfl (fun h_5 => ?_) (fun h_5 => ?_)
  ·
    refine s_iload_n E dX10_biddenOf_210 rfl rfl ?_
    exact r_int E dX10_biddenOf_211 ⟨⟨by have hb_ := z32 q8_3_0; omega, by have hb_ := z32 q8_3_0; omega, by first | (right; decide) | (have hb_ := z32 q8_3_0; omega) | (have hb_ := z32 q8_3_0; have hc_ := z32 (w.2.2.1 96 7); omega), by first | (right; decide) | (have hb_ := z32 q8_3_0; omega) | (have hb_ := z32 q8_3_0; have hc_ := z32 (w.2.2.1 96 8); omega), by first | (right; decide) | (have hb_ := z32 q8_3_0; omega) | (have hb_ := z32 q8_3_0; have hc_ := z32 (w.2.2.1 96 7); omega), by first | (right; decide) | (have hb_ := z32 q8_3_0; omega) | (have hb_ := z32 q8_3_0; have hc_ := z32 (w.2.2.1 96 8); omega)⟩, rfl⟩
  ·
    refine s_iload E dX10_biddenOf_28 rfl ?_
    refine s_aload_n E dX10_biddenOf_30 rfl rfl ?_
    refine s_gR (r := 96) E fg_X10_9 rfl rfl (jv_lt hJ (by decide)) (jv_r hJ (by decide +kernel)) dX10_biddenOf_31 ?_
    refine s_bipush (v := 7) E dX10_biddenOf_34 (by decide) ?_
    refine s_iald E rfl (jv_lt hJ (by decide)) (z_in (u := 7) (by decide) (by omega) (by omega)) dX10_biddenOf_36 ?_
    refine z_nm (P := fun z => z.toInt = (w.2.2.1 96 7).toInt ∧ 0 ≤ z.toInt ∧ z.toInt ≤ 10) ⟨rfl, (rw_96_7 hJ)⟩ (fun z_6 hz_6 => ?_)
    refine z_icmp_ge (tgt := 44) (u := q8_5_0.toInt) (v := z_6.toInt) E dX10_biddenOf_37 (by decide) rfl rfl (fun h_7 => ?_) (fun h_7 => ?_)
    ·
      refine s_iconst (v := 0) E dX10_biddenOf_44 (by decide) ?_
      refine s_istore (L2 := [some (AR 95), some (AI x1), some (AI x2), some (AI q8_3_0), some (AI q8_4_0), some (AI q8_5_0), some (AI 0), none, none, none, none]) E dX10_biddenOf_45 (by decide) rfl ?_
      refine s_iload E dX10_biddenOf_47 rfl ?_
      refine z_if_eq (tgt := 56) (u := 0) E dX10_biddenOf_49 (by decide) (by decide) (fun h_8 => ?_) (fun h_8 => absurd h_8 (by omega))
      refine s_aload_n E dX10_biddenOf_56 rfl rfl ?_
      refine s_gR (r := 96) E fg_X10_9 rfl rfl (jv_lt hJ (by decide)) (jv_r hJ (by decide +kernel)) dX10_biddenOf_57 ?_
      refine s_bipush (v := 104) E dX10_biddenOf_60 (by decide) ?_
      refine s_iload E dX10_biddenOf_62 rfl ?_
      refine z_iadd (u := 104) (v := q8_5_0.toInt) E dX10_biddenOf_64 (by decide) rfl (by omega) (by omega) (fun z_9 hz_9 => ?_)
      refine s_aload_n E dX10_biddenOf_65 rfl rfl ?_
      refine s_gR (r := 96) E fg_X10_9 rfl rfl (jv_lt hJ (by decide)) (jv_r hJ (by decide +kernel)) dX10_biddenOf_66 ?_
      refine s_bipush (v := 7) E dX10_biddenOf_69 (by decide) ?_
      refine s_iald E rfl (jv_lt hJ (by decide)) (z_in (u := 7) (by decide) (by omega) (by omega)) dX10_biddenOf_71 ?_
      refine z_nm (P := fun z => z.toInt = (w.2.2.1 96 7).toInt ∧ 0 ≤ z.toInt ∧ z.toInt ≤ 10) ⟨rfl, (rw_96_7 hJ)⟩ (fun z_10 hz_10 => ?_)
      refine z_isub (u := z_9.toInt) (v := z_10.toInt) E dX10_biddenOf_72 rfl rfl (by omega) (by omega) (fun z_11 hz_11 => ?_)
      have hhz_11 : 104 ≤ z_11.toInt ∧ z_11.toInt ≤ 133 := by omega
      refine s_iald E rfl (jv_lt hJ (by decide)) (z_in (u := z_11.toInt) rfl (by omega) (by omega)) dX10_biddenOf_73 ?_
      refine z_nm (P := fun z => z.toInt = (w.2.2.1 96 z_11.toNatClampNeg).toInt ∧ 0 ≤ z.toInt ∧ z.toInt ≤ 100075 ∧ (104 ≤ z_11.toInt → z_11.toInt < 134 → okA z.toInt)) ⟨rfl, (rs_w hJ (by decide) 0 100075 104 133 1 z_11 z_11.toInt (by decide +kernel) rfl (by omega) (by omega) (by omega))⟩ (fun z_12 hz_12 => ?_)
      have hkz_12 := hz_12.2.2.2 (by omega) (by omega)
      unfold okA at hkz_12
      refine s_istore (L2 := [some (AR 95), some (AI x1), some (AI x2), some (AI q8_3_0), some (AI q8_4_0), some (AI q8_5_0), some (AI 0), some (AI z_12), none, none, none]) E dX10_biddenOf_74 (by decide) rfl ?_
      refine s_iload E dX10_biddenOf_76 rfl ?_
      refine s_ldc E k_1504 rfl dX10_biddenOf_78 ?_
      refine z_icmp_lt (tgt := 86) (u := z_12.toInt) (v := 100000) E dX10_biddenOf_80 (by decide) rfl (by decide) (fun h_13 => ?_) (fun h_13 => ?_)
      ·
        refine s_iload E dX10_biddenOf_86 rfl ?_
        refine z_if_eq (tgt := 106) (u := 0) E dX10_biddenOf_88 (by decide) (by decide) (fun h_14 => ?_) (fun h_14 => absurd h_14 (by omega))
        refine s_iload E dX10_biddenOf_106 rfl ?_
        refine s_sipush (v := 1000) E dX10_biddenOf_108 (by decide) ?_
        refine z_idiv (u := z_12.toInt) (v := 1000) E dX10_biddenOf_111 rfl (by decide) (by omega) (by omega) (fun z_15 hz_15 => ?_)
        refine s_istore (L2 := [some (AR 95), some (AI x1), some (AI x2), some (AI q8_3_0), some (AI q8_4_0), some (AI q8_5_0), some (AI 0), some (AI z_12), some (AI z_15), none, none]) E dX10_biddenOf_112 (by decide) rfl ?_
        refine s_iload E dX10_biddenOf_114 rfl ?_
        refine z_if_eq (tgt := 136) (u := 0) E dX10_biddenOf_116 (by decide) (by decide) (fun h_16 => ?_) (fun h_16 => absurd h_16 (by omega))
        refine s_iload E dX10_biddenOf_136 rfl ?_
        refine s_bipush (v := 100) E dX10_biddenOf_138 (by decide) ?_
        refine z_idiv (u := z_12.toInt) (v := 100) E dX10_biddenOf_140 rfl (by decide) (by omega) (by omega) (fun z_17 hz_17 => ?_)
        refine s_bipush (v := 10) E dX10_biddenOf_141 (by decide) ?_
        refine z_irem (u := z_17.toInt) (v := 10) E dX10_biddenOf_143 rfl (by decide) (by omega) (by omega) (fun z_18 hz_18 => ?_)
        have hhz_18 : 0 ≤ z_18.toInt ∧ z_18.toInt ≤ 7 := by omega
        refine s_istore (L2 := [some (AR 95), some (AI x1), some (AI x2), some (AI q8_3_0), some (AI q8_4_0), some (AI q8_5_0), some (AI 0), some (AI z_12), some (AI z_15), some (AI z_18), none]) E dX10_biddenOf_144 (by decide) rfl ?_
        refine s_iload E dX10_biddenOf_146 rfl ?_
        refine z_if_eq (tgt := 168) (u := 0) E dX10_biddenOf_148 (by decide) (by decide) (fun h_19 => ?_) (fun h_19 => absurd h_19 (by omega))
        refine s_iload E dX10_biddenOf_168 rfl ?_
        refine s_bipush (v := 100) E dX10_biddenOf_170 (by decide) ?_
        refine z_irem (u := z_12.toInt) (v := 100) E dX10_biddenOf_172 rfl (by decide) (by omega) (by omega) (fun z_20 hz_20 => ?_)
        refine s_istore (L2 := [some (AR 95), some (AI x1), some (AI x2), some (AI q8_3_0), some (AI q8_4_0), some (AI q8_5_0), some (AI 0), some (AI z_12), some (AI z_15), some (AI z_18), some (AI z_20)]) E dX10_biddenOf_173 (by decide) rfl ?_
        refine s_iload E dX10_biddenOf_175 rfl ?_
        refine s_iload_n E dX10_biddenOf_177 rfl rfl ?_
        refine z_icmp_ne (tgt := 204) (u := z_15.toInt) (v := x1.toInt) E dX10_biddenOf_178 (by decide) rfl rfl (fun h_21 => ?_) (fun h_21 => ?_)
        ·
          refine z_iinc (u := q8_5_0.toInt) (L2 := fun z_22 => [some (AR 95), some (AI x1), some (AI x2), some (AI q8_3_0), some (AI q8_4_0), some (AI z_22), some (AI 0), some (AI z_12), some (AI z_15), some (AI z_18), some (AI z_20)]) E dX10_biddenOf_204 rfl rfl (by decide) (fun _ => rfl) (by decide) (by omega) (by omega) (fun z_22 hz_22 => ?_)
          refine s_goto (tgt := 8) E dX10_biddenOf_207 (by decide) ?_
          refine s_drop (i := 6) (L2 := [some (AR 95), some (AI x1), some (AI x2), some (AI q8_3_0), some (AI q8_4_0), some (AI z_22), none, some (AI z_12), some (AI z_15), some (AI z_18), some (AI z_20)]) rfl ?_
          refine s_drop (i := 7) (L2 := [some (AR 95), some (AI x1), some (AI x2), some (AI q8_3_0), some (AI q8_4_0), some (AI z_22), none, none, some (AI z_15), some (AI z_18), some (AI z_20)]) rfl ?_
          refine s_drop (i := 8) (L2 := [some (AR 95), some (AI x1), some (AI x2), some (AI q8_3_0), some (AI q8_4_0), some (AI z_22), none, none, none, some (AI z_18), some (AI z_20)]) rfl ?_
          refine s_drop (i := 9) (L2 := [some (AR 95), some (AI x1), some (AI x2), some (AI q8_3_0), some (AI q8_4_0), some (AI z_22), none, none, none, none, some (AI z_20)]) rfl ?_
          refine s_drop (i := 10) (L2 := [some (AR 95), some (AI x1), some (AI x2), some (AI q8_3_0), some (AI q8_4_0), some (AI z_22), none, none, none, none, none]) rfl ?_
          exact ih8 ⟨q8_3_0, q8_4_0, z_22⟩ w ⟨⟨by have hb_ := z32 q8_3_0; omega, by have hb_ := z32 q8_3_0; omega⟩, ⟨by have hb_ := z32 q8_4_0; omega, by have hb_ := z32 q8_4_0; omega⟩, ⟨by have hb_ := z32 z_22; omega, by have hb_ := z32 z_22; omega⟩, rfl⟩ (by first | omega | decide | (dsimp only; omega) | (dsimp only; decide))
        ·
          refine s_iload E dX10_biddenOf_181 rfl ?_
          refine s_iload_n E dX10_biddenOf_183 rfl rfl ?_
          refine z_icmp_gt (tgt := 204) (u := z_20.toInt) (v := x2.toInt) E dX10_biddenOf_184 (by decide) rfl rfl (fun h_23 => ?_) (fun h_23 => ?_)
          ·
            refine z_iinc (u := q8_5_0.toInt) (L2 := fun z_24 => [some (AR 95), some (AI x1), some (AI x2), some (AI q8_3_0), some (AI q8_4_0), some (AI z_24), some (AI 0), some (AI z_12), some (AI z_15), some (AI z_18), some (AI z_20)]) E dX10_biddenOf_204 rfl rfl (by decide) (fun _ => rfl) (by decide) (by omega) (by omega) (fun z_24 hz_24 => ?_)
            refine s_goto (tgt := 8) E dX10_biddenOf_207 (by decide) ?_
            refine s_drop (i := 6) (L2 := [some (AR 95), some (AI x1), some (AI x2), some (AI q8_3_0), some (AI q8_4_0), some (AI z_24), none, some (AI z_12), some (AI z_15), some (AI z_18), some (AI z_20)]) rfl ?_
            refine s_drop (i := 7) (L2 := [some (AR 95), some (AI x1), some (AI x2), some (AI q8_3_0), some (AI q8_4_0), some (AI z_24), none, none, some (AI z_15), some (AI z_18), some (AI z_20)]) rfl ?_
            refine s_drop (i := 8) (L2 := [some (AR 95), some (AI x1), some (AI x2), some (AI q8_3_0), some (AI q8_4_0), some (AI z_24), none, none, none, some (AI z_18), some (AI z_20)]) rfl ?_
            refine s_drop (i := 9) (L2 := [some (AR 95), some (AI x1), some (AI x2), some (AI q8_3_0), some (AI q8_4_0), some (AI z_24), none, none, none, none, some (AI z_20)]) rfl ?_
            refine s_drop (i := 10) (L2 := [some (AR 95), some (AI x1), some (AI x2), some (AI q8_3_0), some (AI q8_4_0), some (AI z_24), none, none, none, none, none]) rfl ?_
            exact ih8 ⟨q8_3_0, q8_4_0, z_24⟩ w ⟨⟨by have hb_ := z32 q8_3_0; omega, by have hb_ := z32 q8_3_0; omega⟩, ⟨by have hb_ := z32 q8_4_0; omega, by have hb_ := z32 q8_4_0; omega⟩, ⟨by have hb_ := z32 z_24; omega, by have hb_ := z32 z_24; omega⟩, rfl⟩ (by first | omega | decide | (dsimp only; omega) | (dsimp only; decide))
          ·
            refine s_iload E dX10_biddenOf_187 rfl ?_
            refine s_iload E dX10_biddenOf_189 rfl ?_
            refine z_icmp_ge (tgt := 197) (u := z_20.toInt) (v := q8_4_0.toInt) E dX10_biddenOf_191 (by decide) rfl rfl (fun h_25 => ?_) (fun h_25 => ?_)
            ·
              refine s_iload E dX10_biddenOf_197 rfl ?_
              refine s_istore (L2 := [some (AR 95), some (AI x1), some (AI x2), some (AI q8_3_0), some (AI z_20), some (AI q8_5_0), some (AI 0), some (AI z_12), some (AI z_15), some (AI z_18), some (AI z_20)]) E dX10_biddenOf_199 (by decide) rfl ?_
              refine s_iload E dX10_biddenOf_201 rfl ?_
              refine s_istore_n (L2 := [some (AR 95), some (AI x1), some (AI x2), some (AI z_18), some (AI z_20), some (AI q8_5_0), some (AI 0), some (AI z_12), some (AI z_15), some (AI z_18), some (AI z_20)]) E dX10_biddenOf_203 rfl (by decide) rfl ?_
              refine z_iinc (u := q8_5_0.toInt) (L2 := fun z_26 => [some (AR 95), some (AI x1), some (AI x2), some (AI z_18), some (AI z_20), some (AI z_26), some (AI 0), some (AI z_12), some (AI z_15), some (AI z_18), some (AI z_20)]) E dX10_biddenOf_204 rfl rfl (by decide) (fun _ => rfl) (by decide) (by omega) (by omega) (fun z_26 hz_26 => ?_)
              refine s_goto (tgt := 8) E dX10_biddenOf_207 (by decide) ?_
              refine s_drop (i := 6) (L2 := [some (AR 95), some (AI x1), some (AI x2), some (AI z_18), some (AI z_20), some (AI z_26), none, some (AI z_12), some (AI z_15), some (AI z_18), some (AI z_20)]) rfl ?_
              refine s_drop (i := 7) (L2 := [some (AR 95), some (AI x1), some (AI x2), some (AI z_18), some (AI z_20), some (AI z_26), none, none, some (AI z_15), some (AI z_18), some (AI z_20)]) rfl ?_
              refine s_drop (i := 8) (L2 := [some (AR 95), some (AI x1), some (AI x2), some (AI z_18), some (AI z_20), some (AI z_26), none, none, none, some (AI z_18), some (AI z_20)]) rfl ?_
              refine s_drop (i := 9) (L2 := [some (AR 95), some (AI x1), some (AI x2), some (AI z_18), some (AI z_20), some (AI z_26), none, none, none, none, some (AI z_20)]) rfl ?_
              refine s_drop (i := 10) (L2 := [some (AR 95), some (AI x1), some (AI x2), some (AI z_18), some (AI z_20), some (AI z_26), none, none, none, none, none]) rfl ?_
              exact ih8 ⟨z_18, z_20, z_26⟩ w ⟨⟨by have hb_ := z32 z_18; omega, by have hb_ := z32 z_18; omega⟩, ⟨by have hb_ := z32 z_20; omega, by have hb_ := z32 z_20; omega⟩, ⟨by have hb_ := z32 z_26; omega, by have hb_ := z32 z_26; omega⟩, rfl⟩ (by first | omega | decide | (dsimp only; omega) | (dsimp only; decide))
            ·
              refine s_goto (tgt := 204) E dX10_biddenOf_194 (by decide) ?_
              refine z_iinc (u := q8_5_0.toInt) (L2 := fun z_27 => [some (AR 95), some (AI x1), some (AI x2), some (AI q8_3_0), some (AI q8_4_0), some (AI z_27), some (AI 0), some (AI z_12), some (AI z_15), some (AI z_18), some (AI z_20)]) E dX10_biddenOf_204 rfl rfl (by decide) (fun _ => rfl) (by decide) (by omega) (by omega) (fun z_27 hz_27 => ?_)
              refine s_goto (tgt := 8) E dX10_biddenOf_207 (by decide) ?_
              refine s_drop (i := 6) (L2 := [some (AR 95), some (AI x1), some (AI x2), some (AI q8_3_0), some (AI q8_4_0), some (AI z_27), none, some (AI z_12), some (AI z_15), some (AI z_18), some (AI z_20)]) rfl ?_
              refine s_drop (i := 7) (L2 := [some (AR 95), some (AI x1), some (AI x2), some (AI q8_3_0), some (AI q8_4_0), some (AI z_27), none, none, some (AI z_15), some (AI z_18), some (AI z_20)]) rfl ?_
              refine s_drop (i := 8) (L2 := [some (AR 95), some (AI x1), some (AI x2), some (AI q8_3_0), some (AI q8_4_0), some (AI z_27), none, none, none, some (AI z_18), some (AI z_20)]) rfl ?_
              refine s_drop (i := 9) (L2 := [some (AR 95), some (AI x1), some (AI x2), some (AI q8_3_0), some (AI q8_4_0), some (AI z_27), none, none, none, none, some (AI z_20)]) rfl ?_
              refine s_drop (i := 10) (L2 := [some (AR 95), some (AI x1), some (AI x2), some (AI q8_3_0), some (AI q8_4_0), some (AI z_27), none, none, none, none, none]) rfl ?_
              exact ih8 ⟨q8_3_0, q8_4_0, z_27⟩ w ⟨⟨by have hb_ := z32 q8_3_0; omega, by have hb_ := z32 q8_3_0; omega⟩, ⟨by have hb_ := z32 q8_4_0; omega, by have hb_ := z32 q8_4_0; omega⟩, ⟨by have hb_ := z32 z_27; omega, by have hb_ := z32 z_27; omega⟩, rfl⟩ (by first | omega | decide | (dsimp only; omega) | (dsimp only; decide))
      ·
        refine s_goto (tgt := 204) E dX10_biddenOf_83 (by decide) ?_
        refine z_iinc (u := q8_5_0.toInt) (L2 := fun z_28 => [some (AR 95), some (AI x1), some (AI x2), some (AI q8_3_0), some (AI q8_4_0), some (AI z_28), some (AI 0), some (AI z_12), none, none, none]) E dX10_biddenOf_204 rfl rfl (by decide) (fun _ => rfl) (by decide) (by omega) (by omega) (fun z_28 hz_28 => ?_)
        refine s_goto (tgt := 8) E dX10_biddenOf_207 (by decide) ?_
        refine s_drop (i := 6) (L2 := [some (AR 95), some (AI x1), some (AI x2), some (AI q8_3_0), some (AI q8_4_0), some (AI z_28), none, some (AI z_12), none, none, none]) rfl ?_
        refine s_drop (i := 7) (L2 := [some (AR 95), some (AI x1), some (AI x2), some (AI q8_3_0), some (AI q8_4_0), some (AI z_28), none, none, none, none, none]) rfl ?_
        exact ih8 ⟨q8_3_0, q8_4_0, z_28⟩ w ⟨⟨by have hb_ := z32 q8_3_0; omega, by have hb_ := z32 q8_3_0; omega⟩, ⟨by have hb_ := z32 q8_4_0; omega, by have hb_ := z32 q8_4_0; omega⟩, ⟨by have hb_ := z32 z_28; omega, by have hb_ := z32 z_28; omega⟩, rfl⟩ (by first | omega | decide | (dsimp only; omega) | (dsimp only; decide))
    ·
      refine s_iconst (v := 1) E dX10_biddenOf_40 (by decide) ?_
      refine s_goto (tgt := 45) E dX10_biddenOf_41 (by decide) ?_
      refine s_istore (L2 := [some (AR 95), some (AI x1), some (AI x2), some (AI q8_3_0), some (AI q8_4_0), some (AI q8_5_0), some (AI 1), none, none, none, none]) E dX10_biddenOf_45 (by decide) rfl ?_
      refine s_iload E dX10_biddenOf_47 rfl ?_
      refine z_if_eq (tgt := 56) (u := 1) E dX10_biddenOf_49 (by decide) (by decide) (fun h_29 => absurd h_29 (by omega)) (fun h_29 => ?_)
      refine s_iconst (v := 0) E dX10_biddenOf_52 (by decide) ?_
      refine s_goto (tgt := 74) E dX10_biddenOf_53 (by decide) ?_
      refine s_istore (L2 := [some (AR 95), some (AI x1), some (AI x2), some (AI q8_3_0), some (AI q8_4_0), some (AI q8_5_0), some (AI 1), some (AI 0), none, none, none]) E dX10_biddenOf_74 (by decide) rfl ?_
      refine s_iload E dX10_biddenOf_76 rfl ?_
      refine s_ldc E k_1504 rfl dX10_biddenOf_78 ?_
      refine z_icmp_lt (tgt := 86) (u := 0) (v := 100000) E dX10_biddenOf_80 (by decide) (by decide) (by decide) (fun h_30 => ?_) (fun h_30 => absurd h_30 (by omega))
      refine s_iload E dX10_biddenOf_86 rfl ?_
      refine z_if_eq (tgt := 106) (u := 1) E dX10_biddenOf_88 (by decide) (by decide) (fun h_31 => absurd h_31 (by omega)) (fun h_31 => ?_)
      refine s_aload_n E dX10_biddenOf_91 rfl rfl ?_
      refine s_gR (r := 96) E fg_X10_9 rfl rfl (jv_lt hJ (by decide)) (jv_r hJ (by decide +kernel)) dX10_biddenOf_92 ?_
      refine s_bipush (v := 74) E dX10_biddenOf_95 (by decide) ?_
      refine s_iconst (v := 3) E dX10_biddenOf_97 (by decide) ?_
      refine s_iload E dX10_biddenOf_98 rfl ?_
      refine z_imul (u := 3) (v := q8_5_0.toInt) E dX10_biddenOf_100 (by decide) rfl (by omega) (by omega) (fun z_32 hz_32 => ?_)
      refine z_iadd (u := 74) (v := z_32.toInt) E dX10_biddenOf_101 (by decide) rfl (by omega) (by omega) (fun z_33 hz_33 => ?_)
      refine s_iald E rfl (jv_lt hJ (by decide)) (z_in (u := z_33.toInt) rfl (by omega) (by omega)) dX10_biddenOf_102 ?_
      refine z_nm (P := fun z => z.toInt = (w.2.2.1 96 z_33.toNatClampNeg).toInt ∧ 0 ≤ z.toInt ∧ z.toInt ≤ 5) ⟨rfl, (rs_v hJ (by decide) 0 5 74 101 3 z_33 z_33.toInt (by decide +kernel) rfl (by omega) (by omega) (by omega))⟩ (fun z_34 hz_34 => ?_)
      refine s_goto (tgt := 112) E dX10_biddenOf_103 (by decide) ?_
      refine s_istore (L2 := [some (AR 95), some (AI x1), some (AI x2), some (AI q8_3_0), some (AI q8_4_0), some (AI q8_5_0), some (AI 1), some (AI 0), some (AI z_34), none, none]) E dX10_biddenOf_112 (by decide) rfl ?_
      refine s_iload E dX10_biddenOf_114 rfl ?_
      refine z_if_eq (tgt := 136) (u := 1) E dX10_biddenOf_116 (by decide) (by decide) (fun h_35 => absurd h_35 (by omega)) (fun h_35 => ?_)
      refine s_aload_n E dX10_biddenOf_119 rfl rfl ?_
      refine s_gR (r := 96) E fg_X10_9 rfl rfl (jv_lt hJ (by decide)) (jv_r hJ (by decide +kernel)) dX10_biddenOf_120 ?_
      refine s_bipush (v := 74) E dX10_biddenOf_123 (by decide) ?_
      refine s_iconst (v := 3) E dX10_biddenOf_125 (by decide) ?_
      refine s_iload E dX10_biddenOf_126 rfl ?_
      refine z_imul (u := 3) (v := q8_5_0.toInt) E dX10_biddenOf_128 (by decide) rfl (by omega) (by omega) (fun z_36 hz_36 => ?_)
      refine z_iadd (u := 74) (v := z_36.toInt) E dX10_biddenOf_129 (by decide) rfl (by omega) (by omega) (fun z_37 hz_37 => ?_)
      refine s_iconst (v := 1) E dX10_biddenOf_130 (by decide) ?_
      refine z_iadd (u := z_37.toInt) (v := 1) E dX10_biddenOf_131 rfl (by decide) (by omega) (by omega) (fun z_38 hz_38 => ?_)
      refine s_iald E rfl (jv_lt hJ (by decide)) (z_in (u := z_38.toInt) rfl (by omega) (by omega)) dX10_biddenOf_132 ?_
      refine z_nm (P := fun z => z.toInt = (w.2.2.1 96 z_38.toNatClampNeg).toInt ∧ 0 ≤ z.toInt ∧ z.toInt ≤ 7) ⟨rfl, (rs_v hJ (by decide) 0 7 75 102 3 z_38 z_38.toInt (by decide +kernel) rfl (by omega) (by omega) (by omega))⟩ (fun z_39 hz_39 => ?_)
      refine s_goto (tgt := 144) E dX10_biddenOf_133 (by decide) ?_
      refine s_istore (L2 := [some (AR 95), some (AI x1), some (AI x2), some (AI q8_3_0), some (AI q8_4_0), some (AI q8_5_0), some (AI 1), some (AI 0), some (AI z_34), some (AI z_39), none]) E dX10_biddenOf_144 (by decide) rfl ?_
      refine s_iload E dX10_biddenOf_146 rfl ?_
      refine z_if_eq (tgt := 168) (u := 1) E dX10_biddenOf_148 (by decide) (by decide) (fun h_40 => absurd h_40 (by omega)) (fun h_40 => ?_)
      refine s_aload_n E dX10_biddenOf_151 rfl rfl ?_
      refine s_gR (r := 96) E fg_X10_9 rfl rfl (jv_lt hJ (by decide)) (jv_r hJ (by decide +kernel)) dX10_biddenOf_152 ?_
      refine s_bipush (v := 74) E dX10_biddenOf_155 (by decide) ?_
      refine s_iconst (v := 3) E dX10_biddenOf_157 (by decide) ?_
      refine s_iload E dX10_biddenOf_158 rfl ?_
      refine z_imul (u := 3) (v := q8_5_0.toInt) E dX10_biddenOf_160 (by decide) rfl (by omega) (by omega) (fun z_41 hz_41 => ?_)
      refine z_iadd (u := 74) (v := z_41.toInt) E dX10_biddenOf_161 (by decide) rfl (by omega) (by omega) (fun z_42 hz_42 => ?_)
      refine s_iconst (v := 2) E dX10_biddenOf_162 (by decide) ?_
      refine z_iadd (u := z_42.toInt) (v := 2) E dX10_biddenOf_163 rfl (by decide) (by omega) (by omega) (fun z_43 hz_43 => ?_)
      refine s_iald E rfl (jv_lt hJ (by decide)) (z_in (u := z_43.toInt) rfl (by omega) (by omega)) dX10_biddenOf_164 ?_
      refine z_nm (P := fun z => z.toInt = (w.2.2.1 96 z_43.toNatClampNeg).toInt ∧ 0 ≤ z.toInt ∧ z.toInt ≤ 13) ⟨rfl, (rs_v hJ (by decide) 0 13 76 103 3 z_43 z_43.toInt (by decide +kernel) rfl (by omega) (by omega) (by omega))⟩ (fun z_44 hz_44 => ?_)
      refine s_goto (tgt := 173) E dX10_biddenOf_165 (by decide) ?_
      refine s_istore (L2 := [some (AR 95), some (AI x1), some (AI x2), some (AI q8_3_0), some (AI q8_4_0), some (AI q8_5_0), some (AI 1), some (AI 0), some (AI z_34), some (AI z_39), some (AI z_44)]) E dX10_biddenOf_173 (by decide) rfl ?_
      refine s_iload E dX10_biddenOf_175 rfl ?_
      refine s_iload_n E dX10_biddenOf_177 rfl rfl ?_
      refine z_icmp_ne (tgt := 204) (u := z_34.toInt) (v := x1.toInt) E dX10_biddenOf_178 (by decide) rfl rfl (fun h_45 => ?_) (fun h_45 => ?_)
      ·
        refine z_iinc (u := q8_5_0.toInt) (L2 := fun z_46 => [some (AR 95), some (AI x1), some (AI x2), some (AI q8_3_0), some (AI q8_4_0), some (AI z_46), some (AI 1), some (AI 0), some (AI z_34), some (AI z_39), some (AI z_44)]) E dX10_biddenOf_204 rfl rfl (by decide) (fun _ => rfl) (by decide) (by omega) (by omega) (fun z_46 hz_46 => ?_)
        refine s_goto (tgt := 8) E dX10_biddenOf_207 (by decide) ?_
        refine s_drop (i := 6) (L2 := [some (AR 95), some (AI x1), some (AI x2), some (AI q8_3_0), some (AI q8_4_0), some (AI z_46), none, some (AI 0), some (AI z_34), some (AI z_39), some (AI z_44)]) rfl ?_
        refine s_drop (i := 7) (L2 := [some (AR 95), some (AI x1), some (AI x2), some (AI q8_3_0), some (AI q8_4_0), some (AI z_46), none, none, some (AI z_34), some (AI z_39), some (AI z_44)]) rfl ?_
        refine s_drop (i := 8) (L2 := [some (AR 95), some (AI x1), some (AI x2), some (AI q8_3_0), some (AI q8_4_0), some (AI z_46), none, none, none, some (AI z_39), some (AI z_44)]) rfl ?_
        refine s_drop (i := 9) (L2 := [some (AR 95), some (AI x1), some (AI x2), some (AI q8_3_0), some (AI q8_4_0), some (AI z_46), none, none, none, none, some (AI z_44)]) rfl ?_
        refine s_drop (i := 10) (L2 := [some (AR 95), some (AI x1), some (AI x2), some (AI q8_3_0), some (AI q8_4_0), some (AI z_46), none, none, none, none, none]) rfl ?_
        exact ih8 ⟨q8_3_0, q8_4_0, z_46⟩ w ⟨⟨by have hb_ := z32 q8_3_0; omega, by have hb_ := z32 q8_3_0; omega⟩, ⟨by have hb_ := z32 q8_4_0; omega, by have hb_ := z32 q8_4_0; omega⟩, ⟨by have hb_ := z32 z_46; omega, by have hb_ := z32 z_46; omega⟩, rfl⟩ (by first | omega | decide | (dsimp only; omega) | (dsimp only; decide))
      ·
        refine s_iload E dX10_biddenOf_181 rfl ?_
        refine s_iload_n E dX10_biddenOf_183 rfl rfl ?_
        refine z_icmp_gt (tgt := 204) (u := z_44.toInt) (v := x2.toInt) E dX10_biddenOf_184 (by decide) rfl rfl (fun h_47 => ?_) (fun h_47 => ?_)
        ·
          refine z_iinc (u := q8_5_0.toInt) (L2 := fun z_48 => [some (AR 95), some (AI x1), some (AI x2), some (AI q8_3_0), some (AI q8_4_0), some (AI z_48), some (AI 1), some (AI 0), some (AI z_34), some (AI z_39), some (AI z_44)]) E dX10_biddenOf_204 rfl rfl (by decide) (fun _ => rfl) (by decide) (by omega) (by omega) (fun z_48 hz_48 => ?_)
          refine s_goto (tgt := 8) E dX10_biddenOf_207 (by decide) ?_
          refine s_drop (i := 6) (L2 := [some (AR 95), some (AI x1), some (AI x2), some (AI q8_3_0), some (AI q8_4_0), some (AI z_48), none, some (AI 0), some (AI z_34), some (AI z_39), some (AI z_44)]) rfl ?_
          refine s_drop (i := 7) (L2 := [some (AR 95), some (AI x1), some (AI x2), some (AI q8_3_0), some (AI q8_4_0), some (AI z_48), none, none, some (AI z_34), some (AI z_39), some (AI z_44)]) rfl ?_
          refine s_drop (i := 8) (L2 := [some (AR 95), some (AI x1), some (AI x2), some (AI q8_3_0), some (AI q8_4_0), some (AI z_48), none, none, none, some (AI z_39), some (AI z_44)]) rfl ?_
          refine s_drop (i := 9) (L2 := [some (AR 95), some (AI x1), some (AI x2), some (AI q8_3_0), some (AI q8_4_0), some (AI z_48), none, none, none, none, some (AI z_44)]) rfl ?_
          refine s_drop (i := 10) (L2 := [some (AR 95), some (AI x1), some (AI x2), some (AI q8_3_0), some (AI q8_4_0), some (AI z_48), none, none, none, none, none]) rfl ?_
          exact ih8 ⟨q8_3_0, q8_4_0, z_48⟩ w ⟨⟨by have hb_ := z32 q8_3_0; omega, by have hb_ := z32 q8_3_0; omega⟩, ⟨by have hb_ := z32 q8_4_0; omega, by have hb_ := z32 q8_4_0; omega⟩, ⟨by have hb_ := z32 z_48; omega, by have hb_ := z32 z_48; omega⟩, rfl⟩ (by first | omega | decide | (dsimp only; omega) | (dsimp only; decide))
        ·
          refine s_iload E dX10_biddenOf_187 rfl ?_
          refine s_iload E dX10_biddenOf_189 rfl ?_
          refine z_icmp_ge (tgt := 197) (u := z_44.toInt) (v := q8_4_0.toInt) E dX10_biddenOf_191 (by decide) rfl rfl (fun h_49 => ?_) (fun h_49 => ?_)
          ·
            refine s_iload E dX10_biddenOf_197 rfl ?_
            refine s_istore (L2 := [some (AR 95), some (AI x1), some (AI x2), some (AI q8_3_0), some (AI z_44), some (AI q8_5_0), some (AI 1), some (AI 0), some (AI z_34), some (AI z_39), some (AI z_44)]) E dX10_biddenOf_199 (by decide) rfl ?_
            refine s_iload E dX10_biddenOf_201 rfl ?_
            refine s_istore_n (L2 := [some (AR 95), some (AI x1), some (AI x2), some (AI z_39), some (AI z_44), some (AI q8_5_0), some (AI 1), some (AI 0), some (AI z_34), some (AI z_39), some (AI z_44)]) E dX10_biddenOf_203 rfl (by decide) rfl ?_
            refine z_iinc (u := q8_5_0.toInt) (L2 := fun z_50 => [some (AR 95), some (AI x1), some (AI x2), some (AI z_39), some (AI z_44), some (AI z_50), some (AI 1), some (AI 0), some (AI z_34), some (AI z_39), some (AI z_44)]) E dX10_biddenOf_204 rfl rfl (by decide) (fun _ => rfl) (by decide) (by omega) (by omega) (fun z_50 hz_50 => ?_)
            refine s_goto (tgt := 8) E dX10_biddenOf_207 (by decide) ?_
            refine s_drop (i := 6) (L2 := [some (AR 95), some (AI x1), some (AI x2), some (AI z_39), some (AI z_44), some (AI z_50), none, some (AI 0), some (AI z_34), some (AI z_39), some (AI z_44)]) rfl ?_
            refine s_drop (i := 7) (L2 := [some (AR 95), some (AI x1), some (AI x2), some (AI z_39), some (AI z_44), some (AI z_50), none, none, some (AI z_34), some (AI z_39), some (AI z_44)]) rfl ?_
            refine s_drop (i := 8) (L2 := [some (AR 95), some (AI x1), some (AI x2), some (AI z_39), some (AI z_44), some (AI z_50), none, none, none, some (AI z_39), some (AI z_44)]) rfl ?_
            refine s_drop (i := 9) (L2 := [some (AR 95), some (AI x1), some (AI x2), some (AI z_39), some (AI z_44), some (AI z_50), none, none, none, none, some (AI z_44)]) rfl ?_
            refine s_drop (i := 10) (L2 := [some (AR 95), some (AI x1), some (AI x2), some (AI z_39), some (AI z_44), some (AI z_50), none, none, none, none, none]) rfl ?_
            exact ih8 ⟨z_39, z_44, z_50⟩ w ⟨⟨by have hb_ := z32 z_39; omega, by have hb_ := z32 z_39; omega⟩, ⟨by have hb_ := z32 z_44; omega, by have hb_ := z32 z_44; omega⟩, ⟨by have hb_ := z32 z_50; omega, by have hb_ := z32 z_50; omega⟩, rfl⟩ (by first | omega | decide | (dsimp only; omega) | (dsimp only; decide))
          ·
            refine s_goto (tgt := 204) E dX10_biddenOf_194 (by decide) ?_
            refine z_iinc (u := q8_5_0.toInt) (L2 := fun z_51 => [some (AR 95), some (AI x1), some (AI x2), some (AI q8_3_0), some (AI q8_4_0), some (AI z_51), some (AI 1), some (AI 0), some (AI z_34), some (AI z_39), some (AI z_44)]) E dX10_biddenOf_204 rfl rfl (by decide) (fun _ => rfl) (by decide) (by omega) (by omega) (fun z_51 hz_51 => ?_)
            refine s_goto (tgt := 8) E dX10_biddenOf_207 (by decide) ?_
            refine s_drop (i := 6) (L2 := [some (AR 95), some (AI x1), some (AI x2), some (AI q8_3_0), some (AI q8_4_0), some (AI z_51), none, some (AI 0), some (AI z_34), some (AI z_39), some (AI z_44)]) rfl ?_
            refine s_drop (i := 7) (L2 := [some (AR 95), some (AI x1), some (AI x2), some (AI q8_3_0), some (AI q8_4_0), some (AI z_51), none, none, some (AI z_34), some (AI z_39), some (AI z_44)]) rfl ?_
            refine s_drop (i := 8) (L2 := [some (AR 95), some (AI x1), some (AI x2), some (AI q8_3_0), some (AI q8_4_0), some (AI z_51), none, none, none, some (AI z_39), some (AI z_44)]) rfl ?_
            refine s_drop (i := 9) (L2 := [some (AR 95), some (AI x1), some (AI x2), some (AI q8_3_0), some (AI q8_4_0), some (AI z_51), none, none, none, none, some (AI z_44)]) rfl ?_
            refine s_drop (i := 10) (L2 := [some (AR 95), some (AI x1), some (AI x2), some (AI q8_3_0), some (AI q8_4_0), some (AI z_51), none, none, none, none, none]) rfl ?_
            exact ih8 ⟨q8_3_0, q8_4_0, z_51⟩ w ⟨⟨by have hb_ := z32 q8_3_0; omega, by have hb_ := z32 q8_3_0; omega⟩, ⟨by have hb_ := z32 q8_4_0; omega, by have hb_ := z32 q8_4_0; omega⟩, ⟨by have hb_ := z32 z_51; omega, by have hb_ := z32 z_51; omega⟩, rfl⟩ (by first | omega | decide | (dsimp only; omega) | (dsimp only; decide))
set_option maxRecDepth 20000 in
set_option maxHeartbeats 2000000 in
theorem Z_X10_wideOf_95 (l : Launch) (D : va_G) (aC : Nat → ClassId) (b : Nat) (w : XW) (x1 : Int32) (hI : Iv w) (hx1 : 0 ≤ x1.toInt ∧ x1.toInt ≤ 5) : CnI l D aC b M_X10_wideOf 0 0 0 0 [AR 95, AI x1] w (fun r u => (0 ≤ r.toInt ∧ r.toInt ≤ 9) ∧ (r.toInt = (w.2.2.1 96 (47 + 2 * x1.toInt.toNat)).toInt) ∧ w = u) := by
  refine cn_I (own := RX10) (nm := "wideOf") (L0 := [some (AR 95), some (AI x1)]) (by decide +kernel) rfl rfl (Nat.le_of_ble_eq_true rfl) rfl ?_
  intro p e s m args below meth c E hin
  have hJ : Jv w w := jv_rfl hI
  refine s_aload_n E dX10_wideOf_0 rfl rfl ?_
  refine s_gR (r := 96) E fg_X10_9 rfl rfl (jv_lt hJ (by decide)) (jv_r hJ (by decide +kernel)) dX10_wideOf_1 ?_
  refine s_bipush (v := 46) E dX10_wideOf_4 (by decide) ?_
  refine s_iconst (v := 2) E dX10_wideOf_6 (by decide) ?_
  refine s_iload_n E dX10_wideOf_7 rfl rfl ?_
  refine z_imul (u := 2) (v := x1.toInt) E dX10_wideOf_8 (by decide) rfl (by omega) (by omega) (fun z_1 hz_1 => ?_)
  refine z_iadd (u := 46) (v := z_1.toInt) E dX10_wideOf_9 (by decide) rfl (by omega) (by omega) (fun z_2 hz_2 => ?_)
  refine s_iconst (v := 1) E dX10_wideOf_10 (by decide) ?_
  refine z_iadd (u := z_2.toInt) (v := 1) E dX10_wideOf_11 rfl (by decide) (by omega) (by omega) (fun z_3 hz_3 => ?_)
  have hi_ : z_3.toNatClampNeg = 47 + 2 * x1.toInt.toNat := by have e_ : z_3.toNatClampNeg = z_3.toInt.toNat := rfl; omega
  refine s_iald E rfl (jv_lt hJ (by decide)) (z_in (u := z_3.toInt) rfl (by omega) (by omega)) dX10_wideOf_12 ?_
  refine z_nm (P := fun z => z.toInt = (w.2.2.1 96 z_3.toNatClampNeg).toInt ∧ 0 ≤ z.toInt ∧ z.toInt ≤ 9) ⟨rfl, (rs_v hJ (by decide) 0 9 47 57 2 z_3 z_3.toInt (by decide +kernel) rfl (by omega) (by omega) (by omega))⟩ (fun z_4 hz_4 => ?_)
  exact r_int E dX10_wideOf_13 ⟨⟨by have hb_ := z32 z_4; omega, by have hb_ := z32 z_4; omega⟩, (by rw [← hi_]; omega), rfl⟩
set_option maxRecDepth 20000 in
set_option maxHeartbeats 2000000 in
theorem Z_X10_nextRoom_95 (l : Launch) (D : va_G) (aC : Nat → ClassId) (b : Nat) (w : XW) (x1 : Int32) (x2 : Int32) (x3 : Int32) (hI : Iv w) (hx1 : 0 ≤ x1.toInt ∧ x1.toInt ≤ 5) (hx2 : 0 ≤ x2.toInt ∧ x2.toInt ≤ 7) (hx3 : (-1) ≤ x3.toInt ∧ x3.toInt ≤ 7) (hy1 : x1.toInt < (w.2.2.1 96 5).toInt) (hy2 : y_Ls (w.2.2.1 102) 10) : CnI l D aC b M_X10_nextRoom 1 23 0 0 [AR 95, AI x1, AI x2, AI x3] w (fun r u => (0 ≤ r.toInt ∧ r.toInt ≤ 7) ∧ w = u) := by
  refine cn_I (own := RX10) (nm := "nextRoom") (L0 := [some (AR 95), some (AI x1), some (AI x2), some (AI x3), none, none]) (by decide +kernel) rfl rfl (Nat.le_of_ble_eq_true rfl) rfl ?_
  intro p e s m args below meth c E hin
  have hJ : Jv w w := jv_rfl hI
  refine s_aload_n E dX10_nextRoom_0 rfl rfl ?_
  refine s_iload_n E dX10_nextRoom_1 rfl rfl ?_
  refine s_vI (As := [AI x1]) (S := []) E (Z_X10_wideOf_95 l D aC b w x1 hJ.1 ⟨by have hb_ := z32 x1; omega, by have hb_ := z32 x1; omega⟩) cv_X10_238 rfl rfl rfl (jv_lt hJ (by decide)) (Nat.le_of_ble_eq_true rfl) (Nat.le_of_ble_eq_true rfl) ⟨(Nat.le_of_ble_eq_true rfl), (Nat.le_of_ble_eq_true rfl)⟩ (Nat.le_of_ble_eq_true rfl) dX10_nextRoom_2 (fun z_3 u_1 hp_2 => ?_)
  obtain ⟨hz_3, hxz_3, hp_2⟩ := hp_2
  subst hp_2
  have hw_ := jv_wide hJ x1.toInt.toNat (by omega) (by omega)
  have hrz_3 : 1 ≤ z_3.toInt ∧ z_3.toInt ≤ 9 := by omega
  refine s_istore (L2 := [some (AR 95), some (AI x1), some (AI x2), some (AI x3), some (AI z_3), none]) E dX10_nextRoom_5 (by decide) rfl ?_
  refine s_iload_n E dX10_nextRoom_7 rfl rfl ?_
  refine s_iconst (v := (-1)) E dX10_nextRoom_8 (by decide) ?_
  refine z_icmp_eq (tgt := 30) (u := x3.toInt) (v := (-1)) E dX10_nextRoom_9 (by decide) rfl (by decide) (fun h_5 => ?_) (fun h_5 => ?_)
  ·
    refine s_iload_n E dX10_nextRoom_30 rfl rfl ?_
    exact r_int E dX10_nextRoom_31 ⟨⟨by have hb_ := z32 x2; omega, by have hb_ := z32 x2; omega⟩, rfl⟩
  ·
    refine s_iload_n E dX10_nextRoom_12 rfl rfl ?_
    refine s_iload_n E dX10_nextRoom_13 rfl rfl ?_
    refine z_icmp_eq (tgt := 30) (u := x2.toInt) (v := x3.toInt) E dX10_nextRoom_14 (by decide) rfl rfl (fun h_6 => ?_) (fun h_6 => ?_)
    ·
      refine s_iload_n E dX10_nextRoom_30 rfl rfl ?_
      exact r_int E dX10_nextRoom_31 ⟨⟨by have hb_ := z32 x2; omega, by have hb_ := z32 x2; omega⟩, rfl⟩
    ·
      refine s_aload_n E dX10_nextRoom_17 rfl rfl ?_
      refine s_iload E dX10_nextRoom_18 rfl ?_
      refine s_iload_n E dX10_nextRoom_20 rfl rfl ?_
      refine s_iload_n E dX10_nextRoom_21 rfl rfl ?_
      refine s_vI (As := [AI z_3, AI x2, AI x3]) (S := []) E (Z_X10_wayOf_95 l D aC b w z_3 x2 x3 hJ.1 ⟨by have hb_ := z32 z_3; omega, by have hb_ := z32 z_3; omega⟩ ⟨by have hb_ := z32 x2; omega, by have hb_ := z32 x2; omega⟩ ⟨by have hb_ := z32 x3; omega, by have hb_ := z32 x3; omega⟩) cv_X10_233 rfl rfl rfl (jv_lt hJ (by decide)) (Nat.le_of_ble_eq_true rfl) (Nat.le_of_ble_eq_true rfl) ⟨(Nat.le_of_ble_eq_true rfl), (Nat.le_of_ble_eq_true rfl)⟩ (Nat.le_of_ble_eq_true rfl) dX10_nextRoom_22 (fun z_9 u_7 hp_8 => ?_)
      obtain ⟨hz_9, hxz_9, hp_8⟩ := hp_8
      subst hp_8
      refine s_ldc E k_1513 rfl dX10_nextRoom_25 ?_
      refine z_icmp_lt (tgt := 32) (u := z_9.toInt) (v := 1000000000) E dX10_nextRoom_27 (by decide) rfl (by decide) (fun h_11 => ?_) (fun h_11 => ?_)
      ·
        obtain ⟨cw, cw0, cw1, cw2⟩ := hy2 z_3.toInt.toNat (by omega) (by omega) x2.toInt.toNat x3.toInt.toNat (by omega) (by omega) (by omega) (by omega)
        refine s_iconst (v := 0) E dX10_nextRoom_32 (by decide) ?_
        refine s_istore (L2 := [some (AR 95), some (AI x1), some (AI x2), some (AI x3), some (AI z_3), some (AI 0)]) E dX10_nextRoom_33 (by decide) rfl ?_
        refine z_loop (St := Int32) (Pi := fun q35_5_11 v35 => (0 ≤ q35_5_11.toInt ∧ q35_5_11.toInt ≤ 7) ∧ (q35_5_11.toInt ≤ (cw : Int)) ∧ w = v35) (Lf := fun q35_5_11 => [some (AR 95), some (AI x1), some (AI x2), some (AI x3), some (AI z_3), some (AI q35_5_11)]) (fun q35_5_11 _ => ((cw : Int) + 1 - q35_5_11.toInt).toNat) 0 ⟨⟨by decide, by decide⟩, (by have h0_ : (0 : Int32).toInt = 0 := (by decide); omega), rfl⟩ ?_
        rintro q35_5_11 v35 ⟨hq35_5, hl35, hv_⟩ ih35
        subst hv_
        refine s_loc (L2 := [some (AR 95), some (AI x1), some (AI x2), some (AI x3), some (AI z_3), some (AI q35_5_11)]) rfl ?_
        refine s_aload_n E dX10_nextRoom_35 rfl rfl ?_
        refine s_iload E dX10_nextRoom_36 rfl ?_
        refine s_iload_n E dX10_nextRoom_38 rfl rfl ?_
        refine s_iload E dX10_nextRoom_39 rfl ?_
        refine s_vI (As := [AI z_3, AI x2, AI q35_5_11]) (S := []) E (Z_X10_wayOf_95 l D aC b w z_3 x2 q35_5_11 hJ.1 ⟨by have hb_ := z32 z_3; omega, by have hb_ := z32 z_3; omega⟩ ⟨by have hb_ := z32 x2; omega, by have hb_ := z32 x2; omega⟩ ⟨by have hb_ := z32 q35_5_11; omega, by have hb_ := z32 q35_5_11; omega⟩) cv_X10_233 rfl rfl rfl (jv_lt hJ (by decide)) (Nat.le_of_ble_eq_true rfl) (Nat.le_of_ble_eq_true rfl) ⟨(Nat.le_of_ble_eq_true rfl), (Nat.le_of_ble_eq_true rfl)⟩ (Nat.le_of_ble_eq_true rfl) dX10_nextRoom_41 (fun z_15 u_13 hp_14 => ?_)
        obtain ⟨hz_15, hxz_15, hp_14⟩ := hp_14
        subst hp_14
        refine s_iconst (v := 1) E dX10_nextRoom_44 (by decide) ?_
        refine z_icmp_ne (tgt := 70) (u := z_15.toInt) (v := 1) E dX10_nextRoom_45 (by decide) rfl (by decide) (fun h_17 => ?_) (fun h_17 => ?_)
        ·
          have hne_ : ¬ q35_5_11.toInt.toNat = cw := fun e_ => by subst e_; omega
          refine z_iinc (u := q35_5_11.toInt) (L2 := fun z_18 => [some (AR 95), some (AI x1), some (AI x2), some (AI x3), some (AI z_3), some (AI z_18)]) E dX10_nextRoom_70 rfl rfl (by decide) (fun _ => rfl) (by decide) (by omega) (by omega) (fun z_18 hz_18 => ?_)
          refine s_goto (tgt := 35) E dX10_nextRoom_73 (by decide) ?_
          exact ih35 z_18 w ⟨⟨by have hb_ := z32 z_18; omega, by have hb_ := z32 z_18; omega⟩, (by omega), rfl⟩ (by first | omega | decide | (dsimp only; omega) | (dsimp only; decide))
        ·
          refine s_aload_n E dX10_nextRoom_48 rfl rfl ?_
          refine s_iload E dX10_nextRoom_49 rfl ?_
          refine s_iload E dX10_nextRoom_51 rfl ?_
          refine s_iload_n E dX10_nextRoom_53 rfl rfl ?_
          refine s_vI (As := [AI z_3, AI q35_5_11, AI x3]) (S := []) E (Z_X10_wayOf_95 l D aC b w z_3 q35_5_11 x3 hJ.1 ⟨by have hb_ := z32 z_3; omega, by have hb_ := z32 z_3; omega⟩ ⟨by have hb_ := z32 q35_5_11; omega, by have hb_ := z32 q35_5_11; omega⟩ ⟨by have hb_ := z32 x3; omega, by have hb_ := z32 x3; omega⟩) cv_X10_233 rfl rfl rfl (jv_lt hJ (by decide)) (Nat.le_of_ble_eq_true rfl) (Nat.le_of_ble_eq_true rfl) ⟨(Nat.le_of_ble_eq_true rfl), (Nat.le_of_ble_eq_true rfl)⟩ (Nat.le_of_ble_eq_true rfl) dX10_nextRoom_54 (fun z_21 u_19 hp_20 => ?_)
          obtain ⟨hz_21, hxz_21, hp_20⟩ := hp_20
          subst hp_20
          refine s_aload_n E dX10_nextRoom_57 rfl rfl ?_
          refine s_iload E dX10_nextRoom_58 rfl ?_
          refine s_iload_n E dX10_nextRoom_60 rfl rfl ?_
          refine s_iload_n E dX10_nextRoom_61 rfl rfl ?_
          refine s_vI (As := [AI z_3, AI x2, AI x3]) (S := [AI z_21]) E (Z_X10_wayOf_95 l D aC b w z_3 x2 x3 hJ.1 ⟨by have hb_ := z32 z_3; omega, by have hb_ := z32 z_3; omega⟩ ⟨by have hb_ := z32 x2; omega, by have hb_ := z32 x2; omega⟩ ⟨by have hb_ := z32 x3; omega, by have hb_ := z32 x3; omega⟩) cv_X10_233 rfl rfl rfl (jv_lt hJ (by decide)) (Nat.le_of_ble_eq_true rfl) (Nat.le_of_ble_eq_true rfl) ⟨(Nat.le_of_ble_eq_true rfl), (Nat.le_of_ble_eq_true rfl)⟩ (Nat.le_of_ble_eq_true rfl) dX10_nextRoom_62 (fun z_25 u_23 hp_24 => ?_)
          obtain ⟨hz_25, hxz_25, hp_24⟩ := hp_24
          subst hp_24
          refine s_iconst (v := 1) E dX10_nextRoom_65 (by decide) ?_
          refine z_isub (u := z_25.toInt) (v := 1) E dX10_nextRoom_66 rfl (by decide) (by omega) (by omega) (fun z_27 hz_27 => ?_)
          refine z_icmp_eq (tgt := 76) (u := z_21.toInt) (v := z_27.toInt) E dX10_nextRoom_67 (by decide) rfl rfl (fun h_28 => ?_) (fun h_28 => ?_)
          ·
            refine s_iload E dX10_nextRoom_76 rfl ?_
            exact r_int E dX10_nextRoom_78 ⟨⟨by have hb_ := z32 q35_5_11; omega, by have hb_ := z32 q35_5_11; omega⟩, rfl⟩
          ·
            have hne_ : ¬ q35_5_11.toInt.toNat = cw := fun e_ => by subst e_; omega
            refine z_iinc (u := q35_5_11.toInt) (L2 := fun z_29 => [some (AR 95), some (AI x1), some (AI x2), some (AI x3), some (AI z_3), some (AI z_29)]) E dX10_nextRoom_70 rfl rfl (by decide) (fun _ => rfl) (by decide) (by omega) (by omega) (fun z_29 hz_29 => ?_)
            refine s_goto (tgt := 35) E dX10_nextRoom_73 (by decide) ?_
            exact ih35 z_29 w ⟨⟨by have hb_ := z32 z_29; omega, by have hb_ := z32 z_29; omega⟩, (by omega), rfl⟩ (by first | omega | decide | (dsimp only; omega) | (dsimp only; decide))
      ·
        refine s_iload_n E dX10_nextRoom_30 rfl rfl ?_
        exact r_int E dX10_nextRoom_31 ⟨⟨by have hb_ := z32 x2; omega, by have hb_ := z32 x2; omega⟩, rfl⟩
