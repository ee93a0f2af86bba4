set_option maxRecDepth 20000 in
set_option maxHeartbeats 2000000 in
theorem Z_X10_advance_95 (l : Launch) (D : va_G) (aC : Nat → ClassId) (b : Nat) (w : XW)  (hI : Iv w)  : CnV l D aC b M_X10_advance 1 25 0 0 [AR 95] w (fun u => ((u.2.2.1 95 7).toInt = (w.2.2.1 95 7).toInt ∧ (u.2.2.1 95 12).toInt = (w.2.2.1 95 12).toInt ∧ (w.2.2.1 95 8).toInt ≤ (u.2.2.1 95 9).toInt ∧ (u.2.2.1 95 9).toInt ≤ (u.2.2.1 95 8).toInt ∧ ((u.2.2.1 95 10).toInt = 0 ∨ (u.2.2.1 95 9).toInt < (u.2.2.1 95 8).toInt)) ∧ ((u.2.2.1 99) = (w.2.2.1 99)) ∧ ((u.2.2.1 101) = (w.2.2.1 101)) ∧ Jv w u) := by
  refine cn_V (own := RX10) (nm := "advance") (L0 := [some (AR 95), none]) (by decide +kernel) rfl rfl (Nat.le_of_ble_eq_true rfl) rfl ?_
  intro p e s m args below meth c E hin
  have hJ : Jv w w := jv_rfl hI
  refine z_loop (St := Unit) (Pi := fun () v0 => ((v0.2.2.1 95 7).toInt = (w.2.2.1 95 7).toInt ∧ (v0.2.2.1 95 12).toInt = (w.2.2.1 95 12).toInt ∧ (w.2.2.1 95 8).toInt ≤ (v0.2.2.1 95 8).toInt) ∧ ((v0.2.2.1 99) = (w.2.2.1 99)) ∧ ((v0.2.2.1 101) = (w.2.2.1 101)) ∧ Jv w v0) (Lf := fun () => [some (AR 95), none]) (fun () v0 => (1000 - (v0.2.2.1 95 8).toInt).toNat) () ⟨(by omega), rfl, rfl, hJ⟩ ?_
  rintro _ v0 ⟨hl0, hf0_99, hf0_101, hj_1⟩ ih0
  refine s_loc (L2 := [some (AR 95), none]) rfl ?_
  refine s_aload_n E dX10_advance_0 rfl rfl ?_
  refine s_aload_n E dX10_advance_1 rfl rfl ?_
  refine s_gI E fg_X10_96 rfl rfl (jv_lt hj_1 (by decide)) dX10_advance_2 ?_
  refine z_nm (P := fun z => z.toInt = (v0.2.2.1 95 8).toInt ∧ 0 ≤ z.toInt ∧ z.toInt ≤ 1000) ⟨rfl, (rg_95_8 hj_1)⟩ (fun z_2 hz_2 => ?_)
  refine s_vI (As := [AI z_2]) (S := []) E (Z_X10_see_95 l D aC b v0 z_2 hj_1.1 ⟨by have hb_ := z32 z_2; omega, by have hb_ := z32 z_2; omega⟩) cv_X10_99 rfl rfl rfl (jv_lt hj_1 (by decide)) (Nat.le_of_ble_eq_true rfl) (Nat.le_of_ble_eq_true rfl) ⟨(Nat.le_of_ble_eq_true rfl), (Nat.le_of_ble_eq_true rfl)⟩ (Nat.le_of_ble_eq_true rfl) dX10_advance_5 (fun z_5 u_3 hp_4 => ?_)
  obtain ⟨hz_5, hxz_5, hp_4⟩ := hp_4
  subst hp_4
  rw [show z_2.toInt = (v0.2.2.1 95 8).toInt from by omega] at hxz_5
  have hs_ := rg_95_7 hj_1
  refine s_bipush (v := 32) E dX10_advance_8 (by decide) ?_
  refine z_icmp_eq (tgt := 26) (u := z_5.toInt) (v := 32) E dX10_advance_10 (by decide) rfl (by decide) (fun h_7 => ?_) (fun h_7 => ?_)
  ·
    refine s_aload_n E dX10_advance_26 rfl rfl ?_
    refine s_dupR E dX10_advance_27 ?_
    refine s_gI E fg_X10_96 rfl rfl (jv_lt hj_1 (by decide)) dX10_advance_28 ?_
    refine z_nm (P := fun z => z.toInt = (v0.2.2.1 95 8).toInt ∧ 0 ≤ z.toInt ∧ z.toInt ≤ 1000) ⟨rfl, (rg_95_8 hj_1)⟩ (fun z_8 hz_8 => ?_)
    refine s_iconst (v := 1) E dX10_advance_31 (by decide) ?_
    refine z_iadd (u := z_8.toInt) (v := 1) E dX10_advance_32 rfl (by decide) (by omega) (by omega) (fun z_9 hz_9 => ?_)
    have hhz_9 : 0 ≤ z_9.toInt ∧ z_9.toInt ≤ 1000 := by omega
    refine s_pI E fp_X10_96 (Or.inl rfl) rfl (jv_lt hj_1 (by decide)) dX10_advance_33 ?_
    refine s_gen (P := fun v => Jv w v ∧ (v.2.2.1 95 7).toInt = (v0.2.2.1 95 7).toInt ∧ (v.2.2.1 95 8).toInt = z_9.toInt ∧ (v.2.2.1 95 9).toInt = (v0.2.2.1 95 9).toInt ∧ (v.2.2.1 95 10).toInt = (v0.2.2.1 95 10).toInt ∧ (v.2.2.1 95 12).toInt = (v0.2.2.1 95 12).toInt ∧ (v.2.2.1 99) = (v0.2.2.1 99) ∧ (v.2.2.1 101) = (v0.2.2.1 101)) ⟨(jv_f_95_8 hj_1 (by have hb_ := z32 z_9; omega) (by have hb_ := z32 z_9; omega)), rfl, rfl, rfl, rfl, rfl, (by first | rfl | exact upI_ne (by decide)), (by first | rfl | exact upI_ne (by decide))⟩ (fun v_10 hj_11 => ?_)
    obtain ⟨hj_11, hk_12k0, hk_12k1, hk_12k2, hk_12k3, hk_12k4, hk_12c99, hk_12c101⟩ := hj_11
    refine s_goto (tgt := 0) E dX10_advance_36 (by decide) ?_
    exact ih0 () v_10 ⟨(by omega), (hk_12c99.trans hf0_99), (hk_12c101.trans hf0_101), hj_11⟩ (by first | omega | decide | (dsimp only; omega) | (dsimp only; decide))
  ·
    refine s_aload_n E dX10_advance_13 rfl rfl ?_
    refine s_aload_n E dX10_advance_14 rfl rfl ?_
    refine s_gI E fg_X10_96 rfl rfl (jv_lt hj_1 (by decide)) dX10_advance_15 ?_
    refine z_nm (P := fun z => z.toInt = (v0.2.2.1 95 8).toInt ∧ 0 ≤ z.toInt ∧ z.toInt ≤ 1000) ⟨rfl, (rg_95_8 hj_1)⟩ (fun z_13 hz_13 => ?_)
    refine s_vI (As := [AI z_13]) (S := []) E (Z_X10_see_95 l D aC b v0 z_13 hj_1.1 ⟨by have hb_ := z32 z_13; omega, by have hb_ := z32 z_13; omega⟩) cv_X10_99 rfl rfl rfl (jv_lt hj_1 (by decide)) (Nat.le_of_ble_eq_true rfl) (Nat.le_of_ble_eq_true rfl) ⟨(Nat.le_of_ble_eq_true rfl), (Nat.le_of_ble_eq_true rfl)⟩ (Nat.le_of_ble_eq_true rfl) dX10_advance_18 (fun z_16 u_14 hp_15 => ?_)
    obtain ⟨hz_16, hxz_16, hp_15⟩ := hp_15
    subst hp_15
    rw [show z_13.toInt = (v0.2.2.1 95 8).toInt from by omega] at hxz_16
    have hs_ := rg_95_7 hj_1
    refine s_bipush (v := 10) E dX10_advance_21 (by decide) ?_
    refine z_icmp_ne (tgt := 39) (u := z_16.toInt) (v := 10) E dX10_advance_23 (by decide) rfl (by decide) (fun h_18 => ?_) (fun h_18 => ?_)
    ·
      refine s_aload_n E dX10_advance_39 rfl rfl ?_
      refine s_aload_n E dX10_advance_40 rfl rfl ?_
      refine s_gI E fg_X10_96 rfl rfl (jv_lt hj_1 (by decide)) dX10_advance_41 ?_
      refine z_nm (P := fun z => z.toInt = (v0.2.2.1 95 8).toInt ∧ 0 ≤ z.toInt ∧ z.toInt ≤ 1000) ⟨rfl, (rg_95_8 hj_1)⟩ (fun z_19 hz_19 => ?_)
      refine s_pI E fp_X10_103 (Or.inl rfl) rfl (jv_lt hj_1 (by decide)) dX10_advance_44 ?_
      refine s_gen (P := fun v => Jv w v ∧ (v.2.2.1 95 7).toInt = (v0.2.2.1 95 7).toInt ∧ (v.2.2.1 95 8).toInt = (v0.2.2.1 95 8).toInt ∧ (v.2.2.1 95 9).toInt = z_19.toInt ∧ (v.2.2.1 95 10).toInt = (v0.2.2.1 95 10).toInt ∧ (v.2.2.1 95 12).toInt = (v0.2.2.1 95 12).toInt ∧ (v.2.2.1 99) = (v0.2.2.1 99) ∧ (v.2.2.1 101) = (v0.2.2.1 101)) ⟨(jv_f_95_9 hj_1 (by have hb_ := z32 z_19; omega) (by have hb_ := z32 z_19; omega)), rfl, rfl, rfl, rfl, rfl, (by first | rfl | exact upI_ne (by decide)), (by first | rfl | exact upI_ne (by decide))⟩ (fun v_20 hj_21 => ?_)
      obtain ⟨hj_21, hk_22k0, hk_22k1, hk_22k2, hk_22k3, hk_22k4, hk_22c99, hk_22c101⟩ := hj_21
      refine s_aload_n E dX10_advance_47 rfl rfl ?_
      refine s_aload_n E dX10_advance_48 rfl rfl ?_
      refine s_gI E fg_X10_96 rfl rfl (jv_lt hj_21 (by decide)) dX10_advance_49 ?_
      refine z_nm (P := fun z => z.toInt = (v_20.2.2.1 95 8).toInt ∧ 0 ≤ z.toInt ∧ z.toInt ≤ 1000) ⟨rfl, (rg_95_8 hj_21)⟩ (fun z_23 hz_23 => ?_)
      refine s_vI (As := [AI z_23]) (S := []) E (Z_X10_see_95 l D aC b v_20 z_23 hj_21.1 ⟨by have hb_ := z32 z_23; omega, by have hb_ := z32 z_23; omega⟩) cv_X10_99 rfl rfl rfl (jv_lt hj_21 (by decide)) (Nat.le_of_ble_eq_true rfl) (Nat.le_of_ble_eq_true rfl) ⟨(Nat.le_of_ble_eq_true rfl), (Nat.le_of_ble_eq_true rfl)⟩ (Nat.le_of_ble_eq_true rfl) dX10_advance_52 (fun z_26 u_24 hp_25 => ?_)
      obtain ⟨hz_26, hxz_26, hp_25⟩ := hp_25
      subst hp_25
      rw [show z_23.toInt = (v_20.2.2.1 95 8).toInt from by omega] at hxz_26
      have hs_ := rg_95_7 hj_21
      have f52_ : (v_20.2.2.1 99) = (w.2.2.1 99) := (hk_22c99.trans hf0_99)
      refine s_istore_n (L2 := [some (AR 95), some (AI z_26)]) E dX10_advance_55 rfl (by decide) rfl ?_
      refine s_iload_n E dX10_advance_56 rfl rfl ?_
      refine s_iconst (v := (-1)) E dX10_advance_57 (by decide) ?_
      refine z_icmp_ne (tgt := 69) (u := z_26.toInt) (v := (-1)) E dX10_advance_58 (by decide) rfl (by decide) (fun h_28 => ?_) (fun h_28 => ?_)
      ·
        refine s_iload_n E dX10_advance_69 rfl rfl ?_
        refine z_i2l (u := z_26.toInt) E dX10_advance_70 rfl (fun z_29 hz_29 => ?_)
        refine s_ldc2 E k_1397 rfl dX10_advance_71 ?_
        refine s_ldc2 E k_1398 rfl dX10_advance_74 ?_
        refine s_sI (As := [AL z_29, AL 97, AL 122]) (S := []) E (Z_X10_in l D aC b v_20 z_29 97 122) cs_X10_82 rfl rfl (Nat.le_of_ble_eq_true rfl) (Nat.le_of_ble_eq_true rfl) ⟨(Nat.le_of_ble_eq_true rfl), (Nat.le_of_ble_eq_true rfl)⟩ (Nat.le_of_ble_eq_true rfl) dX10_advance_77 (fun z_30 u_31 hp_32 => ?_)
        obtain ⟨hz_30, hp_32⟩ := hp_32
        subst hp_32
        have hcL_ : (97 : Int64).toInt = 97 := (by decide)
        have hcL_ : (122 : Int64).toInt = 122 := (by decide)
        refine z_if_eq (tgt := 125) (u := z_30.toInt) E dX10_advance_80 (by decide) rfl (fun h_33 => ?_) (fun h_33 => ?_)
        ·
          refine s_iload_n E dX10_advance_125 rfl rfl ?_
          refine z_i2l (u := z_26.toInt) E dX10_advance_126 rfl (fun z_34 hz_34 => ?_)
          refine s_ldc2 E k_1399 rfl dX10_advance_127 ?_
          refine s_ldc2 E k_1400 rfl dX10_advance_130 ?_
          refine s_sI (As := [AL z_34, AL 48, AL 57]) (S := []) E (Z_X10_in l D aC b v_20 z_34 48 57) cs_X10_82 rfl rfl (Nat.le_of_ble_eq_true rfl) (Nat.le_of_ble_eq_true rfl) ⟨(Nat.le_of_ble_eq_true rfl), (Nat.le_of_ble_eq_true rfl)⟩ (Nat.le_of_ble_eq_true rfl) dX10_advance_133 (fun z_35 u_36 hp_37 => ?_)
          obtain ⟨hz_35, hp_37⟩ := hp_37
          subst hp_37
          have hcL_ : (48 : Int64).toInt = 48 := (by decide)
          have hcL_ : (57 : Int64).toInt = 57 := (by decide)
          refine z_if_eq (tgt := 214) (u := z_35.toInt) E dX10_advance_136 (by decide) rfl (fun h_38 => ?_) (fun h_38 => ?_)
          ·
            refine s_aload_n E dX10_advance_214 rfl rfl ?_
            refine s_iload_n E dX10_advance_215 rfl rfl ?_
            refine s_bipush (v := 59) E dX10_advance_216 (by decide) ?_
            refine z_icmp_ne (tgt := 225) (u := z_26.toInt) (v := 59) E dX10_advance_218 (by decide) rfl (by decide) (fun h_39 => ?_) (fun h_39 => ?_)
            ·
              refine s_iconst (v := 4) E dX10_advance_225 (by decide) ?_
              refine s_pI E fp_X10_106 (Or.inl rfl) rfl (jv_lt hj_21 (by decide)) dX10_advance_226 ?_
              refine s_gen (P := fun v => Jv w v ∧ (v.2.2.1 95 7).toInt = (v_20.2.2.1 95 7).toInt ∧ (v.2.2.1 95 8).toInt = (v_20.2.2.1 95 8).toInt ∧ (v.2.2.1 95 9).toInt = (v_20.2.2.1 95 9).toInt ∧ (v.2.2.1 95 10).toInt = 4 ∧ (v.2.2.1 95 12).toInt = (v_20.2.2.1 95 12).toInt ∧ (v.2.2.1 99) = (v_20.2.2.1 99) ∧ (v.2.2.1 101) = (v_20.2.2.1 101)) ⟨(jv_f_95_10 hj_21 (by decide) (by decide)), rfl, rfl, rfl, rfl, rfl, (by first | rfl | exact upI_ne (by decide)), (by first | rfl | exact upI_ne (by decide))⟩ (fun v_40 hj_41 => ?_)
              obtain ⟨hj_41, hk_42k0, hk_42k1, hk_42k2, hk_42k3, hk_42k4, hk_42c99, hk_42c101⟩ := hj_41
              refine s_aload_n E dX10_advance_229 rfl rfl ?_
              refine s_dupR E dX10_advance_230 ?_
              refine s_gI E fg_X10_96 rfl rfl (jv_lt hj_41 (by decide)) dX10_advance_231 ?_
              refine z_nm (P := fun z => z.toInt = (v_40.2.2.1 95 8).toInt ∧ 0 ≤ z.toInt ∧ z.toInt ≤ 1000) ⟨rfl, (rg_95_8 hj_41)⟩ (fun z_43 hz_43 => ?_)
              refine s_iconst (v := 1) E dX10_advance_234 (by decide) ?_
              refine z_iadd (u := z_43.toInt) (v := 1) E dX10_advance_235 rfl (by decide) (by omega) (by omega) (fun z_44 hz_44 => ?_)
              have hhz_44 : 0 ≤ z_44.toInt ∧ z_44.toInt ≤ 1000 := by omega
              refine s_pI E fp_X10_96 (Or.inl rfl) rfl (jv_lt hj_41 (by decide)) dX10_advance_236 ?_
              refine s_gen (P := fun v => Jv w v ∧ (v.2.2.1 95 7).toInt = (v_40.2.2.1 95 7).toInt ∧ (v.2.2.1 95 8).toInt = z_44.toInt ∧ (v.2.2.1 95 9).toInt = (v_40.2.2.1 95 9).toInt ∧ (v.2.2.1 95 10).toInt = (v_40.2.2.1 95 10).toInt ∧ (v.2.2.1 95 12).toInt = (v_40.2.2.1 95 12).toInt ∧ (v.2.2.1 99) = (v_40.2.2.1 99) ∧ (v.2.2.1 101) = (v_40.2.2.1 101)) ⟨(jv_f_95_8 hj_41 (by have hb_ := z32 z_44; omega) (by have hb_ := z32 z_44; omega)), rfl, rfl, rfl, rfl, rfl, (by first | rfl | exact upI_ne (by decide)), (by first | rfl | exact upI_ne (by decide))⟩ (fun v_45 hj_46 => ?_)
              obtain ⟨hj_46, hk_47k0, hk_47k1, hk_47k2, hk_47k3, hk_47k4, hk_47c99, hk_47c101⟩ := hj_46
              exact r_void E dX10_advance_239 ⟨(by omega), (hk_47c99.trans (hk_42c99.trans (hk_22c99.trans hf0_99))), (hk_47c101.trans (hk_42c101.trans (hk_22c101.trans hf0_101))), hj_46⟩
            ·
              refine s_iconst (v := 3) E dX10_advance_221 (by decide) ?_
              refine s_goto (tgt := 226) E dX10_advance_222 (by decide) ?_
              refine s_pI E fp_X10_106 (Or.inl rfl) rfl (jv_lt hj_21 (by decide)) dX10_advance_226 ?_
              refine s_gen (P := fun v => Jv w v ∧ (v.2.2.1 95 7).toInt = (v_20.2.2.1 95 7).toInt ∧ (v.2.2.1 95 8).toInt = (v_20.2.2.1 95 8).toInt ∧ (v.2.2.1 95 9).toInt = (v_20.2.2.1 95 9).toInt ∧ (v.2.2.1 95 10).toInt = 3 ∧ (v.2.2.1 95 12).toInt = (v_20.2.2.1 95 12).toInt ∧ (v.2.2.1 99) = (v_20.2.2.1 99) ∧ (v.2.2.1 101) = (v_20.2.2.1 101)) ⟨(jv_f_95_10 hj_21 (by decide) (by decide)), rfl, rfl, rfl, rfl, rfl, (by first | rfl | exact upI_ne (by decide)), (by first | rfl | exact upI_ne (by decide))⟩ (fun v_48 hj_49 => ?_)
              obtain ⟨hj_49, hk_50k0, hk_50k1, hk_50k2, hk_50k3, hk_50k4, hk_50c99, hk_50c101⟩ := hj_49
              refine s_aload_n E dX10_advance_229 rfl rfl ?_
              refine s_dupR E dX10_advance_230 ?_
              refine s_gI E fg_X10_96 rfl rfl (jv_lt hj_49 (by decide)) dX10_advance_231 ?_
              refine z_nm (P := fun z => z.toInt = (v_48.2.2.1 95 8).toInt ∧ 0 ≤ z.toInt ∧ z.toInt ≤ 1000) ⟨rfl, (rg_95_8 hj_49)⟩ (fun z_51 hz_51 => ?_)
              refine s_iconst (v := 1) E dX10_advance_234 (by decide) ?_
              refine z_iadd (u := z_51.toInt) (v := 1) E dX10_advance_235 rfl (by decide) (by omega) (by omega) (fun z_52 hz_52 => ?_)
              have hhz_52 : 0 ≤ z_52.toInt ∧ z_52.toInt ≤ 1000 := by omega
              refine s_pI E fp_X10_96 (Or.inl rfl) rfl (jv_lt hj_49 (by decide)) dX10_advance_236 ?_
              refine s_gen (P := fun v => Jv w v ∧ (v.2.2.1 95 7).toInt = (v_48.2.2.1 95 7).toInt ∧ (v.2.2.1 95 8).toInt = z_52.toInt ∧ (v.2.2.1 95 9).toInt = (v_48.2.2.1 95 9).toInt ∧ (v.2.2.1 95 10).toInt = (v_48.2.2.1 95 10).toInt ∧ (v.2.2.1 95 12).toInt = (v_48.2.2.1 95 12).toInt ∧ (v.2.2.1 99) = (v_48.2.2.1 99) ∧ (v.2.2.1 101) = (v_48.2.2.1 101)) ⟨(jv_f_95_8 hj_49 (by have hb_ := z32 z_52; omega) (by have hb_ := z32 z_52; omega)), rfl, rfl, rfl, rfl, rfl, (by first | rfl | exact upI_ne (by decide)), (by first | rfl | exact upI_ne (by decide))⟩ (fun v_53 hj_54 => ?_)
              obtain ⟨hj_54, hk_55k0, hk_55k1, hk_55k2, hk_55k3, hk_55k4, hk_55c99, hk_55c101⟩ := hj_54
              exact r_void E dX10_advance_239 ⟨(by omega), (hk_55c99.trans (hk_50c99.trans (hk_22c99.trans hf0_99))), (hk_55c101.trans (hk_50c101.trans (hk_22c101.trans hf0_101))), hj_54⟩
          ·
            refine s_aload_n E dX10_advance_139 rfl rfl ?_
            refine s_iconst (v := 0) E dX10_advance_140 (by decide) ?_
            refine s_pI E fp_X10_117 (Or.inl rfl) rfl (jv_lt hj_21 (by decide)) dX10_advance_141 ?_
            refine s_gen (P := fun v => Jv w v ∧ (v.2.2.1 95 7).toInt = (v_20.2.2.1 95 7).toInt ∧ (v.2.2.1 95 8).toInt = (v_20.2.2.1 95 8).toInt ∧ (v.2.2.1 95 9).toInt = (v_20.2.2.1 95 9).toInt ∧ (v.2.2.1 95 10).toInt = (v_20.2.2.1 95 10).toInt ∧ (v.2.2.1 95 12).toInt = (v_20.2.2.1 95 12).toInt ∧ (v.2.2.1 99) = (v_20.2.2.1 99) ∧ (v.2.2.1 101) = (v_20.2.2.1 101)) ⟨(jv_f_95_11 hj_21 (by decide) (by decide)), rfl, rfl, rfl, rfl, rfl, (by first | rfl | exact upI_ne (by decide)), (by first | rfl | exact upI_ne (by decide))⟩ (fun v_56 hj_57 => ?_)
            obtain ⟨hj_57, hk_58k0, hk_58k1, hk_58k2, hk_58k3, hk_58k4, hk_58c99, hk_58c101⟩ := hj_57
            refine z_loop (St := Unit) (Pi := fun () v144 => ((v144.2.2.1 95 7).toInt = (w.2.2.1 95 7).toInt ∧ (v144.2.2.1 95 12).toInt = (w.2.2.1 95 12).toInt ∧ (w.2.2.1 95 8).toInt ≤ (v144.2.2.1 95 9).toInt ∧ (v144.2.2.1 95 9).toInt ≤ (v144.2.2.1 95 8).toInt ∧ ((v144.2.2.1 95 9).toInt < (v144.2.2.1 95 8).toInt ∨ (48 ≤ seeV (v144.2.2.1 99) (v144.2.2.1 95 7).toInt (v144.2.2.1 95 8).toInt ∧ seeV (v144.2.2.1 99) (v144.2.2.1 95 7).toInt (v144.2.2.1 95 8).toInt ≤ 57))) ∧ ((v144.2.2.1 99) = (w.2.2.1 99)) ∧ ((v144.2.2.1 101) = (w.2.2.1 101)) ∧ Jv w v144) (Lf := fun () => [some (AR 95), some (AI z_26)]) (fun () v144 => (1000 - (v144.2.2.1 95 8).toInt).toNat) () ⟨(by have es_ : seeV (v_56.2.2.1 99) (v_56.2.2.1 95 7).toInt (v_56.2.2.1 95 8).toInt = seeV (v_20.2.2.1 99) (v_20.2.2.1 95 7).toInt (v_20.2.2.1 95 8).toInt := (by rw [show (v_56.2.2.1 99) = (v_20.2.2.1 99) from (Eq.trans (hk_58c99.trans (hk_22c99.trans hf0_99)) f52_.symm), show (v_56.2.2.1 95 7).toInt = (v_20.2.2.1 95 7).toInt by omega, show (v_56.2.2.1 95 8).toInt = (v_20.2.2.1 95 8).toInt by omega]); omega), (hk_58c99.trans (hk_22c99.trans hf0_99)), (hk_58c101.trans (hk_22c101.trans hf0_101)), hj_57⟩ ?_
            rintro _ v144 ⟨hl144, hf144_99, hf144_101, hj_59⟩ ih144
            refine s_loc (L2 := [some (AR 95), some (AI z_26)]) rfl ?_
            refine s_aload_n E dX10_advance_144 rfl rfl ?_
            refine s_aload_n E dX10_advance_145 rfl rfl ?_
            refine s_gI E fg_X10_96 rfl rfl (jv_lt hj_59 (by decide)) dX10_advance_146 ?_
            refine z_nm (P := fun z => z.toInt = (v144.2.2.1 95 8).toInt ∧ 0 ≤ z.toInt ∧ z.toInt ≤ 1000) ⟨rfl, (rg_95_8 hj_59)⟩ (fun z_60 hz_60 => ?_)
            refine s_vI (As := [AI z_60]) (S := []) E (Z_X10_see_95 l D aC b v144 z_60 hj_59.1 ⟨by have hb_ := z32 z_60; omega, by have hb_ := z32 z_60; omega⟩) cv_X10_99 rfl rfl rfl (jv_lt hj_59 (by decide)) (Nat.le_of_ble_eq_true rfl) (Nat.le_of_ble_eq_true rfl) ⟨(Nat.le_of_ble_eq_true rfl), (Nat.le_of_ble_eq_true rfl)⟩ (Nat.le_of_ble_eq_true rfl) dX10_advance_149 (fun z_63 u_61 hp_62 => ?_)
            obtain ⟨hz_63, hxz_63, hp_62⟩ := hp_62
            subst hp_62
            rw [show z_60.toInt = (v144.2.2.1 95 8).toInt from by omega] at hxz_63
            have hs_ := rg_95_7 hj_59
            refine z_i2l (u := z_63.toInt) E dX10_advance_152 rfl (fun z_65 hz_65 => ?_)
            refine s_ldc2 E k_1399 rfl dX10_advance_153 ?_
            refine s_ldc2 E k_1400 rfl dX10_advance_156 ?_
            refine s_sI (As := [AL z_65, AL 48, AL 57]) (S := []) E (Z_X10_in l D aC b v144 z_65 48 57) cs_X10_82 rfl rfl (Nat.le_of_ble_eq_true rfl) (Nat.le_of_ble_eq_true rfl) ⟨(Nat.le_of_ble_eq_true rfl), (Nat.le_of_ble_eq_true rfl)⟩ (Nat.le_of_ble_eq_true rfl) dX10_advance_159 (fun z_66 u_67 hp_68 => ?_)
            obtain ⟨hz_66, hp_68⟩ := hp_68
            subst hp_68
            have hcL_ : (48 : Int64).toInt = 48 := (by decide)
            have hcL_ : (57 : Int64).toInt = 57 := (by decide)
            refine z_if_eq (tgt := 206) (u := z_66.toInt) E dX10_advance_162 (by decide) rfl (fun h_69 => ?_) (fun h_69 => ?_)
            ·
              refine s_aload_n E dX10_advance_206 rfl rfl ?_
              refine s_iconst (v := 2) E dX10_advance_207 (by decide) ?_
              refine s_pI E fp_X10_106 (Or.inl rfl) rfl (jv_lt hj_59 (by decide)) dX10_advance_208 ?_
              refine s_gen (P := fun v => Jv w v ∧ (v.2.2.1 95 7).toInt = (v144.2.2.1 95 7).toInt ∧ (v.2.2.1 95 8).toInt = (v144.2.2.1 95 8).toInt ∧ (v.2.2.1 95 9).toInt = (v144.2.2.1 95 9).toInt ∧ (v.2.2.1 95 10).toInt = 2 ∧ (v.2.2.1 95 12).toInt = (v144.2.2.1 95 12).toInt ∧ (v.2.2.1 99) = (v144.2.2.1 99) ∧ (v.2.2.1 101) = (v144.2.2.1 101)) ⟨(jv_f_95_10 hj_59 (by decide) (by decide)), rfl, rfl, rfl, rfl, rfl, (by first | rfl | exact upI_ne (by decide)), (by first | rfl | exact upI_ne (by decide))⟩ (fun v_70 hj_71 => ?_)
              obtain ⟨hj_71, hk_72k0, hk_72k1, hk_72k2, hk_72k3, hk_72k4, hk_72c99, hk_72c101⟩ := hj_71
              refine s_goto (tgt := 239) E dX10_advance_211 (by decide) ?_
              exact r_void E dX10_advance_239 ⟨(by omega), (hk_72c99.trans hf144_99), (hk_72c101.trans hf144_101), hj_71⟩
            ·
              refine s_aload_n E dX10_advance_165 rfl rfl ?_
              refine s_ldc E k_1401 rfl dX10_advance_166 ?_
              refine s_bipush (v := 10) E dX10_advance_168 (by decide) ?_
              refine s_aload_n E dX10_advance_170 rfl rfl ?_
              refine s_gI E fg_X10_117 rfl rfl (jv_lt hj_59 (by decide)) dX10_advance_171 ?_
              refine z_nm (P := fun z => z.toInt = (v144.2.2.1 95 11).toInt ∧ 0 ≤ z.toInt ∧ z.toInt ≤ 99999) ⟨rfl, (rg_95_11 hj_59)⟩ (fun z_73 hz_73 => ?_)
              refine z_imul (u := 10) (v := z_73.toInt) E dX10_advance_174 (by decide) rfl (by omega) (by omega) (fun z_74 hz_74 => ?_)
              refine s_aload_n E dX10_advance_175 rfl rfl ?_
              refine s_aload_n E dX10_advance_176 rfl rfl ?_
              refine s_gI E fg_X10_96 rfl rfl (jv_lt hj_59 (by decide)) dX10_advance_177 ?_
              refine z_nm (P := fun z => z.toInt = (v144.2.2.1 95 8).toInt ∧ 0 ≤ z.toInt ∧ z.toInt ≤ 1000) ⟨rfl, (rg_95_8 hj_59)⟩ (fun z_75 hz_75 => ?_)
              refine s_vI (As := [AI z_75]) (S := [AI z_74, AI 99999, AR 95]) E (Z_X10_see_95 l D aC b v144 z_75 hj_59.1 ⟨by have hb_ := z32 z_75; omega, by have hb_ := z32 z_75; omega⟩) cv_X10_99 rfl rfl rfl (jv_lt hj_59 (by decide)) (Nat.le_of_ble_eq_true rfl) (Nat.le_of_ble_eq_true rfl) ⟨(Nat.le_of_ble_eq_true rfl), (Nat.le_of_ble_eq_true rfl)⟩ (Nat.le_of_ble_eq_true rfl) dX10_advance_180 (fun z_78 u_76 hp_77 => ?_)
              obtain ⟨hz_78, hxz_78, hp_77⟩ := hp_77
              subst hp_77
              rw [show z_75.toInt = (v144.2.2.1 95 8).toInt from by omega] at hxz_78
              have hs_ := rg_95_7 hj_59
              refine z_iadd (u := z_74.toInt) (v := z_78.toInt) E dX10_advance_183 rfl rfl (by omega) (by omega) (fun z_80 hz_80 => ?_)
              refine s_bipush (v := 48) E dX10_advance_184 (by decide) ?_
              refine z_isub (u := z_80.toInt) (v := 48) E dX10_advance_186 rfl (by decide) (by omega) (by omega) (fun z_81 hz_81 => ?_)
              have hhz_81 : 0 ≤ z_81.toInt ∧ z_81.toInt ≤ 1000000 := by omega
              refine z_min (u := 99999) (v := z_81.toInt) E ⟨k_1402, k_369, k_4, k_370⟩ (Nat.le_of_ble_eq_true rfl) (Nat.le_of_ble_eq_true rfl) (Nat.le_of_ble_eq_true rfl) (Nat.le_of_ble_eq_true rfl) dX10_advance_187 (by decide) rfl (fun z_82 hz_82 => ?_)
              refine s_pI E fp_X10_117 (Or.inl rfl) rfl (jv_lt hj_59 (by decide)) dX10_advance_190 ?_
              refine s_gen (P := fun v => Jv w v ∧ (v.2.2.1 95 7).toInt = (v144.2.2.1 95 7).toInt ∧ (v.2.2.1 95 8).toInt = (v144.2.2.1 95 8).toInt ∧ (v.2.2.1 95 9).toInt = (v144.2.2.1 95 9).toInt ∧ (v.2.2.1 95 10).toInt = (v144.2.2.1 95 10).toInt ∧ (v.2.2.1 95 12).toInt = (v144.2.2.1 95 12).toInt ∧ (v.2.2.1 99) = (v144.2.2.1 99) ∧ (v.2.2.1 101) = (v144.2.2.1 101)) ⟨(jv_f_95_11 hj_59 (by have hb_ := z32 z_82; omega) (by have hb_ := z32 z_82; omega)), rfl, rfl, rfl, rfl, rfl, (by first | rfl | exact upI_ne (by decide)), (by first | rfl | exact upI_ne (by decide))⟩ (fun v_83 hj_84 => ?_)
              obtain ⟨hj_84, hk_85k0, hk_85k1, hk_85k2, hk_85k3, hk_85k4, hk_85c99, hk_85c101⟩ := hj_84
              refine s_aload_n E dX10_advance_193 rfl rfl ?_
              refine s_dupR E dX10_advance_194 ?_
              refine s_gI E fg_X10_96 rfl rfl (jv_lt hj_84 (by decide)) dX10_advance_195 ?_
              refine z_nm (P := fun z => z.toInt = (v_83.2.2.1 95 8).toInt ∧ 0 ≤ z.toInt ∧ z.toInt ≤ 1000) ⟨rfl, (rg_95_8 hj_84)⟩ (fun z_86 hz_86 => ?_)
              refine s_iconst (v := 1) E dX10_advance_198 (by decide) ?_
              refine z_iadd (u := z_86.toInt) (v := 1) E dX10_advance_199 rfl (by decide) (by omega) (by omega) (fun z_87 hz_87 => ?_)
              have hhz_87 : 0 ≤ z_87.toInt ∧ z_87.toInt ≤ 1000 := by omega
              refine s_pI E fp_X10_96 (Or.inl rfl) rfl (jv_lt hj_84 (by decide)) dX10_advance_200 ?_
              refine s_gen (P := fun v => Jv w v ∧ (v.2.2.1 95 7).toInt = (v_83.2.2.1 95 7).toInt ∧ (v.2.2.1 95 8).toInt = z_87.toInt ∧ (v.2.2.1 95 9).toInt = (v_83.2.2.1 95 9).toInt ∧ (v.2.2.1 95 10).toInt = (v_83.2.2.1 95 10).toInt ∧ (v.2.2.1 95 12).toInt = (v_83.2.2.1 95 12).toInt ∧ (v.2.2.1 99) = (v_83.2.2.1 99) ∧ (v.2.2.1 101) = (v_83.2.2.1 101)) ⟨(jv_f_95_8 hj_84 (by have hb_ := z32 z_87; omega) (by have hb_ := z32 z_87; omega)), rfl, rfl, rfl, rfl, rfl, (by first | rfl | exact upI_ne (by decide)), (by first | rfl | exact upI_ne (by decide))⟩ (fun v_88 hj_89 => ?_)
              obtain ⟨hj_89, hk_90k0, hk_90k1, hk_90k2, hk_90k3, hk_90k4, hk_90c99, hk_90c101⟩ := hj_89
              refine s_goto (tgt := 144) E dX10_advance_203 (by decide) ?_
              exact ih144 () v_88 ⟨(by omega), (hk_90c99.trans (hk_85c99.trans hf144_99)), (hk_90c101.trans (hk_85c101.trans hf144_101)), hj_89⟩ (by first | omega | decide | (dsimp only; omega) | (dsimp only; decide))
        ·
          refine z_loop (St := Unit) (Pi := fun () v83 => ((v83.2.2.1 95 7).toInt = (w.2.2.1 95 7).toInt ∧ (v83.2.2.1 95 12).toInt = (w.2.2.1 95 12).toInt ∧ (w.2.2.1 95 8).toInt ≤ (v83.2.2.1 95 9).toInt ∧ (v83.2.2.1 95 9).toInt ≤ (v83.2.2.1 95 8).toInt ∧ ((v83.2.2.1 95 9).toInt < (v83.2.2.1 95 8).toInt ∨ (97 ≤ seeV (v83.2.2.1 99) (v83.2.2.1 95 7).toInt (v83.2.2.1 95 8).toInt ∧ seeV (v83.2.2.1 99) (v83.2.2.1 95 7).toInt (v83.2.2.1 95 8).toInt ≤ 122))) ∧ ((v83.2.2.1 99) = (w.2.2.1 99)) ∧ ((v83.2.2.1 101) = (w.2.2.1 101)) ∧ Jv w v83) (Lf := fun () => [some (AR 95), some (AI z_26)]) (fun () v83 => (1000 - (v83.2.2.1 95 8).toInt).toNat) () ⟨(by omega), (hk_22c99.trans hf0_99), (hk_22c101.trans hf0_101), hj_21⟩ ?_
          rintro _ v83 ⟨hl83, hf83_99, hf83_101, hj_91⟩ ih83
          refine s_loc (L2 := [some (AR 95), some (AI z_26)]) rfl ?_
          refine s_aload_n E dX10_advance_83 rfl rfl ?_
          refine s_aload_n E dX10_advance_84 rfl rfl ?_
          refine s_gI E fg_X10_96 rfl rfl (jv_lt hj_91 (by decide)) dX10_advance_85 ?_
          refine z_nm (P := fun z => z.toInt = (v83.2.2.1 95 8).toInt ∧ 0 ≤ z.toInt ∧ z.toInt ≤ 1000) ⟨rfl, (rg_95_8 hj_91)⟩ (fun z_92 hz_92 => ?_)
          refine s_vI (As := [AI z_92]) (S := []) E (Z_X10_see_95 l D aC b v83 z_92 hj_91.1 ⟨by have hb_ := z32 z_92; omega, by have hb_ := z32 z_92; omega⟩) cv_X10_99 rfl rfl rfl (jv_lt hj_91 (by decide)) (Nat.le_of_ble_eq_true rfl) (Nat.le_of_ble_eq_true rfl) ⟨(Nat.le_of_ble_eq_true rfl), (Nat.le_of_ble_eq_true rfl)⟩ (Nat.le_of_ble_eq_true rfl) dX10_advance_88 (fun z_95 u_93 hp_94 => ?_)
          obtain ⟨hz_95, hxz_95, hp_94⟩ := hp_94
          subst hp_94
          rw [show z_92.toInt = (v83.2.2.1 95 8).toInt from by omega] at hxz_95
          have hs_ := rg_95_7 hj_91
          refine z_i2l (u := z_95.toInt) E dX10_advance_91 rfl (fun z_97 hz_97 => ?_)
          refine s_ldc2 E k_1397 rfl dX10_advance_92 ?_
          refine s_ldc2 E k_1398 rfl dX10_advance_95 ?_
          refine s_sI (As := [AL z_97, AL 97, AL 122]) (S := []) E (Z_X10_in l D aC b v83 z_97 97 122) cs_X10_82 rfl rfl (Nat.le_of_ble_eq_true rfl) (Nat.le_of_ble_eq_true rfl) ⟨(Nat.le_of_ble_eq_true rfl), (Nat.le_of_ble_eq_true rfl)⟩ (Nat.le_of_ble_eq_true rfl) dX10_advance_98 (fun z_98 u_99 hp_100 => ?_)
          obtain ⟨hz_98, hp_100⟩ := hp_100
          subst hp_100
          have hcL_ : (97 : Int64).toInt = 97 := (by decide)
          have hcL_ : (122 : Int64).toInt = 122 := (by decide)
          refine z_if_eq (tgt := 117) (u := z_98.toInt) E dX10_advance_101 (by decide) rfl (fun h_101 => ?_) (fun h_101 => ?_)
          ·
            refine s_aload_n E dX10_advance_117 rfl rfl ?_
            refine s_iconst (v := 1) E dX10_advance_118 (by decide) ?_
            refine s_pI E fp_X10_106 (Or.inl rfl) rfl (jv_lt hj_91 (by decide)) dX10_advance_119 ?_
            refine s_gen (P := fun v => Jv w v ∧ (v.2.2.1 95 7).toInt = (v83.2.2.1 95 7).toInt ∧ (v.2.2.1 95 8).toInt = (v83.2.2.1 95 8).toInt ∧ (v.2.2.1 95 9).toInt = (v83.2.2.1 95 9).toInt ∧ (v.2.2.1 95 10).toInt = 1 ∧ (v.2.2.1 95 12).toInt = (v83.2.2.1 95 12).toInt ∧ (v.2.2.1 99) = (v83.2.2.1 99) ∧ (v.2.2.1 101) = (v83.2.2.1 101)) ⟨(jv_f_95_10 hj_91 (by decide) (by decide)), rfl, rfl, rfl, rfl, rfl, (by first | rfl | exact upI_ne (by decide)), (by first | rfl | exact upI_ne (by decide))⟩ (fun v_102 hj_103 => ?_)
            obtain ⟨hj_103, hk_104k0, hk_104k1, hk_104k2, hk_104k3, hk_104k4, hk_104c99, hk_104c101⟩ := hj_103
            refine s_goto (tgt := 239) E dX10_advance_122 (by decide) ?_
            exact r_void E dX10_advance_239 ⟨(by omega), (hk_104c99.trans hf83_99), (hk_104c101.trans hf83_101), hj_103⟩
          ·
            refine s_aload_n E dX10_advance_104 rfl rfl ?_
            refine s_dupR E dX10_advance_105 ?_
            refine s_gI E fg_X10_96 rfl rfl (jv_lt hj_91 (by decide)) dX10_advance_106 ?_
            refine z_nm (P := fun z => z.toInt = (v83.2.2.1 95 8).toInt ∧ 0 ≤ z.toInt ∧ z.toInt ≤ 1000) ⟨rfl, (rg_95_8 hj_91)⟩ (fun z_105 hz_105 => ?_)
            refine s_iconst (v := 1) E dX10_advance_109 (by decide) ?_
            refine z_iadd (u := z_105.toInt) (v := 1) E dX10_advance_110 rfl (by decide) (by omega) (by omega) (fun z_106 hz_106 => ?_)
            have hhz_106 : 0 ≤ z_106.toInt ∧ z_106.toInt ≤ 1000 := by omega
            refine s_pI E fp_X10_96 (Or.inl rfl) rfl (jv_lt hj_91 (by decide)) dX10_advance_111 ?_
            refine s_gen (P := fun v => Jv w v ∧ (v.2.2.1 95 7).toInt = (v83.2.2.1 95 7).toInt ∧ (v.2.2.1 95 8).toInt = z_106.toInt ∧ (v.2.2.1 95 9).toInt = (v83.2.2.1 95 9).toInt ∧ (v.2.2.1 95 10).toInt = (v83.2.2.1 95 10).toInt ∧ (v.2.2.1 95 12).toInt = (v83.2.2.1 95 12).toInt ∧ (v.2.2.1 99) = (v83.2.2.1 99) ∧ (v.2.2.1 101) = (v83.2.2.1 101)) ⟨(jv_f_95_8 hj_91 (by have hb_ := z32 z_106; omega) (by have hb_ := z32 z_106; omega)), rfl, rfl, rfl, rfl, rfl, (by first | rfl | exact upI_ne (by decide)), (by first | rfl | exact upI_ne (by decide))⟩ (fun v_107 hj_108 => ?_)
            obtain ⟨hj_108, hk_109k0, hk_109k1, hk_109k2, hk_109k3, hk_109k4, hk_109c99, hk_109c101⟩ := hj_108
            refine s_goto (tgt := 83) E dX10_advance_114 (by decide) ?_
            exact ih83 () v_107 ⟨(by omega), (hk_109c99.trans hf83_99), (hk_109c101.trans hf83_101), hj_108⟩ (by first | omega | decide | (dsimp only; omega) | (dsimp only; decide))
      ·
        refine s_aload_n E dX10_advance_61 rfl rfl ?_
        refine s_iconst (v := 0) E dX10_advance_62 (by decide) ?_
        refine s_pI E fp_X10_106 (Or.inl rfl) rfl (jv_lt hj_21 (by decide)) dX10_advance_63 ?_
        refine s_gen (P := fun v => Jv w v ∧ (v.2.2.1 95 7).toInt = (v_20.2.2.1 95 7).toInt ∧ (v.2.2.1 95 8).toInt = (v_20.2.2.1 95 8).toInt ∧ (v.2.2.1 95 9).toInt = (v_20.2.2.1 95 9).toInt ∧ (v.2.2.1 95 10).toInt = 0 ∧ (v.2.2.1 95 12).toInt = (v_20.2.2.1 95 12).toInt ∧ (v.2.2.1 99) = (v_20.2.2.1 99) ∧ (v.2.2.1 101) = (v_20.2.2.1 101)) ⟨(jv_f_95_10 hj_21 (by decide) (by decide)), rfl, rfl, rfl, rfl, rfl, (by first | rfl | exact upI_ne (by decide)), (by first | rfl | exact upI_ne (by decide))⟩ (fun v_110 hj_111 => ?_)
        obtain ⟨hj_111, hk_112k0, hk_112k1, hk_112k2, hk_112k3, hk_112k4, hk_112c99, hk_112c101⟩ := hj_111
        refine s_goto (tgt := 239) E dX10_advance_66 (by decide) ?_
        exact r_void E dX10_advance_239 ⟨(by omega), (hk_112c99.trans (hk_22c99.trans hf0_99)), (hk_112c101.trans (hk_22c101.trans hf0_101)), hj_111⟩
    ·
      refine s_aload_n E dX10_advance_26 rfl rfl ?_
      refine s_dupR E dX10_advance_27 ?_
      refine s_gI E fg_X10_96 rfl rfl (jv_lt hj_1 (by decide)) dX10_advance_28 ?_
      refine z_nm (P := fun z => z.toInt = (v0.2.2.1 95 8).toInt ∧ 0 ≤ z.toInt ∧ z.toInt ≤ 1000) ⟨rfl, (rg_95_8 hj_1)⟩ (fun z_113 hz_113 => ?_)
      refine s_iconst (v := 1) E dX10_advance_31 (by decide) ?_
      refine z_iadd (u := z_113.toInt) (v := 1) E dX10_advance_32 rfl (by decide) (by omega) (by omega) (fun z_114 hz_114 => ?_)
      have hhz_114 : 0 ≤ z_114.toInt ∧ z_114.toInt ≤ 1000 := by omega
      refine s_pI E fp_X10_96 (Or.inl rfl) rfl (jv_lt hj_1 (by decide)) dX10_advance_33 ?_
      refine s_gen (P := fun v => Jv w v ∧ (v.2.2.1 95 7).toInt = (v0.2.2.1 95 7).toInt ∧ (v.2.2.1 95 8).toInt = z_114.toInt ∧ (v.2.2.1 95 9).toInt = (v0.2.2.1 95 9).toInt ∧ (v.2.2.1 95 10).toInt = (v0.2.2.1 95 10).toInt ∧ (v.2.2.1 95 12).toInt = (v0.2.2.1 95 12).toInt ∧ (v.2.2.1 99) = (v0.2.2.1 99) ∧ (v.2.2.1 101) = (v0.2.2.1 101)) ⟨(jv_f_95_8 hj_1 (by have hb_ := z32 z_114; omega) (by have hb_ := z32 z_114; omega)), rfl, rfl, rfl, rfl, rfl, (by first | rfl | exact upI_ne (by decide)), (by first | rfl | exact upI_ne (by decide))⟩ (fun v_115 hj_116 => ?_)
      obtain ⟨hj_116, hk_117k0, hk_117k1, hk_117k2, hk_117k3, hk_117k4, hk_117c99, hk_117c101⟩ := hj_116
      refine s_goto (tgt := 0) E dX10_advance_36 (by decide) ?_
      exact ih0 () v_115 ⟨(by omega), (hk_117c99.trans hf0_99), (hk_117c101.trans hf0_101), hj_116⟩ (by first | omega | decide | (dsimp only; omega) | (dsimp only; decide))
set_option maxRecDepth 20000 in
set_option maxHeartbeats 2000000 in
theorem Z_X10_good_95 (l : Launch) (D : va_G) (aC : Nat → ClassId) (b : Nat) (w : XW)  (hI : Iv w)  : CnI l D aC b M_X10_good 0 0 0 0 [AR 95] w (fun r u => (0 ≤ r.toInt ∧ r.toInt ≤ 1 ∧ (¬ r.toInt = 0 ∨ (1 ≤ (w.2.2.1 95 12).toInt ∧ (w.2.2.1 95 12).toInt ≤ 3)) ∧ (r.toInt = 0 ∨ (0 ≤ (w.2.2.1 95 12).toInt ∧ (w.2.2.1 95 12).toInt ≤ 0))) ∧ ((r.toInt = 1 ↔ (w.2.2.1 95 12).toInt = 0)) ∧ w = u) := by
  refine cn_I (own := RX10) (nm := "good") (L0 := [some (AR 95)]) (by decide +kernel) rfl rfl (Nat.le_of_ble_eq_true rfl) rfl ?_
  intro p e s m args below meth c E hin
  have hJ : Jv w w := jv_rfl hI
  refine s_aload_n E dX10_good_0 rfl rfl ?_
  refine s_gI E fg_X10_127 rfl rfl (jv_lt hJ (by decide)) dX10_good_1 ?_
  refine z_nm (P := fun z => z.toInt = (w.2.2.1 95 12).toInt ∧ 0 ≤ z.toInt ∧ z.toInt ≤ 3) ⟨rfl, (rg_95_12 hJ)⟩ (fun z_1 hz_1 => ?_)
  refine z_if_ne (tgt := 11) (u := z_1.toInt) E dX10_good_4 (by decide) rfl (fun h_2 => ?_) (fun h_2 => ?_)
  ·
    refine s_iconst (v := 0) E dX10_good_11 (by decide) ?_
    exact r_bool E dX10_good_12 (Or.inl rfl) ⟨⟨by decide, by decide, by first | (left; decide) | (right; decide) | (right; have hb_ := z32 (w.2.2.1 95 12); omega), by first | (left; decide) | (right; decide) | (right; have hb_ := z32 (w.2.2.1 95 12); omega)⟩, (by have hrc_ : (0 : Int32).toInt = 0 := (by decide); omega), rfl⟩
  ·
    refine s_iconst (v := 1) E dX10_good_7 (by decide) ?_
    refine s_goto (tgt := 12) E dX10_good_8 (by decide) ?_
    exact r_bool E dX10_good_12 (Or.inr rfl) ⟨⟨by decide, by decide, by first | (left; decide) | (right; decide) | (right; have hb_ := z32 (w.2.2.1 95 12); omega), by first | (left; decide) | (right; decide) | (right; have hb_ := z32 (w.2.2.1 95 12); omega)⟩, (by have hrc_ : (1 : Int32).toInt = 1 := (by decide); omega), rfl⟩
