set_option maxRecDepth 20000 in
set_option maxHeartbeats 2000000 in
theorem Z_X10_ball_95 (l : Launch) (D : va_G) (aC : Nat → ClassId) (b : Nat) (w : XW)  (hI : Iv w)  : CnI l D aC b M_X10_ball 12 373 0 0 [AR 95] w (fun r u => ((-4) ≤ r.toInt ∧ r.toInt ≤ 2147483647) ∧ Jv w u) := by
  refine cn_I (own := RX10) (nm := "ball") (L0 := [some (AR 95), none]) (by decide +kernel) rfl rfl (Nat.le_of_ble_eq_true rfl) rfl ?_
  intro p e s m args below meth c E hin
  have hJ : Jv w w := jv_rfl hI
  refine s_aload_n E dX10_ball_0 rfl rfl ?_
  refine s_aload_n E dX10_ball_1 rfl rfl ?_
  refine s_gI E fg_X10_90 rfl rfl (jv_lt hJ (by decide)) dX10_ball_2 ?_
  refine z_nm (P := fun z => z.toInt = (w.2.2.1 95 5).toInt ∧ 0 ≤ z.toInt ∧ z.toInt ≤ 1000) ⟨rfl, (rg_95_5 hJ)⟩ (fun z_1 hz_1 => ?_)
  refine s_pI E fp_X10_93 (Or.inl rfl) rfl (jv_lt hJ (by decide)) dX10_ball_5 ?_
  refine s_gen (P := fun v => Jv w v ∧ (v.2.2.1 95 7).toInt = z_1.toInt ∧ (v.2.2.1 95 8).toInt = (w.2.2.1 95 8).toInt ∧ (v.2.2.1 95 9).toInt = (w.2.2.1 95 9).toInt ∧ (v.2.2.1 95 10).toInt = (w.2.2.1 95 10).toInt ∧ (v.2.2.1 95 12).toInt = (w.2.2.1 95 12).toInt ∧ (v.2.2.1 101 9).toInt = (w.2.2.1 101 9).toInt ∧ (v.2.2.1 101 5).toInt = (w.2.2.1 101 5).toInt) ⟨(jv_f_95_7 hJ (by have hb_ := z32 z_1; omega) (by have hb_ := z32 z_1; omega)), rfl, rfl, rfl, rfl, rfl, rfl, rfl⟩ (fun v_2 hj_3 => ?_)
  obtain ⟨hj_3, hk_4k0, hk_4k1, hk_4k2, hk_4k3, hk_4k4, hk_4k5, hk_4k6⟩ := hj_3
  refine s_aload_n E dX10_ball_8 rfl rfl ?_
  refine s_iconst (v := 0) E dX10_ball_9 (by decide) ?_
  refine s_pI E fp_X10_90 (Or.inl rfl) rfl (jv_lt hj_3 (by decide)) dX10_ball_10 ?_
  refine s_gen (P := fun v => Jv w v ∧ (v.2.2.1 95 7).toInt = (v_2.2.2.1 95 7).toInt ∧ (v.2.2.1 95 8).toInt = (v_2.2.2.1 95 8).toInt ∧ (v.2.2.1 95 9).toInt = (v_2.2.2.1 95 9).toInt ∧ (v.2.2.1 95 10).toInt = (v_2.2.2.1 95 10).toInt ∧ (v.2.2.1 95 12).toInt = (v_2.2.2.1 95 12).toInt ∧ (v.2.2.1 101 9).toInt = (v_2.2.2.1 101 9).toInt ∧ (v.2.2.1 101 5).toInt = (v_2.2.2.1 101 5).toInt) ⟨(jv_f_95_5 hj_3 (by decide) (by decide)), rfl, rfl, rfl, rfl, rfl, rfl, rfl⟩ (fun v_5 hj_6 => ?_)
  obtain ⟨hj_6, hk_7k0, hk_7k1, hk_7k2, hk_7k3, hk_7k4, hk_7k5, hk_7k6⟩ := hj_6
  refine s_aload_n E dX10_ball_13 rfl rfl ?_
  refine s_iconst (v := 0) E dX10_ball_14 (by decide) ?_
  refine s_pI E fp_X10_96 (Or.inl rfl) rfl (jv_lt hj_6 (by decide)) dX10_ball_15 ?_
  refine s_gen (P := fun v => Jv w v ∧ (v.2.2.1 95 7).toInt = (v_5.2.2.1 95 7).toInt ∧ (v.2.2.1 95 8).toInt = 0 ∧ (v.2.2.1 95 9).toInt = (v_5.2.2.1 95 9).toInt ∧ (v.2.2.1 95 10).toInt = (v_5.2.2.1 95 10).toInt ∧ (v.2.2.1 95 12).toInt = (v_5.2.2.1 95 12).toInt ∧ (v.2.2.1 101 9).toInt = (v_5.2.2.1 101 9).toInt ∧ (v.2.2.1 101 5).toInt = (v_5.2.2.1 101 5).toInt) ⟨(jv_f_95_8 hj_6 (by decide) (by decide)), rfl, rfl, rfl, rfl, rfl, rfl, rfl⟩ (fun v_8 hj_9 => ?_)
  obtain ⟨hj_9, hk_10k0, hk_10k1, hk_10k2, hk_10k3, hk_10k4, hk_10k5, hk_10k6⟩ := hj_9
  refine s_aload_n E dX10_ball_18 rfl rfl ?_
  refine s_iconst (v := 0) E dX10_ball_19 (by decide) ?_
  refine s_pI E fp_X10_127 (Or.inl rfl) rfl (jv_lt hj_9 (by decide)) dX10_ball_20 ?_
  have k1_ : Jw w (upI v_8 95 12 0) := jw_up (jv_w hj_9) (in_of (a := 0) (z := 3) (by decide +kernel) (by decide) (by decide) (by decide)) ⟨by decide, by decide⟩ (by decide)
  refine s_aload_n E dX10_ball_23 rfl rfl ?_
  refine s_iconst (v := (-1)) E dX10_ball_24 (by decide) ?_
  refine s_pI E fp_X10_27 (Or.inl rfl) rfl (jw_lt k1_ (by decide)) dX10_ball_25 ?_
  have k2_ : Jw w (upI (upI v_8 95 12 0) 95 13 (-1)) := jw_up k1_ (in_of (a := (-2147483648)) (z := 2147483647) (by decide +kernel) (by decide) (by decide) (by decide)) ⟨by decide, by decide⟩ (by decide)
  refine s_iconst (v := 0) E dX10_ball_28 (by decide) ?_
  refine s_istore_n (L2 := [some (AR 95), some (AI 0)]) E dX10_ball_29 rfl (by decide) rfl ?_
  refine z_loop (St := Int32) (Pi := fun q30_ v30 => (0 ≤ q30_.toInt ∧ q30_.toInt ≤ 134) ∧ (∀ j : Nat, (j : Int) < q30_.toInt → v30.2.2.1 101 j = 0) ∧ v30.2.2.1 13 = v_8.2.2.1 13 ∧ v30.2.2.1 24 = v_8.2.2.1 24 ∧ Jw w v30) (Lf := fun q30_ => [some (AR 95), some (AI q30_)]) (fun q30_ _ => (135 - q30_.toInt).toNat) 0 ⟨⟨by decide, by decide⟩, fun j h_ => absurd h_ (by have h0_ : (0 : Int32).toInt = 0 := (by decide); omega), rfl, rfl, k2_⟩ ?_
  rintro q30_ v30 ⟨hq30_, hz30_, f13_, f24_, k3_⟩ ih30
  refine s_loc (L2 := [some (AR 95), some (AI q30_)]) rfl ?_
  refine s_iload_n E dX10_ball_30 rfl rfl ?_
  refine s_sipush (v := 134) E dX10_ball_31 (by decide) ?_
  refine z_icmp_ge (tgt := 50) (u := q30_.toInt) (v := 134) E dX10_ball_34 (by decide) rfl (by decide) (fun h30_ => ?_) (fun h30_ => ?_)
  ·
    have hJ5_ : Jv w v30 := jv_anew hj_9 k3_ f13_ f24_ (fun j hj_ => hz30_ j (by omega))
    have n9_ : (v30.2.2.1 101 9).toInt = 0 := by rw [hz30_ 9 (by omega)]; decide
    have n5_ : (v30.2.2.1 101 5).toInt = 0 := by rw [hz30_ 5 (by omega)]; decide
    refine s_aload_n E dX10_ball_50 rfl rfl ?_
    refine s_vV (As := []) (S := []) E (Z_X10_advance_95 l D aC b v30  hJ5_.1 ) cv_X10_147 rfl rfl rfl (jv_lt hJ5_ (by decide)) (Nat.le_of_ble_eq_true rfl) (Nat.le_of_ble_eq_true rfl) ⟨(Nat.le_of_ble_eq_true rfl), (Nat.le_of_ble_eq_true rfl)⟩ (Nat.le_of_ble_eq_true rfl) dX10_ball_51 (fun u_11 hp_12 => ?_)
    obtain ⟨hx_hp_12, hf_u_11_99, hf_u_11_101, hp_12⟩ := hp_12
    have hj_13 := jv_trans hJ5_ hp_12
    have hfa_101_9 := congrArg Int32.toInt (congrFun hf_u_11_101 9)
    have hfa_101_5 := congrArg Int32.toInt (congrFun hf_u_11_101 5)
    have hr_ := rg_95_9 hj_13
    refine z_loop (St := Unit) (Pi := fun () v54 => ((v54.2.2.1 95 9).toInt ≤ (v54.2.2.1 95 8).toInt ∧ ((v54.2.2.1 95 10).toInt = 0 ∨ (v54.2.2.1 95 9).toInt < (v54.2.2.1 95 8).toInt) ∧ ((v54.2.2.1 95 12).toInt = 0 → (v54.2.2.1 101 9).toInt ≤ (v54.2.2.1 95 9).toInt) ∧ 0 ≤ (v54.2.2.1 101 9).toInt ∧ ((v54.2.2.1 101 9).toInt = 0 → (v54.2.2.1 101 5).toInt = 0)) ∧ Jv w v54) (Lf := fun () => [some (AR 95), some (AI q30_)]) (fun () v54 => (if (v54.2.2.1 95 12).toInt = 0 then (1001 - (v54.2.2.1 95 9).toInt).toNat + 1 else 0)) () ⟨(by omega), hj_13⟩ ?_
    rintro _ v54 ⟨hl54, hj_14⟩ ih54
    refine s_loc (L2 := [some (AR 95), some (AI q30_)]) rfl ?_
    refine s_aload_n E dX10_ball_54 rfl rfl ?_
    refine s_vI (As := []) (S := []) E (Z_X10_good_95 l D aC b v54  hj_14.1 ) cv_X10_130 rfl rfl rfl (jv_lt hj_14 (by decide)) (Nat.le_of_ble_eq_true rfl) (Nat.le_of_ble_eq_true rfl) ⟨(Nat.le_of_ble_eq_true rfl), (Nat.le_of_ble_eq_true rfl)⟩ (Nat.le_of_ble_eq_true rfl) dX10_ball_55 (fun z_17 u_15 hp_16 => ?_)
    obtain ⟨hz_17, hxz_17, hp_16⟩ := hp_16
    subst hp_16
    refine z_if_eq (tgt := 75) (u := z_17.toInt) E dX10_ball_58 (by decide) rfl (fun h_19 => ?_) (fun h_19 => ?_)
    ·
      refine s_aload_n E dX10_ball_75 rfl rfl ?_
      refine s_vI (As := []) (S := []) E (Z_X10_good_95 l D aC b v54  hj_14.1 ) cv_X10_130 rfl rfl rfl (jv_lt hj_14 (by decide)) (Nat.le_of_ble_eq_true rfl) (Nat.le_of_ble_eq_true rfl) ⟨(Nat.le_of_ble_eq_true rfl), (Nat.le_of_ble_eq_true rfl)⟩ (Nat.le_of_ble_eq_true rfl) dX10_ball_76 (fun z_22 u_20 hp_21 => ?_)
      obtain ⟨hz_22, hxz_22, hp_21⟩ := hp_21
      subst hp_21
      refine z_if_ne (tgt := 85) (u := z_22.toInt) E dX10_ball_79 (by decide) rfl (fun h_24 => ?_) (fun h_24 => ?_)
      ·
        have h0k_ : (v54.2.2.1 95 12).toInt = 0 := by omega
        refine s_iconst (v := 0) E dX10_ball_85 (by decide) ?_
        refine s_istore_n (L2 := [some (AR 95), some (AI 0)]) E dX10_ball_86 rfl (by decide) rfl ?_
        refine z_loop (St := Int32) (Pi := fun q87_ v87 => (0 ≤ q87_.toInt ∧ q87_.toInt ≤ 134) ∧ v87 = stI v54 96 (yP (v54.2.2.1 101) (v54.2.2.1 96) 0 q87_.toInt.toNat)) (Lf := fun q87_ => [some (AR 95), some (AI q87_)]) (fun q87_ _ => (135 - q87_.toInt).toNat) 0 ⟨⟨by decide, by decide⟩, st_start (by decide)⟩ ?_
        rintro q87_ v87 ⟨hq87_, hv87_⟩ ih87
        subst hv87_
        refine s_loc (L2 := [some (AR 95), some (AI q87_)]) rfl ?_
        refine s_iload_n E dX10_ball_87 rfl rfl ?_
        refine s_sipush (v := 134) E dX10_ball_88 (by decide) ?_
        refine z_icmp_ge (tgt := 112) (u := q87_.toInt) (v := 134) E dX10_ball_91 (by decide) rfl (by decide) (fun h87_ => ?_) (fun h87_ => ?_)
        ·
          have e87_ : q87_.toInt.toNat = 134 := by omega
          rw [e87_]
          have hJ7_ := cp_ball hj_14 h0k_
          refine s_gen (P := Jv w) hJ7_ (fun v112 hj112 => ?_)
          refine s_aload_n E dX10_ball_112 rfl rfl ?_
          refine s_gR (r := 96) E fg_X10_9 rfl rfl (jv_lt hj112 (by decide)) (jv_r hj112 (by decide +kernel)) dX10_ball_113 ?_
          refine s_bipush (v := 9) E dX10_ball_116 (by decide) ?_
          refine s_iald E rfl (jv_lt hj112 (by decide)) (z_in (u := 9) (by decide) (by omega) (by omega)) dX10_ball_118 ?_
          refine z_nm (P := fun z => z.toInt = (v112.2.2.1 96 9).toInt ∧ 0 ≤ z.toInt ∧ z.toInt ≤ 2147483647) ⟨rfl, (rw_96_9 hj112)⟩ (fun z_25 hz_25 => ?_)
          exact r_int E dX10_ball_119 ⟨⟨by have hb_ := z32 z_25; omega, by have hb_ := z32 z_25; omega⟩, hj112⟩
        ·
          refine s_aload_n E dX10_ball_94 rfl rfl ?_
          refine s_gR (r := 96) E fg_X10_9 rfl rfl (jv_lt hj_14 (by decide)) (jv_r hj_14 (by decide +kernel)) dX10_ball_95 ?_
          refine s_iload_n E dX10_ball_98 rfl rfl ?_
          refine s_aload_n E dX10_ball_99 rfl rfl ?_
          refine s_gR (r := 101) E fg_X10_31 rfl rfl (jv_lt hj_14 (by decide)) (jv_r hj_14 (by decide +kernel)) dX10_ball_100 ?_
          refine s_iload_n E dX10_ball_103 rfl rfl ?_
          refine s_iald E rfl (jv_lt hj_14 (by decide)) (z_in (u := q87_.toInt) rfl (by omega) (by omega)) dX10_ball_104 ?_
          refine z_nm (P := fun z => z = v54.2.2.1 101 q87_.toInt.toNat) (congrFun (st_ne (show 101 ≠ 96 by decide)) _) (fun z88_ hz88_ => ?_)
          refine s_iast E rfl (jv_lt hj_14 (by decide)) (z_in (u := q87_.toInt) rfl (by omega) (by omega)) dX10_ball_105 ?_
          refine z_iinc (u := q87_.toInt) (L2 := fun z_ => [some (AR 95), some (AI z_)]) E dX10_ball_106 rfl rfl (by decide) (fun _ => rfl) (by decide) (by omega) (by omega) (fun z89_ hz89_ => ?_)
          refine s_goto (tgt := 87) E dX10_ball_109 (by decide) ?_
          exact ih87 z89_ _ ⟨⟨by omega, by omega⟩, st_next (by show q87_.toInt.toNat = _; omega) hz88_ (by omega)⟩ (by first | omega | (dsimp only; omega))
      ·
        refine s_bipush (v := (-4)) E dX10_ball_82 (by decide) ?_
        exact r_int E dX10_ball_84 ⟨(by decide), hj_14⟩
    ·
      refine s_aload_n E dX10_ball_61 rfl rfl ?_
      refine s_gI E fg_X10_106 rfl rfl (jv_lt hj_14 (by decide)) dX10_ball_62 ?_
      refine z_nm (P := fun z => z.toInt = (v54.2.2.1 95 10).toInt ∧ 0 ≤ z.toInt ∧ z.toInt ≤ 4) ⟨rfl, (rg_95_10 hj_14)⟩ (fun z_26 hz_26 => ?_)
      refine z_if_eq (tgt := 75) (u := z_26.toInt) E dX10_ball_65 (by decide) rfl (fun h_27 => ?_) (fun h_27 => ?_)
      ·
        refine s_aload_n E dX10_ball_75 rfl rfl ?_
        refine s_vI (As := []) (S := []) E (Z_X10_good_95 l D aC b v54  hj_14.1 ) cv_X10_130 rfl rfl rfl (jv_lt hj_14 (by decide)) (Nat.le_of_ble_eq_true rfl) (Nat.le_of_ble_eq_true rfl) ⟨(Nat.le_of_ble_eq_true rfl), (Nat.le_of_ble_eq_true rfl)⟩ (Nat.le_of_ble_eq_true rfl) dX10_ball_76 (fun z_30 u_28 hp_29 => ?_)
        obtain ⟨hz_30, hxz_30, hp_29⟩ := hp_29
        subst hp_29
        refine z_if_ne (tgt := 85) (u := z_30.toInt) E dX10_ball_79 (by decide) rfl (fun h_32 => ?_) (fun h_32 => ?_)
        ·
          have h0k_ : (v54.2.2.1 95 12).toInt = 0 := by omega
          refine s_iconst (v := 0) E dX10_ball_85 (by decide) ?_
          refine s_istore_n (L2 := [some (AR 95), some (AI 0)]) E dX10_ball_86 rfl (by decide) rfl ?_
          refine z_loop (St := Int32) (Pi := fun q87_ v87 => (0 ≤ q87_.toInt ∧ q87_.toInt ≤ 134) ∧ v87 = stI v54 96 (yP (v54.2.2.1 101) (v54.2.2.1 96) 0 q87_.toInt.toNat)) (Lf := fun q87_ => [some (AR 95), some (AI q87_)]) (fun q87_ _ => (135 - q87_.toInt).toNat) 0 ⟨⟨by decide, by decide⟩, st_start (by decide)⟩ ?_
          rintro q87_ v87 ⟨hq87_, hv87_⟩ ih87
          subst hv87_
          refine s_loc (L2 := [some (AR 95), some (AI q87_)]) rfl ?_
          refine s_iload_n E dX10_ball_87 rfl rfl ?_
          refine s_sipush (v := 134) E dX10_ball_88 (by decide) ?_
          refine z_icmp_ge (tgt := 112) (u := q87_.toInt) (v := 134) E dX10_ball_91 (by decide) rfl (by decide) (fun h87_ => ?_) (fun h87_ => ?_)
          ·
            have e87_ : q87_.toInt.toNat = 134 := by omega
            rw [e87_]
            have hJ7_ := cp_ball hj_14 h0k_
            refine s_gen (P := Jv w) hJ7_ (fun v112 hj112 => ?_)
            refine s_aload_n E dX10_ball_112 rfl rfl ?_
            refine s_gR (r := 96) E fg_X10_9 rfl rfl (jv_lt hj112 (by decide)) (jv_r hj112 (by decide +kernel)) dX10_ball_113 ?_
            refine s_bipush (v := 9) E dX10_ball_116 (by decide) ?_
            refine s_iald E rfl (jv_lt hj112 (by decide)) (z_in (u := 9) (by decide) (by omega) (by omega)) dX10_ball_118 ?_
            refine z_nm (P := fun z => z.toInt = (v112.2.2.1 96 9).toInt ∧ 0 ≤ z.toInt ∧ z.toInt ≤ 2147483647) ⟨rfl, (rw_96_9 hj112)⟩ (fun z_33 hz_33 => ?_)
            exact r_int E dX10_ball_119 ⟨⟨by have hb_ := z32 z_33; omega, by have hb_ := z32 z_33; omega⟩, hj112⟩
          ·
            refine s_aload_n E dX10_ball_94 rfl rfl ?_
            refine s_gR (r := 96) E fg_X10_9 rfl rfl (jv_lt hj_14 (by decide)) (jv_r hj_14 (by decide +kernel)) dX10_ball_95 ?_
            refine s_iload_n E dX10_ball_98 rfl rfl ?_
            refine s_aload_n E dX10_ball_99 rfl rfl ?_
            refine s_gR (r := 101) E fg_X10_31 rfl rfl (jv_lt hj_14 (by decide)) (jv_r hj_14 (by decide +kernel)) dX10_ball_100 ?_
            refine s_iload_n E dX10_ball_103 rfl rfl ?_
            refine s_iald E rfl (jv_lt hj_14 (by decide)) (z_in (u := q87_.toInt) rfl (by omega) (by omega)) dX10_ball_104 ?_
            refine z_nm (P := fun z => z = v54.2.2.1 101 q87_.toInt.toNat) (congrFun (st_ne (show 101 ≠ 96 by decide)) _) (fun z88_ hz88_ => ?_)
            refine s_iast E rfl (jv_lt hj_14 (by decide)) (z_in (u := q87_.toInt) rfl (by omega) (by omega)) dX10_ball_105 ?_
            refine z_iinc (u := q87_.toInt) (L2 := fun z_ => [some (AR 95), some (AI z_)]) E dX10_ball_106 rfl rfl (by decide) (fun _ => rfl) (by decide) (by omega) (by omega) (fun z89_ hz89_ => ?_)
            refine s_goto (tgt := 87) E dX10_ball_109 (by decide) ?_
            exact ih87 z89_ _ ⟨⟨by omega, by omega⟩, st_next (by show q87_.toInt.toNat = _; omega) hz88_ (by omega)⟩ (by first | omega | (dsimp only; omega))
        ·
          refine s_bipush (v := (-4)) E dX10_ball_82 (by decide) ?_
          exact r_int E dX10_ball_84 ⟨(by decide), hj_14⟩
      ·
        have hr_ := rg_95_9 hj_14
        refine s_aload_n E dX10_ball_68 rfl rfl ?_
        refine s_vV (As := []) (S := []) E (Z_X10_readLine_95 l D aC b v54  hj_14.1  (by omega) (by omega) (by omega)) cv_X10_215 rfl rfl rfl (jv_lt hj_14 (by decide)) (Nat.le_of_ble_eq_true rfl) (Nat.le_of_ble_eq_true rfl) ⟨(Nat.le_of_ble_eq_true rfl), (Nat.le_of_ble_eq_true rfl)⟩ (Nat.le_of_ble_eq_true rfl) dX10_ball_69 (fun u_34 hp_35 => ?_)
        obtain ⟨hx_hp_35, hp_35⟩ := hp_35
        have hj_36 := jv_trans hj_14 hp_35
        refine s_goto (tgt := 54) E dX10_ball_72 (by decide) ?_
        exact ih54 () u_34 ⟨(by omega), hj_36⟩ (by (try dsimp only); split <;> (try split) <;> omega)
  ·
    refine s_aload_n E dX10_ball_37 rfl rfl ?_
    refine s_gR (r := 101) E fg_X10_31 rfl rfl (jw_lt k3_ (by decide)) (jw_r k3_ (by decide +kernel)) dX10_ball_38 ?_
    refine s_iload_n E dX10_ball_41 rfl rfl ?_
    refine s_iconst (v := 0) E dX10_ball_42 (by decide) ?_
    refine s_iast E rfl (jw_lt k3_ (by decide)) (z_in (u := q30_.toInt) rfl (by omega) (by omega)) dX10_ball_43 ?_
    refine z_iinc (u := q30_.toInt) (L2 := fun z_ => [some (AR 95), some (AI z_)]) E dX10_ball_44 rfl rfl (by decide) (fun _ => rfl) (by decide) (by omega) (by omega) (fun z31_ hz31_ => ?_)
    refine s_goto (tgt := 30) E dX10_ball_47 (by decide) ?_
    exact ih30 z31_ _ ⟨⟨by omega, by omega⟩, cl_step (by omega) hz30_ (by omega), (upI_ne (show 13 ≠ 101 by decide)).trans f13_, (upI_ne (show 24 ≠ 101 by decide)).trans f24_, cl_jw k3_ (by omega) (by omega)⟩ (by first | omega | (dsimp only; omega))
set_option maxRecDepth 20000 in
set_option maxHeartbeats 2000000 in
theorem Z_X10_fault_95 (l : Launch) (D : va_G) (aC : Nat → ClassId) (b : Nat) (w : XW) (x1 : Int32) (hI : Iv w)  : CnI l D aC b M_X10_fault 0 0 0 0 [AR 95, AI x1] w (fun r u => ((-2147483648) ≤ r.toInt ∧ r.toInt ≤ 2147483647 ∧ (¬ r.toInt = 0 ∨ (0 ≤ x1.toInt ∧ x1.toInt ≤ 1))) ∧ w = u) := by
  refine cn_I (own := RX10) (nm := "fault") (L0 := [some (AR 95), some (AI x1)]) (by decide +kernel) rfl rfl (Nat.le_of_ble_eq_true rfl) rfl ?_
  intro p e s m args below meth c E hin
  have hJ : Jv w w := jv_rfl hI
  have hb_x1 := z32 x1
  refine s_iload_n E dX10_fault_0 rfl rfl ?_
  refine z_if_ne (tgt := 11) (u := x1.toInt) E dX10_fault_1 (by decide) rfl (fun h_1 => ?_) (fun h_1 => ?_)
  ·
    refine s_iload_n E dX10_fault_11 rfl rfl ?_
    refine s_iconst (v := 1) E dX10_fault_12 (by decide) ?_
    refine z_icmp_ne (tgt := 23) (u := x1.toInt) (v := 1) E dX10_fault_13 (by decide) rfl (by decide) (fun h_2 => ?_) (fun h_2 => ?_)
    ·
      refine s_iconst (v := (-1)) E dX10_fault_23 (by decide) ?_
      exact r_int E dX10_fault_24 ⟨⟨by decide, by decide, by first | (left; decide) | (right; decide) | (right; have hb_ := z32 x1; omega)⟩, rfl⟩
    ·
      refine s_aload_n E dX10_fault_16 rfl rfl ?_
      refine s_gI E fg_X10_27 rfl rfl (jv_lt hJ (by decide)) dX10_fault_17 ?_
      refine z_nm (P := fun z => z.toInt = (w.2.2.1 95 13).toInt ∧ (-2147483648) ≤ z.toInt ∧ z.toInt ≤ 2147483647) ⟨rfl, z32 _⟩ (fun z_3 hz_3 => ?_)
      refine s_goto (tgt := 24) E dX10_fault_20 (by decide) ?_
      exact r_int E dX10_fault_24 ⟨⟨by have hb_ := z32 z_3; omega, by have hb_ := z32 z_3; omega, by first | (right; decide) | (have hb_ := z32 z_3; omega) | (have hb_ := z32 z_3; have hc_ := z32 x1; omega)⟩, rfl⟩
  ·
    refine s_aload_n E dX10_fault_4 rfl rfl ?_
    refine s_gI E fg_X10_127 rfl rfl (jv_lt hJ (by decide)) dX10_fault_5 ?_
    refine z_nm (P := fun z => z.toInt = (w.2.2.1 95 12).toInt ∧ 0 ≤ z.toInt ∧ z.toInt ≤ 3) ⟨rfl, (rg_95_12 hJ)⟩ (fun z_4 hz_4 => ?_)
    refine s_goto (tgt := 24) E dX10_fault_8 (by decide) ?_
    exact r_int E dX10_fault_24 ⟨⟨by have hb_ := z32 z_4; omega, by have hb_ := z32 z_4; omega, by first | (right; decide) | (have hb_ := z32 z_4; omega) | (have hb_ := z32 z_4; have hc_ := z32 x1; omega)⟩, rfl⟩
set_option maxRecDepth 20000 in
set_option maxHeartbeats 2000000 in
theorem Z_X10_isDoor_95 (l : Launch) (D : va_G) (aC : Nat → ClassId) (b : Nat) (w : XW) (x1 : Int32) (hI : Iv w)  : CnI l D aC b M_X10_isDoor 1 25 0 0 [AR 95, AI x1] w (fun r u => (0 ≤ r.toInt ∧ r.toInt ≤ 1 ∧ (¬ r.toInt = 0 ∨ (0 ≤ (w.2.2.1 96 4).toInt ∧ (w.2.2.1 96 4).toInt ≤ 12)) ∧ (r.toInt = 0 ∨ (0 ≤ x1.toInt ∧ x1.toInt ≤ 11)) ∧ (r.toInt = 0 ∨ (0 ≤ (w.2.2.1 96 4).toInt ∧ (w.2.2.1 96 4).toInt ≤ 12))) ∧ w = u) := by
  refine cn_I (own := RX10) (nm := "isDoor") (L0 := [some (AR 95), some (AI x1)]) (by decide +kernel) rfl rfl (Nat.le_of_ble_eq_true rfl) rfl ?_
  intro p e s m args below meth c E hin
  have hJ : Jv w w := jv_rfl hI
  have hb_x1 := z32 x1
  refine s_iload_n E dX10_isDoor_0 rfl rfl ?_
  refine z_i2l (u := x1.toInt) E dX10_isDoor_1 rfl (fun z_1 hz_1 => ?_)
  refine s_lconst (v := 0) E dX10_isDoor_2 (by decide) ?_
  refine s_aload_n E dX10_isDoor_3 rfl rfl ?_
  refine s_gR (r := 96) E fg_X10_9 rfl rfl (jv_lt hJ (by decide)) (jv_r hJ (by decide +kernel)) dX10_isDoor_4 ?_
  refine s_iconst (v := 4) E dX10_isDoor_7 (by decide) ?_
  refine s_iald E rfl (jv_lt hJ (by decide)) (z_in (u := 4) (by decide) (by omega) (by omega)) dX10_isDoor_8 ?_
  refine z_nm (P := fun z => z.toInt = (w.2.2.1 96 4).toInt ∧ 0 ≤ z.toInt ∧ z.toInt ≤ 12) ⟨rfl, (rw_96_4 hJ)⟩ (fun z_2 hz_2 => ?_)
  refine s_iconst (v := 1) E dX10_isDoor_9 (by decide) ?_
  refine z_isub (u := z_2.toInt) (v := 1) E dX10_isDoor_10 rfl (by decide) (by omega) (by omega) (fun z_3 hz_3 => ?_)
  refine z_i2l (u := z_3.toInt) E dX10_isDoor_11 rfl (fun z_4 hz_4 => ?_)
  refine s_sI (As := [AL z_1, AL 0, AL z_4]) (S := []) E (Z_X10_in l D aC b w z_1 0 z_4) cs_X10_82 rfl rfl (Nat.le_of_ble_eq_true rfl) (Nat.le_of_ble_eq_true rfl) ⟨(Nat.le_of_ble_eq_true rfl), (Nat.le_of_ble_eq_true rfl)⟩ (Nat.le_of_ble_eq_true rfl) dX10_isDoor_12 (fun z_5 u_6 hp_7 => ?_)
  obtain ⟨hz_5, hp_7⟩ := hp_7
  subst hp_7
  have hcL_ : (0 : Int64).toInt = 0 := (by decide)
  exact r_bool E dX10_isDoor_15 (z_bool (by omega) (by omega)) ⟨⟨by have hb_ := z32 z_5; omega, by have hb_ := z32 z_5; omega, by first | (right; decide) | (have hb_ := z32 z_5; omega) | (have hb_ := z32 z_5; have hc_ := z32 (w.2.2.1 96 4); omega), by first | (right; decide) | (have hb_ := z32 z_5; omega) | (have hb_ := z32 z_5; have hc_ := z32 x1; omega), by first | (right; decide) | (have hb_ := z32 z_5; omega) | (have hb_ := z32 z_5; have hc_ := z32 (w.2.2.1 96 4); omega)⟩, rfl⟩
set_option maxRecDepth 20000 in
set_option maxHeartbeats 2000000 in
theorem Z_X10_door_95 (l : Launch) (D : va_G) (aC : Nat → ClassId) (b : Nat) (w : XW) (x1 : Int32) (x2 : Int32) (hI : Iv w)  : CnI l D aC b M_X10_door 2 46 0 0 [AR 95, AI x1, AI x2] w (fun r u => ((-2) ≤ r.toInt ∧ r.toInt ≤ 9 ∧ (¬ r.toInt = 0 ∨ (0 ≤ x1.toInt ∧ x1.toInt ≤ 11)) ∧ (¬ r.toInt = 0 ∨ (0 ≤ x2.toInt ∧ x2.toInt ≤ 2)) ∧ (¬ r.toInt = 0 ∨ (0 ≤ (w.2.2.1 96 4).toInt ∧ (w.2.2.1 96 4).toInt ≤ 12)) ∧ (r.toInt = 0 ∨ (0 ≤ (w.2.2.1 96 4).toInt ∧ (w.2.2.1 96 4).toInt ≤ 12))) ∧ w = u) := by
  refine cn_I (own := RX10) (nm := "door") (L0 := [some (AR 95), some (AI x1), some (AI x2)]) (by decide +kernel) rfl rfl (Nat.le_of_ble_eq_true rfl) rfl ?_
  intro p e s m args below meth c E hin
  have hJ : Jv w w := jv_rfl hI
  have hb_x1 := z32 x1
  have hb_x2 := z32 x2
  refine s_aload_n E dX10_door_0 rfl rfl ?_
  refine s_iload_n E dX10_door_1 rfl rfl ?_
  refine s_vI (As := [AI x1]) (S := []) E (Z_X10_isDoor_95 l D aC b w x1 hJ.1 ) cv_X10_218 rfl rfl rfl (jv_lt hJ (by decide)) (Nat.le_of_ble_eq_true rfl) (Nat.le_of_ble_eq_true rfl) ⟨(Nat.le_of_ble_eq_true rfl), (Nat.le_of_ble_eq_true rfl)⟩ (Nat.le_of_ble_eq_true rfl) dX10_door_2 (fun z_3 u_1 hp_2 => ?_)
  obtain ⟨hz_3, hp_2⟩ := hp_2
  subst hp_2
  refine z_if_eq (tgt := 36) (u := z_3.toInt) E dX10_door_5 (by decide) rfl (fun h_5 => ?_) (fun h_5 => ?_)
  ·
    refine s_bipush (v := (-2)) E dX10_door_36 (by decide) ?_
    exact r_int E dX10_door_38 ⟨⟨by decide, by decide, by first | (left; decide) | (right; decide) | (right; have hb_ := z32 x1; omega), by first | (left; decide) | (right; decide) | (right; have hb_ := z32 x2; omega), by first | (left; decide) | (right; decide) | (right; have hb_ := z32 (w.2.2.1 96 4); omega), by first | (left; decide) | (right; decide) | (right; have hb_ := z32 (w.2.2.1 96 4); omega)⟩, rfl⟩
  ·
    refine s_iload_n E dX10_door_8 rfl rfl ?_
    refine z_i2l (u := x2.toInt) E dX10_door_9 rfl (fun z_6 hz_6 => ?_)
    refine s_lconst (v := 0) E dX10_door_10 (by decide) ?_
    refine s_ldc2 E k_1365 rfl dX10_door_11 ?_
    refine s_sI (As := [AL z_6, AL 0, AL 2]) (S := []) E (Z_X10_in l D aC b w z_6 0 2) cs_X10_82 rfl rfl (Nat.le_of_ble_eq_true rfl) (Nat.le_of_ble_eq_true rfl) ⟨(Nat.le_of_ble_eq_true rfl), (Nat.le_of_ble_eq_true rfl)⟩ (Nat.le_of_ble_eq_true rfl) dX10_door_14 (fun z_7 u_8 hp_9 => ?_)
    obtain ⟨hz_7, hp_9⟩ := hp_9
    subst hp_9
    have hcL_ : (0 : Int64).toInt = 0 := (by decide)
    have hcL_ : (2 : Int64).toInt = 2 := (by decide)
    refine z_if_eq (tgt := 36) (u := z_7.toInt) E dX10_door_17 (by decide) rfl (fun h_10 => ?_) (fun h_10 => ?_)
    ·
      refine s_bipush (v := (-2)) E dX10_door_36 (by decide) ?_
      exact r_int E dX10_door_38 ⟨⟨by decide, by decide, by first | (left; decide) | (right; decide) | (right; have hb_ := z32 x1; omega), by first | (left; decide) | (right; decide) | (right; have hb_ := z32 x2; omega), by first | (left; decide) | (right; decide) | (right; have hb_ := z32 (w.2.2.1 96 4); omega), by first | (left; decide) | (right; decide) | (right; have hb_ := z32 (w.2.2.1 96 4); omega)⟩, rfl⟩
    ·
      refine s_aload_n E dX10_door_20 rfl rfl ?_
      refine s_gR (r := 96) E fg_X10_9 rfl rfl (jv_lt hJ (by decide)) (jv_r hJ (by decide +kernel)) dX10_door_21 ?_
      refine s_bipush (v := 10) E dX10_door_24 (by decide) ?_
      refine s_iconst (v := 3) E dX10_door_26 (by decide) ?_
      refine s_iload_n E dX10_door_27 rfl rfl ?_
      refine z_imul (u := 3) (v := x1.toInt) E dX10_door_28 (by decide) rfl (by omega) (by omega) (fun z_11 hz_11 => ?_)
      refine z_iadd (u := 10) (v := z_11.toInt) E dX10_door_29 (by decide) rfl (by omega) (by omega) (fun z_12 hz_12 => ?_)
      refine s_iload_n E dX10_door_30 rfl rfl ?_
      refine z_iadd (u := z_12.toInt) (v := x2.toInt) E dX10_door_31 rfl rfl (by omega) (by omega) (fun z_13 hz_13 => ?_)
      refine s_iald E rfl (jv_lt hJ (by decide)) (z_in (u := z_13.toInt) rfl (by omega) (by omega)) dX10_door_32 ?_
      refine z_nm (P := fun z => z.toInt = (w.2.2.1 96 z_13.toNatClampNeg).toInt ∧ 0 ≤ z.toInt ∧ z.toInt ≤ 9) ⟨rfl, (rs_v hJ (by decide) 0 9 10 45 1 z_13 z_13.toInt (by decide +kernel) rfl (by omega) (by omega) (by omega))⟩ (fun z_14 hz_14 => ?_)
      refine s_goto (tgt := 38) E dX10_door_33 (by decide) ?_
      exact r_int E dX10_door_38 ⟨⟨by have hb_ := z32 z_14; omega, by have hb_ := z32 z_14; omega, by first | (right; decide) | (have hb_ := z32 z_14; omega) | (have hb_ := z32 z_14; have hc_ := z32 x1; omega), by first | (right; decide) | (have hb_ := z32 z_14; omega) | (have hb_ := z32 z_14; have hc_ := z32 x2; omega), by first | (right; decide) | (have hb_ := z32 z_14; omega) | (have hb_ := z32 z_14; have hc_ := z32 (w.2.2.1 96 4); omega), by first | (right; decide) | (have hb_ := z32 z_14; omega) | (have hb_ := z32 z_14; have hc_ := z32 (w.2.2.1 96 4); omega)⟩, rfl⟩
set_option maxRecDepth 20000 in
set_option maxHeartbeats 2000000 in
theorem Z_X10_isLady_95 (l : Launch) (D : va_G) (aC : Nat → ClassId) (b : Nat) (w : XW) (x1 : Int64) (hI : Iv w)  : CnI l D aC b M_X10_isLady 1 25 0 0 [AR 95, AL x1] w (fun r u => (0 ≤ r.toInt ∧ r.toInt ≤ 1 ∧ (¬ r.toInt = 0 ∨ (0 ≤ (w.2.2.1 96 5).toInt ∧ (w.2.2.1 96 5).toInt ≤ 6)) ∧ (r.toInt = 0 ∨ (0 ≤ x1.toInt ∧ x1.toInt ≤ 5)) ∧ (r.toInt = 0 ∨ (0 ≤ (w.2.2.1 96 5).toInt ∧ (w.2.2.1 96 5).toInt ≤ 6))) ∧ (r.toInt = 0 ∨ x1.toInt < (w.2.2.1 96 5).toInt) ∧ w = u) := by
  refine cn_I (own := RX10) (nm := "isLady") (L0 := [some (AR 95), some (AL x1), none]) (by decide +kernel) rfl rfl (Nat.le_of_ble_eq_true rfl) rfl ?_
  intro p e s m args below meth c E hin
  have hJ : Jv w w := jv_rfl hI
  refine s_lload_n E dX10_isLady_0 rfl rfl ?_
  refine s_lconst (v := 0) E dX10_isLady_1 (by decide) ?_
  refine s_aload_n E dX10_isLady_2 rfl rfl ?_
  refine s_gR (r := 96) E fg_X10_9 rfl rfl (jv_lt hJ (by decide)) (jv_r hJ (by decide +kernel)) dX10_isLady_3 ?_
  refine s_iconst (v := 5) E dX10_isLady_6 (by decide) ?_
  refine s_iald E rfl (jv_lt hJ (by decide)) (z_in (u := 5) (by decide) (by omega) (by omega)) dX10_isLady_7 ?_
  refine z_nm (P := fun z => z.toInt = (w.2.2.1 96 5).toInt ∧ 0 ≤ z.toInt ∧ z.toInt ≤ 6) ⟨rfl, (rw_96_5 hJ)⟩ (fun z_1 hz_1 => ?_)
  refine s_iconst (v := 1) E dX10_isLady_8 (by decide) ?_
  refine z_isub (u := z_1.toInt) (v := 1) E dX10_isLady_9 rfl (by decide) (by omega) (by omega) (fun z_2 hz_2 => ?_)
  refine z_i2l (u := z_2.toInt) E dX10_isLady_10 rfl (fun z_3 hz_3 => ?_)
  refine s_sI (As := [AL x1, AL 0, AL z_3]) (S := []) E (Z_X10_in l D aC b w x1 0 z_3) cs_X10_82 rfl rfl (Nat.le_of_ble_eq_true rfl) (Nat.le_of_ble_eq_true rfl) ⟨(Nat.le_of_ble_eq_true rfl), (Nat.le_of_ble_eq_true rfl)⟩ (Nat.le_of_ble_eq_true rfl) dX10_isLady_11 (fun z_4 u_5 hp_6 => ?_)
  obtain ⟨hz_4, hp_6⟩ := hp_6
  subst hp_6
  have hcL_ : (0 : Int64).toInt = 0 := (by decide)
  exact r_bool E dX10_isLady_14 (z_bool (by omega) (by omega)) ⟨⟨by have hb_ := z32 z_4; omega, by have hb_ := z32 z_4; omega, by first | (right; decide) | (have hb_ := z32 z_4; omega) | (have hb_ := z32 z_4; have hc_ := z32 (w.2.2.1 96 5); omega), by first | (right; decide) | (have hb_ := z32 z_4; omega) | (have hb_ := z32 z_4; have hc_ := z64 x1; omega), by first | (right; decide) | (have hb_ := z32 z_4; omega) | (have hb_ := z32 z_4; have hc_ := z32 (w.2.2.1 96 5); omega)⟩, (by omega), rfl⟩
set_option maxRecDepth 20000 in
set_option maxHeartbeats 2000000 in
theorem Z_X10_lady_95 (l : Launch) (D : va_G) (aC : Nat → ClassId) (b : Nat) (w : XW) (x1 : Int32) (x2 : Int32) (hI : Iv w)  : CnI l D aC b M_X10_lady 2 47 0 0 [AR 95, AI x1, AI x2] w (fun r u => ((-2) ≤ r.toInt ∧ r.toInt ≤ 9 ∧ (¬ r.toInt = 0 ∨ (0 ≤ x1.toInt ∧ x1.toInt ≤ 5)) ∧ (¬ r.toInt = 0 ∨ (0 ≤ x2.toInt ∧ x2.toInt ≤ 1)) ∧ (¬ r.toInt = 0 ∨ (0 ≤ (w.2.2.1 96 5).toInt ∧ (w.2.2.1 96 5).toInt ≤ 6)) ∧ (r.toInt = 0 ∨ (0 ≤ (w.2.2.1 96 5).toInt ∧ (w.2.2.1 96 5).toInt ≤ 6))) ∧ w = u) := by
  refine cn_I (own := RX10) (nm := "lady") (L0 := [some (AR 95), some (AI x1), some (AI x2)]) (by decide +kernel) rfl rfl (Nat.le_of_ble_eq_true rfl) rfl ?_
  intro p e s m args below meth c E hin
  have hJ : Jv w w := jv_rfl hI
  have hb_x1 := z32 x1
  have hb_x2 := z32 x2
  refine s_aload_n E dX10_lady_0 rfl rfl ?_
  refine s_iload_n E dX10_lady_1 rfl rfl ?_
  refine z_i2l (u := x1.toInt) E dX10_lady_2 rfl (fun z_1 hz_1 => ?_)
  refine s_vI (As := [AL z_1]) (S := []) E (Z_X10_isLady_95 l D aC b w z_1 hJ.1 ) cv_X10_222 rfl rfl rfl (jv_lt hJ (by decide)) (Nat.le_of_ble_eq_true rfl) (Nat.le_of_ble_eq_true rfl) ⟨(Nat.le_of_ble_eq_true rfl), (Nat.le_of_ble_eq_true rfl)⟩ (Nat.le_of_ble_eq_true rfl) dX10_lady_3 (fun z_4 u_2 hp_3 => ?_)
  obtain ⟨hz_4, hxz_4, hp_3⟩ := hp_3
  subst hp_3
  refine z_if_eq (tgt := 35) (u := z_4.toInt) E dX10_lady_6 (by decide) rfl (fun h_6 => ?_) (fun h_6 => ?_)
  ·
    refine s_bipush (v := (-2)) E dX10_lady_35 (by decide) ?_
    exact r_int E dX10_lady_37 ⟨⟨by decide, by decide, by first | (left; decide) | (right; decide) | (right; have hb_ := z32 x1; omega), by first | (left; decide) | (right; decide) | (right; have hb_ := z32 x2; omega), by first | (left; decide) | (right; decide) | (right; have hb_ := z32 (w.2.2.1 96 5); omega), by first | (left; decide) | (right; decide) | (right; have hb_ := z32 (w.2.2.1 96 5); omega)⟩, rfl⟩
  ·
    refine s_iload_n E dX10_lady_9 rfl rfl ?_
    refine z_i2l (u := x2.toInt) E dX10_lady_10 rfl (fun z_7 hz_7 => ?_)
    refine s_lconst (v := 0) E dX10_lady_11 (by decide) ?_
    refine s_lconst (v := 1) E dX10_lady_12 (by decide) ?_
    refine s_sI (As := [AL z_7, AL 0, AL 1]) (S := []) E (Z_X10_in l D aC b w z_7 0 1) cs_X10_82 rfl rfl (Nat.le_of_ble_eq_true rfl) (Nat.le_of_ble_eq_true rfl) ⟨(Nat.le_of_ble_eq_true rfl), (Nat.le_of_ble_eq_true rfl)⟩ (Nat.le_of_ble_eq_true rfl) dX10_lady_13 (fun z_8 u_9 hp_10 => ?_)
    obtain ⟨hz_8, hp_10⟩ := hp_10
    subst hp_10
    have hcL_ : (0 : Int64).toInt = 0 := (by decide)
    have hcL_ : (1 : Int64).toInt = 1 := (by decide)
    refine z_if_eq (tgt := 35) (u := z_8.toInt) E dX10_lady_16 (by decide) rfl (fun h_11 => ?_) (fun h_11 => ?_)
    ·
      refine s_bipush (v := (-2)) E dX10_lady_35 (by decide) ?_
      exact r_int E dX10_lady_37 ⟨⟨by decide, by decide, by first | (left; decide) | (right; decide) | (right; have hb_ := z32 x1; omega), by first | (left; decide) | (right; decide) | (right; have hb_ := z32 x2; omega), by first | (left; decide) | (right; decide) | (right; have hb_ := z32 (w.2.2.1 96 5); omega), by first | (left; decide) | (right; decide) | (right; have hb_ := z32 (w.2.2.1 96 5); omega)⟩, rfl⟩
    ·
      refine s_aload_n E dX10_lady_19 rfl rfl ?_
      refine s_gR (r := 96) E fg_X10_9 rfl rfl (jv_lt hJ (by decide)) (jv_r hJ (by decide +kernel)) dX10_lady_20 ?_
      refine s_bipush (v := 46) E dX10_lady_23 (by decide) ?_
      refine s_iconst (v := 2) E dX10_lady_25 (by decide) ?_
      refine s_iload_n E dX10_lady_26 rfl rfl ?_
      refine z_imul (u := 2) (v := x1.toInt) E dX10_lady_27 (by decide) rfl (by omega) (by omega) (fun z_12 hz_12 => ?_)
      refine z_iadd (u := 46) (v := z_12.toInt) E dX10_lady_28 (by decide) rfl (by omega) (by omega) (fun z_13 hz_13 => ?_)
      refine s_iload_n E dX10_lady_29 rfl rfl ?_
      refine z_iadd (u := z_13.toInt) (v := x2.toInt) E dX10_lady_30 rfl rfl (by omega) (by omega) (fun z_14 hz_14 => ?_)
      refine s_iald E rfl (jv_lt hJ (by decide)) (z_in (u := z_14.toInt) rfl (by omega) (by omega)) dX10_lady_31 ?_
      refine z_nm (P := fun z => z.toInt = (w.2.2.1 96 z_14.toNatClampNeg).toInt ∧ 0 ≤ z.toInt ∧ z.toInt ≤ 9) ⟨rfl, (rs_v hJ (by decide) 0 9 46 57 1 z_14 z_14.toInt (by decide +kernel) rfl (by omega) (by omega) (by omega))⟩ (fun z_15 hz_15 => ?_)
      refine s_goto (tgt := 37) E dX10_lady_32 (by decide) ?_
      exact r_int E dX10_lady_37 ⟨⟨by have hb_ := z32 z_15; omega, by have hb_ := z32 z_15; omega, by first | (right; decide) | (have hb_ := z32 z_15; omega) | (have hb_ := z32 z_15; have hc_ := z32 x1; omega), by first | (right; decide) | (have hb_ := z32 z_15; omega) | (have hb_ := z32 z_15; have hc_ := z32 x2; omega), by first | (right; decide) | (have hb_ := z32 z_15; omega) | (have hb_ := z32 z_15; have hc_ := z32 (w.2.2.1 96 5); omega), by first | (right; decide) | (have hb_ := z32 z_15; omega) | (have hb_ := z32 z_15; have hc_ := z32 (w.2.2.1 96 5); omega)⟩, rfl⟩
