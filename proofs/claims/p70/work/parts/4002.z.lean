set_option maxRecDepth 20000 in
set_option maxHeartbeats 2000000 in
theorem Z_X10_is_95 (l : Launch) (D : va_G) (aC : Nat → ClassId) (b : Nat) (w : XW)  (hI : Iv w) (si : Nat) (hsi : si < 30) : CnI l D aC b M_X10_is 4 200 0 0 [AR 95, AX (sA aC si)] w (fun r u => (0 ≤ r.toInt ∧ r.toInt ≤ 1 ∧ (r.toInt = 0 ∨ (0 ≤ (w.2.2.1 95 12).toInt ∧ (w.2.2.1 95 12).toInt ≤ 0)) ∧ (r.toInt = 0 ∨ (1 ≤ (w.2.2.1 95 10).toInt ∧ (w.2.2.1 95 10).toInt ≤ 1))) ∧ (r.toInt = 1 ↔ isP w si) ∧ w = u) := by
  refine cn_I (own := RX10) (nm := "is") (L0 := [some (AR 95), some (AX (sA aC si)), none, none]) (by decide +kernel) rfl rfl (Nat.le_of_ble_eq_true rfl) rfl ?_
  intro p e s m args below meth c E hin
  have hJ : Jv w w := jv_rfl hI
  refine s_aload_n E dX10_is_0 rfl rfl ?_
  refine s_vI (As := []) (S := []) E (Z_X10_good_95 l D aC b w  hJ.1 ) cv_X10_130 rfl rfl rfl (jv_lt hJ (by decide)) (Nat.le_of_ble_eq_true rfl) (Nat.le_of_ble_eq_true rfl) ⟨(Nat.le_of_ble_eq_true rfl), (Nat.le_of_ble_eq_true rfl)⟩ (Nat.le_of_ble_eq_true rfl) dX10_is_1 (fun z_3 u_1 hp_2 => ?_)
  obtain ⟨hz_3, hxz_3, hp_2⟩ := hp_2
  subst hp_2
  refine z_if_eq (tgt := 35) (u := z_3.toInt) E dX10_is_4 (by decide) rfl (fun h_5 => ?_) (fun h_5 => ?_)
  ·
    refine s_iconst (v := 0) E dX10_is_35 (by decide) ?_
    refine s_istore_n (L2 := [some (AR 95), some (AX (sA aC si)), some (AI 0), none]) E dX10_is_36 rfl (by decide) rfl ?_
    refine s_iconst (v := 0) E dX10_is_37 (by decide) ?_
    refine s_istore_n (L2 := [some (AR 95), some (AX (sA aC si)), some (AI 0), some (AI 0)]) E dX10_is_38 rfl (by decide) rfl ?_
    refine z_loop (St := Int32 × Int32) (Pi := fun ⟨q39_2_5, q39_3_5⟩ v39 => (0 ≤ q39_2_5.toInt ∧ q39_2_5.toInt ≤ 0) ∧ (0 ≤ q39_3_5.toInt ∧ q39_3_5.toInt ≤ 0) ∧ (isL w si q39_2_5 q39_3_5) ∧ w = v39) (Lf := fun ⟨q39_2_5, q39_3_5⟩ => [some (AR 95), some (AX (sA aC si)), some (AI q39_2_5), some (AI q39_3_5)]) (fun ⟨q39_2_5, q39_3_5⟩ _ => 0) ⟨0, 0⟩ ⟨⟨by decide, by decide⟩, ⟨by decide, by decide⟩, (by first | exact isL_1 (by omega) (by omega) (by omega) | exact isL_0 (by omega)), rfl⟩ ?_
    rintro ⟨q39_2_5, q39_3_5⟩ v39 ⟨hq39_2, hq39_3, hl39, hv_⟩ ih39
    subst hv_
    refine s_loc (L2 := [some (AR 95), some (AX (sA aC si)), some (AI q39_2_5), some (AI q39_3_5)]) rfl ?_
    refine s_iload_n E dX10_is_39 rfl rfl ?_
    refine s_xload_n E dX10_is_40 rfl rfl ?_
    refine s_xI (As := []) (S := [AI q39_3_5]) E hsi rfl (Z_lengthN l D aC b w si hsi) cx_X10_133 rfl rfl (Nat.le_of_ble_eq_true rfl) (Nat.le_of_ble_eq_true rfl) ⟨(Nat.le_of_ble_eq_true rfl), (Nat.le_of_ble_eq_true rfl)⟩ (Nat.le_of_ble_eq_true rfl) dX10_is_41 (fun z_9 u_7 hp_8 => ?_)
    obtain ⟨hz_9, hp_8⟩ := hp_8
    subst hp_8
    refine z_icmp_ge (tgt := 82) (u := q39_3_5.toInt) (v := z_9.toInt) E dX10_is_44 (by decide) rfl rfl (fun h_10 => ?_) (fun h_10 => ?_)
    ·
      refine s_iload_n E dX10_is_82 rfl rfl ?_
      exact r_bool E dX10_is_83 (z_bool (by omega) (by omega)) ⟨⟨by have hb_ := z32 q39_2_5; omega, by have hb_ := z32 q39_2_5; omega, by first | (right; decide) | (have hb_ := z32 q39_2_5; omega) | (have hb_ := z32 q39_2_5; have hc_ := z32 (w.2.2.1 95 12); omega), by first | (right; decide) | (have hb_ := z32 q39_2_5; omega) | (have hb_ := z32 q39_2_5; have hc_ := z32 (w.2.2.1 95 10); omega)⟩, (isL_end hl39 (by omega)), rfl⟩
    ·
      refine s_iload_n E dX10_is_47 rfl rfl ?_
      refine z_if_eq (tgt := 82) (u := q39_2_5.toInt) E dX10_is_48 (by decide) rfl (fun h_11 => ?_) (fun h_11 => absurd h_11 (by omega))
      refine s_iload_n E dX10_is_82 rfl rfl ?_
      exact r_bool E dX10_is_83 (z_bool (by omega) (by omega)) ⟨⟨by have hb_ := z32 q39_2_5; omega, by have hb_ := z32 q39_2_5; omega, by first | (right; decide) | (have hb_ := z32 q39_2_5; omega) | (have hb_ := z32 q39_2_5; have hc_ := z32 (w.2.2.1 95 12); omega), by first | (right; decide) | (have hb_ := z32 q39_2_5; omega) | (have hb_ := z32 q39_2_5; have hc_ := z32 (w.2.2.1 95 10); omega)⟩, (isL_end hl39 (by omega)), rfl⟩
  ·
    refine s_aload_n E dX10_is_7 rfl rfl ?_
    refine s_gI E fg_X10_106 rfl rfl (jv_lt hJ (by decide)) dX10_is_8 ?_
    refine z_nm (P := fun z => z.toInt = (w.2.2.1 95 10).toInt ∧ 0 ≤ z.toInt ∧ z.toInt ≤ 4) ⟨rfl, (rg_95_10 hJ)⟩ (fun z_12 hz_12 => ?_)
    refine s_iconst (v := 1) E dX10_is_11 (by decide) ?_
    refine z_icmp_ne (tgt := 35) (u := z_12.toInt) (v := 1) E dX10_is_12 (by decide) rfl (by decide) (fun h_13 => ?_) (fun h_13 => ?_)
    ·
      refine s_iconst (v := 0) E dX10_is_35 (by decide) ?_
      refine s_istore_n (L2 := [some (AR 95), some (AX (sA aC si)), some (AI 0), none]) E dX10_is_36 rfl (by decide) rfl ?_
      refine s_iconst (v := 0) E dX10_is_37 (by decide) ?_
      refine s_istore_n (L2 := [some (AR 95), some (AX (sA aC si)), some (AI 0), some (AI 0)]) E dX10_is_38 rfl (by decide) rfl ?_
      refine z_loop (St := Int32 × Int32) (Pi := fun ⟨q39_2_13, q39_3_13⟩ v39 => (0 ≤ q39_2_13.toInt ∧ q39_2_13.toInt ≤ 0) ∧ (0 ≤ q39_3_13.toInt ∧ q39_3_13.toInt ≤ 0) ∧ (isL w si q39_2_13 q39_3_13) ∧ w = v39) (Lf := fun ⟨q39_2_13, q39_3_13⟩ => [some (AR 95), some (AX (sA aC si)), some (AI q39_2_13), some (AI q39_3_13)]) (fun ⟨q39_2_13, q39_3_13⟩ _ => 0) ⟨0, 0⟩ ⟨⟨by decide, by decide⟩, ⟨by decide, by decide⟩, (by first | exact isL_1 (by omega) (by omega) (by omega) | exact isL_0 (by omega)), rfl⟩ ?_
      rintro ⟨q39_2_13, q39_3_13⟩ v39 ⟨hq39_2, hq39_3, hl39, hv_⟩ ih39
      subst hv_
      refine s_loc (L2 := [some (AR 95), some (AX (sA aC si)), some (AI q39_2_13), some (AI q39_3_13)]) rfl ?_
      refine s_iload_n E dX10_is_39 rfl rfl ?_
      refine s_xload_n E dX10_is_40 rfl rfl ?_
      refine s_xI (As := []) (S := [AI q39_3_13]) E hsi rfl (Z_lengthN l D aC b w si hsi) cx_X10_133 rfl rfl (Nat.le_of_ble_eq_true rfl) (Nat.le_of_ble_eq_true rfl) ⟨(Nat.le_of_ble_eq_true rfl), (Nat.le_of_ble_eq_true rfl)⟩ (Nat.le_of_ble_eq_true rfl) dX10_is_41 (fun z_17 u_15 hp_16 => ?_)
      obtain ⟨hz_17, hp_16⟩ := hp_16
      subst hp_16
      refine z_icmp_ge (tgt := 82) (u := q39_3_13.toInt) (v := z_17.toInt) E dX10_is_44 (by decide) rfl rfl (fun h_18 => ?_) (fun h_18 => ?_)
      ·
        refine s_iload_n E dX10_is_82 rfl rfl ?_
        exact r_bool E dX10_is_83 (z_bool (by omega) (by omega)) ⟨⟨by have hb_ := z32 q39_2_13; omega, by have hb_ := z32 q39_2_13; omega, by first | (right; decide) | (have hb_ := z32 q39_2_13; omega) | (have hb_ := z32 q39_2_13; have hc_ := z32 (w.2.2.1 95 12); omega), by first | (right; decide) | (have hb_ := z32 q39_2_13; omega) | (have hb_ := z32 q39_2_13; have hc_ := z32 (w.2.2.1 95 10); omega)⟩, (isL_end hl39 (by omega)), rfl⟩
      ·
        refine s_iload_n E dX10_is_47 rfl rfl ?_
        refine z_if_eq (tgt := 82) (u := q39_2_13.toInt) E dX10_is_48 (by decide) rfl (fun h_19 => ?_) (fun h_19 => absurd h_19 (by omega))
        refine s_iload_n E dX10_is_82 rfl rfl ?_
        exact r_bool E dX10_is_83 (z_bool (by omega) (by omega)) ⟨⟨by have hb_ := z32 q39_2_13; omega, by have hb_ := z32 q39_2_13; omega, by first | (right; decide) | (have hb_ := z32 q39_2_13; omega) | (have hb_ := z32 q39_2_13; have hc_ := z32 (w.2.2.1 95 12); omega), by first | (right; decide) | (have hb_ := z32 q39_2_13; omega) | (have hb_ := z32 q39_2_13; have hc_ := z32 (w.2.2.1 95 10); omega)⟩, (isL_end hl39 (by omega)), rfl⟩
    ·
      refine s_aload_n E dX10_is_15 rfl rfl ?_
      refine s_gI E fg_X10_96 rfl rfl (jv_lt hJ (by decide)) dX10_is_16 ?_
      refine z_nm (P := fun z => z.toInt = (w.2.2.1 95 8).toInt ∧ 0 ≤ z.toInt ∧ z.toInt ≤ 1000) ⟨rfl, (rg_95_8 hJ)⟩ (fun z_20 hz_20 => ?_)
      refine s_aload_n E dX10_is_19 rfl rfl ?_
      refine s_gI E fg_X10_103 rfl rfl (jv_lt hJ (by decide)) dX10_is_20 ?_
      refine z_nm (P := fun z => z.toInt = (w.2.2.1 95 9).toInt ∧ 0 ≤ z.toInt ∧ z.toInt ≤ 1000) ⟨rfl, (rg_95_9 hJ)⟩ (fun z_21 hz_21 => ?_)
      refine z_isub (u := z_20.toInt) (v := z_21.toInt) E dX10_is_23 rfl rfl (by omega) (by omega) (fun z_22 hz_22 => ?_)
      refine s_xload_n E dX10_is_24 rfl rfl ?_
      refine s_xI (As := []) (S := [AI z_22]) E hsi rfl (Z_lengthN l D aC b w si hsi) cx_X10_133 rfl rfl (Nat.le_of_ble_eq_true rfl) (Nat.le_of_ble_eq_true rfl) ⟨(Nat.le_of_ble_eq_true rfl), (Nat.le_of_ble_eq_true rfl)⟩ (Nat.le_of_ble_eq_true rfl) dX10_is_25 (fun z_25 u_23 hp_24 => ?_)
      obtain ⟨hz_25, hp_24⟩ := hp_24
      subst hp_24
      refine z_icmp_ne (tgt := 35) (u := z_22.toInt) (v := z_25.toInt) E dX10_is_28 (by decide) rfl rfl (fun h_26 => ?_) (fun h_26 => ?_)
      ·
        refine s_iconst (v := 0) E dX10_is_35 (by decide) ?_
        refine s_istore_n (L2 := [some (AR 95), some (AX (sA aC si)), some (AI 0), none]) E dX10_is_36 rfl (by decide) rfl ?_
        refine s_iconst (v := 0) E dX10_is_37 (by decide) ?_
        refine s_istore_n (L2 := [some (AR 95), some (AX (sA aC si)), some (AI 0), some (AI 0)]) E dX10_is_38 rfl (by decide) rfl ?_
        refine z_loop (St := Int32 × Int32) (Pi := fun ⟨q39_2_26, q39_3_26⟩ v39 => (0 ≤ q39_2_26.toInt ∧ q39_2_26.toInt ≤ 0) ∧ (0 ≤ q39_3_26.toInt ∧ q39_3_26.toInt ≤ 0) ∧ (isL w si q39_2_26 q39_3_26) ∧ w = v39) (Lf := fun ⟨q39_2_26, q39_3_26⟩ => [some (AR 95), some (AX (sA aC si)), some (AI q39_2_26), some (AI q39_3_26)]) (fun ⟨q39_2_26, q39_3_26⟩ _ => 0) ⟨0, 0⟩ ⟨⟨by decide, by decide⟩, ⟨by decide, by decide⟩, (by first | exact isL_1 (by omega) (by omega) (by omega) | exact isL_0 (by omega)), rfl⟩ ?_
        rintro ⟨q39_2_26, q39_3_26⟩ v39 ⟨hq39_2, hq39_3, hl39, hv_⟩ ih39
        subst hv_
        refine s_loc (L2 := [some (AR 95), some (AX (sA aC si)), some (AI q39_2_26), some (AI q39_3_26)]) rfl ?_
        refine s_iload_n E dX10_is_39 rfl rfl ?_
        refine s_xload_n E dX10_is_40 rfl rfl ?_
        refine s_xI (As := []) (S := [AI q39_3_26]) E hsi rfl (Z_lengthN l D aC b w si hsi) cx_X10_133 rfl rfl (Nat.le_of_ble_eq_true rfl) (Nat.le_of_ble_eq_true rfl) ⟨(Nat.le_of_ble_eq_true rfl), (Nat.le_of_ble_eq_true rfl)⟩ (Nat.le_of_ble_eq_true rfl) dX10_is_41 (fun z_30 u_28 hp_29 => ?_)
        obtain ⟨hz_30, hp_29⟩ := hp_29
        subst hp_29
        refine z_icmp_ge (tgt := 82) (u := q39_3_26.toInt) (v := z_30.toInt) E dX10_is_44 (by decide) rfl rfl (fun h_31 => ?_) (fun h_31 => ?_)
        ·
          refine s_iload_n E dX10_is_82 rfl rfl ?_
          exact r_bool E dX10_is_83 (z_bool (by omega) (by omega)) ⟨⟨by have hb_ := z32 q39_2_26; omega, by have hb_ := z32 q39_2_26; omega, by first | (right; decide) | (have hb_ := z32 q39_2_26; omega) | (have hb_ := z32 q39_2_26; have hc_ := z32 (w.2.2.1 95 12); omega), by first | (right; decide) | (have hb_ := z32 q39_2_26; omega) | (have hb_ := z32 q39_2_26; have hc_ := z32 (w.2.2.1 95 10); omega)⟩, (isL_end hl39 (by omega)), rfl⟩
        ·
          refine s_iload_n E dX10_is_47 rfl rfl ?_
          refine z_if_eq (tgt := 82) (u := q39_2_26.toInt) E dX10_is_48 (by decide) rfl (fun h_32 => ?_) (fun h_32 => absurd h_32 (by omega))
          refine s_iload_n E dX10_is_82 rfl rfl ?_
          exact r_bool E dX10_is_83 (z_bool (by omega) (by omega)) ⟨⟨by have hb_ := z32 q39_2_26; omega, by have hb_ := z32 q39_2_26; omega, by first | (right; decide) | (have hb_ := z32 q39_2_26; omega) | (have hb_ := z32 q39_2_26; have hc_ := z32 (w.2.2.1 95 12); omega), by first | (right; decide) | (have hb_ := z32 q39_2_26; omega) | (have hb_ := z32 q39_2_26; have hc_ := z32 (w.2.2.1 95 10); omega)⟩, (isL_end hl39 (by omega)), rfl⟩
      ·
        refine s_iconst (v := 1) E dX10_is_31 (by decide) ?_
        refine s_goto (tgt := 36) E dX10_is_32 (by decide) ?_
        refine s_istore_n (L2 := [some (AR 95), some (AX (sA aC si)), some (AI 1), none]) E dX10_is_36 rfl (by decide) rfl ?_
        refine s_iconst (v := 0) E dX10_is_37 (by decide) ?_
        refine s_istore_n (L2 := [some (AR 95), some (AX (sA aC si)), some (AI 1), some (AI 0)]) E dX10_is_38 rfl (by decide) rfl ?_
        refine z_loop (St := Int32 × Int32) (Pi := fun ⟨q39_2_32, q39_3_32⟩ v39 => (0 ≤ q39_2_32.toInt ∧ q39_2_32.toInt ≤ 1) ∧ (0 ≤ q39_3_32.toInt ∧ q39_3_32.toInt ≤ 8) ∧ (isL w si q39_2_32 q39_3_32) ∧ w = v39) (Lf := fun ⟨q39_2_32, q39_3_32⟩ => [some (AR 95), some (AX (sA aC si)), some (AI q39_2_32), some (AI q39_3_32)]) (fun ⟨q39_2_32, q39_3_32⟩ _ => (9 - q39_3_32.toInt).toNat) ⟨1, 0⟩ ⟨⟨by decide, by decide⟩, ⟨by decide, by decide⟩, (by first | exact isL_1 (by omega) (by omega) (by omega) | exact isL_0 (by omega)), rfl⟩ ?_
        rintro ⟨q39_2_32, q39_3_32⟩ v39 ⟨hq39_2, hq39_3, hl39, hv_⟩ ih39
        subst hv_
        refine s_loc (L2 := [some (AR 95), some (AX (sA aC si)), some (AI q39_2_32), some (AI q39_3_32)]) rfl ?_
        refine s_iload_n E dX10_is_39 rfl rfl ?_
        refine s_xload_n E dX10_is_40 rfl rfl ?_
        refine s_xI (As := []) (S := [AI q39_3_32]) E hsi rfl (Z_lengthN l D aC b w si hsi) cx_X10_133 rfl rfl (Nat.le_of_ble_eq_true rfl) (Nat.le_of_ble_eq_true rfl) ⟨(Nat.le_of_ble_eq_true rfl), (Nat.le_of_ble_eq_true rfl)⟩ (Nat.le_of_ble_eq_true rfl) dX10_is_41 (fun z_36 u_34 hp_35 => ?_)
        obtain ⟨hz_36, hp_35⟩ := hp_35
        subst hp_35
        refine z_icmp_ge (tgt := 82) (u := q39_3_32.toInt) (v := z_36.toInt) E dX10_is_44 (by decide) rfl rfl (fun h_37 => ?_) (fun h_37 => ?_)
        ·
          refine s_iload_n E dX10_is_82 rfl rfl ?_
          exact r_bool E dX10_is_83 (z_bool (by omega) (by omega)) ⟨⟨by have hb_ := z32 q39_2_32; omega, by have hb_ := z32 q39_2_32; omega, by first | (right; decide) | (have hb_ := z32 q39_2_32; omega) | (have hb_ := z32 q39_2_32; have hc_ := z32 (w.2.2.1 95 12); omega), by first | (right; decide) | (have hb_ := z32 q39_2_32; omega) | (have hb_ := z32 q39_2_32; have hc_ := z32 (w.2.2.1 95 10); omega)⟩, (isL_end hl39 (by omega)), rfl⟩
        ·
          refine s_iload_n E dX10_is_47 rfl rfl ?_
          refine z_if_eq (tgt := 82) (u := q39_2_32.toInt) E dX10_is_48 (by decide) rfl (fun h_38 => ?_) (fun h_38 => ?_)
          ·
            refine s_iload_n E dX10_is_82 rfl rfl ?_
            exact r_bool E dX10_is_83 (z_bool (by omega) (by omega)) ⟨⟨by have hb_ := z32 q39_2_32; omega, by have hb_ := z32 q39_2_32; omega, by first | (right; decide) | (have hb_ := z32 q39_2_32; omega) | (have hb_ := z32 q39_2_32; have hc_ := z32 (w.2.2.1 95 12); omega), by first | (right; decide) | (have hb_ := z32 q39_2_32; omega) | (have hb_ := z32 q39_2_32; have hc_ := z32 (w.2.2.1 95 10); omega)⟩, (isL_end hl39 (by omega)), rfl⟩
          ·
            obtain ⟨f1_, c_, e_⟩ := hl39.resolve_right (fun h_ => by have := h_.1; omega)
            obtain ⟨c1_, c2_, c3_⟩ := c_
            have ra_ := rg_95_8 hJ
            refine s_aload_n E dX10_is_51 rfl rfl ?_
            refine s_gR (r := 99) E fg_X10_20 rfl rfl (jv_lt hJ (by decide)) (jv_r hJ (by decide +kernel)) dX10_is_52 ?_
            refine s_aload_n E dX10_is_55 rfl rfl ?_
            refine s_gI E fg_X10_103 rfl rfl (jv_lt hJ (by decide)) dX10_is_56 ?_
            refine z_nm (P := fun z => z.toInt = (w.2.2.1 95 9).toInt ∧ 0 ≤ z.toInt ∧ z.toInt ≤ 1000) ⟨rfl, (rg_95_9 hJ)⟩ (fun z_39 hz_39 => ?_)
            refine s_iload_n E dX10_is_59 rfl rfl ?_
            refine z_iadd (u := z_39.toInt) (v := q39_3_32.toInt) E dX10_is_60 rfl rfl (by omega) (by omega) (fun z_40 hz_40 => ?_)
            have hhz_40 : 0 ≤ z_40.toInt ∧ z_40.toInt ≤ 999 := by omega
            refine s_bald E rfl (jv_lt hJ (by decide)) (z_in (u := z_40.toInt) rfl (by omega) (by omega)) dX10_is_61 ?_
            refine z_nm (P := fun z => z = w.2.2.1 99 z_40.toNatClampNeg ∧ (-128) ≤ z.toInt ∧ z.toInt ≤ 127) ⟨rfl, (ra_99 hJ _)⟩ (fun z_41 hz_41 => ?_)
            refine s_xload_n E dX10_is_62 rfl rfl ?_
            refine s_iload_n E dX10_is_63 rfl rfl ?_
            refine s_xI (As := [AI q39_3_32]) (S := [AI z_41]) E hsi rfl (Z_charAt l D aC b w si q39_3_32 hsi (by omega) (by omega)) cx_X10_139 rfl rfl (Nat.le_of_ble_eq_true rfl) (Nat.le_of_ble_eq_true rfl) ⟨(Nat.le_of_ble_eq_true rfl), (Nat.le_of_ble_eq_true rfl)⟩ (Nat.le_of_ble_eq_true rfl) dX10_is_64 (fun z_44 u_42 hp_43 => ?_)
            obtain ⟨hz_44, hp_43⟩ := hp_43
            subst hp_43
            have rf_ := rg_95_9 hJ
            have hm_ := isL_m (w := w) (si := si) (tz := z_41) (cz := z_44) (k := q39_3_32) (by assumption) (by assumption) (by omega) (by omega) (by omega)
            refine z_icmp_ne (tgt := 74) (u := z_41.toInt) (v := z_44.toInt) E dX10_is_67 (by decide) rfl rfl (fun h_45 => ?_) (fun h_45 => ?_)
            ·
              refine s_iconst (v := 0) E dX10_is_74 (by decide) ?_
              refine s_istore_n (L2 := [some (AR 95), some (AX (sA aC si)), some (AI 0), some (AI q39_3_32)]) E dX10_is_75 rfl (by decide) rfl ?_
              refine z_iinc (u := q39_3_32.toInt) (L2 := fun z_46 => [some (AR 95), some (AX (sA aC si)), some (AI 0), some (AI z_46)]) E dX10_is_76 rfl rfl (by decide) (fun _ => rfl) (by decide) (by omega) (by omega) (fun z_46 hz_46 => ?_)
              refine s_goto (tgt := 39) E dX10_is_79 (by decide) ?_
              exact ih39 ⟨0, z_46⟩ w ⟨⟨by decide, by decide⟩, ⟨by have hb_ := z32 z_46; omega, by have hb_ := z32 z_46; omega⟩, (by first | exact Or.inl ⟨by decide, ⟨c1_, c2_, c3_⟩, isE_s e_ (hm_.mp (by omega)) (by omega) (by omega)⟩ | exact Or.inr ⟨by decide, fun hP_ => absurd (hm_.mpr (hP_.2 q39_3_32.toInt.toNat (by omega))) (by omega)⟩), rfl⟩ (by first | omega | decide | (dsimp only; omega) | (dsimp only; decide))
            ·
              refine s_iconst (v := 1) E dX10_is_70 (by decide) ?_
              refine s_goto (tgt := 75) E dX10_is_71 (by decide) ?_
              refine s_istore_n (L2 := [some (AR 95), some (AX (sA aC si)), some (AI 1), some (AI q39_3_32)]) E dX10_is_75 rfl (by decide) rfl ?_
              refine z_iinc (u := q39_3_32.toInt) (L2 := fun z_47 => [some (AR 95), some (AX (sA aC si)), some (AI 1), some (AI z_47)]) E dX10_is_76 rfl rfl (by decide) (fun _ => rfl) (by decide) (by omega) (by omega) (fun z_47 hz_47 => ?_)
              refine s_goto (tgt := 39) E dX10_is_79 (by decide) ?_
              exact ih39 ⟨1, z_47⟩ w ⟨⟨by decide, by decide⟩, ⟨by have hb_ := z32 z_47; omega, by have hb_ := z32 z_47; omega⟩, (by first | exact Or.inl ⟨by decide, ⟨c1_, c2_, c3_⟩, isE_s e_ (hm_.mp (by omega)) (by omega) (by omega)⟩ | exact Or.inr ⟨by decide, fun hP_ => absurd (hm_.mpr (hP_.2 q39_3_32.toInt.toNat (by omega))) (by omega)⟩), rfl⟩ (by first | omega | decide | (dsimp only; omega) | (dsimp only; decide))
set_option maxRecDepth 20000 in
set_option maxHeartbeats 2000000 in
theorem Z_X10_takes_95 (l : Launch) (D : va_G) (aC : Nat → ClassId) (b : Nat) (w : XW)  (hI : Iv w) (si : Nat) (hsi : si < 30) (hpi : (w.2.2.1 95 9).toInt ≤ (w.2.2.1 95 8).toInt ∧ ((w.2.2.1 95 10).toInt = 0 ∨ (w.2.2.1 95 9).toInt < (w.2.2.1 95 8).toInt)) : CnI l D aC b M_X10_takes 5 223 0 0 [AR 95, AX (sA aC si)] w (fun r u => (0 ≤ r.toInt ∧ r.toInt ≤ 1 ∧ (r.toInt = 0 ∨ (0 ≤ (w.2.2.1 95 12).toInt ∧ (w.2.2.1 95 12).toInt ≤ 0)) ∧ (r.toInt = 0 ∨ (1 ≤ (w.2.2.1 95 10).toInt ∧ (w.2.2.1 95 10).toInt ≤ 1))) ∧ ((r.toInt = 1 ↔ isP w si) ∧ (r.toInt = 1 ∨ w = u) ∧ (u.2.2.1 95 7).toInt = (w.2.2.1 95 7).toInt ∧ ((u.2.2.1 95 12).toInt = 0 → (w.2.2.1 95 12).toInt = 0) ∧ (w.2.2.1 95 9).toInt ≤ (u.2.2.1 95 9).toInt ∧ (u.2.2.1 95 9).toInt ≤ (u.2.2.1 95 8).toInt ∧ ((u.2.2.1 95 10).toInt = 0 ∨ (u.2.2.1 95 9).toInt < (u.2.2.1 95 8).toInt)) ∧ ((u.2.2.1 101) = (w.2.2.1 101)) ∧ Jv w u) := by
  refine cn_I (own := RX10) (nm := "takes") (L0 := [some (AR 95), some (AX (sA aC si)), none]) (by decide +kernel) rfl rfl (Nat.le_of_ble_eq_true rfl) rfl ?_
  intro p e s m args below meth c E hin
  have hJ : Jv w w := jv_rfl hI
  refine s_aload_n E dX10_takes_0 rfl rfl ?_
  refine s_xload_n E dX10_takes_1 rfl rfl ?_
  refine s_vI (As := [AX (sA aC si)]) (S := []) E (Z_X10_is_95 l D aC b w  hJ.1  si hsi) cv_X10_143 rfl rfl rfl (jv_lt hJ (by decide)) (Nat.le_of_ble_eq_true rfl) (Nat.le_of_ble_eq_true rfl) ⟨(Nat.le_of_ble_eq_true rfl), (Nat.le_of_ble_eq_true rfl)⟩ (Nat.le_of_ble_eq_true rfl) dX10_takes_2 (fun z_3 u_1 hp_2 => ?_)
  obtain ⟨hz_3, hxz_3, hp_2⟩ := hp_2
  subst hp_2
  have hi_ := hxz_3
  refine s_istore_n (L2 := [some (AR 95), some (AX (sA aC si)), some (AI z_3)]) E dX10_takes_5 rfl (by decide) rfl ?_
  refine s_iload_n E dX10_takes_6 rfl rfl ?_
  refine z_if_eq (tgt := 14) (u := z_3.toInt) E dX10_takes_7 (by decide) rfl (fun h_5 => ?_) (fun h_5 => ?_)
  ·
    refine s_iload_n E dX10_takes_14 rfl rfl ?_
    exact r_bool E dX10_takes_15 (z_bool (by omega) (by omega)) ⟨⟨by have hb_ := z32 z_3; omega, by have hb_ := z32 z_3; omega, by first | (right; decide) | (have hb_ := z32 z_3; omega) | (have hb_ := z32 z_3; have hc_ := z32 (w.2.2.1 95 12); omega), by first | (right; decide) | (have hb_ := z32 z_3; omega) | (have hb_ := z32 z_3; have hc_ := z32 (w.2.2.1 95 10); omega)⟩, (⟨hi_, by first | exact Or.inr rfl | exact Or.inl (by omega), by omega⟩), rfl, hJ⟩
  ·
    refine s_aload_n E dX10_takes_10 rfl rfl ?_
    refine s_vV (As := []) (S := []) E (Z_X10_advance_95 l D aC b w  hJ.1 ) cv_X10_147 rfl rfl rfl (jv_lt hJ (by decide)) (Nat.le_of_ble_eq_true rfl) (Nat.le_of_ble_eq_true rfl) ⟨(Nat.le_of_ble_eq_true rfl), (Nat.le_of_ble_eq_true rfl)⟩ (Nat.le_of_ble_eq_true rfl) dX10_takes_11 (fun u_6 hp_7 => ?_)
    obtain ⟨hx_hp_7, hf_u_6_99, hf_u_6_101, hp_7⟩ := hp_7
    have hj_8 := jv_trans hJ hp_7
    refine s_iload_n E dX10_takes_14 rfl rfl ?_
    exact r_bool E dX10_takes_15 (z_bool (by omega) (by omega)) ⟨⟨by have hb_ := z32 z_3; omega, by have hb_ := z32 z_3; omega, by first | (right; decide) | (have hb_ := z32 z_3; omega) | (have hb_ := z32 z_3; have hc_ := z32 (w.2.2.1 95 12); omega), by first | (right; decide) | (have hb_ := z32 z_3; omega) | (have hb_ := z32 z_3; have hc_ := z32 (w.2.2.1 95 10); omega)⟩, (⟨hi_, by first | exact Or.inr rfl | exact Or.inl (by omega), by omega⟩), hf_u_6_101, hj_8⟩
set_option maxRecDepth 20000 in
set_option maxHeartbeats 2000000 in
theorem Z_X10_errs_95 (l : Launch) (D : va_G) (aC : Nat → ClassId) (b : Nat) (w : XW) (x1 : Int32) (hI : Iv w) (hx1 : 1 ≤ x1.toInt ∧ x1.toInt ≤ 3) : CnV l D aC b M_X10_errs 1 20 0 0 [AR 95, AI x1] w (fun u => ((u.2.2.1 95 7).toInt = (w.2.2.1 95 7).toInt ∧ (u.2.2.1 95 8).toInt = (w.2.2.1 95 8).toInt ∧ (u.2.2.1 95 9).toInt = (w.2.2.1 95 9).toInt ∧ (u.2.2.1 95 10).toInt = (w.2.2.1 95 10).toInt ∧ ¬ (u.2.2.1 95 12).toInt = 0) ∧ ((u.2.2.1 101) = (w.2.2.1 101)) ∧ Jv w u) := by
  refine cn_V (own := RX10) (nm := "errs") (L0 := [some (AR 95), some (AI x1)]) (by decide +kernel) rfl rfl (Nat.le_of_ble_eq_true rfl) rfl ?_
  intro p e s m args below meth c E hin
  have hJ : Jv w w := jv_rfl hI
  refine s_aload_n E dX10_errs_0 rfl rfl ?_
  refine s_vI (As := []) (S := []) E (Z_X10_good_95 l D aC b w  hJ.1 ) cv_X10_130 rfl rfl rfl (jv_lt hJ (by decide)) (Nat.le_of_ble_eq_true rfl) (Nat.le_of_ble_eq_true rfl) ⟨(Nat.le_of_ble_eq_true rfl), (Nat.le_of_ble_eq_true rfl)⟩ (Nat.le_of_ble_eq_true rfl) dX10_errs_1 (fun z_3 u_1 hp_2 => ?_)
  obtain ⟨hz_3, hxz_3, hp_2⟩ := hp_2
  subst hp_2
  refine z_if_ne (tgt := 8) (u := z_3.toInt) E dX10_errs_4 (by decide) rfl (fun h_5 => ?_) (fun h_5 => ?_)
  ·
    refine s_aload_n E dX10_errs_8 rfl rfl ?_
    refine s_iload_n E dX10_errs_9 rfl rfl ?_
    refine s_pI E fp_X10_127 (Or.inl rfl) rfl (jv_lt hJ (by decide)) dX10_errs_10 ?_
    refine s_gen (P := fun v => Jv w v ∧ (v.2.2.1 95 7).toInt = (w.2.2.1 95 7).toInt ∧ (v.2.2.1 95 8).toInt = (w.2.2.1 95 8).toInt ∧ (v.2.2.1 95 9).toInt = (w.2.2.1 95 9).toInt ∧ (v.2.2.1 95 10).toInt = (w.2.2.1 95 10).toInt ∧ (v.2.2.1 95 12).toInt = x1.toInt ∧ (v.2.2.1 101) = (w.2.2.1 101)) ⟨(jv_f_95_12 hJ (by have hb_ := z32 x1; omega) (by have hb_ := z32 x1; omega)), rfl, rfl, rfl, rfl, rfl, (by first | rfl | exact upI_ne (by decide))⟩ (fun v_6 hj_7 => ?_)
    obtain ⟨hj_7, hk_8k0, hk_8k1, hk_8k2, hk_8k3, hk_8k4, hk_8c101⟩ := hj_7
    refine s_aload_n E dX10_errs_13 rfl rfl ?_
    refine s_aload_n E dX10_errs_14 rfl rfl ?_
    refine s_gI E fg_X10_103 rfl rfl (jv_lt hj_7 (by decide)) dX10_errs_15 ?_
    refine z_nm (P := fun z => z.toInt = (v_6.2.2.1 95 9).toInt ∧ 0 ≤ z.toInt ∧ z.toInt ≤ 1000) ⟨rfl, (rg_95_9 hj_7)⟩ (fun z_9 hz_9 => ?_)
    refine s_pI E fp_X10_27 (Or.inl rfl) rfl (jv_lt hj_7 (by decide)) dX10_errs_18 ?_
    refine s_gen (P := fun v => Jv w v ∧ (v.2.2.1 95 7).toInt = (v_6.2.2.1 95 7).toInt ∧ (v.2.2.1 95 8).toInt = (v_6.2.2.1 95 8).toInt ∧ (v.2.2.1 95 9).toInt = (v_6.2.2.1 95 9).toInt ∧ (v.2.2.1 95 10).toInt = (v_6.2.2.1 95 10).toInt ∧ (v.2.2.1 95 12).toInt = (v_6.2.2.1 95 12).toInt ∧ (v.2.2.1 101) = (v_6.2.2.1 101)) ⟨(jv_f_95_13 hj_7 (by have hb_ := z32 z_9; omega) (by have hb_ := z32 z_9; omega)), rfl, rfl, rfl, rfl, rfl, (by first | rfl | exact upI_ne (by decide))⟩ (fun v_10 hj_11 => ?_)
    obtain ⟨hj_11, hk_12k0, hk_12k1, hk_12k2, hk_12k3, hk_12k4, hk_12c101⟩ := hj_11
    exact r_void E dX10_errs_21 ⟨(by omega), (hk_12c101.trans hk_8c101), hj_11⟩
  ·
    exact r_void E dX10_errs_7 ⟨(by omega), rfl, hJ⟩
