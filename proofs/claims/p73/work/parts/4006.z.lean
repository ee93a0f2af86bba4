set_option maxRecDepth 20000 in
set_option maxHeartbeats 2000000 in
theorem Z_X10_isFull_95 (l : Launch) (D : va_G) (aC : Nat → ClassId) (b : Nat) (w : XW)  (hI : Iv w)  : CnI l D aC b M_X10_isFull 5 223 0 0 [AR 95] w (fun r u => (0 ≤ r.toInt ∧ r.toInt ≤ 1 ∧ (r.toInt = 0 ∨ (0 ≤ (w.2.2.1 95 12).toInt ∧ (w.2.2.1 95 12).toInt ≤ 0)) ∧ (r.toInt = 0 ∨ (1 ≤ (w.2.2.1 95 10).toInt ∧ (w.2.2.1 95 10).toInt ≤ 1))) ∧ (r.toInt = 1 ∨ ((isP w 20 → ¬ (w.2.2.1 101 4).toInt = 12) ∧ (isP w 21 → ¬ (w.2.2.1 101 5).toInt = 6) ∧ (isP w 22 → ¬ (w.2.2.1 101 6).toInt = 8) ∧ (isP w 23 → ¬ (w.2.2.1 101 7).toInt = 10))) ∧ w = u) := by
  refine cn_I (own := RX10) (nm := "isFull") (L0 := [some (AR 95)]) (by decide +kernel) rfl rfl (Nat.le_of_ble_eq_true rfl) rfl ?_
  intro p e s m args below meth c E hin
  have hJ : Jv w w := jv_rfl hI
  refine s_aload_n E dX10_isFull_0 rfl rfl ?_
  refine s_ldcS (i := 20) E (by decide) rfl dX10_isFull_1 ?_
  refine s_vI (As := [AX (sA aC 20)]) (S := []) E (Z_X10_is_95 l D aC b w  hJ.1  20 (by decide)) cv_X10_143 rfl rfl rfl (jv_lt hJ (by decide)) (Nat.le_of_ble_eq_true rfl) (Nat.le_of_ble_eq_true rfl) ⟨(Nat.le_of_ble_eq_true rfl), (Nat.le_of_ble_eq_true rfl)⟩ (Nat.le_of_ble_eq_true rfl) dX10_isFull_3 (fun z_3 u_1 hp_2 => ?_)
  obtain ⟨hz_3, hxz_3, hp_2⟩ := hp_2
  subst hp_2
  have hw_3 := hxz_3
  refine z_if_eq (tgt := 20) (u := z_3.toInt) E dX10_isFull_6 (by decide) rfl (fun h_5 => ?_) (fun h_5 => ?_)
  ·
    refine s_aload_n E dX10_isFull_20 rfl rfl ?_
    refine s_ldcS (i := 21) E (by decide) rfl dX10_isFull_21 ?_
    refine s_vI (As := [AX (sA aC 21)]) (S := []) E (Z_X10_is_95 l D aC b w  hJ.1  21 (by decide)) cv_X10_143 rfl rfl rfl (jv_lt hJ (by decide)) (Nat.le_of_ble_eq_true rfl) (Nat.le_of_ble_eq_true rfl) ⟨(Nat.le_of_ble_eq_true rfl), (Nat.le_of_ble_eq_true rfl)⟩ (Nat.le_of_ble_eq_true rfl) dX10_isFull_23 (fun z_8 u_6 hp_7 => ?_)
    obtain ⟨hz_8, hxz_8, hp_7⟩ := hp_7
    subst hp_7
    have hw_23 := hxz_8
    refine z_if_eq (tgt := 42) (u := z_8.toInt) E dX10_isFull_26 (by decide) rfl (fun h_10 => ?_) (fun h_10 => ?_)
    ·
      refine s_aload_n E dX10_isFull_42 rfl rfl ?_
      refine s_ldcS (i := 22) E (by decide) rfl dX10_isFull_43 ?_
      refine s_vI (As := [AX (sA aC 22)]) (S := []) E (Z_X10_is_95 l D aC b w  hJ.1  22 (by decide)) cv_X10_143 rfl rfl rfl (jv_lt hJ (by decide)) (Nat.le_of_ble_eq_true rfl) (Nat.le_of_ble_eq_true rfl) ⟨(Nat.le_of_ble_eq_true rfl), (Nat.le_of_ble_eq_true rfl)⟩ (Nat.le_of_ble_eq_true rfl) dX10_isFull_45 (fun z_13 u_11 hp_12 => ?_)
      obtain ⟨hz_13, hxz_13, hp_12⟩ := hp_12
      subst hp_12
      have hw_45 := hxz_13
      refine z_if_eq (tgt := 63) (u := z_13.toInt) E dX10_isFull_48 (by decide) rfl (fun h_15 => ?_) (fun h_15 => ?_)
      ·
        refine s_aload_n E dX10_isFull_63 rfl rfl ?_
        refine s_ldcS (i := 23) E (by decide) rfl dX10_isFull_64 ?_
        refine s_vI (As := [AX (sA aC 23)]) (S := []) E (Z_X10_is_95 l D aC b w  hJ.1  23 (by decide)) cv_X10_143 rfl rfl rfl (jv_lt hJ (by decide)) (Nat.le_of_ble_eq_true rfl) (Nat.le_of_ble_eq_true rfl) ⟨(Nat.le_of_ble_eq_true rfl), (Nat.le_of_ble_eq_true rfl)⟩ (Nat.le_of_ble_eq_true rfl) dX10_isFull_66 (fun z_18 u_16 hp_17 => ?_)
        obtain ⟨hz_18, hxz_18, hp_17⟩ := hp_17
        subst hp_17
        have hw_66 := hxz_18
        refine z_if_eq (tgt := 88) (u := z_18.toInt) E dX10_isFull_69 (by decide) rfl (fun h_20 => ?_) (fun h_20 => ?_)
        ·
          refine s_iconst (v := 0) E dX10_isFull_88 (by decide) ?_
          exact r_bool E dX10_isFull_89 (Or.inl rfl) ⟨⟨by decide, by decide, by first | (left; decide) | (right; decide) | (right; have hb_ := z32 (w.2.2.1 95 12); omega), by first | (left; decide) | (right; decide) | (right; have hb_ := z32 (w.2.2.1 95 10); omega)⟩, (by have hrc_ : (0 : Int32).toInt = 0 := (by decide); (first | exact Or.inl (by decide) | exact Or.inr ⟨fun h_ => by have := hw_3.mpr h_; omega, fun h_ => by have := hw_23.mpr h_; omega, fun h_ => by have := hw_45.mpr h_; omega, fun h_ => by have := hw_66.mpr h_; omega⟩)), rfl⟩
        ·
          refine s_aload_n E dX10_isFull_72 rfl rfl ?_
          refine s_gR (r := 101) E fg_X10_31 rfl rfl (jv_lt hJ (by decide)) (jv_r hJ (by decide +kernel)) dX10_isFull_73 ?_
          refine s_bipush (v := 7) E dX10_isFull_76 (by decide) ?_
          refine s_iald E rfl (jv_lt hJ (by decide)) (z_in (u := 7) (by decide) (by omega) (by omega)) dX10_isFull_78 ?_
          refine z_nm (P := fun z => z.toInt = (w.2.2.1 101 7).toInt ∧ 0 ≤ z.toInt ∧ z.toInt ≤ 10) ⟨rfl, (rw_101_7 hJ)⟩ (fun z_21 hz_21 => ?_)
          refine s_bipush (v := 10) E dX10_isFull_79 (by decide) ?_
          refine z_icmp_ne (tgt := 88) (u := z_21.toInt) (v := 10) E dX10_isFull_81 (by decide) rfl (by decide) (fun h_22 => ?_) (fun h_22 => ?_)
          ·
            refine s_iconst (v := 0) E dX10_isFull_88 (by decide) ?_
            exact r_bool E dX10_isFull_89 (Or.inl rfl) ⟨⟨by decide, by decide, by first | (left; decide) | (right; decide) | (right; have hb_ := z32 (w.2.2.1 95 12); omega), by first | (left; decide) | (right; decide) | (right; have hb_ := z32 (w.2.2.1 95 10); omega)⟩, (by have hrc_ : (0 : Int32).toInt = 0 := (by decide); (first | exact Or.inl (by decide) | exact Or.inr ⟨fun h_ => by have := hw_3.mpr h_; omega, fun h_ => by have := hw_23.mpr h_; omega, fun h_ => by have := hw_45.mpr h_; omega, fun h_ => by have := hw_66.mpr h_; omega⟩)), rfl⟩
          ·
            refine s_iconst (v := 1) E dX10_isFull_84 (by decide) ?_
            refine s_goto (tgt := 89) E dX10_isFull_85 (by decide) ?_
            exact r_bool E dX10_isFull_89 (Or.inr rfl) ⟨⟨by decide, by decide, by first | (left; decide) | (right; decide) | (right; have hb_ := z32 (w.2.2.1 95 12); omega), by first | (left; decide) | (right; decide) | (right; have hb_ := z32 (w.2.2.1 95 10); omega)⟩, (by have hrc_ : (1 : Int32).toInt = 1 := (by decide); (first | exact Or.inl (by decide) | exact Or.inr ⟨fun h_ => by have := hw_3.mpr h_; omega, fun h_ => by have := hw_23.mpr h_; omega, fun h_ => by have := hw_45.mpr h_; omega, fun h_ => by have := hw_66.mpr h_; omega⟩)), rfl⟩
      ·
        refine s_aload_n E dX10_isFull_51 rfl rfl ?_
        refine s_gR (r := 101) E fg_X10_31 rfl rfl (jv_lt hJ (by decide)) (jv_r hJ (by decide +kernel)) dX10_isFull_52 ?_
        refine s_bipush (v := 6) E dX10_isFull_55 (by decide) ?_
        refine s_iald E rfl (jv_lt hJ (by decide)) (z_in (u := 6) (by decide) (by omega) (by omega)) dX10_isFull_57 ?_
        refine z_nm (P := fun z => z.toInt = (w.2.2.1 101 6).toInt ∧ 0 ≤ z.toInt ∧ z.toInt ≤ 8) ⟨rfl, (rw_101_6 hJ)⟩ (fun z_23 hz_23 => ?_)
        refine s_bipush (v := 8) E dX10_isFull_58 (by decide) ?_
        refine z_icmp_eq (tgt := 84) (u := z_23.toInt) (v := 8) E dX10_isFull_60 (by decide) rfl (by decide) (fun h_24 => ?_) (fun h_24 => ?_)
        ·
          refine s_iconst (v := 1) E dX10_isFull_84 (by decide) ?_
          refine s_goto (tgt := 89) E dX10_isFull_85 (by decide) ?_
          exact r_bool E dX10_isFull_89 (Or.inr rfl) ⟨⟨by decide, by decide, by first | (left; decide) | (right; decide) | (right; have hb_ := z32 (w.2.2.1 95 12); omega), by first | (left; decide) | (right; decide) | (right; have hb_ := z32 (w.2.2.1 95 10); omega)⟩, (by have hrc_ : (1 : Int32).toInt = 1 := (by decide); (first | exact Or.inl (by decide) | exact Or.inr ⟨fun h_ => by have := hw_3.mpr h_; omega, fun h_ => by have := hw_23.mpr h_; omega, fun h_ => by have := hw_45.mpr h_; omega, fun h_ => by have := hw_66.mpr h_; omega⟩)), rfl⟩
        ·
          refine s_aload_n E dX10_isFull_63 rfl rfl ?_
          refine s_ldcS (i := 23) E (by decide) rfl dX10_isFull_64 ?_
          refine s_vI (As := [AX (sA aC 23)]) (S := []) E (Z_X10_is_95 l D aC b w  hJ.1  23 (by decide)) cv_X10_143 rfl rfl rfl (jv_lt hJ (by decide)) (Nat.le_of_ble_eq_true rfl) (Nat.le_of_ble_eq_true rfl) ⟨(Nat.le_of_ble_eq_true rfl), (Nat.le_of_ble_eq_true rfl)⟩ (Nat.le_of_ble_eq_true rfl) dX10_isFull_66 (fun z_27 u_25 hp_26 => ?_)
          obtain ⟨hz_27, hxz_27, hp_26⟩ := hp_26
          subst hp_26
          have hw_66 := hxz_27
          refine z_if_eq (tgt := 88) (u := z_27.toInt) E dX10_isFull_69 (by decide) rfl (fun h_29 => ?_) (fun h_29 => ?_)
          ·
            refine s_iconst (v := 0) E dX10_isFull_88 (by decide) ?_
            exact r_bool E dX10_isFull_89 (Or.inl rfl) ⟨⟨by decide, by decide, by first | (left; decide) | (right; decide) | (right; have hb_ := z32 (w.2.2.1 95 12); omega), by first | (left; decide) | (right; decide) | (right; have hb_ := z32 (w.2.2.1 95 10); omega)⟩, (by have hrc_ : (0 : Int32).toInt = 0 := (by decide); (first | exact Or.inl (by decide) | exact Or.inr ⟨fun h_ => by have := hw_3.mpr h_; omega, fun h_ => by have := hw_23.mpr h_; omega, fun h_ => by have := hw_45.mpr h_; omega, fun h_ => by have := hw_66.mpr h_; omega⟩)), rfl⟩
          ·
            refine s_aload_n E dX10_isFull_72 rfl rfl ?_
            refine s_gR (r := 101) E fg_X10_31 rfl rfl (jv_lt hJ (by decide)) (jv_r hJ (by decide +kernel)) dX10_isFull_73 ?_
            refine s_bipush (v := 7) E dX10_isFull_76 (by decide) ?_
            refine s_iald E rfl (jv_lt hJ (by decide)) (z_in (u := 7) (by decide) (by omega) (by omega)) dX10_isFull_78 ?_
            refine z_nm (P := fun z => z.toInt = (w.2.2.1 101 7).toInt ∧ 0 ≤ z.toInt ∧ z.toInt ≤ 10) ⟨rfl, (rw_101_7 hJ)⟩ (fun z_30 hz_30 => ?_)
            refine s_bipush (v := 10) E dX10_isFull_79 (by decide) ?_
            refine z_icmp_ne (tgt := 88) (u := z_30.toInt) (v := 10) E dX10_isFull_81 (by decide) rfl (by decide) (fun h_31 => ?_) (fun h_31 => ?_)
            ·
              refine s_iconst (v := 0) E dX10_isFull_88 (by decide) ?_
              exact r_bool E dX10_isFull_89 (Or.inl rfl) ⟨⟨by decide, by decide, by first | (left; decide) | (right; decide) | (right; have hb_ := z32 (w.2.2.1 95 12); omega), by first | (left; decide) | (right; decide) | (right; have hb_ := z32 (w.2.2.1 95 10); omega)⟩, (by have hrc_ : (0 : Int32).toInt = 0 := (by decide); (first | exact Or.inl (by decide) | exact Or.inr ⟨fun h_ => by have := hw_3.mpr h_; omega, fun h_ => by have := hw_23.mpr h_; omega, fun h_ => by have := hw_45.mpr h_; omega, fun h_ => by have := hw_66.mpr h_; omega⟩)), rfl⟩
            ·
              refine s_iconst (v := 1) E dX10_isFull_84 (by decide) ?_
              refine s_goto (tgt := 89) E dX10_isFull_85 (by decide) ?_
              exact r_bool E dX10_isFull_89 (Or.inr rfl) ⟨⟨by decide, by decide, by first | (left; decide) | (right; decide) | (right; have hb_ := z32 (w.2.2.1 95 12); omega), by first | (left; decide) | (right; decide) | (right; have hb_ := z32 (w.2.2.1 95 10); omega)⟩, (by have hrc_ : (1 : Int32).toInt = 1 := (by decide); (first | exact Or.inl (by decide) | exact Or.inr ⟨fun h_ => by have := hw_3.mpr h_; omega, fun h_ => by have := hw_23.mpr h_; omega, fun h_ => by have := hw_45.mpr h_; omega, fun h_ => by have := hw_66.mpr h_; omega⟩)), rfl⟩
    ·
      refine s_aload_n E dX10_isFull_29 rfl rfl ?_
      refine s_gR (r := 101) E fg_X10_31 rfl rfl (jv_lt hJ (by decide)) (jv_r hJ (by decide +kernel)) dX10_isFull_30 ?_
      refine s_iconst (v := 5) E dX10_isFull_33 (by decide) ?_
      refine s_iald E rfl (jv_lt hJ (by decide)) (z_in (u := 5) (by decide) (by omega) (by omega)) dX10_isFull_34 ?_
      refine z_nm (P := fun z => z.toInt = (w.2.2.1 101 5).toInt ∧ 0 ≤ z.toInt ∧ z.toInt ≤ 6) ⟨rfl, (rw_101_5 hJ)⟩ (fun z_32 hz_32 => ?_)
      refine s_bipush (v := 6) E dX10_isFull_35 (by decide) ?_
      refine z_icmp_ne (tgt := 42) (u := z_32.toInt) (v := 6) E dX10_isFull_37 (by decide) rfl (by decide) (fun h_33 => ?_) (fun h_33 => ?_)
      ·
        refine s_aload_n E dX10_isFull_42 rfl rfl ?_
        refine s_ldcS (i := 22) E (by decide) rfl dX10_isFull_43 ?_
        refine s_vI (As := [AX (sA aC 22)]) (S := []) E (Z_X10_is_95 l D aC b w  hJ.1  22 (by decide)) cv_X10_143 rfl rfl rfl (jv_lt hJ (by decide)) (Nat.le_of_ble_eq_true rfl) (Nat.le_of_ble_eq_true rfl) ⟨(Nat.le_of_ble_eq_true rfl), (Nat.le_of_ble_eq_true rfl)⟩ (Nat.le_of_ble_eq_true rfl) dX10_isFull_45 (fun z_36 u_34 hp_35 => ?_)
        obtain ⟨hz_36, hxz_36, hp_35⟩ := hp_35
        subst hp_35
        have hw_45 := hxz_36
        refine z_if_eq (tgt := 63) (u := z_36.toInt) E dX10_isFull_48 (by decide) rfl (fun h_38 => ?_) (fun h_38 => ?_)
        ·
          refine s_aload_n E dX10_isFull_63 rfl rfl ?_
          refine s_ldcS (i := 23) E (by decide) rfl dX10_isFull_64 ?_
          refine s_vI (As := [AX (sA aC 23)]) (S := []) E (Z_X10_is_95 l D aC b w  hJ.1  23 (by decide)) cv_X10_143 rfl rfl rfl (jv_lt hJ (by decide)) (Nat.le_of_ble_eq_true rfl) (Nat.le_of_ble_eq_true rfl) ⟨(Nat.le_of_ble_eq_true rfl), (Nat.le_of_ble_eq_true rfl)⟩ (Nat.le_of_ble_eq_true rfl) dX10_isFull_66 (fun z_41 u_39 hp_40 => ?_)
          obtain ⟨hz_41, hxz_41, hp_40⟩ := hp_40
          subst hp_40
          have hw_66 := hxz_41
          refine z_if_eq (tgt := 88) (u := z_41.toInt) E dX10_isFull_69 (by decide) rfl (fun h_43 => ?_) (fun h_43 => ?_)
          ·
            refine s_iconst (v := 0) E dX10_isFull_88 (by decide) ?_
            exact r_bool E dX10_isFull_89 (Or.inl rfl) ⟨⟨by decide, by decide, by first | (left; decide) | (right; decide) | (right; have hb_ := z32 (w.2.2.1 95 12); omega), by first | (left; decide) | (right; decide) | (right; have hb_ := z32 (w.2.2.1 95 10); omega)⟩, (by have hrc_ : (0 : Int32).toInt = 0 := (by decide); (first | exact Or.inl (by decide) | exact Or.inr ⟨fun h_ => by have := hw_3.mpr h_; omega, fun h_ => by have := hw_23.mpr h_; omega, fun h_ => by have := hw_45.mpr h_; omega, fun h_ => by have := hw_66.mpr h_; omega⟩)), rfl⟩
          ·
            refine s_aload_n E dX10_isFull_72 rfl rfl ?_
            refine s_gR (r := 101) E fg_X10_31 rfl rfl (jv_lt hJ (by decide)) (jv_r hJ (by decide +kernel)) dX10_isFull_73 ?_
            refine s_bipush (v := 7) E dX10_isFull_76 (by decide) ?_
            refine s_iald E rfl (jv_lt hJ (by decide)) (z_in (u := 7) (by decide) (by omega) (by omega)) dX10_isFull_78 ?_
            refine z_nm (P := fun z => z.toInt = (w.2.2.1 101 7).toInt ∧ 0 ≤ z.toInt ∧ z.toInt ≤ 10) ⟨rfl, (rw_101_7 hJ)⟩ (fun z_44 hz_44 => ?_)
            refine s_bipush (v := 10) E dX10_isFull_79 (by decide) ?_
            refine z_icmp_ne (tgt := 88) (u := z_44.toInt) (v := 10) E dX10_isFull_81 (by decide) rfl (by decide) (fun h_45 => ?_) (fun h_45 => ?_)
            ·
              refine s_iconst (v := 0) E dX10_isFull_88 (by decide) ?_
              exact r_bool E dX10_isFull_89 (Or.inl rfl) ⟨⟨by decide, by decide, by first | (left; decide) | (right; decide) | (right; have hb_ := z32 (w.2.2.1 95 12); omega), by first | (left; decide) | (right; decide) | (right; have hb_ := z32 (w.2.2.1 95 10); omega)⟩, (by have hrc_ : (0 : Int32).toInt = 0 := (by decide); (first | exact Or.inl (by decide) | exact Or.inr ⟨fun h_ => by have := hw_3.mpr h_; omega, fun h_ => by have := hw_23.mpr h_; omega, fun h_ => by have := hw_45.mpr h_; omega, fun h_ => by have := hw_66.mpr h_; omega⟩)), rfl⟩
            ·
              refine s_iconst (v := 1) E dX10_isFull_84 (by decide) ?_
              refine s_goto (tgt := 89) E dX10_isFull_85 (by decide) ?_
              exact r_bool E dX10_isFull_89 (Or.inr rfl) ⟨⟨by decide, by decide, by first | (left; decide) | (right; decide) | (right; have hb_ := z32 (w.2.2.1 95 12); omega), by first | (left; decide) | (right; decide) | (right; have hb_ := z32 (w.2.2.1 95 10); omega)⟩, (by have hrc_ : (1 : Int32).toInt = 1 := (by decide); (first | exact Or.inl (by decide) | exact Or.inr ⟨fun h_ => by have := hw_3.mpr h_; omega, fun h_ => by have := hw_23.mpr h_; omega, fun h_ => by have := hw_45.mpr h_; omega, fun h_ => by have := hw_66.mpr h_; omega⟩)), rfl⟩
        ·
          refine s_aload_n E dX10_isFull_51 rfl rfl ?_
          refine s_gR (r := 101) E fg_X10_31 rfl rfl (jv_lt hJ (by decide)) (jv_r hJ (by decide +kernel)) dX10_isFull_52 ?_
          refine s_bipush (v := 6) E dX10_isFull_55 (by decide) ?_
          refine s_iald E rfl (jv_lt hJ (by decide)) (z_in (u := 6) (by decide) (by omega) (by omega)) dX10_isFull_57 ?_
          refine z_nm (P := fun z => z.toInt = (w.2.2.1 101 6).toInt ∧ 0 ≤ z.toInt ∧ z.toInt ≤ 8) ⟨rfl, (rw_101_6 hJ)⟩ (fun z_46 hz_46 => ?_)
          refine s_bipush (v := 8) E dX10_isFull_58 (by decide) ?_
          refine z_icmp_eq (tgt := 84) (u := z_46.toInt) (v := 8) E dX10_isFull_60 (by decide) rfl (by decide) (fun h_47 => ?_) (fun h_47 => ?_)
          ·
            refine s_iconst (v := 1) E dX10_isFull_84 (by decide) ?_
            refine s_goto (tgt := 89) E dX10_isFull_85 (by decide) ?_
            exact r_bool E dX10_isFull_89 (Or.inr rfl) ⟨⟨by decide, by decide, by first | (left; decide) | (right; decide) | (right; have hb_ := z32 (w.2.2.1 95 12); omega), by first | (left; decide) | (right; decide) | (right; have hb_ := z32 (w.2.2.1 95 10); omega)⟩, (by have hrc_ : (1 : Int32).toInt = 1 := (by decide); (first | exact Or.inl (by decide) | exact Or.inr ⟨fun h_ => by have := hw_3.mpr h_; omega, fun h_ => by have := hw_23.mpr h_; omega, fun h_ => by have := hw_45.mpr h_; omega, fun h_ => by have := hw_66.mpr h_; omega⟩)), rfl⟩
          ·
            refine s_aload_n E dX10_isFull_63 rfl rfl ?_
            refine s_ldcS (i := 23) E (by decide) rfl dX10_isFull_64 ?_
            refine s_vI (As := [AX (sA aC 23)]) (S := []) E (Z_X10_is_95 l D aC b w  hJ.1  23 (by decide)) cv_X10_143 rfl rfl rfl (jv_lt hJ (by decide)) (Nat.le_of_ble_eq_true rfl) (Nat.le_of_ble_eq_true rfl) ⟨(Nat.le_of_ble_eq_true rfl), (Nat.le_of_ble_eq_true rfl)⟩ (Nat.le_of_ble_eq_true rfl) dX10_isFull_66 (fun z_50 u_48 hp_49 => ?_)
            obtain ⟨hz_50, hxz_50, hp_49⟩ := hp_49
            subst hp_49
            have hw_66 := hxz_50
            refine z_if_eq (tgt := 88) (u := z_50.toInt) E dX10_isFull_69 (by decide) rfl (fun h_52 => ?_) (fun h_52 => ?_)
            ·
              refine s_iconst (v := 0) E dX10_isFull_88 (by decide) ?_
              exact r_bool E dX10_isFull_89 (Or.inl rfl) ⟨⟨by decide, by decide, by first | (left; decide) | (right; decide) | (right; have hb_ := z32 (w.2.2.1 95 12); omega), by first | (left; decide) | (right; decide) | (right; have hb_ := z32 (w.2.2.1 95 10); omega)⟩, (by have hrc_ : (0 : Int32).toInt = 0 := (by decide); (first | exact Or.inl (by decide) | exact Or.inr ⟨fun h_ => by have := hw_3.mpr h_; omega, fun h_ => by have := hw_23.mpr h_; omega, fun h_ => by have := hw_45.mpr h_; omega, fun h_ => by have := hw_66.mpr h_; omega⟩)), rfl⟩
            ·
              refine s_aload_n E dX10_isFull_72 rfl rfl ?_
              refine s_gR (r := 101) E fg_X10_31 rfl rfl (jv_lt hJ (by decide)) (jv_r hJ (by decide +kernel)) dX10_isFull_73 ?_
              refine s_bipush (v := 7) E dX10_isFull_76 (by decide) ?_
              refine s_iald E rfl (jv_lt hJ (by decide)) (z_in (u := 7) (by decide) (by omega) (by omega)) dX10_isFull_78 ?_
              refine z_nm (P := fun z => z.toInt = (w.2.2.1 101 7).toInt ∧ 0 ≤ z.toInt ∧ z.toInt ≤ 10) ⟨rfl, (rw_101_7 hJ)⟩ (fun z_53 hz_53 => ?_)
              refine s_bipush (v := 10) E dX10_isFull_79 (by decide) ?_
              refine z_icmp_ne (tgt := 88) (u := z_53.toInt) (v := 10) E dX10_isFull_81 (by decide) rfl (by decide) (fun h_54 => ?_) (fun h_54 => ?_)
              ·
                refine s_iconst (v := 0) E dX10_isFull_88 (by decide) ?_
                exact r_bool E dX10_isFull_89 (Or.inl rfl) ⟨⟨by decide, by decide, by first | (left; decide) | (right; decide) | (right; have hb_ := z32 (w.2.2.1 95 12); omega), by first | (left; decide) | (right; decide) | (right; have hb_ := z32 (w.2.2.1 95 10); omega)⟩, (by have hrc_ : (0 : Int32).toInt = 0 := (by decide); (first | exact Or.inl (by decide) | exact Or.inr ⟨fun h_ => by have := hw_3.mpr h_; omega, fun h_ => by have := hw_23.mpr h_; omega, fun h_ => by have := hw_45.mpr h_; omega, fun h_ => by have := hw_66.mpr h_; omega⟩)), rfl⟩
              ·
                refine s_iconst (v := 1) E dX10_isFull_84 (by decide) ?_
                refine s_goto (tgt := 89) E dX10_isFull_85 (by decide) ?_
                exact r_bool E dX10_isFull_89 (Or.inr rfl) ⟨⟨by decide, by decide, by first | (left; decide) | (right; decide) | (right; have hb_ := z32 (w.2.2.1 95 12); omega), by first | (left; decide) | (right; decide) | (right; have hb_ := z32 (w.2.2.1 95 10); omega)⟩, (by have hrc_ : (1 : Int32).toInt = 1 := (by decide); (first | exact Or.inl (by decide) | exact Or.inr ⟨fun h_ => by have := hw_3.mpr h_; omega, fun h_ => by have := hw_23.mpr h_; omega, fun h_ => by have := hw_45.mpr h_; omega, fun h_ => by have := hw_66.mpr h_; omega⟩)), rfl⟩
      ·
        refine s_iconst (v := 1) E dX10_isFull_40 (by decide) ?_
        exact r_bool E dX10_isFull_41 (Or.inr rfl) ⟨⟨by decide, by decide, by first | (left; decide) | (right; decide) | (right; have hb_ := z32 (w.2.2.1 95 12); omega), by first | (left; decide) | (right; decide) | (right; have hb_ := z32 (w.2.2.1 95 10); omega)⟩, (Or.inl (by decide)), rfl⟩
  ·
    refine s_aload_n E dX10_isFull_9 rfl rfl ?_
    refine s_gR (r := 101) E fg_X10_31 rfl rfl (jv_lt hJ (by decide)) (jv_r hJ (by decide +kernel)) dX10_isFull_10 ?_
    refine s_iconst (v := 4) E dX10_isFull_13 (by decide) ?_
    refine s_iald E rfl (jv_lt hJ (by decide)) (z_in (u := 4) (by decide) (by omega) (by omega)) dX10_isFull_14 ?_
    refine z_nm (P := fun z => z.toInt = (w.2.2.1 101 4).toInt ∧ 0 ≤ z.toInt ∧ z.toInt ≤ 12) ⟨rfl, (rw_101_4 hJ)⟩ (fun z_55 hz_55 => ?_)
    refine s_bipush (v := 12) E dX10_isFull_15 (by decide) ?_
    refine z_icmp_eq (tgt := 40) (u := z_55.toInt) (v := 12) E dX10_isFull_17 (by decide) rfl (by decide) (fun h_56 => ?_) (fun h_56 => ?_)
    ·
      refine s_iconst (v := 1) E dX10_isFull_40 (by decide) ?_
      exact r_bool E dX10_isFull_41 (Or.inr rfl) ⟨⟨by decide, by decide, by first | (left; decide) | (right; decide) | (right; have hb_ := z32 (w.2.2.1 95 12); omega), by first | (left; decide) | (right; decide) | (right; have hb_ := z32 (w.2.2.1 95 10); omega)⟩, (Or.inl (by decide)), rfl⟩
    ·
      refine s_aload_n E dX10_isFull_20 rfl rfl ?_
      refine s_ldcS (i := 21) E (by decide) rfl dX10_isFull_21 ?_
      refine s_vI (As := [AX (sA aC 21)]) (S := []) E (Z_X10_is_95 l D aC b w  hJ.1  21 (by decide)) cv_X10_143 rfl rfl rfl (jv_lt hJ (by decide)) (Nat.le_of_ble_eq_true rfl) (Nat.le_of_ble_eq_true rfl) ⟨(Nat.le_of_ble_eq_true rfl), (Nat.le_of_ble_eq_true rfl)⟩ (Nat.le_of_ble_eq_true rfl) dX10_isFull_23 (fun z_59 u_57 hp_58 => ?_)
      obtain ⟨hz_59, hxz_59, hp_58⟩ := hp_58
      subst hp_58
      have hw_23 := hxz_59
      refine z_if_eq (tgt := 42) (u := z_59.toInt) E dX10_isFull_26 (by decide) rfl (fun h_61 => ?_) (fun h_61 => ?_)
      ·
        refine s_aload_n E dX10_isFull_42 rfl rfl ?_
        refine s_ldcS (i := 22) E (by decide) rfl dX10_isFull_43 ?_
        refine s_vI (As := [AX (sA aC 22)]) (S := []) E (Z_X10_is_95 l D aC b w  hJ.1  22 (by decide)) cv_X10_143 rfl rfl rfl (jv_lt hJ (by decide)) (Nat.le_of_ble_eq_true rfl) (Nat.le_of_ble_eq_true rfl) ⟨(Nat.le_of_ble_eq_true rfl), (Nat.le_of_ble_eq_true rfl)⟩ (Nat.le_of_ble_eq_true rfl) dX10_isFull_45 (fun z_64 u_62 hp_63 => ?_)
        obtain ⟨hz_64, hxz_64, hp_63⟩ := hp_63
        subst hp_63
        have hw_45 := hxz_64
        refine z_if_eq (tgt := 63) (u := z_64.toInt) E dX10_isFull_48 (by decide) rfl (fun h_66 => ?_) (fun h_66 => ?_)
        ·
          refine s_aload_n E dX10_isFull_63 rfl rfl ?_
          refine s_ldcS (i := 23) E (by decide) rfl dX10_isFull_64 ?_
          refine s_vI (As := [AX (sA aC 23)]) (S := []) E (Z_X10_is_95 l D aC b w  hJ.1  23 (by decide)) cv_X10_143 rfl rfl rfl (jv_lt hJ (by decide)) (Nat.le_of_ble_eq_true rfl) (Nat.le_of_ble_eq_true rfl) ⟨(Nat.le_of_ble_eq_true rfl), (Nat.le_of_ble_eq_true rfl)⟩ (Nat.le_of_ble_eq_true rfl) dX10_isFull_66 (fun z_69 u_67 hp_68 => ?_)
          obtain ⟨hz_69, hxz_69, hp_68⟩ := hp_68
          subst hp_68
          have hw_66 := hxz_69
          refine z_if_eq (tgt := 88) (u := z_69.toInt) E dX10_isFull_69 (by decide) rfl (fun h_71 => ?_) (fun h_71 => ?_)
          ·
            refine s_iconst (v := 0) E dX10_isFull_88 (by decide) ?_
            exact r_bool E dX10_isFull_89 (Or.inl rfl) ⟨⟨by decide, by decide, by first | (left; decide) | (right; decide) | (right; have hb_ := z32 (w.2.2.1 95 12); omega), by first | (left; decide) | (right; decide) | (right; have hb_ := z32 (w.2.2.1 95 10); omega)⟩, (by have hrc_ : (0 : Int32).toInt = 0 := (by decide); (first | exact Or.inl (by decide) | exact Or.inr ⟨fun h_ => by have := hw_3.mpr h_; omega, fun h_ => by have := hw_23.mpr h_; omega, fun h_ => by have := hw_45.mpr h_; omega, fun h_ => by have := hw_66.mpr h_; omega⟩)), rfl⟩
          ·
            refine s_aload_n E dX10_isFull_72 rfl rfl ?_
            refine s_gR (r := 101) E fg_X10_31 rfl rfl (jv_lt hJ (by decide)) (jv_r hJ (by decide +kernel)) dX10_isFull_73 ?_
            refine s_bipush (v := 7) E dX10_isFull_76 (by decide) ?_
            refine s_iald E rfl (jv_lt hJ (by decide)) (z_in (u := 7) (by decide) (by omega) (by omega)) dX10_isFull_78 ?_
            refine z_nm (P := fun z => z.toInt = (w.2.2.1 101 7).toInt ∧ 0 ≤ z.toInt ∧ z.toInt ≤ 10) ⟨rfl, (rw_101_7 hJ)⟩ (fun z_72 hz_72 => ?_)
            refine s_bipush (v := 10) E dX10_isFull_79 (by decide) ?_
            refine z_icmp_ne (tgt := 88) (u := z_72.toInt) (v := 10) E dX10_isFull_81 (by decide) rfl (by decide) (fun h_73 => ?_) (fun h_73 => ?_)
            ·
              refine s_iconst (v := 0) E dX10_isFull_88 (by decide) ?_
              exact r_bool E dX10_isFull_89 (Or.inl rfl) ⟨⟨by decide, by decide, by first | (left; decide) | (right; decide) | (right; have hb_ := z32 (w.2.2.1 95 12); omega), by first | (left; decide) | (right; decide) | (right; have hb_ := z32 (w.2.2.1 95 10); omega)⟩, (by have hrc_ : (0 : Int32).toInt = 0 := (by decide); (first | exact Or.inl (by decide) | exact Or.inr ⟨fun h_ => by have := hw_3.mpr h_; omega, fun h_ => by have := hw_23.mpr h_; omega, fun h_ => by have := hw_45.mpr h_; omega, fun h_ => by have := hw_66.mpr h_; omega⟩)), rfl⟩
            ·
              refine s_iconst (v := 1) E dX10_isFull_84 (by decide) ?_
              refine s_goto (tgt := 89) E dX10_isFull_85 (by decide) ?_
              exact r_bool E dX10_isFull_89 (Or.inr rfl) ⟨⟨by decide, by decide, by first | (left; decide) | (right; decide) | (right; have hb_ := z32 (w.2.2.1 95 12); omega), by first | (left; decide) | (right; decide) | (right; have hb_ := z32 (w.2.2.1 95 10); omega)⟩, (by have hrc_ : (1 : Int32).toInt = 1 := (by decide); (first | exact Or.inl (by decide) | exact Or.inr ⟨fun h_ => by have := hw_3.mpr h_; omega, fun h_ => by have := hw_23.mpr h_; omega, fun h_ => by have := hw_45.mpr h_; omega, fun h_ => by have := hw_66.mpr h_; omega⟩)), rfl⟩
        ·
          refine s_aload_n E dX10_isFull_51 rfl rfl ?_
          refine s_gR (r := 101) E fg_X10_31 rfl rfl (jv_lt hJ (by decide)) (jv_r hJ (by decide +kernel)) dX10_isFull_52 ?_
          refine s_bipush (v := 6) E dX10_isFull_55 (by decide) ?_
          refine s_iald E rfl (jv_lt hJ (by decide)) (z_in (u := 6) (by decide) (by omega) (by omega)) dX10_isFull_57 ?_
          refine z_nm (P := fun z => z.toInt = (w.2.2.1 101 6).toInt ∧ 0 ≤ z.toInt ∧ z.toInt ≤ 8) ⟨rfl, (rw_101_6 hJ)⟩ (fun z_74 hz_74 => ?_)
          refine s_bipush (v := 8) E dX10_isFull_58 (by decide) ?_
          refine z_icmp_eq (tgt := 84) (u := z_74.toInt) (v := 8) E dX10_isFull_60 (by decide) rfl (by decide) (fun h_75 => ?_) (fun h_75 => ?_)
          ·
            refine s_iconst (v := 1) E dX10_isFull_84 (by decide) ?_
            refine s_goto (tgt := 89) E dX10_isFull_85 (by decide) ?_
            exact r_bool E dX10_isFull_89 (Or.inr rfl) ⟨⟨by decide, by decide, by first | (left; decide) | (right; decide) | (right; have hb_ := z32 (w.2.2.1 95 12); omega), by first | (left; decide) | (right; decide) | (right; have hb_ := z32 (w.2.2.1 95 10); omega)⟩, (by have hrc_ : (1 : Int32).toInt = 1 := (by decide); (first | exact Or.inl (by decide) | exact Or.inr ⟨fun h_ => by have := hw_3.mpr h_; omega, fun h_ => by have := hw_23.mpr h_; omega, fun h_ => by have := hw_45.mpr h_; omega, fun h_ => by have := hw_66.mpr h_; omega⟩)), rfl⟩
          ·
            refine s_aload_n E dX10_isFull_63 rfl rfl ?_
            refine s_ldcS (i := 23) E (by decide) rfl dX10_isFull_64 ?_
            refine s_vI (As := [AX (sA aC 23)]) (S := []) E (Z_X10_is_95 l D aC b w  hJ.1  23 (by decide)) cv_X10_143 rfl rfl rfl (jv_lt hJ (by decide)) (Nat.le_of_ble_eq_true rfl) (Nat.le_of_ble_eq_true rfl) ⟨(Nat.le_of_ble_eq_true rfl), (Nat.le_of_ble_eq_true rfl)⟩ (Nat.le_of_ble_eq_true rfl) dX10_isFull_66 (fun z_78 u_76 hp_77 => ?_)
            obtain ⟨hz_78, hxz_78, hp_77⟩ := hp_77
            subst hp_77
            have hw_66 := hxz_78
            refine z_if_eq (tgt := 88) (u := z_78.toInt) E dX10_isFull_69 (by decide) rfl (fun h_80 => ?_) (fun h_80 => ?_)
            ·
              refine s_iconst (v := 0) E dX10_isFull_88 (by decide) ?_
              exact r_bool E dX10_isFull_89 (Or.inl rfl) ⟨⟨by decide, by decide, by first | (left; decide) | (right; decide) | (right; have hb_ := z32 (w.2.2.1 95 12); omega), by first | (left; decide) | (right; decide) | (right; have hb_ := z32 (w.2.2.1 95 10); omega)⟩, (by have hrc_ : (0 : Int32).toInt = 0 := (by decide); (first | exact Or.inl (by decide) | exact Or.inr ⟨fun h_ => by have := hw_3.mpr h_; omega, fun h_ => by have := hw_23.mpr h_; omega, fun h_ => by have := hw_45.mpr h_; omega, fun h_ => by have := hw_66.mpr h_; omega⟩)), rfl⟩
            ·
              refine s_aload_n E dX10_isFull_72 rfl rfl ?_
              refine s_gR (r := 101) E fg_X10_31 rfl rfl (jv_lt hJ (by decide)) (jv_r hJ (by decide +kernel)) dX10_isFull_73 ?_
              refine s_bipush (v := 7) E dX10_isFull_76 (by decide) ?_
              refine s_iald E rfl (jv_lt hJ (by decide)) (z_in (u := 7) (by decide) (by omega) (by omega)) dX10_isFull_78 ?_
              refine z_nm (P := fun z => z.toInt = (w.2.2.1 101 7).toInt ∧ 0 ≤ z.toInt ∧ z.toInt ≤ 10) ⟨rfl, (rw_101_7 hJ)⟩ (fun z_81 hz_81 => ?_)
              refine s_bipush (v := 10) E dX10_isFull_79 (by decide) ?_
              refine z_icmp_ne (tgt := 88) (u := z_81.toInt) (v := 10) E dX10_isFull_81 (by decide) rfl (by decide) (fun h_82 => ?_) (fun h_82 => ?_)
              ·
                refine s_iconst (v := 0) E dX10_isFull_88 (by decide) ?_
                exact r_bool E dX10_isFull_89 (Or.inl rfl) ⟨⟨by decide, by decide, by first | (left; decide) | (right; decide) | (right; have hb_ := z32 (w.2.2.1 95 12); omega), by first | (left; decide) | (right; decide) | (right; have hb_ := z32 (w.2.2.1 95 10); omega)⟩, (by have hrc_ : (0 : Int32).toInt = 0 := (by decide); (first | exact Or.inl (by decide) | exact Or.inr ⟨fun h_ => by have := hw_3.mpr h_; omega, fun h_ => by have := hw_23.mpr h_; omega, fun h_ => by have := hw_45.mpr h_; omega, fun h_ => by have := hw_66.mpr h_; omega⟩)), rfl⟩
              ·
                refine s_iconst (v := 1) E dX10_isFull_84 (by decide) ?_
                refine s_goto (tgt := 89) E dX10_isFull_85 (by decide) ?_
                exact r_bool E dX10_isFull_89 (Or.inr rfl) ⟨⟨by decide, by decide, by first | (left; decide) | (right; decide) | (right; have hb_ := z32 (w.2.2.1 95 12); omega), by first | (left; decide) | (right; decide) | (right; have hb_ := z32 (w.2.2.1 95 10); omega)⟩, (by have hrc_ : (1 : Int32).toInt = 1 := (by decide); (first | exact Or.inl (by decide) | exact Or.inr ⟨fun h_ => by have := hw_3.mpr h_; omega, fun h_ => by have := hw_23.mpr h_; omega, fun h_ => by have := hw_45.mpr h_; omega, fun h_ => by have := hw_66.mpr h_; omega⟩)), rfl⟩
      ·
        refine s_aload_n E dX10_isFull_29 rfl rfl ?_
        refine s_gR (r := 101) E fg_X10_31 rfl rfl (jv_lt hJ (by decide)) (jv_r hJ (by decide +kernel)) dX10_isFull_30 ?_
        refine s_iconst (v := 5) E dX10_isFull_33 (by decide) ?_
        refine s_iald E rfl (jv_lt hJ (by decide)) (z_in (u := 5) (by decide) (by omega) (by omega)) dX10_isFull_34 ?_
        refine z_nm (P := fun z => z.toInt = (w.2.2.1 101 5).toInt ∧ 0 ≤ z.toInt ∧ z.toInt ≤ 6) ⟨rfl, (rw_101_5 hJ)⟩ (fun z_83 hz_83 => ?_)
        refine s_bipush (v := 6) E dX10_isFull_35 (by decide) ?_
        refine z_icmp_ne (tgt := 42) (u := z_83.toInt) (v := 6) E dX10_isFull_37 (by decide) rfl (by decide) (fun h_84 => ?_) (fun h_84 => ?_)
        ·
          refine s_aload_n E dX10_isFull_42 rfl rfl ?_
          refine s_ldcS (i := 22) E (by decide) rfl dX10_isFull_43 ?_
          refine s_vI (As := [AX (sA aC 22)]) (S := []) E (Z_X10_is_95 l D aC b w  hJ.1  22 (by decide)) cv_X10_143 rfl rfl rfl (jv_lt hJ (by decide)) (Nat.le_of_ble_eq_true rfl) (Nat.le_of_ble_eq_true rfl) ⟨(Nat.le_of_ble_eq_true rfl), (Nat.le_of_ble_eq_true rfl)⟩ (Nat.le_of_ble_eq_true rfl) dX10_isFull_45 (fun z_87 u_85 hp_86 => ?_)
          obtain ⟨hz_87, hxz_87, hp_86⟩ := hp_86
          subst hp_86
          have hw_45 := hxz_87
          refine z_if_eq (tgt := 63) (u := z_87.toInt) E dX10_isFull_48 (by decide) rfl (fun h_89 => ?_) (fun h_89 => ?_)
          ·
            refine s_aload_n E dX10_isFull_63 rfl rfl ?_
            refine s_ldcS (i := 23) E (by decide) rfl dX10_isFull_64 ?_
            refine s_vI (As := [AX (sA aC 23)]) (S := []) E (Z_X10_is_95 l D aC b w  hJ.1  23 (by decide)) cv_X10_143 rfl rfl rfl (jv_lt hJ (by decide)) (Nat.le_of_ble_eq_true rfl) (Nat.le_of_ble_eq_true rfl) ⟨(Nat.le_of_ble_eq_true rfl), (Nat.le_of_ble_eq_true rfl)⟩ (Nat.le_of_ble_eq_true rfl) dX10_isFull_66 (fun z_92 u_90 hp_91 => ?_)
            obtain ⟨hz_92, hxz_92, hp_91⟩ := hp_91
            subst hp_91
            have hw_66 := hxz_92
            refine z_if_eq (tgt := 88) (u := z_92.toInt) E dX10_isFull_69 (by decide) rfl (fun h_94 => ?_) (fun h_94 => ?_)
            ·
              refine s_iconst (v := 0) E dX10_isFull_88 (by decide) ?_
              exact r_bool E dX10_isFull_89 (Or.inl rfl) ⟨⟨by decide, by decide, by first | (left; decide) | (right; decide) | (right; have hb_ := z32 (w.2.2.1 95 12); omega), by first | (left; decide) | (right; decide) | (right; have hb_ := z32 (w.2.2.1 95 10); omega)⟩, (by have hrc_ : (0 : Int32).toInt = 0 := (by decide); (first | exact Or.inl (by decide) | exact Or.inr ⟨fun h_ => by have := hw_3.mpr h_; omega, fun h_ => by have := hw_23.mpr h_; omega, fun h_ => by have := hw_45.mpr h_; omega, fun h_ => by have := hw_66.mpr h_; omega⟩)), rfl⟩
            ·
              refine s_aload_n E dX10_isFull_72 rfl rfl ?_
              refine s_gR (r := 101) E fg_X10_31 rfl rfl (jv_lt hJ (by decide)) (jv_r hJ (by decide +kernel)) dX10_isFull_73 ?_
              refine s_bipush (v := 7) E dX10_isFull_76 (by decide) ?_
              refine s_iald E rfl (jv_lt hJ (by decide)) (z_in (u := 7) (by decide) (by omega) (by omega)) dX10_isFull_78 ?_
              refine z_nm (P := fun z => z.toInt = (w.2.2.1 101 7).toInt ∧ 0 ≤ z.toInt ∧ z.toInt ≤ 10) ⟨rfl, (rw_101_7 hJ)⟩ (fun z_95 hz_95 => ?_)
              refine s_bipush (v := 10) E dX10_isFull_79 (by decide) ?_
              refine z_icmp_ne (tgt := 88) (u := z_95.toInt) (v := 10) E dX10_isFull_81 (by decide) rfl (by decide) (fun h_96 => ?_) (fun h_96 => ?_)
              ·
                refine s_iconst (v := 0) E dX10_isFull_88 (by decide) ?_
                exact r_bool E dX10_isFull_89 (Or.inl rfl) ⟨⟨by decide, by decide, by first | (left; decide) | (right; decide) | (right; have hb_ := z32 (w.2.2.1 95 12); omega), by first | (left; decide) | (right; decide) | (right; have hb_ := z32 (w.2.2.1 95 10); omega)⟩, (by have hrc_ : (0 : Int32).toInt = 0 := (by decide); (first | exact Or.inl (by decide) | exact Or.inr ⟨fun h_ => by have := hw_3.mpr h_; omega, fun h_ => by have := hw_23.mpr h_; omega, fun h_ => by have := hw_45.mpr h_; omega, fun h_ => by have := hw_66.mpr h_; omega⟩)), rfl⟩
              ·
                refine s_iconst (v := 1) E dX10_isFull_84 (by decide) ?_
                refine s_goto (tgt := 89) E dX10_isFull_85 (by decide) ?_
                exact r_bool E dX10_isFull_89 (Or.inr rfl) ⟨⟨by decide, by decide, by first | (left; decide) | (right; decide) | (right; have hb_ := z32 (w.2.2.1 95 12); omega), by first | (left; decide) | (right; decide) | (right; have hb_ := z32 (w.2.2.1 95 10); omega)⟩, (by have hrc_ : (1 : Int32).toInt = 1 := (by decide); (first | exact Or.inl (by decide) | exact Or.inr ⟨fun h_ => by have := hw_3.mpr h_; omega, fun h_ => by have := hw_23.mpr h_; omega, fun h_ => by have := hw_45.mpr h_; omega, fun h_ => by have := hw_66.mpr h_; omega⟩)), rfl⟩
          ·
            refine s_aload_n E dX10_isFull_51 rfl rfl ?_
            refine s_gR (r := 101) E fg_X10_31 rfl rfl (jv_lt hJ (by decide)) (jv_r hJ (by decide +kernel)) dX10_isFull_52 ?_
            refine s_bipush (v := 6) E dX10_isFull_55 (by decide) ?_
            refine s_iald E rfl (jv_lt hJ (by decide)) (z_in (u := 6) (by decide) (by omega) (by omega)) dX10_isFull_57 ?_
            refine z_nm (P := fun z => z.toInt = (w.2.2.1 101 6).toInt ∧ 0 ≤ z.toInt ∧ z.toInt ≤ 8) ⟨rfl, (rw_101_6 hJ)⟩ (fun z_97 hz_97 => ?_)
            refine s_bipush (v := 8) E dX10_isFull_58 (by decide) ?_
            refine z_icmp_eq (tgt := 84) (u := z_97.toInt) (v := 8) E dX10_isFull_60 (by decide) rfl (by decide) (fun h_98 => ?_) (fun h_98 => ?_)
            ·
              refine s_iconst (v := 1) E dX10_isFull_84 (by decide) ?_
              refine s_goto (tgt := 89) E dX10_isFull_85 (by decide) ?_
              exact r_bool E dX10_isFull_89 (Or.inr rfl) ⟨⟨by decide, by decide, by first | (left; decide) | (right; decide) | (right; have hb_ := z32 (w.2.2.1 95 12); omega), by first | (left; decide) | (right; decide) | (right; have hb_ := z32 (w.2.2.1 95 10); omega)⟩, (by have hrc_ : (1 : Int32).toInt = 1 := (by decide); (first | exact Or.inl (by decide) | exact Or.inr ⟨fun h_ => by have := hw_3.mpr h_; omega, fun h_ => by have := hw_23.mpr h_; omega, fun h_ => by have := hw_45.mpr h_; omega, fun h_ => by have := hw_66.mpr h_; omega⟩)), rfl⟩
            ·
              refine s_aload_n E dX10_isFull_63 rfl rfl ?_
              refine s_ldcS (i := 23) E (by decide) rfl dX10_isFull_64 ?_
              refine s_vI (As := [AX (sA aC 23)]) (S := []) E (Z_X10_is_95 l D aC b w  hJ.1  23 (by decide)) cv_X10_143 rfl rfl rfl (jv_lt hJ (by decide)) (Nat.le_of_ble_eq_true rfl) (Nat.le_of_ble_eq_true rfl) ⟨(Nat.le_of_ble_eq_true rfl), (Nat.le_of_ble_eq_true rfl)⟩ (Nat.le_of_ble_eq_true rfl) dX10_isFull_66 (fun z_101 u_99 hp_100 => ?_)
              obtain ⟨hz_101, hxz_101, hp_100⟩ := hp_100
              subst hp_100
              have hw_66 := hxz_101
              refine z_if_eq (tgt := 88) (u := z_101.toInt) E dX10_isFull_69 (by decide) rfl (fun h_103 => ?_) (fun h_103 => ?_)
              ·
                refine s_iconst (v := 0) E dX10_isFull_88 (by decide) ?_
                exact r_bool E dX10_isFull_89 (Or.inl rfl) ⟨⟨by decide, by decide, by first | (left; decide) | (right; decide) | (right; have hb_ := z32 (w.2.2.1 95 12); omega), by first | (left; decide) | (right; decide) | (right; have hb_ := z32 (w.2.2.1 95 10); omega)⟩, (by have hrc_ : (0 : Int32).toInt = 0 := (by decide); (first | exact Or.inl (by decide) | exact Or.inr ⟨fun h_ => by have := hw_3.mpr h_; omega, fun h_ => by have := hw_23.mpr h_; omega, fun h_ => by have := hw_45.mpr h_; omega, fun h_ => by have := hw_66.mpr h_; omega⟩)), rfl⟩
              ·
                refine s_aload_n E dX10_isFull_72 rfl rfl ?_
                refine s_gR (r := 101) E fg_X10_31 rfl rfl (jv_lt hJ (by decide)) (jv_r hJ (by decide +kernel)) dX10_isFull_73 ?_
                refine s_bipush (v := 7) E dX10_isFull_76 (by decide) ?_
                refine s_iald E rfl (jv_lt hJ (by decide)) (z_in (u := 7) (by decide) (by omega) (by omega)) dX10_isFull_78 ?_
                refine z_nm (P := fun z => z.toInt = (w.2.2.1 101 7).toInt ∧ 0 ≤ z.toInt ∧ z.toInt ≤ 10) ⟨rfl, (rw_101_7 hJ)⟩ (fun z_104 hz_104 => ?_)
                refine s_bipush (v := 10) E dX10_isFull_79 (by decide) ?_
                refine z_icmp_ne (tgt := 88) (u := z_104.toInt) (v := 10) E dX10_isFull_81 (by decide) rfl (by decide) (fun h_105 => ?_) (fun h_105 => ?_)
                ·
                  refine s_iconst (v := 0) E dX10_isFull_88 (by decide) ?_
                  exact r_bool E dX10_isFull_89 (Or.inl rfl) ⟨⟨by decide, by decide, by first | (left; decide) | (right; decide) | (right; have hb_ := z32 (w.2.2.1 95 12); omega), by first | (left; decide) | (right; decide) | (right; have hb_ := z32 (w.2.2.1 95 10); omega)⟩, (by have hrc_ : (0 : Int32).toInt = 0 := (by decide); (first | exact Or.inl (by decide) | exact Or.inr ⟨fun h_ => by have := hw_3.mpr h_; omega, fun h_ => by have := hw_23.mpr h_; omega, fun h_ => by have := hw_45.mpr h_; omega, fun h_ => by have := hw_66.mpr h_; omega⟩)), rfl⟩
                ·
                  refine s_iconst (v := 1) E dX10_isFull_84 (by decide) ?_
                  refine s_goto (tgt := 89) E dX10_isFull_85 (by decide) ?_
                  exact r_bool E dX10_isFull_89 (Or.inr rfl) ⟨⟨by decide, by decide, by first | (left; decide) | (right; decide) | (right; have hb_ := z32 (w.2.2.1 95 12); omega), by first | (left; decide) | (right; decide) | (right; have hb_ := z32 (w.2.2.1 95 10); omega)⟩, (by have hrc_ : (1 : Int32).toInt = 1 := (by decide); (first | exact Or.inl (by decide) | exact Or.inr ⟨fun h_ => by have := hw_3.mpr h_; omega, fun h_ => by have := hw_23.mpr h_; omega, fun h_ => by have := hw_45.mpr h_; omega, fun h_ => by have := hw_66.mpr h_; omega⟩)), rfl⟩
        ·
          refine s_iconst (v := 1) E dX10_isFull_40 (by decide) ?_
          exact r_bool E dX10_isFull_41 (Or.inr rfl) ⟨⟨by decide, by decide, by first | (left; decide) | (right; decide) | (right; have hb_ := z32 (w.2.2.1 95 12); omega), by first | (left; decide) | (right; decide) | (right; have hb_ := z32 (w.2.2.1 95 10); omega)⟩, (Or.inl (by decide)), rfl⟩
