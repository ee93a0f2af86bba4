set_option maxRecDepth 20000 in
set_option maxHeartbeats 2000000 in
theorem KB_1 (l : Launch) (D : va_G) (aC : Nat → ClassId) (b : Nat) : CnV l D aC b M_X8_clear 0 0 0 0 [AR 14] wb_6 (fun u => u = wb_7) := by
  refine cn_V (own := RX8) (nm := "clear") (L0 := [some (AR 14)]) (by decide +kernel) rfl rfl (Nat.le_of_ble_eq_true rfl) rfl ?_
  intro p e s m args below meth c E hin
  refine s_aload_n E dX8_clear_0 rfl rfl ?_
  refine s_iconst (v := 0) E dX8_clear_1 (by decide) ?_
  refine s_pI E fp_X8_28 (Or.inl rfl) rfl (by decide +kernel) dX8_clear_2 ?_
  refine s_world (w2 := wb_7) rfl ?_
  exact r_void E dX8_clear_5 rfl
set_option maxRecDepth 20000 in
set_option maxHeartbeats 2000000 in
theorem KB_2 (l : Launch) (D : va_G) (aC : Nat → ClassId) (b : Nat) : CnV l D aC b M_X8_clear 0 0 0 0 [AR 16] wb_7 (fun u => u = wb_8) := by
  refine cn_V (own := RX8) (nm := "clear") (L0 := [some (AR 16)]) (by decide +kernel) rfl rfl (Nat.le_of_ble_eq_true rfl) rfl ?_
  intro p e s m args below meth c E hin
  refine s_aload_n E dX8_clear_0 rfl rfl ?_
  refine s_iconst (v := 0) E dX8_clear_1 (by decide) ?_
  refine s_pI E fp_X8_28 (Or.inl rfl) rfl (by decide +kernel) dX8_clear_2 ?_
  refine s_world (w2 := wb_8) rfl ?_
  exact r_void E dX8_clear_5 rfl
set_option maxRecDepth 20000 in
set_option maxHeartbeats 2000000 in
theorem KB_3 (l : Launch) (D : va_G) (aC : Nat → ClassId) (b : Nat) : CnV l D aC b M_X8_clear 0 0 0 0 [AR 18] wb_8 (fun u => u = wb_9) := by
  refine cn_V (own := RX8) (nm := "clear") (L0 := [some (AR 18)]) (by decide +kernel) rfl rfl (Nat.le_of_ble_eq_true rfl) rfl ?_
  intro p e s m args below meth c E hin
  refine s_aload_n E dX8_clear_0 rfl rfl ?_
  refine s_iconst (v := 0) E dX8_clear_1 (by decide) ?_
  refine s_pI E fp_X8_28 (Or.inl rfl) rfl (by decide +kernel) dX8_clear_2 ?_
  refine s_world (w2 := wb_9) rfl ?_
  exact r_void E dX8_clear_5 rfl
set_option maxRecDepth 20000 in
set_option maxHeartbeats 2000000 in
theorem KB_4 (l : Launch) (D : va_G) (aC : Nat → ClassId) (b : Nat) : CnV l D aC b M_X8_clear 0 0 0 0 [AR 20] wb_9 (fun u => u = wb_10) := by
  refine cn_V (own := RX8) (nm := "clear") (L0 := [some (AR 20)]) (by decide +kernel) rfl rfl (Nat.le_of_ble_eq_true rfl) rfl ?_
  intro p e s m args below meth c E hin
  refine s_aload_n E dX8_clear_0 rfl rfl ?_
  refine s_iconst (v := 0) E dX8_clear_1 (by decide) ?_
  refine s_pI E fp_X8_28 (Or.inl rfl) rfl (by decide +kernel) dX8_clear_2 ?_
  refine s_world (w2 := wb_10) rfl ?_
  exact r_void E dX8_clear_5 rfl
set_option maxRecDepth 20000 in
set_option maxHeartbeats 2000000 in
theorem KB_5 (l : Launch) (D : va_G) (aC : Nat → ClassId) (b : Nat) : CnV l D aC b M_X8_clear 0 0 0 0 [AR 22] wb_10 (fun u => u = wb_11) := by
  refine cn_V (own := RX8) (nm := "clear") (L0 := [some (AR 22)]) (by decide +kernel) rfl rfl (Nat.le_of_ble_eq_true rfl) rfl ?_
  intro p e s m args below meth c E hin
  refine s_aload_n E dX8_clear_0 rfl rfl ?_
  refine s_iconst (v := 0) E dX8_clear_1 (by decide) ?_
  refine s_pI E fp_X8_28 (Or.inl rfl) rfl (by decide +kernel) dX8_clear_2 ?_
  refine s_world (w2 := wb_11) rfl ?_
  exact r_void E dX8_clear_5 rfl
set_option maxRecDepth 20000 in
set_option maxHeartbeats 2000000 in
theorem KB_6 (l : Launch) (D : va_G) (aC : Nat → ClassId) (b : Nat) : CnV l D aC b M_X0_clear 1 20 0 0 [AR 13] wb_1 (fun u => u = wb_11) := by
  refine cn_V (own := RX0) (nm := "clear") (L0 := [some (AR 13)]) (by decide +kernel) rfl rfl (Nat.le_of_ble_eq_true rfl) rfl ?_
  intro p e s m args below meth c E hin
  refine s_aload_n E dX0_clear_0 rfl rfl ?_
  refine s_iconst (v := 0) E dX0_clear_1 (by decide) ?_
  refine s_pI E fp_X0_32 (Or.inl rfl) rfl (by decide +kernel) dX0_clear_2 ?_
  refine s_world (w2 := wb_2) rfl ?_
  refine s_aload_n E dX0_clear_5 rfl rfl ?_
  refine s_iconst (v := 0) E dX0_clear_6 (by decide) ?_
  refine s_pI E fp_X0_36 (Or.inl rfl) rfl (by decide +kernel) dX0_clear_7 ?_
  refine s_world (w2 := wb_3) rfl ?_
  refine s_aload_n E dX0_clear_10 rfl rfl ?_
  refine s_iconst (v := 0) E dX0_clear_11 (by decide) ?_
  refine s_pI E fp_X0_39 (Or.inl rfl) rfl (by decide +kernel) dX0_clear_12 ?_
  refine s_world (w2 := wb_4) rfl ?_
  refine s_aload_n E dX0_clear_15 rfl rfl ?_
  refine s_iconst (v := 0) E dX0_clear_16 (by decide) ?_
  refine s_pI E fp_X0_42 (Or.inl rfl) rfl (by decide +kernel) dX0_clear_17 ?_
  refine s_world (w2 := wb_5) rfl ?_
  refine s_aload_n E dX0_clear_20 rfl rfl ?_
  refine s_iconst (v := 0) E dX0_clear_21 (by decide) ?_
  refine s_pI E fp_X0_45 (Or.inl rfl) rfl (by decide +kernel) dX0_clear_22 ?_
  refine s_world (w2 := wb_6) rfl ?_
  refine s_aload_n E dX0_clear_25 rfl rfl ?_
  refine s_gR (r := 14) E fg_X0_14 rfl rfl (by decide +kernel) (by decide +kernel) dX0_clear_26 ?_
  refine s_vV (As := []) (S := []) E (KB_1 l D aC b) cv_X0_48 rfl rfl rfl (by decide +kernel) (Nat.le_of_ble_eq_true rfl) (Nat.le_of_ble_eq_true rfl) ⟨(Nat.le_of_ble_eq_true rfl), (Nat.le_of_ble_eq_true rfl)⟩ (Nat.le_of_ble_eq_true rfl) dX0_clear_29 (fun u hp => ?_)
  subst hp
  refine s_aload_n E dX0_clear_32 rfl rfl ?_
  refine s_gR (r := 16) E fg_X0_20 rfl rfl (by decide +kernel) (by decide +kernel) dX0_clear_33 ?_
  refine s_vV (As := []) (S := []) E (KB_2 l D aC b) cv_X0_48 rfl rfl rfl (by decide +kernel) (Nat.le_of_ble_eq_true rfl) (Nat.le_of_ble_eq_true rfl) ⟨(Nat.le_of_ble_eq_true rfl), (Nat.le_of_ble_eq_true rfl)⟩ (Nat.le_of_ble_eq_true rfl) dX0_clear_36 (fun u hp => ?_)
  subst hp
  refine s_aload_n E dX0_clear_39 rfl rfl ?_
  refine s_gR (r := 18) E fg_X0_23 rfl rfl (by decide +kernel) (by decide +kernel) dX0_clear_40 ?_
  refine s_vV (As := []) (S := []) E (KB_3 l D aC b) cv_X0_48 rfl rfl rfl (by decide +kernel) (Nat.le_of_ble_eq_true rfl) (Nat.le_of_ble_eq_true rfl) ⟨(Nat.le_of_ble_eq_true rfl), (Nat.le_of_ble_eq_true rfl)⟩ (Nat.le_of_ble_eq_true rfl) dX0_clear_43 (fun u hp => ?_)
  subst hp
  refine s_aload_n E dX0_clear_46 rfl rfl ?_
  refine s_gR (r := 20) E fg_X0_26 rfl rfl (by decide +kernel) (by decide +kernel) dX0_clear_47 ?_
  refine s_vV (As := []) (S := []) E (KB_4 l D aC b) cv_X0_48 rfl rfl rfl (by decide +kernel) (Nat.le_of_ble_eq_true rfl) (Nat.le_of_ble_eq_true rfl) ⟨(Nat.le_of_ble_eq_true rfl), (Nat.le_of_ble_eq_true rfl)⟩ (Nat.le_of_ble_eq_true rfl) dX0_clear_50 (fun u hp => ?_)
  subst hp
  refine s_aload_n E dX0_clear_53 rfl rfl ?_
  refine s_gR (r := 22) E fg_X0_29 rfl rfl (by decide +kernel) (by decide +kernel) dX0_clear_54 ?_
  refine s_vV (As := []) (S := []) E (KB_5 l D aC b) cv_X0_48 rfl rfl rfl (by decide +kernel) (Nat.le_of_ble_eq_true rfl) (Nat.le_of_ble_eq_true rfl) ⟨(Nat.le_of_ble_eq_true rfl), (Nat.le_of_ble_eq_true rfl)⟩ (Nat.le_of_ble_eq_true rfl) dX0_clear_57 (fun u hp => ?_)
  subst hp
  exact r_void E dX0_clear_60 rfl
set_option maxRecDepth 20000 in
set_option maxHeartbeats 2000000 in
theorem KB_7 (l : Launch) (D : va_G) (aC : Nat → ClassId) (b : Nat) : CnI l D aC b M_X6_byteAt 0 0 0 0 [AR 24, AI 0] wb_15 (fun r u => r = (-1) ∧ u = wb_15) := by
  refine cn_I (own := RX6) (nm := "byteAt") (L0 := [some (AR 24), some (AI 0)]) (by decide +kernel) rfl rfl (Nat.le_of_ble_eq_true rfl) rfl ?_
  intro p e s m args below meth c E hin
  refine s_iload_n E dX6_byteAt_0 rfl rfl ?_
  refine s_if_lt (tgt := 34) E dX6_byteAt_1 (by decide) (fun hh => absurd hh (by decide)) (fun _ => ?_)
  refine s_iload_n E dX6_byteAt_4 rfl rfl ?_
  refine s_aload_n E dX6_byteAt_5 rfl rfl ?_
  refine s_gI E fg_X6_32 rfl rfl (by decide +kernel) dX6_byteAt_6 ?_
  refine s_top (y := 0) (by decide +kernel) ?_
  refine s_icmp_ge (tgt := 34) E dX6_byteAt_9 (by decide) (fun _ => ?_) (fun hh => absurd (by decide) hh)
  refine s_iconst (v := (-1)) E dX6_byteAt_34 (by decide) ?_
  exact r_int E dX6_byteAt_35 ⟨rfl, rfl⟩
set_option maxRecDepth 20000 in
set_option maxHeartbeats 2000000 in
theorem KB_8 (l : Launch) (D : va_G) (aC : Nat → ClassId) (b : Nat) : CnI l D aC b M_X6_kindOf 0 0 0 0 [AI (-1)] wb_15 (fun r u => r = 0 ∧ u = wb_15) := by
  refine cn_I (own := RX6) (nm := "kindOf") (L0 := [some (AI (-1))]) (by decide +kernel) rfl rfl (Nat.le_of_ble_eq_true rfl) rfl ?_
  intro p e s m args below meth c E hin
  refine s_iload_n E dX6_kindOf_0 rfl rfl ?_
  refine s_iconst (v := (-1)) E dX6_kindOf_1 (by decide) ?_
  refine s_icmp_ne (tgt := 7) E dX6_kindOf_2 (by decide) (fun hh => absurd (by decide) hh) (fun _ => ?_)
  refine s_iconst (v := 0) E dX6_kindOf_5 (by decide) ?_
  exact r_int E dX6_kindOf_6 ⟨rfl, rfl⟩
set_option maxRecDepth 20000 in
set_option maxHeartbeats 2000000 in
theorem KB_9 (l : Launch) (D : va_G) (aC : Nat → ClassId) (b : Nat) : CnV l D aC b M_X6_nextToken 1 21 0 0 [AR 24] wb_14 (fun u => u = wb_17) := by
  refine cn_V (own := RX6) (nm := "nextToken") (L0 := [some (AR 24), none]) (by decide +kernel) rfl rfl (Nat.le_of_ble_eq_true rfl) rfl ?_
  intro p e s m args below meth c E hin
  refine s_aload_n E dX6_nextToken_0 rfl rfl ?_
  refine s_gI E fg_X6_43 rfl rfl (by decide +kernel) dX6_nextToken_1 ?_
  refine s_top (y := 0) (by decide +kernel) ?_
  refine s_istore_n (L2 := [some (AR 24), some (AI 0)]) E dX6_nextToken_4 rfl (by decide) rfl ?_
  refine s_iload_n E dX6_nextToken_5 rfl rfl ?_
  refine s_aload_n E dX6_nextToken_6 rfl rfl ?_
  refine s_gI E fg_X6_32 rfl rfl (by decide +kernel) dX6_nextToken_7 ?_
  refine s_top (y := 0) (by decide +kernel) ?_
  refine s_icmp_ge (tgt := 30) E dX6_nextToken_10 (by decide) (fun _ => ?_) (fun hh => absurd (by decide) hh)
  refine s_aload_n E dX6_nextToken_30 rfl rfl ?_
  refine s_iload_n E dX6_nextToken_31 rfl rfl ?_
  refine s_pI E fp_X6_162 (Or.inl rfl) rfl (by decide +kernel) dX6_nextToken_32 ?_
  refine s_world (w2 := wb_15) rfl ?_
  refine s_aload_n E dX6_nextToken_35 rfl rfl ?_
  refine s_aload_n E dX6_nextToken_36 rfl rfl ?_
  refine s_iload_n E dX6_nextToken_37 rfl rfl ?_
  refine s_vI (As := [AI 0]) (S := [AR 24]) E (KB_7 l D aC b) cv_X6_169 rfl rfl rfl (by decide +kernel) (Nat.le_of_ble_eq_true rfl) (Nat.le_of_ble_eq_true rfl) ⟨(Nat.le_of_ble_eq_true rfl), (Nat.le_of_ble_eq_true rfl)⟩ (Nat.le_of_ble_eq_true rfl) dX6_nextToken_38 (fun r u hp => ?_)
  obtain ⟨rfl, rfl⟩ := hp
  refine s_sI (As := [AI (-1)]) (S := [AR 24]) E (KB_8 l D aC b) cs_X6_181 rfl rfl (Nat.le_of_ble_eq_true rfl) (Nat.le_of_ble_eq_true rfl) ⟨(Nat.le_of_ble_eq_true rfl), (Nat.le_of_ble_eq_true rfl)⟩ (Nat.le_of_ble_eq_true rfl) dX6_nextToken_41 (fun r u hp => ?_)
  obtain ⟨rfl, rfl⟩ := hp
  refine s_pI E fp_X6_49 (Or.inl rfl) rfl (by decide +kernel) dX6_nextToken_44 ?_
  refine s_world (w2 := wb_16) rfl ?_
  refine s_aload_n E dX6_nextToken_47 rfl rfl ?_
  refine s_gI E fg_X6_49 rfl rfl (by decide +kernel) dX6_nextToken_48 ?_
  refine s_top (y := 0) (by decide +kernel) ?_
  refine s_if_ne (tgt := 60) E dX6_nextToken_51 (by decide) (fun hh => absurd (by decide) hh) (fun _ => ?_)
  refine s_aload_n E dX6_nextToken_54 rfl rfl ?_
  refine s_iload_n E dX6_nextToken_55 rfl rfl ?_
  refine s_pI E fp_X6_43 (Or.inl rfl) rfl (by decide +kernel) dX6_nextToken_56 ?_
  refine s_world (w2 := wb_17) rfl ?_
  exact r_void E dX6_nextToken_59 rfl
set_option maxRecDepth 20000 in
set_option maxHeartbeats 2000000 in
theorem KB_10 (l : Launch) (D : va_G) (aC : Nat → ClassId) (b : Nat) : CnV l D aC b M_X6_read 2 42 0 0 [AR 24, AI 0] wv_318 (fun u => u = wb_17) := by
  refine cn_V (own := RX6) (nm := "read") (L0 := [some (AR 24), some (AI 0), none]) (by decide +kernel) rfl rfl (Nat.le_of_ble_eq_true rfl) rfl ?_
  intro p e s m args below meth c E hin
  refine s_aload_n E dX6_read_0 rfl rfl ?_
  refine s_iconst (v := 0) E dX6_read_1 (by decide) ?_
  refine s_iload_n E dX6_read_2 rfl rfl ?_
  refine s_aload_n E dX6_read_3 rfl rfl ?_
  refine s_gR (r := 1) E fg_X6_9 rfl rfl (by decide +kernel) (by decide +kernel) dX6_read_4 ?_
  refine s_alen (v := 1000) E rfl (by decide) (by decide +kernel) (by decide) dX6_read_7 ?_
  refine s_min (v := 0) E ⟨k_368, k_369, k_4, k_370⟩ (Nat.le_of_ble_eq_true rfl) (Nat.le_of_ble_eq_true rfl) (Nat.le_of_ble_eq_true rfl) (Nat.le_of_ble_eq_true rfl) dX6_read_8 (by decide) ?_
  refine s_max (v := 0) E ⟨k_371, k_41, k_4, k_42⟩ (Nat.le_of_ble_eq_true rfl) (Nat.le_of_ble_eq_true rfl) (Nat.le_of_ble_eq_true rfl) (Nat.le_of_ble_eq_true rfl) dX6_read_11 (by decide) ?_
  refine s_pI E fp_X6_32 (Or.inl rfl) rfl (by decide +kernel) dX6_read_14 ?_
  refine s_world (w2 := wb_1) rfl ?_
  refine s_aload_n E dX6_read_17 rfl rfl ?_
  refine s_gR (r := 13) E fg_X6_15 rfl rfl (by decide +kernel) (by decide +kernel) dX6_read_18 ?_
  refine s_vV (As := []) (S := []) E (KB_6 l D aC b) cv_X6_35 rfl rfl rfl (by decide +kernel) (Nat.le_of_ble_eq_true rfl) (Nat.le_of_ble_eq_true rfl) ⟨(Nat.le_of_ble_eq_true rfl), (Nat.le_of_ble_eq_true rfl)⟩ (Nat.le_of_ble_eq_true rfl) dX6_read_21 (fun u hp => ?_)
  subst hp
  refine s_aload_n E dX6_read_24 rfl rfl ?_
  refine s_iconst (v := 0) E dX6_read_25 (by decide) ?_
  refine s_pI E fp_X6_40 (Or.inl rfl) rfl (by decide +kernel) dX6_read_26 ?_
  refine s_world (w2 := wb_12) rfl ?_
  refine s_aload_n E dX6_read_29 rfl rfl ?_
  refine s_iconst (v := (-1)) E dX6_read_30 (by decide) ?_
  refine s_pI E fp_X6_19 (Or.inl rfl) rfl (by decide +kernel) dX6_read_31 ?_
  refine s_world (w2 := wb_13) rfl ?_
  refine s_aload_n E dX6_read_34 rfl rfl ?_
  refine s_iconst (v := 0) E dX6_read_35 (by decide) ?_
  refine s_pI E fp_X6_43 (Or.inl rfl) rfl (by decide +kernel) dX6_read_36 ?_
  refine s_world (w2 := wb_14) rfl ?_
  refine s_aload_n E dX6_read_39 rfl rfl ?_
  refine s_vV (As := []) (S := []) E (KB_9 l D aC b) cv_X6_46 rfl rfl rfl (by decide +kernel) (Nat.le_of_ble_eq_true rfl) (Nat.le_of_ble_eq_true rfl) ⟨(Nat.le_of_ble_eq_true rfl), (Nat.le_of_ble_eq_true rfl)⟩ (Nat.le_of_ble_eq_true rfl) dX6_read_40 (fun u hp => ?_)
  subst hp
  refine s_iconst (v := 0) E dX6_read_43 (by decide) ?_
  refine s_istore_n (L2 := [some (AR 24), some (AI 0), some (AI 0)]) E dX6_read_44 rfl (by decide) rfl ?_
  refine s_iload_n E dX6_read_45 rfl rfl ?_
  refine s_aload_n E dX6_read_46 rfl rfl ?_
  refine s_gI E fg_X6_32 rfl rfl (by decide +kernel) dX6_read_47 ?_
  refine s_top (y := 0) (by decide +kernel) ?_
  refine s_icmp_ge (tgt := 77) E dX6_read_50 (by decide) (fun _ => ?_) (fun hh => absurd (by decide) hh)
  exact r_void E dX6_read_77 rfl
set_option maxRecDepth 20000 in
set_option maxHeartbeats 2000000 in
theorem KB_11 (l : Launch) (D : va_G) (aC : Nat → ClassId) (b : Nat) : CnV l D aC b M_X8_copyFrom 1 60 0 0 [AR 3, AR 14] wb_22 (fun u => u = wb_24) := by
  refine cn_V (own := RX8) (nm := "copyFrom") (L0 := [some (AR 3), some (AR 14)]) (by decide +kernel) rfl rfl (Nat.le_of_ble_eq_true rfl) rfl ?_
  intro p e s m args below meth c E hin
  refine s_aload_n E dX8_copyFrom_0 rfl rfl ?_
  refine s_gR (r := 15) E fg_X8_24 rfl rfl (by decide +kernel) (by decide +kernel) dX8_copyFrom_1 ?_
  refine s_iconst (v := 0) E dX8_copyFrom_4 (by decide) ?_
  refine s_aload_n E dX8_copyFrom_5 rfl rfl ?_
  refine s_gR (r := 4) E fg_X8_24 rfl rfl (by decide +kernel) (by decide +kernel) dX8_copyFrom_6 ?_
  refine s_iconst (v := 0) E dX8_copyFrom_9 (by decide) ?_
  refine s_aload_n E dX8_copyFrom_10 rfl rfl ?_
  refine s_gR (r := 4) E fg_X8_24 rfl rfl (by decide +kernel) (by decide +kernel) dX8_copyFrom_11 ?_
  refine s_alen (v := 36) E rfl (by decide) (by decide +kernel) (by decide) dX8_copyFrom_14 ?_
  refine s_aload_n E dX8_copyFrom_15 rfl rfl ?_
  refine s_gR (r := 15) E fg_X8_24 rfl rfl (by decide +kernel) (by decide +kernel) dX8_copyFrom_16 ?_
  refine s_alen (v := 36) E rfl (by decide) (by decide +kernel) (by decide) dX8_copyFrom_19 ?_
  refine s_min (v := 36) E ⟨k_535, k_369, k_4, k_370⟩ (Nat.le_of_ble_eq_true rfl) (Nat.le_of_ble_eq_true rfl) (Nat.le_of_ble_eq_true rfl) (Nat.le_of_ble_eq_true rfl) dX8_copyFrom_20 (by decide) ?_
  refine s_copy100 (S := []) E k_536 k_538 k_537 k_17 rfl rfl (by decide +kernel) (by decide +kernel) (by decide) (by decide) (by decide) (by decide) (by decide) (Nat.le_of_ble_eq_true rfl) (Nat.le_of_ble_eq_true rfl) dX8_copyFrom_23 ?_
  refine s_world (w2 := wb_23) rfl ?_
  refine s_aload_n E dX8_copyFrom_26 rfl rfl ?_
  refine s_aload_n E dX8_copyFrom_27 rfl rfl ?_
  refine s_gI E fg_X8_28 rfl rfl (by decide +kernel) dX8_copyFrom_28 ?_
  refine s_top (y := 0) (by decide +kernel) ?_
  refine s_pI E fp_X8_28 (Or.inl rfl) rfl (by decide +kernel) dX8_copyFrom_31 ?_
  refine s_world (w2 := wb_24) rfl ?_
  exact r_void E dX8_copyFrom_34 rfl
set_option maxRecDepth 20000 in
set_option maxHeartbeats 2000000 in
theorem KB_12 (l : Launch) (D : va_G) (aC : Nat → ClassId) (b : Nat) : CnV l D aC b M_X8_copyFrom 1 60 0 0 [AR 5, AR 16] wb_24 (fun u => u = wb_26) := by
  refine cn_V (own := RX8) (nm := "copyFrom") (L0 := [some (AR 5), some (AR 16)]) (by decide +kernel) rfl rfl (Nat.le_of_ble_eq_true rfl) rfl ?_
  intro p e s m args below meth c E hin
  refine s_aload_n E dX8_copyFrom_0 rfl rfl ?_
  refine s_gR (r := 17) E fg_X8_24 rfl rfl (by decide +kernel) (by decide +kernel) dX8_copyFrom_1 ?_
  refine s_iconst (v := 0) E dX8_copyFrom_4 (by decide) ?_
  refine s_aload_n E dX8_copyFrom_5 rfl rfl ?_
  refine s_gR (r := 6) E fg_X8_24 rfl rfl (by decide +kernel) (by decide +kernel) dX8_copyFrom_6 ?_
  refine s_iconst (v := 0) E dX8_copyFrom_9 (by decide) ?_
  refine s_aload_n E dX8_copyFrom_10 rfl rfl ?_
  refine s_gR (r := 6) E fg_X8_24 rfl rfl (by decide +kernel) (by decide +kernel) dX8_copyFrom_11 ?_
  refine s_alen (v := 12) E rfl (by decide) (by decide +kernel) (by decide) dX8_copyFrom_14 ?_
  refine s_aload_n E dX8_copyFrom_15 rfl rfl ?_
  refine s_gR (r := 17) E fg_X8_24 rfl rfl (by decide +kernel) (by decide +kernel) dX8_copyFrom_16 ?_
  refine s_alen (v := 12) E rfl (by decide) (by decide +kernel) (by decide) dX8_copyFrom_19 ?_
  refine s_min (v := 12) E ⟨k_535, k_369, k_4, k_370⟩ (Nat.le_of_ble_eq_true rfl) (Nat.le_of_ble_eq_true rfl) (Nat.le_of_ble_eq_true rfl) (Nat.le_of_ble_eq_true rfl) dX8_copyFrom_20 (by decide) ?_
  refine s_copy100 (S := []) E k_536 k_538 k_537 k_17 rfl rfl (by decide +kernel) (by decide +kernel) (by decide) (by decide) (by decide) (by decide) (by decide) (Nat.le_of_ble_eq_true rfl) (Nat.le_of_ble_eq_true rfl) dX8_copyFrom_23 ?_
  refine s_world (w2 := wb_25) rfl ?_
  refine s_aload_n E dX8_copyFrom_26 rfl rfl ?_
  refine s_aload_n E dX8_copyFrom_27 rfl rfl ?_
  refine s_gI E fg_X8_28 rfl rfl (by decide +kernel) dX8_copyFrom_28 ?_
  refine s_top (y := 0) (by decide +kernel) ?_
  refine s_pI E fp_X8_28 (Or.inl rfl) rfl (by decide +kernel) dX8_copyFrom_31 ?_
  refine s_world (w2 := wb_26) rfl ?_
  exact r_void E dX8_copyFrom_34 rfl
set_option maxRecDepth 20000 in
set_option maxHeartbeats 2000000 in
theorem KB_13 (l : Launch) (D : va_G) (aC : Nat → ClassId) (b : Nat) : CnV l D aC b M_X8_copyFrom 1 60 0 0 [AR 7, AR 18] wb_26 (fun u => u = wb_28) := by
  refine cn_V (own := RX8) (nm := "copyFrom") (L0 := [some (AR 7), some (AR 18)]) (by decide +kernel) rfl rfl (Nat.le_of_ble_eq_true rfl) rfl ?_
  intro p e s m args below meth c E hin
  refine s_aload_n E dX8_copyFrom_0 rfl rfl ?_
  refine s_gR (r := 19) E fg_X8_24 rfl rfl (by decide +kernel) (by decide +kernel) dX8_copyFrom_1 ?_
  refine s_iconst (v := 0) E dX8_copyFrom_4 (by decide) ?_
  refine s_aload_n E dX8_copyFrom_5 rfl rfl ?_
  refine s_gR (r := 8) E fg_X8_24 rfl rfl (by decide +kernel) (by decide +kernel) dX8_copyFrom_6 ?_
  refine s_iconst (v := 0) E dX8_copyFrom_9 (by decide) ?_
  refine s_aload_n E dX8_copyFrom_10 rfl rfl ?_
  refine s_gR (r := 8) E fg_X8_24 rfl rfl (by decide +kernel) (by decide +kernel) dX8_copyFrom_11 ?_
  refine s_alen (v := 16) E rfl (by decide) (by decide +kernel) (by decide) dX8_copyFrom_14 ?_
  refine s_aload_n E dX8_copyFrom_15 rfl rfl ?_
  refine s_gR (r := 19) E fg_X8_24 rfl rfl (by decide +kernel) (by decide +kernel) dX8_copyFrom_16 ?_
  refine s_alen (v := 16) E rfl (by decide) (by decide +kernel) (by decide) dX8_copyFrom_19 ?_
  refine s_min (v := 16) E ⟨k_535, k_369, k_4, k_370⟩ (Nat.le_of_ble_eq_true rfl) (Nat.le_of_ble_eq_true rfl) (Nat.le_of_ble_eq_true rfl) (Nat.le_of_ble_eq_true rfl) dX8_copyFrom_20 (by decide) ?_
  refine s_copy100 (S := []) E k_536 k_538 k_537 k_17 rfl rfl (by decide +kernel) (by decide +kernel) (by decide) (by decide) (by decide) (by decide) (by decide) (Nat.le_of_ble_eq_true rfl) (Nat.le_of_ble_eq_true rfl) dX8_copyFrom_23 ?_
  refine s_world (w2 := wb_27) rfl ?_
  refine s_aload_n E dX8_copyFrom_26 rfl rfl ?_
  refine s_aload_n E dX8_copyFrom_27 rfl rfl ?_
  refine s_gI E fg_X8_28 rfl rfl (by decide +kernel) dX8_copyFrom_28 ?_
  refine s_top (y := 0) (by decide +kernel) ?_
  refine s_pI E fp_X8_28 (Or.inl rfl) rfl (by decide +kernel) dX8_copyFrom_31 ?_
  refine s_world (w2 := wb_28) rfl ?_
  exact r_void E dX8_copyFrom_34 rfl
set_option maxRecDepth 20000 in
set_option maxHeartbeats 2000000 in
theorem KB_14 (l : Launch) (D : va_G) (aC : Nat → ClassId) (b : Nat) : CnV l D aC b M_X8_copyFrom 1 60 0 0 [AR 9, AR 20] wb_28 (fun u => u = wb_30) := by
  refine cn_V (own := RX8) (nm := "copyFrom") (L0 := [some (AR 9), some (AR 20)]) (by decide +kernel) rfl rfl (Nat.le_of_ble_eq_true rfl) rfl ?_
  intro p e s m args below meth c E hin
  refine s_aload_n E dX8_copyFrom_0 rfl rfl ?_
  refine s_gR (r := 21) E fg_X8_24 rfl rfl (by decide +kernel) (by decide +kernel) dX8_copyFrom_1 ?_
  refine s_iconst (v := 0) E dX8_copyFrom_4 (by decide) ?_
  refine s_aload_n E dX8_copyFrom_5 rfl rfl ?_
  refine s_gR (r := 10) E fg_X8_24 rfl rfl (by decide +kernel) (by decide +kernel) dX8_copyFrom_6 ?_
  refine s_iconst (v := 0) E dX8_copyFrom_9 (by decide) ?_
  refine s_aload_n E dX8_copyFrom_10 rfl rfl ?_
  refine s_gR (r := 10) E fg_X8_24 rfl rfl (by decide +kernel) (by decide +kernel) dX8_copyFrom_11 ?_
  refine s_alen (v := 30) E rfl (by decide) (by decide +kernel) (by decide) dX8_copyFrom_14 ?_
  refine s_aload_n E dX8_copyFrom_15 rfl rfl ?_
  refine s_gR (r := 21) E fg_X8_24 rfl rfl (by decide +kernel) (by decide +kernel) dX8_copyFrom_16 ?_
  refine s_alen (v := 30) E rfl (by decide) (by decide +kernel) (by decide) dX8_copyFrom_19 ?_
  refine s_min (v := 30) E ⟨k_535, k_369, k_4, k_370⟩ (Nat.le_of_ble_eq_true rfl) (Nat.le_of_ble_eq_true rfl) (Nat.le_of_ble_eq_true rfl) (Nat.le_of_ble_eq_true rfl) dX8_copyFrom_20 (by decide) ?_
  refine s_copy100 (S := []) E k_536 k_538 k_537 k_17 rfl rfl (by decide +kernel) (by decide +kernel) (by decide) (by decide) (by decide) (by decide) (by decide) (Nat.le_of_ble_eq_true rfl) (Nat.le_of_ble_eq_true rfl) dX8_copyFrom_23 ?_
  refine s_world (w2 := wb_29) rfl ?_
  refine s_aload_n E dX8_copyFrom_26 rfl rfl ?_
  refine s_aload_n E dX8_copyFrom_27 rfl rfl ?_
  refine s_gI E fg_X8_28 rfl rfl (by decide +kernel) dX8_copyFrom_28 ?_
  refine s_top (y := 0) (by decide +kernel) ?_
  refine s_pI E fp_X8_28 (Or.inl rfl) rfl (by decide +kernel) dX8_copyFrom_31 ?_
  refine s_world (w2 := wb_30) rfl ?_
  exact r_void E dX8_copyFrom_34 rfl
set_option maxRecDepth 20000 in
set_option maxHeartbeats 2000000 in
theorem KB_15 (l : Launch) (D : va_G) (aC : Nat → ClassId) (b : Nat) : CnV l D aC b M_X8_copyFrom 1 60 0 0 [AR 11, AR 22] wb_30 (fun u => u = wb_32) := by
  refine cn_V (own := RX8) (nm := "copyFrom") (L0 := [some (AR 11), some (AR 22)]) (by decide +kernel) rfl rfl (Nat.le_of_ble_eq_true rfl) rfl ?_
  intro p e s m args below meth c E hin
  refine s_aload_n E dX8_copyFrom_0 rfl rfl ?_
  refine s_gR (r := 23) E fg_X8_24 rfl rfl (by decide +kernel) (by decide +kernel) dX8_copyFrom_1 ?_
  refine s_iconst (v := 0) E dX8_copyFrom_4 (by decide) ?_
  refine s_aload_n E dX8_copyFrom_5 rfl rfl ?_
  refine s_gR (r := 12) E fg_X8_24 rfl rfl (by decide +kernel) (by decide +kernel) dX8_copyFrom_6 ?_
  refine s_iconst (v := 0) E dX8_copyFrom_9 (by decide) ?_
  refine s_aload_n E dX8_copyFrom_10 rfl rfl ?_
  refine s_gR (r := 12) E fg_X8_24 rfl rfl (by decide +kernel) (by decide +kernel) dX8_copyFrom_11 ?_
  refine s_alen (v := 120) E rfl (by decide) (by decide +kernel) (by decide) dX8_copyFrom_14 ?_
  refine s_aload_n E dX8_copyFrom_15 rfl rfl ?_
  refine s_gR (r := 23) E fg_X8_24 rfl rfl (by decide +kernel) (by decide +kernel) dX8_copyFrom_16 ?_
  refine s_alen (v := 120) E rfl (by decide) (by decide +kernel) (by decide) dX8_copyFrom_19 ?_
  refine s_min (v := 120) E ⟨k_535, k_369, k_4, k_370⟩ (Nat.le_of_ble_eq_true rfl) (Nat.le_of_ble_eq_true rfl) (Nat.le_of_ble_eq_true rfl) (Nat.le_of_ble_eq_true rfl) dX8_copyFrom_20 (by decide) ?_
  refine s_copy100 (S := []) E k_536 k_538 k_537 k_17 rfl rfl (by decide +kernel) (by decide +kernel) (by decide) (by decide) (by decide) (by decide) (by decide) (Nat.le_of_ble_eq_true rfl) (Nat.le_of_ble_eq_true rfl) dX8_copyFrom_23 ?_
  refine s_world (w2 := wb_31) rfl ?_
  refine s_aload_n E dX8_copyFrom_26 rfl rfl ?_
  refine s_aload_n E dX8_copyFrom_27 rfl rfl ?_
  refine s_gI E fg_X8_28 rfl rfl (by decide +kernel) dX8_copyFrom_28 ?_
  refine s_top (y := 0) (by decide +kernel) ?_
  refine s_pI E fp_X8_28 (Or.inl rfl) rfl (by decide +kernel) dX8_copyFrom_31 ?_
  refine s_world (w2 := wb_32) rfl ?_
  exact r_void E dX8_copyFrom_34 rfl
set_option maxRecDepth 20000 in
set_option maxHeartbeats 2000000 in
theorem KB_16 (l : Launch) (D : va_G) (aC : Nat → ClassId) (b : Nat) : CnV l D aC b M_X0_copyFrom 2 81 0 0 [AR 2, AR 13] wb_17 (fun u => u = wb_32) := by
  refine cn_V (own := RX0) (nm := "copyFrom") (L0 := [some (AR 2), some (AR 13)]) (by decide +kernel) rfl rfl (Nat.le_of_ble_eq_true rfl) rfl ?_
  intro p e s m args below meth c E hin
  refine s_aload_n E dX0_copyFrom_0 rfl rfl ?_
  refine s_aload_n E dX0_copyFrom_1 rfl rfl ?_
  refine s_gI E fg_X0_32 rfl rfl (by decide +kernel) dX0_copyFrom_2 ?_
  refine s_top (y := 0) (by decide +kernel) ?_
  refine s_pI E fp_X0_32 (Or.inl rfl) rfl (by decide +kernel) dX0_copyFrom_5 ?_
  refine s_world (w2 := wb_18) rfl ?_
  refine s_aload_n E dX0_copyFrom_8 rfl rfl ?_
  refine s_aload_n E dX0_copyFrom_9 rfl rfl ?_
  refine s_gI E fg_X0_36 rfl rfl (by decide +kernel) dX0_copyFrom_10 ?_
  refine s_top (y := 0) (by decide +kernel) ?_
  refine s_pI E fp_X0_36 (Or.inl rfl) rfl (by decide +kernel) dX0_copyFrom_13 ?_
  refine s_world (w2 := wb_19) rfl ?_
  refine s_aload_n E dX0_copyFrom_16 rfl rfl ?_
  refine s_aload_n E dX0_copyFrom_17 rfl rfl ?_
  refine s_gI E fg_X0_39 rfl rfl (by decide +kernel) dX0_copyFrom_18 ?_
  refine s_top (y := 0) (by decide +kernel) ?_
  refine s_pI E fp_X0_39 (Or.inl rfl) rfl (by decide +kernel) dX0_copyFrom_21 ?_
  refine s_world (w2 := wb_20) rfl ?_
  refine s_aload_n E dX0_copyFrom_24 rfl rfl ?_
  refine s_aload_n E dX0_copyFrom_25 rfl rfl ?_
  refine s_gI E fg_X0_42 rfl rfl (by decide +kernel) dX0_copyFrom_26 ?_
  refine s_top (y := 0) (by decide +kernel) ?_
  refine s_pI E fp_X0_42 (Or.inl rfl) rfl (by decide +kernel) dX0_copyFrom_29 ?_
  refine s_world (w2 := wb_21) rfl ?_
  refine s_aload_n E dX0_copyFrom_32 rfl rfl ?_
  refine s_aload_n E dX0_copyFrom_33 rfl rfl ?_
  refine s_gI E fg_X0_45 rfl rfl (by decide +kernel) dX0_copyFrom_34 ?_
  refine s_top (y := 0) (by decide +kernel) ?_
  refine s_pI E fp_X0_45 (Or.inl rfl) rfl (by decide +kernel) dX0_copyFrom_37 ?_
  refine s_world (w2 := wb_22) rfl ?_
  refine s_aload_n E dX0_copyFrom_40 rfl rfl ?_
  refine s_gR (r := 3) E fg_X0_14 rfl rfl (by decide +kernel) (by decide +kernel) dX0_copyFrom_41 ?_
  refine s_aload_n E dX0_copyFrom_44 rfl rfl ?_
  refine s_gR (r := 14) E fg_X0_14 rfl rfl (by decide +kernel) (by decide +kernel) dX0_copyFrom_45 ?_
  refine s_vV (As := [AR 14]) (S := []) E (KB_11 l D aC b) cv_X0_51 rfl rfl rfl (by decide +kernel) (Nat.le_of_ble_eq_true rfl) (Nat.le_of_ble_eq_true rfl) ⟨(Nat.le_of_ble_eq_true rfl), (Nat.le_of_ble_eq_true rfl)⟩ (Nat.le_of_ble_eq_true rfl) dX0_copyFrom_48 (fun u hp => ?_)
  subst hp
  refine s_aload_n E dX0_copyFrom_51 rfl rfl ?_
  refine s_gR (r := 5) E fg_X0_20 rfl rfl (by decide +kernel) (by decide +kernel) dX0_copyFrom_52 ?_
  refine s_aload_n E dX0_copyFrom_55 rfl rfl ?_
  refine s_gR (r := 16) E fg_X0_20 rfl rfl (by decide +kernel) (by decide +kernel) dX0_copyFrom_56 ?_
  refine s_vV (As := [AR 16]) (S := []) E (KB_12 l D aC b) cv_X0_51 rfl rfl rfl (by decide +kernel) (Nat.le_of_ble_eq_true rfl) (Nat.le_of_ble_eq_true rfl) ⟨(Nat.le_of_ble_eq_true rfl), (Nat.le_of_ble_eq_true rfl)⟩ (Nat.le_of_ble_eq_true rfl) dX0_copyFrom_59 (fun u hp => ?_)
  subst hp
  refine s_aload_n E dX0_copyFrom_62 rfl rfl ?_
  refine s_gR (r := 7) E fg_X0_23 rfl rfl (by decide +kernel) (by decide +kernel) dX0_copyFrom_63 ?_
  refine s_aload_n E dX0_copyFrom_66 rfl rfl ?_
  refine s_gR (r := 18) E fg_X0_23 rfl rfl (by decide +kernel) (by decide +kernel) dX0_copyFrom_67 ?_
  refine s_vV (As := [AR 18]) (S := []) E (KB_13 l D aC b) cv_X0_51 rfl rfl rfl (by decide +kernel) (Nat.le_of_ble_eq_true rfl) (Nat.le_of_ble_eq_true rfl) ⟨(Nat.le_of_ble_eq_true rfl), (Nat.le_of_ble_eq_true rfl)⟩ (Nat.le_of_ble_eq_true rfl) dX0_copyFrom_70 (fun u hp => ?_)
  subst hp
  refine s_aload_n E dX0_copyFrom_73 rfl rfl ?_
  refine s_gR (r := 9) E fg_X0_26 rfl rfl (by decide +kernel) (by decide +kernel) dX0_copyFrom_74 ?_
  refine s_aload_n E dX0_copyFrom_77 rfl rfl ?_
  refine s_gR (r := 20) E fg_X0_26 rfl rfl (by decide +kernel) (by decide +kernel) dX0_copyFrom_78 ?_
  refine s_vV (As := [AR 20]) (S := []) E (KB_14 l D aC b) cv_X0_51 rfl rfl rfl (by decide +kernel) (Nat.le_of_ble_eq_true rfl) (Nat.le_of_ble_eq_true rfl) ⟨(Nat.le_of_ble_eq_true rfl), (Nat.le_of_ble_eq_true rfl)⟩ (Nat.le_of_ble_eq_true rfl) dX0_copyFrom_81 (fun u hp => ?_)
  subst hp
  refine s_aload_n E dX0_copyFrom_84 rfl rfl ?_
  refine s_gR (r := 11) E fg_X0_29 rfl rfl (by decide +kernel) (by decide +kernel) dX0_copyFrom_85 ?_
  refine s_aload_n E dX0_copyFrom_88 rfl rfl ?_
  refine s_gR (r := 22) E fg_X0_29 rfl rfl (by decide +kernel) (by decide +kernel) dX0_copyFrom_89 ?_
  refine s_vV (As := [AR 22]) (S := []) E (KB_15 l D aC b) cv_X0_51 rfl rfl rfl (by decide +kernel) (Nat.le_of_ble_eq_true rfl) (Nat.le_of_ble_eq_true rfl) ⟨(Nat.le_of_ble_eq_true rfl), (Nat.le_of_ble_eq_true rfl)⟩ (Nat.le_of_ble_eq_true rfl) dX0_copyFrom_92 (fun u hp => ?_)
  subst hp
  exact r_void E dX0_copyFrom_95 rfl
set_option maxRecDepth 20000 in
set_option maxHeartbeats 2000000 in
theorem KB_17 (l : Launch) (D : va_G) (aC : Nat → ClassId) (b : Nat) : CnV l D aC b M_X2_openDoors 0 0 0 0 [AR 69, AR 2, AI (-1), AI 0] wb_33 (fun u => u = wb_36) := by
  refine cn_V (own := RX2) (nm := "openDoors") (L0 := [some (AR 69), some (AR 2), some (AI (-1)), some (AI 0), none, none]) (by decide +kernel) rfl rfl (Nat.le_of_ble_eq_true rfl) rfl ?_
  intro p e s m args below meth c E hin
  refine s_aload_n E dX2_openDoors_0 rfl rfl ?_
  refine s_aload_n E dX2_openDoors_1 rfl rfl ?_
  refine s_gR (r := 5) E fg_X2_39 rfl rfl (by decide +kernel) (by decide +kernel) dX2_openDoors_2 ?_
  refine s_gI E fg_X2_57 rfl rfl (by decide +kernel) dX2_openDoors_5 ?_
  refine s_top (y := 0) (by decide +kernel) ?_
  refine s_pI E fp_X2_35 (Or.inl rfl) rfl (by decide +kernel) dX2_openDoors_8 ?_
  refine s_world (w2 := wb_34) rfl ?_
  refine s_aload_n E dX2_openDoors_11 rfl rfl ?_
  refine s_aload_n E dX2_openDoors_12 rfl rfl ?_
  refine s_gI E fg_X2_60 rfl rfl (by decide +kernel) dX2_openDoors_13 ?_
  refine s_top (y := 0) (by decide +kernel) ?_
  refine s_pI E fp_X2_63 (Or.inl rfl) rfl (by decide +kernel) dX2_openDoors_16 ?_
  refine s_world (w2 := wb_35) rfl ?_
  refine s_aload_n E dX2_openDoors_19 rfl rfl ?_
  refine s_aload_n E dX2_openDoors_20 rfl rfl ?_
  refine s_gI E fg_X2_64 rfl rfl (by decide +kernel) dX2_openDoors_21 ?_
  refine s_top (y := 0) (by decide +kernel) ?_
  refine s_pI E fp_X2_67 (Or.inl rfl) rfl (by decide +kernel) dX2_openDoors_24 ?_
  refine s_world (w2 := wb_36) rfl ?_
  refine s_iconst (v := 0) E dX2_openDoors_27 (by decide) ?_
  refine s_istore (L2 := [some (AR 69), some (AR 2), some (AI (-1)), some (AI 0), some (AI 0), none]) E dX2_openDoors_28 (by decide) rfl ?_
  refine s_iload E dX2_openDoors_30 rfl ?_
  refine s_aload_n E dX2_openDoors_32 rfl rfl ?_
  refine s_gI E fg_X2_35 rfl rfl (by decide +kernel) dX2_openDoors_33 ?_
  refine s_top (y := 0) (by decide +kernel) ?_
  refine s_icmp_ge (tgt := 80) E dX2_openDoors_36 (by decide) (fun _ => ?_) (fun hh => absurd (by decide) hh)
  refine s_iconst (v := 0) E dX2_openDoors_80 (by decide) ?_
  refine s_istore (L2 := [some (AR 69), some (AR 2), some (AI (-1)), some (AI 0), some (AI 0), none]) E dX2_openDoors_81 (by decide) rfl ?_
  refine s_iload E dX2_openDoors_83 rfl ?_
  refine s_aload_n E dX2_openDoors_85 rfl rfl ?_
  refine s_gR (r := 3) E fg_X2_68 rfl rfl (by decide +kernel) (by decide +kernel) dX2_openDoors_86 ?_
  refine s_gI E fg_X2_57 rfl rfl (by decide +kernel) dX2_openDoors_89 ?_
  refine s_top (y := 0) (by decide +kernel) ?_
  refine s_icmp_ge (tgt := 146) E dX2_openDoors_92 (by decide) (fun _ => ?_) (fun hh => absurd (by decide) hh)
  exact r_void E dX2_openDoors_146 rfl
set_option maxRecDepth 20000 in
set_option maxHeartbeats 2000000 in
theorem KB_18 (l : Launch) (D : va_G) (aC : Nat → ClassId) (b : Nat) : CnV l D aC b M_J7_fill_53178 0 0 0 0 [AR 71, AI (-1)] wb_36 (fun u => u = wb_126) := by
  refine cn_V (own := RJ7) (nm := "fill") (L0 := [some (AR 71), some (AI (-1)), none, none]) (by decide +kernel) rfl rfl (Nat.le_of_ble_eq_true rfl) rfl ?_
  intro p e s m args below meth c E hin
  refine s_iconst (v := 0) E dJ7_fill_53178_0 (by decide) ?_
  refine s_istore_n (L2 := [some (AR 71), some (AI (-1)), some (AI 0), none]) E dJ7_fill_53178_1 rfl (by decide) rfl ?_
  refine s_aload_n E dJ7_fill_53178_2 rfl rfl ?_
  refine s_alen (v := 90) E rfl (by decide) (by decide +kernel) (by decide) dJ7_fill_53178_3 ?_
  refine s_istore_n (L2 := [some (AR 71), some (AI (-1)), some (AI 0), some (AI 90)]) E dJ7_fill_53178_4 rfl (by decide) rfl ?_
  refine s_iload_n E dJ7_fill_53178_5 rfl rfl ?_
  refine s_iload_n E dJ7_fill_53178_6 rfl rfl ?_
  refine s_icmp_ge (tgt := 20) E dJ7_fill_53178_7 (by decide) (fun hh => absurd hh (by decide)) (fun _ => ?_)
  refine s_aload_n E dJ7_fill_53178_10 rfl rfl ?_
  refine s_iload_n E dJ7_fill_53178_11 rfl rfl ?_
  refine s_iload_n E dJ7_fill_53178_12 rfl rfl ?_
  refine s_iast E rfl (by decide +kernel) (vp_c (by decide)) dJ7_fill_53178_13 ?_
  refine s_world (w2 := wb_37) rfl ?_
  refine s_iinc (v := 1) (L2 := [some (AR 71), some (AI (-1)), some (AI 1), some (AI 90)]) E dJ7_fill_53178_14 rfl (by decide) (by decide) rfl ?_
  refine s_goto (tgt := 5) E dJ7_fill_53178_17 (by decide) ?_
  refine s_iload_n E dJ7_fill_53178_5 rfl rfl ?_
  refine s_iload_n E dJ7_fill_53178_6 rfl rfl ?_
  refine s_icmp_ge (tgt := 20) E dJ7_fill_53178_7 (by decide) (fun hh => absurd hh (by decide)) (fun _ => ?_)
  refine s_aload_n E dJ7_fill_53178_10 rfl rfl ?_
  refine s_iload_n E dJ7_fill_53178_11 rfl rfl ?_
  refine s_iload_n E dJ7_fill_53178_12 rfl rfl ?_
  refine s_iast E rfl (by decide +kernel) (vp_c (by decide)) dJ7_fill_53178_13 ?_
  refine s_world (w2 := wb_38) rfl ?_
  refine s_iinc (v := 2) (L2 := [some (AR 71), some (AI (-1)), some (AI 2), some (AI 90)]) E dJ7_fill_53178_14 rfl (by decide) (by decide) rfl ?_
  refine s_goto (tgt := 5) E dJ7_fill_53178_17 (by decide) ?_
  refine s_iload_n E dJ7_fill_53178_5 rfl rfl ?_
  refine s_iload_n E dJ7_fill_53178_6 rfl rfl ?_
  refine s_icmp_ge (tgt := 20) E dJ7_fill_53178_7 (by decide) (fun hh => absurd hh (by decide)) (fun _ => ?_)
  refine s_aload_n E dJ7_fill_53178_10 rfl rfl ?_
  refine s_iload_n E dJ7_fill_53178_11 rfl rfl ?_
  refine s_iload_n E dJ7_fill_53178_12 rfl rfl ?_
  refine s_iast E rfl (by decide +kernel) (vp_c (by decide)) dJ7_fill_53178_13 ?_
  refine s_world (w2 := wb_39) rfl ?_
  refine s_iinc (v := 3) (L2 := [some (AR 71), some (AI (-1)), some (AI 3), some (AI 90)]) E dJ7_fill_53178_14 rfl (by decide) (by decide) rfl ?_
  refine s_goto (tgt := 5) E dJ7_fill_53178_17 (by decide) ?_
  refine s_iload_n E dJ7_fill_53178_5 rfl rfl ?_
  refine s_iload_n E dJ7_fill_53178_6 rfl rfl ?_
  refine s_icmp_ge (tgt := 20) E dJ7_fill_53178_7 (by decide) (fun hh => absurd hh (by decide)) (fun _ => ?_)
  refine s_aload_n E dJ7_fill_53178_10 rfl rfl ?_
  refine s_iload_n E dJ7_fill_53178_11 rfl rfl ?_
  refine s_iload_n E dJ7_fill_53178_12 rfl rfl ?_
  refine s_iast E rfl (by decide +kernel) (vp_c (by decide)) dJ7_fill_53178_13 ?_
  refine s_world (w2 := wb_40) rfl ?_
  refine s_iinc (v := 4) (L2 := [some (AR 71), some (AI (-1)), some (AI 4), some (AI 90)]) E dJ7_fill_53178_14 rfl (by decide) (by decide) rfl ?_
  refine s_goto (tgt := 5) E dJ7_fill_53178_17 (by decide) ?_
  refine s_iload_n E dJ7_fill_53178_5 rfl rfl ?_
  refine s_iload_n E dJ7_fill_53178_6 rfl rfl ?_
  refine s_icmp_ge (tgt := 20) E dJ7_fill_53178_7 (by decide) (fun hh => absurd hh (by decide)) (fun _ => ?_)
  refine s_aload_n E dJ7_fill_53178_10 rfl rfl ?_
  refine s_iload_n E dJ7_fill_53178_11 rfl rfl ?_
  refine s_iload_n E dJ7_fill_53178_12 rfl rfl ?_
  refine s_iast E rfl (by decide +kernel) (vp_c (by decide)) dJ7_fill_53178_13 ?_
  refine s_world (w2 := wb_41) rfl ?_
  refine s_iinc (v := 5) (L2 := [some (AR 71), some (AI (-1)), some (AI 5), some (AI 90)]) E dJ7_fill_53178_14 rfl (by decide) (by decide) rfl ?_
  refine s_goto (tgt := 5) E dJ7_fill_53178_17 (by decide) ?_
  refine s_iload_n E dJ7_fill_53178_5 rfl rfl ?_
  refine s_iload_n E dJ7_fill_53178_6 rfl rfl ?_
  refine s_icmp_ge (tgt := 20) E dJ7_fill_53178_7 (by decide) (fun hh => absurd hh (by decide)) (fun _ => ?_)
  refine s_aload_n E dJ7_fill_53178_10 rfl rfl ?_
  refine s_iload_n E dJ7_fill_53178_11 rfl rfl ?_
  refine s_iload_n E dJ7_fill_53178_12 rfl rfl ?_
  refine s_iast E rfl (by decide +kernel) (vp_c (by decide)) dJ7_fill_53178_13 ?_
  refine s_world (w2 := wb_42) rfl ?_
  refine s_iinc (v := 6) (L2 := [some (AR 71), some (AI (-1)), some (AI 6), some (AI 90)]) E dJ7_fill_53178_14 rfl (by decide) (by decide) rfl ?_
  refine s_goto (tgt := 5) E dJ7_fill_53178_17 (by decide) ?_
  refine s_iload_n E dJ7_fill_53178_5 rfl rfl ?_
  refine s_iload_n E dJ7_fill_53178_6 rfl rfl ?_
  refine s_icmp_ge (tgt := 20) E dJ7_fill_53178_7 (by decide) (fun hh => absurd hh (by decide)) (fun _ => ?_)
  refine s_aload_n E dJ7_fill_53178_10 rfl rfl ?_
  refine s_iload_n E dJ7_fill_53178_11 rfl rfl ?_
  refine s_iload_n E dJ7_fill_53178_12 rfl rfl ?_
  refine s_iast E rfl (by decide +kernel) (vp_c (by decide)) dJ7_fill_53178_13 ?_
  refine s_world (w2 := wb_43) rfl ?_
  refine s_iinc (v := 7) (L2 := [some (AR 71), some (AI (-1)), some (AI 7), some (AI 90)]) E dJ7_fill_53178_14 rfl (by decide) (by decide) rfl ?_
  refine s_goto (tgt := 5) E dJ7_fill_53178_17 (by decide) ?_
  refine s_iload_n E dJ7_fill_53178_5 rfl rfl ?_
  refine s_iload_n E dJ7_fill_53178_6 rfl rfl ?_
  refine s_icmp_ge (tgt := 20) E dJ7_fill_53178_7 (by decide) (fun hh => absurd hh (by decide)) (fun _ => ?_)
  refine s_aload_n E dJ7_fill_53178_10 rfl rfl ?_
  refine s_iload_n E dJ7_fill_53178_11 rfl rfl ?_
  refine s_iload_n E dJ7_fill_53178_12 rfl rfl ?_
  refine s_iast E rfl (by decide +kernel) (vp_c (by decide)) dJ7_fill_53178_13 ?_
  refine s_world (w2 := wb_44) rfl ?_
  refine s_iinc (v := 8) (L2 := [some (AR 71), some (AI (-1)), some (AI 8), some (AI 90)]) E dJ7_fill_53178_14 rfl (by decide) (by decide) rfl ?_
  refine s_goto (tgt := 5) E dJ7_fill_53178_17 (by decide) ?_
  refine s_iload_n E dJ7_fill_53178_5 rfl rfl ?_
  refine s_iload_n E dJ7_fill_53178_6 rfl rfl ?_
  refine s_icmp_ge (tgt := 20) E dJ7_fill_53178_7 (by decide) (fun hh => absurd hh (by decide)) (fun _ => ?_)
  refine s_aload_n E dJ7_fill_53178_10 rfl rfl ?_
  refine s_iload_n E dJ7_fill_53178_11 rfl rfl ?_
  refine s_iload_n E dJ7_fill_53178_12 rfl rfl ?_
  refine s_iast E rfl (by decide +kernel) (vp_c (by decide)) dJ7_fill_53178_13 ?_
  refine s_world (w2 := wb_45) rfl ?_
  refine s_iinc (v := 9) (L2 := [some (AR 71), some (AI (-1)), some (AI 9), some (AI 90)]) E dJ7_fill_53178_14 rfl (by decide) (by decide) rfl ?_
  refine s_goto (tgt := 5) E dJ7_fill_53178_17 (by decide) ?_
  refine s_iload_n E dJ7_fill_53178_5 rfl rfl ?_
  refine s_iload_n E dJ7_fill_53178_6 rfl rfl ?_
  refine s_icmp_ge (tgt := 20) E dJ7_fill_53178_7 (by decide) (fun hh => absurd hh (by decide)) (fun _ => ?_)
  refine s_aload_n E dJ7_fill_53178_10 rfl rfl ?_
  refine s_iload_n E dJ7_fill_53178_11 rfl rfl ?_
  refine s_iload_n E dJ7_fill_53178_12 rfl rfl ?_
  refine s_iast E rfl (by decide +kernel) (vp_c (by decide)) dJ7_fill_53178_13 ?_
  refine s_world (w2 := wb_46) rfl ?_
  refine s_iinc (v := 10) (L2 := [some (AR 71), some (AI (-1)), some (AI 10), some (AI 90)]) E dJ7_fill_53178_14 rfl (by decide) (by decide) rfl ?_
  refine s_goto (tgt := 5) E dJ7_fill_53178_17 (by decide) ?_
  refine s_iload_n E dJ7_fill_53178_5 rfl rfl ?_
  refine s_iload_n E dJ7_fill_53178_6 rfl rfl ?_
  refine s_icmp_ge (tgt := 20) E dJ7_fill_53178_7 (by decide) (fun hh => absurd hh (by decide)) (fun _ => ?_)
  refine s_aload_n E dJ7_fill_53178_10 rfl rfl ?_
  refine s_iload_n E dJ7_fill_53178_11 rfl rfl ?_
  refine s_iload_n E dJ7_fill_53178_12 rfl rfl ?_
  refine s_iast E rfl (by decide +kernel) (vp_c (by decide)) dJ7_fill_53178_13 ?_
  refine s_world (w2 := wb_47) rfl ?_
  refine s_iinc (v := 11) (L2 := [some (AR 71), some (AI (-1)), some (AI 11), some (AI 90)]) E dJ7_fill_53178_14 rfl (by decide) (by decide) rfl ?_
  refine s_goto (tgt := 5) E dJ7_fill_53178_17 (by decide) ?_
  refine s_iload_n E dJ7_fill_53178_5 rfl rfl ?_
  refine s_iload_n E dJ7_fill_53178_6 rfl rfl ?_
  refine s_icmp_ge (tgt := 20) E dJ7_fill_53178_7 (by decide) (fun hh => absurd hh (by decide)) (fun _ => ?_)
  refine s_aload_n E dJ7_fill_53178_10 rfl rfl ?_
  refine s_iload_n E dJ7_fill_53178_11 rfl rfl ?_
  refine s_iload_n E dJ7_fill_53178_12 rfl rfl ?_
  refine s_iast E rfl (by decide +kernel) (vp_c (by decide)) dJ7_fill_53178_13 ?_
  refine s_world (w2 := wb_48) rfl ?_
  refine s_iinc (v := 12) (L2 := [some (AR 71), some (AI (-1)), some (AI 12), some (AI 90)]) E dJ7_fill_53178_14 rfl (by decide) (by decide) rfl ?_
  refine s_goto (tgt := 5) E dJ7_fill_53178_17 (by decide) ?_
  refine s_iload_n E dJ7_fill_53178_5 rfl rfl ?_
  refine s_iload_n E dJ7_fill_53178_6 rfl rfl ?_
  refine s_icmp_ge (tgt := 20) E dJ7_fill_53178_7 (by decide) (fun hh => absurd hh (by decide)) (fun _ => ?_)
  refine s_aload_n E dJ7_fill_53178_10 rfl rfl ?_
  refine s_iload_n E dJ7_fill_53178_11 rfl rfl ?_
  refine s_iload_n E dJ7_fill_53178_12 rfl rfl ?_
  refine s_iast E rfl (by decide +kernel) (vp_c (by decide)) dJ7_fill_53178_13 ?_
  refine s_world (w2 := wb_49) rfl ?_
  refine s_iinc (v := 13) (L2 := [some (AR 71), some (AI (-1)), some (AI 13), some (AI 90)]) E dJ7_fill_53178_14 rfl (by decide) (by decide) rfl ?_
  refine s_goto (tgt := 5) E dJ7_fill_53178_17 (by decide) ?_
  refine s_iload_n E dJ7_fill_53178_5 rfl rfl ?_
  refine s_iload_n E dJ7_fill_53178_6 rfl rfl ?_
  refine s_icmp_ge (tgt := 20) E dJ7_fill_53178_7 (by decide) (fun hh => absurd hh (by decide)) (fun _ => ?_)
  refine s_aload_n E dJ7_fill_53178_10 rfl rfl ?_
  refine s_iload_n E dJ7_fill_53178_11 rfl rfl ?_
  refine s_iload_n E dJ7_fill_53178_12 rfl rfl ?_
  refine s_iast E rfl (by decide +kernel) (vp_c (by decide)) dJ7_fill_53178_13 ?_
  refine s_world (w2 := wb_50) rfl ?_
  refine s_iinc (v := 14) (L2 := [some (AR 71), some (AI (-1)), some (AI 14), some (AI 90)]) E dJ7_fill_53178_14 rfl (by decide) (by decide) rfl ?_
  refine s_goto (tgt := 5) E dJ7_fill_53178_17 (by decide) ?_
  refine s_iload_n E dJ7_fill_53178_5 rfl rfl ?_
  refine s_iload_n E dJ7_fill_53178_6 rfl rfl ?_
  refine s_icmp_ge (tgt := 20) E dJ7_fill_53178_7 (by decide) (fun hh => absurd hh (by decide)) (fun _ => ?_)
  refine s_aload_n E dJ7_fill_53178_10 rfl rfl ?_
  refine s_iload_n E dJ7_fill_53178_11 rfl rfl ?_
  refine s_iload_n E dJ7_fill_53178_12 rfl rfl ?_
  refine s_iast E rfl (by decide +kernel) (vp_c (by decide)) dJ7_fill_53178_13 ?_
  refine s_world (w2 := wb_51) rfl ?_
  refine s_iinc (v := 15) (L2 := [some (AR 71), some (AI (-1)), some (AI 15), some (AI 90)]) E dJ7_fill_53178_14 rfl (by decide) (by decide) rfl ?_
  refine s_goto (tgt := 5) E dJ7_fill_53178_17 (by decide) ?_
  refine s_iload_n E dJ7_fill_53178_5 rfl rfl ?_
  refine s_iload_n E dJ7_fill_53178_6 rfl rfl ?_
  refine s_icmp_ge (tgt := 20) E dJ7_fill_53178_7 (by decide) (fun hh => absurd hh (by decide)) (fun _ => ?_)
  refine s_aload_n E dJ7_fill_53178_10 rfl rfl ?_
  refine s_iload_n E dJ7_fill_53178_11 rfl rfl ?_
  refine s_iload_n E dJ7_fill_53178_12 rfl rfl ?_
  refine s_iast E rfl (by decide +kernel) (vp_c (by decide)) dJ7_fill_53178_13 ?_
  refine s_world (w2 := wb_52) rfl ?_
  refine s_iinc (v := 16) (L2 := [some (AR 71), some (AI (-1)), some (AI 16), some (AI 90)]) E dJ7_fill_53178_14 rfl (by decide) (by decide) rfl ?_
  refine s_goto (tgt := 5) E dJ7_fill_53178_17 (by decide) ?_
  refine s_iload_n E dJ7_fill_53178_5 rfl rfl ?_
  refine s_iload_n E dJ7_fill_53178_6 rfl rfl ?_
  refine s_icmp_ge (tgt := 20) E dJ7_fill_53178_7 (by decide) (fun hh => absurd hh (by decide)) (fun _ => ?_)
  refine s_aload_n E dJ7_fill_53178_10 rfl rfl ?_
  refine s_iload_n E dJ7_fill_53178_11 rfl rfl ?_
  refine s_iload_n E dJ7_fill_53178_12 rfl rfl ?_
  refine s_iast E rfl (by decide +kernel) (vp_c (by decide)) dJ7_fill_53178_13 ?_
  refine s_world (w2 := wb_53) rfl ?_
  refine s_iinc (v := 17) (L2 := [some (AR 71), some (AI (-1)), some (AI 17), some (AI 90)]) E dJ7_fill_53178_14 rfl (by decide) (by decide) rfl ?_
  refine s_goto (tgt := 5) E dJ7_fill_53178_17 (by decide) ?_
  refine s_iload_n E dJ7_fill_53178_5 rfl rfl ?_
  refine s_iload_n E dJ7_fill_53178_6 rfl rfl ?_
  refine s_icmp_ge (tgt := 20) E dJ7_fill_53178_7 (by decide) (fun hh => absurd hh (by decide)) (fun _ => ?_)
  refine s_aload_n E dJ7_fill_53178_10 rfl rfl ?_
  refine s_iload_n E dJ7_fill_53178_11 rfl rfl ?_
  refine s_iload_n E dJ7_fill_53178_12 rfl rfl ?_
  refine s_iast E rfl (by decide +kernel) (vp_c (by decide)) dJ7_fill_53178_13 ?_
  refine s_world (w2 := wb_54) rfl ?_
  refine s_iinc (v := 18) (L2 := [some (AR 71), some (AI (-1)), some (AI 18), some (AI 90)]) E dJ7_fill_53178_14 rfl (by decide) (by decide) rfl ?_
  refine s_goto (tgt := 5) E dJ7_fill_53178_17 (by decide) ?_
  refine s_iload_n E dJ7_fill_53178_5 rfl rfl ?_
  refine s_iload_n E dJ7_fill_53178_6 rfl rfl ?_
  refine s_icmp_ge (tgt := 20) E dJ7_fill_53178_7 (by decide) (fun hh => absurd hh (by decide)) (fun _ => ?_)
  refine s_aload_n E dJ7_fill_53178_10 rfl rfl ?_
  refine s_iload_n E dJ7_fill_53178_11 rfl rfl ?_
  refine s_iload_n E dJ7_fill_53178_12 rfl rfl ?_
  refine s_iast E rfl (by decide +kernel) (vp_c (by decide)) dJ7_fill_53178_13 ?_
  refine s_world (w2 := wb_55) rfl ?_
  refine s_iinc (v := 19) (L2 := [some (AR 71), some (AI (-1)), some (AI 19), some (AI 90)]) E dJ7_fill_53178_14 rfl (by decide) (by decide) rfl ?_
  refine s_goto (tgt := 5) E dJ7_fill_53178_17 (by decide) ?_
  refine s_iload_n E dJ7_fill_53178_5 rfl rfl ?_
  refine s_iload_n E dJ7_fill_53178_6 rfl rfl ?_
  refine s_icmp_ge (tgt := 20) E dJ7_fill_53178_7 (by decide) (fun hh => absurd hh (by decide)) (fun _ => ?_)
  refine s_aload_n E dJ7_fill_53178_10 rfl rfl ?_
  refine s_iload_n E dJ7_fill_53178_11 rfl rfl ?_
  refine s_iload_n E dJ7_fill_53178_12 rfl rfl ?_
  refine s_iast E rfl (by decide +kernel) (vp_c (by decide)) dJ7_fill_53178_13 ?_
  refine s_world (w2 := wb_56) rfl ?_
  refine s_iinc (v := 20) (L2 := [some (AR 71), some (AI (-1)), some (AI 20), some (AI 90)]) E dJ7_fill_53178_14 rfl (by decide) (by decide) rfl ?_
  refine s_goto (tgt := 5) E dJ7_fill_53178_17 (by decide) ?_
  refine s_iload_n E dJ7_fill_53178_5 rfl rfl ?_
  refine s_iload_n E dJ7_fill_53178_6 rfl rfl ?_
  refine s_icmp_ge (tgt := 20) E dJ7_fill_53178_7 (by decide) (fun hh => absurd hh (by decide)) (fun _ => ?_)
  refine s_aload_n E dJ7_fill_53178_10 rfl rfl ?_
  refine s_iload_n E dJ7_fill_53178_11 rfl rfl ?_
  refine s_iload_n E dJ7_fill_53178_12 rfl rfl ?_
  refine s_iast E rfl (by decide +kernel) (vp_c (by decide)) dJ7_fill_53178_13 ?_
  refine s_world (w2 := wb_57) rfl ?_
  refine s_iinc (v := 21) (L2 := [some (AR 71), some (AI (-1)), some (AI 21), some (AI 90)]) E dJ7_fill_53178_14 rfl (by decide) (by decide) rfl ?_
  refine s_goto (tgt := 5) E dJ7_fill_53178_17 (by decide) ?_
  refine s_iload_n E dJ7_fill_53178_5 rfl rfl ?_
  refine s_iload_n E dJ7_fill_53178_6 rfl rfl ?_
  refine s_icmp_ge (tgt := 20) E dJ7_fill_53178_7 (by decide) (fun hh => absurd hh (by decide)) (fun _ => ?_)
  refine s_aload_n E dJ7_fill_53178_10 rfl rfl ?_
  refine s_iload_n E dJ7_fill_53178_11 rfl rfl ?_
  refine s_iload_n E dJ7_fill_53178_12 rfl rfl ?_
  refine s_iast E rfl (by decide +kernel) (vp_c (by decide)) dJ7_fill_53178_13 ?_
  refine s_world (w2 := wb_58) rfl ?_
  refine s_iinc (v := 22) (L2 := [some (AR 71), some (AI (-1)), some (AI 22), some (AI 90)]) E dJ7_fill_53178_14 rfl (by decide) (by decide) rfl ?_
  refine s_goto (tgt := 5) E dJ7_fill_53178_17 (by decide) ?_
  refine s_iload_n E dJ7_fill_53178_5 rfl rfl ?_
  refine s_iload_n E dJ7_fill_53178_6 rfl rfl ?_
  refine s_icmp_ge (tgt := 20) E dJ7_fill_53178_7 (by decide) (fun hh => absurd hh (by decide)) (fun _ => ?_)
  refine s_aload_n E dJ7_fill_53178_10 rfl rfl ?_
  refine s_iload_n E dJ7_fill_53178_11 rfl rfl ?_
  refine s_iload_n E dJ7_fill_53178_12 rfl rfl ?_
  refine s_iast E rfl (by decide +kernel) (vp_c (by decide)) dJ7_fill_53178_13 ?_
  refine s_world (w2 := wb_59) rfl ?_
  refine s_iinc (v := 23) (L2 := [some (AR 71), some (AI (-1)), some (AI 23), some (AI 90)]) E dJ7_fill_53178_14 rfl (by decide) (by decide) rfl ?_
  refine s_goto (tgt := 5) E dJ7_fill_53178_17 (by decide) ?_
  refine s_iload_n E dJ7_fill_53178_5 rfl rfl ?_
  refine s_iload_n E dJ7_fill_53178_6 rfl rfl ?_
  refine s_icmp_ge (tgt := 20) E dJ7_fill_53178_7 (by decide) (fun hh => absurd hh (by decide)) (fun _ => ?_)
  refine s_aload_n E dJ7_fill_53178_10 rfl rfl ?_
  refine s_iload_n E dJ7_fill_53178_11 rfl rfl ?_
  refine s_iload_n E dJ7_fill_53178_12 rfl rfl ?_
  refine s_iast E rfl (by decide +kernel) (vp_c (by decide)) dJ7_fill_53178_13 ?_
  refine s_world (w2 := wb_60) rfl ?_
  refine s_iinc (v := 24) (L2 := [some (AR 71), some (AI (-1)), some (AI 24), some (AI 90)]) E dJ7_fill_53178_14 rfl (by decide) (by decide) rfl ?_
  refine s_goto (tgt := 5) E dJ7_fill_53178_17 (by decide) ?_
  refine s_iload_n E dJ7_fill_53178_5 rfl rfl ?_
  refine s_iload_n E dJ7_fill_53178_6 rfl rfl ?_
  refine s_icmp_ge (tgt := 20) E dJ7_fill_53178_7 (by decide) (fun hh => absurd hh (by decide)) (fun _ => ?_)
  refine s_aload_n E dJ7_fill_53178_10 rfl rfl ?_
  refine s_iload_n E dJ7_fill_53178_11 rfl rfl ?_
  refine s_iload_n E dJ7_fill_53178_12 rfl rfl ?_
  refine s_iast E rfl (by decide +kernel) (vp_c (by decide)) dJ7_fill_53178_13 ?_
  refine s_world (w2 := wb_61) rfl ?_
  refine s_iinc (v := 25) (L2 := [some (AR 71), some (AI (-1)), some (AI 25), some (AI 90)]) E dJ7_fill_53178_14 rfl (by decide) (by decide) rfl ?_
  refine s_goto (tgt := 5) E dJ7_fill_53178_17 (by decide) ?_
  refine s_iload_n E dJ7_fill_53178_5 rfl rfl ?_
  refine s_iload_n E dJ7_fill_53178_6 rfl rfl ?_
  refine s_icmp_ge (tgt := 20) E dJ7_fill_53178_7 (by decide) (fun hh => absurd hh (by decide)) (fun _ => ?_)
  refine s_aload_n E dJ7_fill_53178_10 rfl rfl ?_
  refine s_iload_n E dJ7_fill_53178_11 rfl rfl ?_
  refine s_iload_n E dJ7_fill_53178_12 rfl rfl ?_
  refine s_iast E rfl (by decide +kernel) (vp_c (by decide)) dJ7_fill_53178_13 ?_
  refine s_world (w2 := wb_62) rfl ?_
  refine s_iinc (v := 26) (L2 := [some (AR 71), some (AI (-1)), some (AI 26), some (AI 90)]) E dJ7_fill_53178_14 rfl (by decide) (by decide) rfl ?_
  refine s_goto (tgt := 5) E dJ7_fill_53178_17 (by decide) ?_
  refine s_iload_n E dJ7_fill_53178_5 rfl rfl ?_
  refine s_iload_n E dJ7_fill_53178_6 rfl rfl ?_
  refine s_icmp_ge (tgt := 20) E dJ7_fill_53178_7 (by decide) (fun hh => absurd hh (by decide)) (fun _ => ?_)
  refine s_aload_n E dJ7_fill_53178_10 rfl rfl ?_
  refine s_iload_n E dJ7_fill_53178_11 rfl rfl ?_
  refine s_iload_n E dJ7_fill_53178_12 rfl rfl ?_
  refine s_iast E rfl (by decide +kernel) (vp_c (by decide)) dJ7_fill_53178_13 ?_
  refine s_world (w2 := wb_63) rfl ?_
  refine s_iinc (v := 27) (L2 := [some (AR 71), some (AI (-1)), some (AI 27), some (AI 90)]) E dJ7_fill_53178_14 rfl (by decide) (by decide) rfl ?_
  refine s_goto (tgt := 5) E dJ7_fill_53178_17 (by decide) ?_
  refine s_iload_n E dJ7_fill_53178_5 rfl rfl ?_
  refine s_iload_n E dJ7_fill_53178_6 rfl rfl ?_
  refine s_icmp_ge (tgt := 20) E dJ7_fill_53178_7 (by decide) (fun hh => absurd hh (by decide)) (fun _ => ?_)
  refine s_aload_n E dJ7_fill_53178_10 rfl rfl ?_
  refine s_iload_n E dJ7_fill_53178_11 rfl rfl ?_
  refine s_iload_n E dJ7_fill_53178_12 rfl rfl ?_
  refine s_iast E rfl (by decide +kernel) (vp_c (by decide)) dJ7_fill_53178_13 ?_
  refine s_world (w2 := wb_64) rfl ?_
  refine s_iinc (v := 28) (L2 := [some (AR 71), some (AI (-1)), some (AI 28), some (AI 90)]) E dJ7_fill_53178_14 rfl (by decide) (by decide) rfl ?_
  refine s_goto (tgt := 5) E dJ7_fill_53178_17 (by decide) ?_
  refine s_iload_n E dJ7_fill_53178_5 rfl rfl ?_
  refine s_iload_n E dJ7_fill_53178_6 rfl rfl ?_
  refine s_icmp_ge (tgt := 20) E dJ7_fill_53178_7 (by decide) (fun hh => absurd hh (by decide)) (fun _ => ?_)
  refine s_aload_n E dJ7_fill_53178_10 rfl rfl ?_
  refine s_iload_n E dJ7_fill_53178_11 rfl rfl ?_
  refine s_iload_n E dJ7_fill_53178_12 rfl rfl ?_
  refine s_iast E rfl (by decide +kernel) (vp_c (by decide)) dJ7_fill_53178_13 ?_
  refine s_world (w2 := wb_65) rfl ?_
  refine s_iinc (v := 29) (L2 := [some (AR 71), some (AI (-1)), some (AI 29), some (AI 90)]) E dJ7_fill_53178_14 rfl (by decide) (by decide) rfl ?_
  refine s_goto (tgt := 5) E dJ7_fill_53178_17 (by decide) ?_
  refine s_iload_n E dJ7_fill_53178_5 rfl rfl ?_
  refine s_iload_n E dJ7_fill_53178_6 rfl rfl ?_
  refine s_icmp_ge (tgt := 20) E dJ7_fill_53178_7 (by decide) (fun hh => absurd hh (by decide)) (fun _ => ?_)
  refine s_aload_n E dJ7_fill_53178_10 rfl rfl ?_
  refine s_iload_n E dJ7_fill_53178_11 rfl rfl ?_
  refine s_iload_n E dJ7_fill_53178_12 rfl rfl ?_
  refine s_iast E rfl (by decide +kernel) (vp_c (by decide)) dJ7_fill_53178_13 ?_
  refine s_world (w2 := wb_66) rfl ?_
  refine s_iinc (v := 30) (L2 := [some (AR 71), some (AI (-1)), some (AI 30), some (AI 90)]) E dJ7_fill_53178_14 rfl (by decide) (by decide) rfl ?_
  refine s_goto (tgt := 5) E dJ7_fill_53178_17 (by decide) ?_
  refine s_iload_n E dJ7_fill_53178_5 rfl rfl ?_
  refine s_iload_n E dJ7_fill_53178_6 rfl rfl ?_
  refine s_icmp_ge (tgt := 20) E dJ7_fill_53178_7 (by decide) (fun hh => absurd hh (by decide)) (fun _ => ?_)
  refine s_aload_n E dJ7_fill_53178_10 rfl rfl ?_
  refine s_iload_n E dJ7_fill_53178_11 rfl rfl ?_
  refine s_iload_n E dJ7_fill_53178_12 rfl rfl ?_
  refine s_iast E rfl (by decide +kernel) (vp_c (by decide)) dJ7_fill_53178_13 ?_
  refine s_world (w2 := wb_67) rfl ?_
  refine s_iinc (v := 31) (L2 := [some (AR 71), some (AI (-1)), some (AI 31), some (AI 90)]) E dJ7_fill_53178_14 rfl (by decide) (by decide) rfl ?_
  refine s_goto (tgt := 5) E dJ7_fill_53178_17 (by decide) ?_
  refine s_iload_n E dJ7_fill_53178_5 rfl rfl ?_
  refine s_iload_n E dJ7_fill_53178_6 rfl rfl ?_
  refine s_icmp_ge (tgt := 20) E dJ7_fill_53178_7 (by decide) (fun hh => absurd hh (by decide)) (fun _ => ?_)
  refine s_aload_n E dJ7_fill_53178_10 rfl rfl ?_
  refine s_iload_n E dJ7_fill_53178_11 rfl rfl ?_
  refine s_iload_n E dJ7_fill_53178_12 rfl rfl ?_
  refine s_iast E rfl (by decide +kernel) (vp_c (by decide)) dJ7_fill_53178_13 ?_
  refine s_world (w2 := wb_68) rfl ?_
  refine s_iinc (v := 32) (L2 := [some (AR 71), some (AI (-1)), some (AI 32), some (AI 90)]) E dJ7_fill_53178_14 rfl (by decide) (by decide) rfl ?_
  refine s_goto (tgt := 5) E dJ7_fill_53178_17 (by decide) ?_
  refine s_iload_n E dJ7_fill_53178_5 rfl rfl ?_
  refine s_iload_n E dJ7_fill_53178_6 rfl rfl ?_
  refine s_icmp_ge (tgt := 20) E dJ7_fill_53178_7 (by decide) (fun hh => absurd hh (by decide)) (fun _ => ?_)
  refine s_aload_n E dJ7_fill_53178_10 rfl rfl ?_
  refine s_iload_n E dJ7_fill_53178_11 rfl rfl ?_
  refine s_iload_n E dJ7_fill_53178_12 rfl rfl ?_
  refine s_iast E rfl (by decide +kernel) (vp_c (by decide)) dJ7_fill_53178_13 ?_
  refine s_world (w2 := wb_69) rfl ?_
  refine s_iinc (v := 33) (L2 := [some (AR 71), some (AI (-1)), some (AI 33), some (AI 90)]) E dJ7_fill_53178_14 rfl (by decide) (by decide) rfl ?_
  refine s_goto (tgt := 5) E dJ7_fill_53178_17 (by decide) ?_
  refine s_iload_n E dJ7_fill_53178_5 rfl rfl ?_
  refine s_iload_n E dJ7_fill_53178_6 rfl rfl ?_
  refine s_icmp_ge (tgt := 20) E dJ7_fill_53178_7 (by decide) (fun hh => absurd hh (by decide)) (fun _ => ?_)
  refine s_aload_n E dJ7_fill_53178_10 rfl rfl ?_
  refine s_iload_n E dJ7_fill_53178_11 rfl rfl ?_
  refine s_iload_n E dJ7_fill_53178_12 rfl rfl ?_
  refine s_iast E rfl (by decide +kernel) (vp_c (by decide)) dJ7_fill_53178_13 ?_
  refine s_world (w2 := wb_70) rfl ?_
  refine s_iinc (v := 34) (L2 := [some (AR 71), some (AI (-1)), some (AI 34), some (AI 90)]) E dJ7_fill_53178_14 rfl (by decide) (by decide) rfl ?_
  refine s_goto (tgt := 5) E dJ7_fill_53178_17 (by decide) ?_
  refine s_iload_n E dJ7_fill_53178_5 rfl rfl ?_
  refine s_iload_n E dJ7_fill_53178_6 rfl rfl ?_
  refine s_icmp_ge (tgt := 20) E dJ7_fill_53178_7 (by decide) (fun hh => absurd hh (by decide)) (fun _ => ?_)
  refine s_aload_n E dJ7_fill_53178_10 rfl rfl ?_
  refine s_iload_n E dJ7_fill_53178_11 rfl rfl ?_
  refine s_iload_n E dJ7_fill_53178_12 rfl rfl ?_
  refine s_iast E rfl (by decide +kernel) (vp_c (by decide)) dJ7_fill_53178_13 ?_
  refine s_world (w2 := wb_71) rfl ?_
  refine s_iinc (v := 35) (L2 := [some (AR 71), some (AI (-1)), some (AI 35), some (AI 90)]) E dJ7_fill_53178_14 rfl (by decide) (by decide) rfl ?_
  refine s_goto (tgt := 5) E dJ7_fill_53178_17 (by decide) ?_
  refine s_iload_n E dJ7_fill_53178_5 rfl rfl ?_
  refine s_iload_n E dJ7_fill_53178_6 rfl rfl ?_
  refine s_icmp_ge (tgt := 20) E dJ7_fill_53178_7 (by decide) (fun hh => absurd hh (by decide)) (fun _ => ?_)
  refine s_aload_n E dJ7_fill_53178_10 rfl rfl ?_
  refine s_iload_n E dJ7_fill_53178_11 rfl rfl ?_
  refine s_iload_n E dJ7_fill_53178_12 rfl rfl ?_
  refine s_iast E rfl (by decide +kernel) (vp_c (by decide)) dJ7_fill_53178_13 ?_
  refine s_world (w2 := wb_72) rfl ?_
  refine s_iinc (v := 36) (L2 := [some (AR 71), some (AI (-1)), some (AI 36), some (AI 90)]) E dJ7_fill_53178_14 rfl (by decide) (by decide) rfl ?_
  refine s_goto (tgt := 5) E dJ7_fill_53178_17 (by decide) ?_
  refine s_iload_n E dJ7_fill_53178_5 rfl rfl ?_
  refine s_iload_n E dJ7_fill_53178_6 rfl rfl ?_
  refine s_icmp_ge (tgt := 20) E dJ7_fill_53178_7 (by decide) (fun hh => absurd hh (by decide)) (fun _ => ?_)
  refine s_aload_n E dJ7_fill_53178_10 rfl rfl ?_
  refine s_iload_n E dJ7_fill_53178_11 rfl rfl ?_
  refine s_iload_n E dJ7_fill_53178_12 rfl rfl ?_
  refine s_iast E rfl (by decide +kernel) (vp_c (by decide)) dJ7_fill_53178_13 ?_
  refine s_world (w2 := wb_73) rfl ?_
  refine s_iinc (v := 37) (L2 := [some (AR 71), some (AI (-1)), some (AI 37), some (AI 90)]) E dJ7_fill_53178_14 rfl (by decide) (by decide) rfl ?_
  refine s_goto (tgt := 5) E dJ7_fill_53178_17 (by decide) ?_
  refine s_iload_n E dJ7_fill_53178_5 rfl rfl ?_
  refine s_iload_n E dJ7_fill_53178_6 rfl rfl ?_
  refine s_icmp_ge (tgt := 20) E dJ7_fill_53178_7 (by decide) (fun hh => absurd hh (by decide)) (fun _ => ?_)
  refine s_aload_n E dJ7_fill_53178_10 rfl rfl ?_
  refine s_iload_n E dJ7_fill_53178_11 rfl rfl ?_
  refine s_iload_n E dJ7_fill_53178_12 rfl rfl ?_
  refine s_iast E rfl (by decide +kernel) (vp_c (by decide)) dJ7_fill_53178_13 ?_
  refine s_world (w2 := wb_74) rfl ?_
  refine s_iinc (v := 38) (L2 := [some (AR 71), some (AI (-1)), some (AI 38), some (AI 90)]) E dJ7_fill_53178_14 rfl (by decide) (by decide) rfl ?_
  refine s_goto (tgt := 5) E dJ7_fill_53178_17 (by decide) ?_
  refine s_iload_n E dJ7_fill_53178_5 rfl rfl ?_
  refine s_iload_n E dJ7_fill_53178_6 rfl rfl ?_
  refine s_icmp_ge (tgt := 20) E dJ7_fill_53178_7 (by decide) (fun hh => absurd hh (by decide)) (fun _ => ?_)
  refine s_aload_n E dJ7_fill_53178_10 rfl rfl ?_
  refine s_iload_n E dJ7_fill_53178_11 rfl rfl ?_
  refine s_iload_n E dJ7_fill_53178_12 rfl rfl ?_
  refine s_iast E rfl (by decide +kernel) (vp_c (by decide)) dJ7_fill_53178_13 ?_
  refine s_world (w2 := wb_75) rfl ?_
  refine s_iinc (v := 39) (L2 := [some (AR 71), some (AI (-1)), some (AI 39), some (AI 90)]) E dJ7_fill_53178_14 rfl (by decide) (by decide) rfl ?_
  refine s_goto (tgt := 5) E dJ7_fill_53178_17 (by decide) ?_
  refine s_iload_n E dJ7_fill_53178_5 rfl rfl ?_
  refine s_iload_n E dJ7_fill_53178_6 rfl rfl ?_
  refine s_icmp_ge (tgt := 20) E dJ7_fill_53178_7 (by decide) (fun hh => absurd hh (by decide)) (fun _ => ?_)
  refine s_aload_n E dJ7_fill_53178_10 rfl rfl ?_
  refine s_iload_n E dJ7_fill_53178_11 rfl rfl ?_
  refine s_iload_n E dJ7_fill_53178_12 rfl rfl ?_
  refine s_iast E rfl (by decide +kernel) (vp_c (by decide)) dJ7_fill_53178_13 ?_
  refine s_world (w2 := wb_76) rfl ?_
  refine s_iinc (v := 40) (L2 := [some (AR 71), some (AI (-1)), some (AI 40), some (AI 90)]) E dJ7_fill_53178_14 rfl (by decide) (by decide) rfl ?_
  refine s_goto (tgt := 5) E dJ7_fill_53178_17 (by decide) ?_
  refine s_iload_n E dJ7_fill_53178_5 rfl rfl ?_
  refine s_iload_n E dJ7_fill_53178_6 rfl rfl ?_
  refine s_icmp_ge (tgt := 20) E dJ7_fill_53178_7 (by decide) (fun hh => absurd hh (by decide)) (fun _ => ?_)
  refine s_aload_n E dJ7_fill_53178_10 rfl rfl ?_
  refine s_iload_n E dJ7_fill_53178_11 rfl rfl ?_
  refine s_iload_n E dJ7_fill_53178_12 rfl rfl ?_
  refine s_iast E rfl (by decide +kernel) (vp_c (by decide)) dJ7_fill_53178_13 ?_
  refine s_world (w2 := wb_77) rfl ?_
  refine s_iinc (v := 41) (L2 := [some (AR 71), some (AI (-1)), some (AI 41), some (AI 90)]) E dJ7_fill_53178_14 rfl (by decide) (by decide) rfl ?_
  refine s_goto (tgt := 5) E dJ7_fill_53178_17 (by decide) ?_
  refine s_iload_n E dJ7_fill_53178_5 rfl rfl ?_
  refine s_iload_n E dJ7_fill_53178_6 rfl rfl ?_
  refine s_icmp_ge (tgt := 20) E dJ7_fill_53178_7 (by decide) (fun hh => absurd hh (by decide)) (fun _ => ?_)
  refine s_aload_n E dJ7_fill_53178_10 rfl rfl ?_
  refine s_iload_n E dJ7_fill_53178_11 rfl rfl ?_
  refine s_iload_n E dJ7_fill_53178_12 rfl rfl ?_
  refine s_iast E rfl (by decide +kernel) (vp_c (by decide)) dJ7_fill_53178_13 ?_
  refine s_world (w2 := wb_78) rfl ?_
  refine s_iinc (v := 42) (L2 := [some (AR 71), some (AI (-1)), some (AI 42), some (AI 90)]) E dJ7_fill_53178_14 rfl (by decide) (by decide) rfl ?_
  refine s_goto (tgt := 5) E dJ7_fill_53178_17 (by decide) ?_
  refine s_iload_n E dJ7_fill_53178_5 rfl rfl ?_
  refine s_iload_n E dJ7_fill_53178_6 rfl rfl ?_
  refine s_icmp_ge (tgt := 20) E dJ7_fill_53178_7 (by decide) (fun hh => absurd hh (by decide)) (fun _ => ?_)
  refine s_aload_n E dJ7_fill_53178_10 rfl rfl ?_
  refine s_iload_n E dJ7_fill_53178_11 rfl rfl ?_
  refine s_iload_n E dJ7_fill_53178_12 rfl rfl ?_
  refine s_iast E rfl (by decide +kernel) (vp_c (by decide)) dJ7_fill_53178_13 ?_
  refine s_world (w2 := wb_79) rfl ?_
  refine s_iinc (v := 43) (L2 := [some (AR 71), some (AI (-1)), some (AI 43), some (AI 90)]) E dJ7_fill_53178_14 rfl (by decide) (by decide) rfl ?_
  refine s_goto (tgt := 5) E dJ7_fill_53178_17 (by decide) ?_
  refine s_iload_n E dJ7_fill_53178_5 rfl rfl ?_
  refine s_iload_n E dJ7_fill_53178_6 rfl rfl ?_
  refine s_icmp_ge (tgt := 20) E dJ7_fill_53178_7 (by decide) (fun hh => absurd hh (by decide)) (fun _ => ?_)
  refine s_aload_n E dJ7_fill_53178_10 rfl rfl ?_
  refine s_iload_n E dJ7_fill_53178_11 rfl rfl ?_
  refine s_iload_n E dJ7_fill_53178_12 rfl rfl ?_
  refine s_iast E rfl (by decide +kernel) (vp_c (by decide)) dJ7_fill_53178_13 ?_
  refine s_world (w2 := wb_80) rfl ?_
  refine s_iinc (v := 44) (L2 := [some (AR 71), some (AI (-1)), some (AI 44), some (AI 90)]) E dJ7_fill_53178_14 rfl (by decide) (by decide) rfl ?_
  refine s_goto (tgt := 5) E dJ7_fill_53178_17 (by decide) ?_
  refine s_iload_n E dJ7_fill_53178_5 rfl rfl ?_
  refine s_iload_n E dJ7_fill_53178_6 rfl rfl ?_
  refine s_icmp_ge (tgt := 20) E dJ7_fill_53178_7 (by decide) (fun hh => absurd hh (by decide)) (fun _ => ?_)
  refine s_aload_n E dJ7_fill_53178_10 rfl rfl ?_
  refine s_iload_n E dJ7_fill_53178_11 rfl rfl ?_
  refine s_iload_n E dJ7_fill_53178_12 rfl rfl ?_
  refine s_iast E rfl (by decide +kernel) (vp_c (by decide)) dJ7_fill_53178_13 ?_
  refine s_world (w2 := wb_81) rfl ?_
  refine s_iinc (v := 45) (L2 := [some (AR 71), some (AI (-1)), some (AI 45), some (AI 90)]) E dJ7_fill_53178_14 rfl (by decide) (by decide) rfl ?_
  refine s_goto (tgt := 5) E dJ7_fill_53178_17 (by decide) ?_
  refine s_iload_n E dJ7_fill_53178_5 rfl rfl ?_
  refine s_iload_n E dJ7_fill_53178_6 rfl rfl ?_
  refine s_icmp_ge (tgt := 20) E dJ7_fill_53178_7 (by decide) (fun hh => absurd hh (by decide)) (fun _ => ?_)
  refine s_aload_n E dJ7_fill_53178_10 rfl rfl ?_
  refine s_iload_n E dJ7_fill_53178_11 rfl rfl ?_
  refine s_iload_n E dJ7_fill_53178_12 rfl rfl ?_
  refine s_iast E rfl (by decide +kernel) (vp_c (by decide)) dJ7_fill_53178_13 ?_
  refine s_world (w2 := wb_82) rfl ?_
  refine s_iinc (v := 46) (L2 := [some (AR 71), some (AI (-1)), some (AI 46), some (AI 90)]) E dJ7_fill_53178_14 rfl (by decide) (by decide) rfl ?_
  refine s_goto (tgt := 5) E dJ7_fill_53178_17 (by decide) ?_
  refine s_iload_n E dJ7_fill_53178_5 rfl rfl ?_
  refine s_iload_n E dJ7_fill_53178_6 rfl rfl ?_
  refine s_icmp_ge (tgt := 20) E dJ7_fill_53178_7 (by decide) (fun hh => absurd hh (by decide)) (fun _ => ?_)
  refine s_aload_n E dJ7_fill_53178_10 rfl rfl ?_
  refine s_iload_n E dJ7_fill_53178_11 rfl rfl ?_
  refine s_iload_n E dJ7_fill_53178_12 rfl rfl ?_
  refine s_iast E rfl (by decide +kernel) (vp_c (by decide)) dJ7_fill_53178_13 ?_
  refine s_world (w2 := wb_83) rfl ?_
  refine s_iinc (v := 47) (L2 := [some (AR 71), some (AI (-1)), some (AI 47), some (AI 90)]) E dJ7_fill_53178_14 rfl (by decide) (by decide) rfl ?_
  refine s_goto (tgt := 5) E dJ7_fill_53178_17 (by decide) ?_
  refine s_iload_n E dJ7_fill_53178_5 rfl rfl ?_
  refine s_iload_n E dJ7_fill_53178_6 rfl rfl ?_
  refine s_icmp_ge (tgt := 20) E dJ7_fill_53178_7 (by decide) (fun hh => absurd hh (by decide)) (fun _ => ?_)
  refine s_aload_n E dJ7_fill_53178_10 rfl rfl ?_
  refine s_iload_n E dJ7_fill_53178_11 rfl rfl ?_
  refine s_iload_n E dJ7_fill_53178_12 rfl rfl ?_
  refine s_iast E rfl (by decide +kernel) (vp_c (by decide)) dJ7_fill_53178_13 ?_
  refine s_world (w2 := wb_84) rfl ?_
  refine s_iinc (v := 48) (L2 := [some (AR 71), some (AI (-1)), some (AI 48), some (AI 90)]) E dJ7_fill_53178_14 rfl (by decide) (by decide) rfl ?_
  refine s_goto (tgt := 5) E dJ7_fill_53178_17 (by decide) ?_
  refine s_iload_n E dJ7_fill_53178_5 rfl rfl ?_
  refine s_iload_n E dJ7_fill_53178_6 rfl rfl ?_
  refine s_icmp_ge (tgt := 20) E dJ7_fill_53178_7 (by decide) (fun hh => absurd hh (by decide)) (fun _ => ?_)
  refine s_aload_n E dJ7_fill_53178_10 rfl rfl ?_
  refine s_iload_n E dJ7_fill_53178_11 rfl rfl ?_
  refine s_iload_n E dJ7_fill_53178_12 rfl rfl ?_
  refine s_iast E rfl (by decide +kernel) (vp_c (by decide)) dJ7_fill_53178_13 ?_
  refine s_world (w2 := wb_85) rfl ?_
  refine s_iinc (v := 49) (L2 := [some (AR 71), some (AI (-1)), some (AI 49), some (AI 90)]) E dJ7_fill_53178_14 rfl (by decide) (by decide) rfl ?_
  refine s_goto (tgt := 5) E dJ7_fill_53178_17 (by decide) ?_
  refine s_iload_n E dJ7_fill_53178_5 rfl rfl ?_
  refine s_iload_n E dJ7_fill_53178_6 rfl rfl ?_
  refine s_icmp_ge (tgt := 20) E dJ7_fill_53178_7 (by decide) (fun hh => absurd hh (by decide)) (fun _ => ?_)
  refine s_aload_n E dJ7_fill_53178_10 rfl rfl ?_
  refine s_iload_n E dJ7_fill_53178_11 rfl rfl ?_
  refine s_iload_n E dJ7_fill_53178_12 rfl rfl ?_
  refine s_iast E rfl (by decide +kernel) (vp_c (by decide)) dJ7_fill_53178_13 ?_
  refine s_world (w2 := wb_86) rfl ?_
  refine s_iinc (v := 50) (L2 := [some (AR 71), some (AI (-1)), some (AI 50), some (AI 90)]) E dJ7_fill_53178_14 rfl (by decide) (by decide) rfl ?_
  refine s_goto (tgt := 5) E dJ7_fill_53178_17 (by decide) ?_
  refine s_iload_n E dJ7_fill_53178_5 rfl rfl ?_
  refine s_iload_n E dJ7_fill_53178_6 rfl rfl ?_
  refine s_icmp_ge (tgt := 20) E dJ7_fill_53178_7 (by decide) (fun hh => absurd hh (by decide)) (fun _ => ?_)
  refine s_aload_n E dJ7_fill_53178_10 rfl rfl ?_
  refine s_iload_n E dJ7_fill_53178_11 rfl rfl ?_
  refine s_iload_n E dJ7_fill_53178_12 rfl rfl ?_
  refine s_iast E rfl (by decide +kernel) (vp_c (by decide)) dJ7_fill_53178_13 ?_
  refine s_world (w2 := wb_87) rfl ?_
  refine s_iinc (v := 51) (L2 := [some (AR 71), some (AI (-1)), some (AI 51), some (AI 90)]) E dJ7_fill_53178_14 rfl (by decide) (by decide) rfl ?_
  refine s_goto (tgt := 5) E dJ7_fill_53178_17 (by decide) ?_
  refine s_iload_n E dJ7_fill_53178_5 rfl rfl ?_
  refine s_iload_n E dJ7_fill_53178_6 rfl rfl ?_
  refine s_icmp_ge (tgt := 20) E dJ7_fill_53178_7 (by decide) (fun hh => absurd hh (by decide)) (fun _ => ?_)
  refine s_aload_n E dJ7_fill_53178_10 rfl rfl ?_
  refine s_iload_n E dJ7_fill_53178_11 rfl rfl ?_
  refine s_iload_n E dJ7_fill_53178_12 rfl rfl ?_
  refine s_iast E rfl (by decide +kernel) (vp_c (by decide)) dJ7_fill_53178_13 ?_
  refine s_world (w2 := wb_88) rfl ?_
  refine s_iinc (v := 52) (L2 := [some (AR 71), some (AI (-1)), some (AI 52), some (AI 90)]) E dJ7_fill_53178_14 rfl (by decide) (by decide) rfl ?_
  refine s_goto (tgt := 5) E dJ7_fill_53178_17 (by decide) ?_
  refine s_iload_n E dJ7_fill_53178_5 rfl rfl ?_
  refine s_iload_n E dJ7_fill_53178_6 rfl rfl ?_
  refine s_icmp_ge (tgt := 20) E dJ7_fill_53178_7 (by decide) (fun hh => absurd hh (by decide)) (fun _ => ?_)
  refine s_aload_n E dJ7_fill_53178_10 rfl rfl ?_
  refine s_iload_n E dJ7_fill_53178_11 rfl rfl ?_
  refine s_iload_n E dJ7_fill_53178_12 rfl rfl ?_
  refine s_iast E rfl (by decide +kernel) (vp_c (by decide)) dJ7_fill_53178_13 ?_
  refine s_world (w2 := wb_89) rfl ?_
  refine s_iinc (v := 53) (L2 := [some (AR 71), some (AI (-1)), some (AI 53), some (AI 90)]) E dJ7_fill_53178_14 rfl (by decide) (by decide) rfl ?_
  refine s_goto (tgt := 5) E dJ7_fill_53178_17 (by decide) ?_
  refine s_iload_n E dJ7_fill_53178_5 rfl rfl ?_
  refine s_iload_n E dJ7_fill_53178_6 rfl rfl ?_
  refine s_icmp_ge (tgt := 20) E dJ7_fill_53178_7 (by decide) (fun hh => absurd hh (by decide)) (fun _ => ?_)
  refine s_aload_n E dJ7_fill_53178_10 rfl rfl ?_
  refine s_iload_n E dJ7_fill_53178_11 rfl rfl ?_
  refine s_iload_n E dJ7_fill_53178_12 rfl rfl ?_
  refine s_iast E rfl (by decide +kernel) (vp_c (by decide)) dJ7_fill_53178_13 ?_
  refine s_world (w2 := wb_90) rfl ?_
  refine s_iinc (v := 54) (L2 := [some (AR 71), some (AI (-1)), some (AI 54), some (AI 90)]) E dJ7_fill_53178_14 rfl (by decide) (by decide) rfl ?_
  refine s_goto (tgt := 5) E dJ7_fill_53178_17 (by decide) ?_
  refine s_iload_n E dJ7_fill_53178_5 rfl rfl ?_
  refine s_iload_n E dJ7_fill_53178_6 rfl rfl ?_
  refine s_icmp_ge (tgt := 20) E dJ7_fill_53178_7 (by decide) (fun hh => absurd hh (by decide)) (fun _ => ?_)
  refine s_aload_n E dJ7_fill_53178_10 rfl rfl ?_
  refine s_iload_n E dJ7_fill_53178_11 rfl rfl ?_
  refine s_iload_n E dJ7_fill_53178_12 rfl rfl ?_
  refine s_iast E rfl (by decide +kernel) (vp_c (by decide)) dJ7_fill_53178_13 ?_
  refine s_world (w2 := wb_91) rfl ?_
  refine s_iinc (v := 55) (L2 := [some (AR 71), some (AI (-1)), some (AI 55), some (AI 90)]) E dJ7_fill_53178_14 rfl (by decide) (by decide) rfl ?_
  refine s_goto (tgt := 5) E dJ7_fill_53178_17 (by decide) ?_
  refine s_iload_n E dJ7_fill_53178_5 rfl rfl ?_
  refine s_iload_n E dJ7_fill_53178_6 rfl rfl ?_
  refine s_icmp_ge (tgt := 20) E dJ7_fill_53178_7 (by decide) (fun hh => absurd hh (by decide)) (fun _ => ?_)
  refine s_aload_n E dJ7_fill_53178_10 rfl rfl ?_
  refine s_iload_n E dJ7_fill_53178_11 rfl rfl ?_
  refine s_iload_n E dJ7_fill_53178_12 rfl rfl ?_
  refine s_iast E rfl (by decide +kernel) (vp_c (by decide)) dJ7_fill_53178_13 ?_
  refine s_world (w2 := wb_92) rfl ?_
  refine s_iinc (v := 56) (L2 := [some (AR 71), some (AI (-1)), some (AI 56), some (AI 90)]) E dJ7_fill_53178_14 rfl (by decide) (by decide) rfl ?_
  refine s_goto (tgt := 5) E dJ7_fill_53178_17 (by decide) ?_
  refine s_iload_n E dJ7_fill_53178_5 rfl rfl ?_
  refine s_iload_n E dJ7_fill_53178_6 rfl rfl ?_
  refine s_icmp_ge (tgt := 20) E dJ7_fill_53178_7 (by decide) (fun hh => absurd hh (by decide)) (fun _ => ?_)
  refine s_aload_n E dJ7_fill_53178_10 rfl rfl ?_
  refine s_iload_n E dJ7_fill_53178_11 rfl rfl ?_
  refine s_iload_n E dJ7_fill_53178_12 rfl rfl ?_
  refine s_iast E rfl (by decide +kernel) (vp_c (by decide)) dJ7_fill_53178_13 ?_
  refine s_world (w2 := wb_93) rfl ?_
  refine s_iinc (v := 57) (L2 := [some (AR 71), some (AI (-1)), some (AI 57), some (AI 90)]) E dJ7_fill_53178_14 rfl (by decide) (by decide) rfl ?_
  refine s_goto (tgt := 5) E dJ7_fill_53178_17 (by decide) ?_
  refine s_iload_n E dJ7_fill_53178_5 rfl rfl ?_
  refine s_iload_n E dJ7_fill_53178_6 rfl rfl ?_
  refine s_icmp_ge (tgt := 20) E dJ7_fill_53178_7 (by decide) (fun hh => absurd hh (by decide)) (fun _ => ?_)
  refine s_aload_n E dJ7_fill_53178_10 rfl rfl ?_
  refine s_iload_n E dJ7_fill_53178_11 rfl rfl ?_
  refine s_iload_n E dJ7_fill_53178_12 rfl rfl ?_
  refine s_iast E rfl (by decide +kernel) (vp_c (by decide)) dJ7_fill_53178_13 ?_
  refine s_world (w2 := wb_94) rfl ?_
  refine s_iinc (v := 58) (L2 := [some (AR 71), some (AI (-1)), some (AI 58), some (AI 90)]) E dJ7_fill_53178_14 rfl (by decide) (by decide) rfl ?_
  refine s_goto (tgt := 5) E dJ7_fill_53178_17 (by decide) ?_
  refine s_iload_n E dJ7_fill_53178_5 rfl rfl ?_
  refine s_iload_n E dJ7_fill_53178_6 rfl rfl ?_
  refine s_icmp_ge (tgt := 20) E dJ7_fill_53178_7 (by decide) (fun hh => absurd hh (by decide)) (fun _ => ?_)
  refine s_aload_n E dJ7_fill_53178_10 rfl rfl ?_
  refine s_iload_n E dJ7_fill_53178_11 rfl rfl ?_
  refine s_iload_n E dJ7_fill_53178_12 rfl rfl ?_
  refine s_iast E rfl (by decide +kernel) (vp_c (by decide)) dJ7_fill_53178_13 ?_
  refine s_world (w2 := wb_95) rfl ?_
  refine s_iinc (v := 59) (L2 := [some (AR 71), some (AI (-1)), some (AI 59), some (AI 90)]) E dJ7_fill_53178_14 rfl (by decide) (by decide) rfl ?_
  refine s_goto (tgt := 5) E dJ7_fill_53178_17 (by decide) ?_
  refine s_iload_n E dJ7_fill_53178_5 rfl rfl ?_
  refine s_iload_n E dJ7_fill_53178_6 rfl rfl ?_
  refine s_icmp_ge (tgt := 20) E dJ7_fill_53178_7 (by decide) (fun hh => absurd hh (by decide)) (fun _ => ?_)
  refine s_aload_n E dJ7_fill_53178_10 rfl rfl ?_
  refine s_iload_n E dJ7_fill_53178_11 rfl rfl ?_
  refine s_iload_n E dJ7_fill_53178_12 rfl rfl ?_
  refine s_iast E rfl (by decide +kernel) (vp_c (by decide)) dJ7_fill_53178_13 ?_
  refine s_world (w2 := wb_96) rfl ?_
  refine s_iinc (v := 60) (L2 := [some (AR 71), some (AI (-1)), some (AI 60), some (AI 90)]) E dJ7_fill_53178_14 rfl (by decide) (by decide) rfl ?_
  refine s_goto (tgt := 5) E dJ7_fill_53178_17 (by decide) ?_
  refine s_iload_n E dJ7_fill_53178_5 rfl rfl ?_
  refine s_iload_n E dJ7_fill_53178_6 rfl rfl ?_
  refine s_icmp_ge (tgt := 20) E dJ7_fill_53178_7 (by decide) (fun hh => absurd hh (by decide)) (fun _ => ?_)
  refine s_aload_n E dJ7_fill_53178_10 rfl rfl ?_
  refine s_iload_n E dJ7_fill_53178_11 rfl rfl ?_
  refine s_iload_n E dJ7_fill_53178_12 rfl rfl ?_
  refine s_iast E rfl (by decide +kernel) (vp_c (by decide)) dJ7_fill_53178_13 ?_
  refine s_world (w2 := wb_97) rfl ?_
  refine s_iinc (v := 61) (L2 := [some (AR 71), some (AI (-1)), some (AI 61), some (AI 90)]) E dJ7_fill_53178_14 rfl (by decide) (by decide) rfl ?_
  refine s_goto (tgt := 5) E dJ7_fill_53178_17 (by decide) ?_
  refine s_iload_n E dJ7_fill_53178_5 rfl rfl ?_
  refine s_iload_n E dJ7_fill_53178_6 rfl rfl ?_
  refine s_icmp_ge (tgt := 20) E dJ7_fill_53178_7 (by decide) (fun hh => absurd hh (by decide)) (fun _ => ?_)
  refine s_aload_n E dJ7_fill_53178_10 rfl rfl ?_
  refine s_iload_n E dJ7_fill_53178_11 rfl rfl ?_
  refine s_iload_n E dJ7_fill_53178_12 rfl rfl ?_
  refine s_iast E rfl (by decide +kernel) (vp_c (by decide)) dJ7_fill_53178_13 ?_
  refine s_world (w2 := wb_98) rfl ?_
  refine s_iinc (v := 62) (L2 := [some (AR 71), some (AI (-1)), some (AI 62), some (AI 90)]) E dJ7_fill_53178_14 rfl (by decide) (by decide) rfl ?_
  refine s_goto (tgt := 5) E dJ7_fill_53178_17 (by decide) ?_
  refine s_iload_n E dJ7_fill_53178_5 rfl rfl ?_
  refine s_iload_n E dJ7_fill_53178_6 rfl rfl ?_
  refine s_icmp_ge (tgt := 20) E dJ7_fill_53178_7 (by decide) (fun hh => absurd hh (by decide)) (fun _ => ?_)
  refine s_aload_n E dJ7_fill_53178_10 rfl rfl ?_
  refine s_iload_n E dJ7_fill_53178_11 rfl rfl ?_
  refine s_iload_n E dJ7_fill_53178_12 rfl rfl ?_
  refine s_iast E rfl (by decide +kernel) (vp_c (by decide)) dJ7_fill_53178_13 ?_
  refine s_world (w2 := wb_99) rfl ?_
  refine s_iinc (v := 63) (L2 := [some (AR 71), some (AI (-1)), some (AI 63), some (AI 90)]) E dJ7_fill_53178_14 rfl (by decide) (by decide) rfl ?_
  refine s_goto (tgt := 5) E dJ7_fill_53178_17 (by decide) ?_
  refine s_iload_n E dJ7_fill_53178_5 rfl rfl ?_
  refine s_iload_n E dJ7_fill_53178_6 rfl rfl ?_
  refine s_icmp_ge (tgt := 20) E dJ7_fill_53178_7 (by decide) (fun hh => absurd hh (by decide)) (fun _ => ?_)
  refine s_aload_n E dJ7_fill_53178_10 rfl rfl ?_
  refine s_iload_n E dJ7_fill_53178_11 rfl rfl ?_
  refine s_iload_n E dJ7_fill_53178_12 rfl rfl ?_
  refine s_iast E rfl (by decide +kernel) (vp_c (by decide)) dJ7_fill_53178_13 ?_
  refine s_world (w2 := wb_100) rfl ?_
  refine s_iinc (v := 64) (L2 := [some (AR 71), some (AI (-1)), some (AI 64), some (AI 90)]) E dJ7_fill_53178_14 rfl (by decide) (by decide) rfl ?_
  refine s_goto (tgt := 5) E dJ7_fill_53178_17 (by decide) ?_
  refine s_iload_n E dJ7_fill_53178_5 rfl rfl ?_
  refine s_iload_n E dJ7_fill_53178_6 rfl rfl ?_
  refine s_icmp_ge (tgt := 20) E dJ7_fill_53178_7 (by decide) (fun hh => absurd hh (by decide)) (fun _ => ?_)
  refine s_aload_n E dJ7_fill_53178_10 rfl rfl ?_
  refine s_iload_n E dJ7_fill_53178_11 rfl rfl ?_
  refine s_iload_n E dJ7_fill_53178_12 rfl rfl ?_
  refine s_iast E rfl (by decide +kernel) (vp_c (by decide)) dJ7_fill_53178_13 ?_
  refine s_world (w2 := wb_101) rfl ?_
  refine s_iinc (v := 65) (L2 := [some (AR 71), some (AI (-1)), some (AI 65), some (AI 90)]) E dJ7_fill_53178_14 rfl (by decide) (by decide) rfl ?_
  refine s_goto (tgt := 5) E dJ7_fill_53178_17 (by decide) ?_
  refine s_iload_n E dJ7_fill_53178_5 rfl rfl ?_
  refine s_iload_n E dJ7_fill_53178_6 rfl rfl ?_
  refine s_icmp_ge (tgt := 20) E dJ7_fill_53178_7 (by decide) (fun hh => absurd hh (by decide)) (fun _ => ?_)
  refine s_aload_n E dJ7_fill_53178_10 rfl rfl ?_
  refine s_iload_n E dJ7_fill_53178_11 rfl rfl ?_
  refine s_iload_n E dJ7_fill_53178_12 rfl rfl ?_
  refine s_iast E rfl (by decide +kernel) (vp_c (by decide)) dJ7_fill_53178_13 ?_
  refine s_world (w2 := wb_102) rfl ?_
  refine s_iinc (v := 66) (L2 := [some (AR 71), some (AI (-1)), some (AI 66), some (AI 90)]) E dJ7_fill_53178_14 rfl (by decide) (by decide) rfl ?_
  refine s_goto (tgt := 5) E dJ7_fill_53178_17 (by decide) ?_
  refine s_iload_n E dJ7_fill_53178_5 rfl rfl ?_
  refine s_iload_n E dJ7_fill_53178_6 rfl rfl ?_
  refine s_icmp_ge (tgt := 20) E dJ7_fill_53178_7 (by decide) (fun hh => absurd hh (by decide)) (fun _ => ?_)
  refine s_aload_n E dJ7_fill_53178_10 rfl rfl ?_
  refine s_iload_n E dJ7_fill_53178_11 rfl rfl ?_
  refine s_iload_n E dJ7_fill_53178_12 rfl rfl ?_
  refine s_iast E rfl (by decide +kernel) (vp_c (by decide)) dJ7_fill_53178_13 ?_
  refine s_world (w2 := wb_103) rfl ?_
  refine s_iinc (v := 67) (L2 := [some (AR 71), some (AI (-1)), some (AI 67), some (AI 90)]) E dJ7_fill_53178_14 rfl (by decide) (by decide) rfl ?_
  refine s_goto (tgt := 5) E dJ7_fill_53178_17 (by decide) ?_
  refine s_iload_n E dJ7_fill_53178_5 rfl rfl ?_
  refine s_iload_n E dJ7_fill_53178_6 rfl rfl ?_
  refine s_icmp_ge (tgt := 20) E dJ7_fill_53178_7 (by decide) (fun hh => absurd hh (by decide)) (fun _ => ?_)
  refine s_aload_n E dJ7_fill_53178_10 rfl rfl ?_
  refine s_iload_n E dJ7_fill_53178_11 rfl rfl ?_
  refine s_iload_n E dJ7_fill_53178_12 rfl rfl ?_
  refine s_iast E rfl (by decide +kernel) (vp_c (by decide)) dJ7_fill_53178_13 ?_
  refine s_world (w2 := wb_104) rfl ?_
  refine s_iinc (v := 68) (L2 := [some (AR 71), some (AI (-1)), some (AI 68), some (AI 90)]) E dJ7_fill_53178_14 rfl (by decide) (by decide) rfl ?_
  refine s_goto (tgt := 5) E dJ7_fill_53178_17 (by decide) ?_
  refine s_iload_n E dJ7_fill_53178_5 rfl rfl ?_
  refine s_iload_n E dJ7_fill_53178_6 rfl rfl ?_
  refine s_icmp_ge (tgt := 20) E dJ7_fill_53178_7 (by decide) (fun hh => absurd hh (by decide)) (fun _ => ?_)
  refine s_aload_n E dJ7_fill_53178_10 rfl rfl ?_
  refine s_iload_n E dJ7_fill_53178_11 rfl rfl ?_
  refine s_iload_n E dJ7_fill_53178_12 rfl rfl ?_
  refine s_iast E rfl (by decide +kernel) (vp_c (by decide)) dJ7_fill_53178_13 ?_
  refine s_world (w2 := wb_105) rfl ?_
  refine s_iinc (v := 69) (L2 := [some (AR 71), some (AI (-1)), some (AI 69), some (AI 90)]) E dJ7_fill_53178_14 rfl (by decide) (by decide) rfl ?_
  refine s_goto (tgt := 5) E dJ7_fill_53178_17 (by decide) ?_
  refine s_iload_n E dJ7_fill_53178_5 rfl rfl ?_
  refine s_iload_n E dJ7_fill_53178_6 rfl rfl ?_
  refine s_icmp_ge (tgt := 20) E dJ7_fill_53178_7 (by decide) (fun hh => absurd hh (by decide)) (fun _ => ?_)
  refine s_aload_n E dJ7_fill_53178_10 rfl rfl ?_
  refine s_iload_n E dJ7_fill_53178_11 rfl rfl ?_
  refine s_iload_n E dJ7_fill_53178_12 rfl rfl ?_
  refine s_iast E rfl (by decide +kernel) (vp_c (by decide)) dJ7_fill_53178_13 ?_
  refine s_world (w2 := wb_106) rfl ?_
  refine s_iinc (v := 70) (L2 := [some (AR 71), some (AI (-1)), some (AI 70), some (AI 90)]) E dJ7_fill_53178_14 rfl (by decide) (by decide) rfl ?_
  refine s_goto (tgt := 5) E dJ7_fill_53178_17 (by decide) ?_
  refine s_iload_n E dJ7_fill_53178_5 rfl rfl ?_
  refine s_iload_n E dJ7_fill_53178_6 rfl rfl ?_
  refine s_icmp_ge (tgt := 20) E dJ7_fill_53178_7 (by decide) (fun hh => absurd hh (by decide)) (fun _ => ?_)
  refine s_aload_n E dJ7_fill_53178_10 rfl rfl ?_
  refine s_iload_n E dJ7_fill_53178_11 rfl rfl ?_
  refine s_iload_n E dJ7_fill_53178_12 rfl rfl ?_
  refine s_iast E rfl (by decide +kernel) (vp_c (by decide)) dJ7_fill_53178_13 ?_
  refine s_world (w2 := wb_107) rfl ?_
  refine s_iinc (v := 71) (L2 := [some (AR 71), some (AI (-1)), some (AI 71), some (AI 90)]) E dJ7_fill_53178_14 rfl (by decide) (by decide) rfl ?_
  refine s_goto (tgt := 5) E dJ7_fill_53178_17 (by decide) ?_
  refine s_iload_n E dJ7_fill_53178_5 rfl rfl ?_
  refine s_iload_n E dJ7_fill_53178_6 rfl rfl ?_
  refine s_icmp_ge (tgt := 20) E dJ7_fill_53178_7 (by decide) (fun hh => absurd hh (by decide)) (fun _ => ?_)
  refine s_aload_n E dJ7_fill_53178_10 rfl rfl ?_
  refine s_iload_n E dJ7_fill_53178_11 rfl rfl ?_
  refine s_iload_n E dJ7_fill_53178_12 rfl rfl ?_
  refine s_iast E rfl (by decide +kernel) (vp_c (by decide)) dJ7_fill_53178_13 ?_
  refine s_world (w2 := wb_108) rfl ?_
  refine s_iinc (v := 72) (L2 := [some (AR 71), some (AI (-1)), some (AI 72), some (AI 90)]) E dJ7_fill_53178_14 rfl (by decide) (by decide) rfl ?_
  refine s_goto (tgt := 5) E dJ7_fill_53178_17 (by decide) ?_
  refine s_iload_n E dJ7_fill_53178_5 rfl rfl ?_
  refine s_iload_n E dJ7_fill_53178_6 rfl rfl ?_
  refine s_icmp_ge (tgt := 20) E dJ7_fill_53178_7 (by decide) (fun hh => absurd hh (by decide)) (fun _ => ?_)
  refine s_aload_n E dJ7_fill_53178_10 rfl rfl ?_
  refine s_iload_n E dJ7_fill_53178_11 rfl rfl ?_
  refine s_iload_n E dJ7_fill_53178_12 rfl rfl ?_
  refine s_iast E rfl (by decide +kernel) (vp_c (by decide)) dJ7_fill_53178_13 ?_
  refine s_world (w2 := wb_109) rfl ?_
  refine s_iinc (v := 73) (L2 := [some (AR 71), some (AI (-1)), some (AI 73), some (AI 90)]) E dJ7_fill_53178_14 rfl (by decide) (by decide) rfl ?_
  refine s_goto (tgt := 5) E dJ7_fill_53178_17 (by decide) ?_
  refine s_iload_n E dJ7_fill_53178_5 rfl rfl ?_
  refine s_iload_n E dJ7_fill_53178_6 rfl rfl ?_
  refine s_icmp_ge (tgt := 20) E dJ7_fill_53178_7 (by decide) (fun hh => absurd hh (by decide)) (fun _ => ?_)
  refine s_aload_n E dJ7_fill_53178_10 rfl rfl ?_
  refine s_iload_n E dJ7_fill_53178_11 rfl rfl ?_
  refine s_iload_n E dJ7_fill_53178_12 rfl rfl ?_
  refine s_iast E rfl (by decide +kernel) (vp_c (by decide)) dJ7_fill_53178_13 ?_
  refine s_world (w2 := wb_110) rfl ?_
  refine s_iinc (v := 74) (L2 := [some (AR 71), some (AI (-1)), some (AI 74), some (AI 90)]) E dJ7_fill_53178_14 rfl (by decide) (by decide) rfl ?_
  refine s_goto (tgt := 5) E dJ7_fill_53178_17 (by decide) ?_
  refine s_iload_n E dJ7_fill_53178_5 rfl rfl ?_
  refine s_iload_n E dJ7_fill_53178_6 rfl rfl ?_
  refine s_icmp_ge (tgt := 20) E dJ7_fill_53178_7 (by decide) (fun hh => absurd hh (by decide)) (fun _ => ?_)
  refine s_aload_n E dJ7_fill_53178_10 rfl rfl ?_
  refine s_iload_n E dJ7_fill_53178_11 rfl rfl ?_
  refine s_iload_n E dJ7_fill_53178_12 rfl rfl ?_
  refine s_iast E rfl (by decide +kernel) (vp_c (by decide)) dJ7_fill_53178_13 ?_
  refine s_world (w2 := wb_111) rfl ?_
  refine s_iinc (v := 75) (L2 := [some (AR 71), some (AI (-1)), some (AI 75), some (AI 90)]) E dJ7_fill_53178_14 rfl (by decide) (by decide) rfl ?_
  refine s_goto (tgt := 5) E dJ7_fill_53178_17 (by decide) ?_
  refine s_iload_n E dJ7_fill_53178_5 rfl rfl ?_
  refine s_iload_n E dJ7_fill_53178_6 rfl rfl ?_
  refine s_icmp_ge (tgt := 20) E dJ7_fill_53178_7 (by decide) (fun hh => absurd hh (by decide)) (fun _ => ?_)
  refine s_aload_n E dJ7_fill_53178_10 rfl rfl ?_
  refine s_iload_n E dJ7_fill_53178_11 rfl rfl ?_
  refine s_iload_n E dJ7_fill_53178_12 rfl rfl ?_
  refine s_iast E rfl (by decide +kernel) (vp_c (by decide)) dJ7_fill_53178_13 ?_
  refine s_world (w2 := wb_112) rfl ?_
  refine s_iinc (v := 76) (L2 := [some (AR 71), some (AI (-1)), some (AI 76), some (AI 90)]) E dJ7_fill_53178_14 rfl (by decide) (by decide) rfl ?_
  refine s_goto (tgt := 5) E dJ7_fill_53178_17 (by decide) ?_
  refine s_iload_n E dJ7_fill_53178_5 rfl rfl ?_
  refine s_iload_n E dJ7_fill_53178_6 rfl rfl ?_
  refine s_icmp_ge (tgt := 20) E dJ7_fill_53178_7 (by decide) (fun hh => absurd hh (by decide)) (fun _ => ?_)
  refine s_aload_n E dJ7_fill_53178_10 rfl rfl ?_
  refine s_iload_n E dJ7_fill_53178_11 rfl rfl ?_
  refine s_iload_n E dJ7_fill_53178_12 rfl rfl ?_
  refine s_iast E rfl (by decide +kernel) (vp_c (by decide)) dJ7_fill_53178_13 ?_
  refine s_world (w2 := wb_113) rfl ?_
  refine s_iinc (v := 77) (L2 := [some (AR 71), some (AI (-1)), some (AI 77), some (AI 90)]) E dJ7_fill_53178_14 rfl (by decide) (by decide) rfl ?_
  refine s_goto (tgt := 5) E dJ7_fill_53178_17 (by decide) ?_
  refine s_iload_n E dJ7_fill_53178_5 rfl rfl ?_
  refine s_iload_n E dJ7_fill_53178_6 rfl rfl ?_
  refine s_icmp_ge (tgt := 20) E dJ7_fill_53178_7 (by decide) (fun hh => absurd hh (by decide)) (fun _ => ?_)
  refine s_aload_n E dJ7_fill_53178_10 rfl rfl ?_
  refine s_iload_n E dJ7_fill_53178_11 rfl rfl ?_
  refine s_iload_n E dJ7_fill_53178_12 rfl rfl ?_
  refine s_iast E rfl (by decide +kernel) (vp_c (by decide)) dJ7_fill_53178_13 ?_
  refine s_world (w2 := wb_114) rfl ?_
  refine s_iinc (v := 78) (L2 := [some (AR 71), some (AI (-1)), some (AI 78), some (AI 90)]) E dJ7_fill_53178_14 rfl (by decide) (by decide) rfl ?_
  refine s_goto (tgt := 5) E dJ7_fill_53178_17 (by decide) ?_
  refine s_iload_n E dJ7_fill_53178_5 rfl rfl ?_
  refine s_iload_n E dJ7_fill_53178_6 rfl rfl ?_
  refine s_icmp_ge (tgt := 20) E dJ7_fill_53178_7 (by decide) (fun hh => absurd hh (by decide)) (fun _ => ?_)
  refine s_aload_n E dJ7_fill_53178_10 rfl rfl ?_
  refine s_iload_n E dJ7_fill_53178_11 rfl rfl ?_
  refine s_iload_n E dJ7_fill_53178_12 rfl rfl ?_
  refine s_iast E rfl (by decide +kernel) (vp_c (by decide)) dJ7_fill_53178_13 ?_
  refine s_world (w2 := wb_115) rfl ?_
  refine s_iinc (v := 79) (L2 := [some (AR 71), some (AI (-1)), some (AI 79), some (AI 90)]) E dJ7_fill_53178_14 rfl (by decide) (by decide) rfl ?_
  refine s_goto (tgt := 5) E dJ7_fill_53178_17 (by decide) ?_
  refine s_iload_n E dJ7_fill_53178_5 rfl rfl ?_
  refine s_iload_n E dJ7_fill_53178_6 rfl rfl ?_
  refine s_icmp_ge (tgt := 20) E dJ7_fill_53178_7 (by decide) (fun hh => absurd hh (by decide)) (fun _ => ?_)
  refine s_aload_n E dJ7_fill_53178_10 rfl rfl ?_
  refine s_iload_n E dJ7_fill_53178_11 rfl rfl ?_
  refine s_iload_n E dJ7_fill_53178_12 rfl rfl ?_
  refine s_iast E rfl (by decide +kernel) (vp_c (by decide)) dJ7_fill_53178_13 ?_
  refine s_world (w2 := wb_116) rfl ?_
  refine s_iinc (v := 80) (L2 := [some (AR 71), some (AI (-1)), some (AI 80), some (AI 90)]) E dJ7_fill_53178_14 rfl (by decide) (by decide) rfl ?_
  refine s_goto (tgt := 5) E dJ7_fill_53178_17 (by decide) ?_
  refine s_iload_n E dJ7_fill_53178_5 rfl rfl ?_
  refine s_iload_n E dJ7_fill_53178_6 rfl rfl ?_
  refine s_icmp_ge (tgt := 20) E dJ7_fill_53178_7 (by decide) (fun hh => absurd hh (by decide)) (fun _ => ?_)
  refine s_aload_n E dJ7_fill_53178_10 rfl rfl ?_
  refine s_iload_n E dJ7_fill_53178_11 rfl rfl ?_
  refine s_iload_n E dJ7_fill_53178_12 rfl rfl ?_
  refine s_iast E rfl (by decide +kernel) (vp_c (by decide)) dJ7_fill_53178_13 ?_
  refine s_world (w2 := wb_117) rfl ?_
  refine s_iinc (v := 81) (L2 := [some (AR 71), some (AI (-1)), some (AI 81), some (AI 90)]) E dJ7_fill_53178_14 rfl (by decide) (by decide) rfl ?_
  refine s_goto (tgt := 5) E dJ7_fill_53178_17 (by decide) ?_
  refine s_iload_n E dJ7_fill_53178_5 rfl rfl ?_
  refine s_iload_n E dJ7_fill_53178_6 rfl rfl ?_
  refine s_icmp_ge (tgt := 20) E dJ7_fill_53178_7 (by decide) (fun hh => absurd hh (by decide)) (fun _ => ?_)
  refine s_aload_n E dJ7_fill_53178_10 rfl rfl ?_
  refine s_iload_n E dJ7_fill_53178_11 rfl rfl ?_
  refine s_iload_n E dJ7_fill_53178_12 rfl rfl ?_
  refine s_iast E rfl (by decide +kernel) (vp_c (by decide)) dJ7_fill_53178_13 ?_
  refine s_world (w2 := wb_118) rfl ?_
  refine s_iinc (v := 82) (L2 := [some (AR 71), some (AI (-1)), some (AI 82), some (AI 90)]) E dJ7_fill_53178_14 rfl (by decide) (by decide) rfl ?_
  refine s_goto (tgt := 5) E dJ7_fill_53178_17 (by decide) ?_
  refine s_iload_n E dJ7_fill_53178_5 rfl rfl ?_
  refine s_iload_n E dJ7_fill_53178_6 rfl rfl ?_
  refine s_icmp_ge (tgt := 20) E dJ7_fill_53178_7 (by decide) (fun hh => absurd hh (by decide)) (fun _ => ?_)
  refine s_aload_n E dJ7_fill_53178_10 rfl rfl ?_
  refine s_iload_n E dJ7_fill_53178_11 rfl rfl ?_
  refine s_iload_n E dJ7_fill_53178_12 rfl rfl ?_
  refine s_iast E rfl (by decide +kernel) (vp_c (by decide)) dJ7_fill_53178_13 ?_
  refine s_world (w2 := wb_119) rfl ?_
  refine s_iinc (v := 83) (L2 := [some (AR 71), some (AI (-1)), some (AI 83), some (AI 90)]) E dJ7_fill_53178_14 rfl (by decide) (by decide) rfl ?_
  refine s_goto (tgt := 5) E dJ7_fill_53178_17 (by decide) ?_
  refine s_iload_n E dJ7_fill_53178_5 rfl rfl ?_
  refine s_iload_n E dJ7_fill_53178_6 rfl rfl ?_
  refine s_icmp_ge (tgt := 20) E dJ7_fill_53178_7 (by decide) (fun hh => absurd hh (by decide)) (fun _ => ?_)
  refine s_aload_n E dJ7_fill_53178_10 rfl rfl ?_
  refine s_iload_n E dJ7_fill_53178_11 rfl rfl ?_
  refine s_iload_n E dJ7_fill_53178_12 rfl rfl ?_
  refine s_iast E rfl (by decide +kernel) (vp_c (by decide)) dJ7_fill_53178_13 ?_
  refine s_world (w2 := wb_120) rfl ?_
  refine s_iinc (v := 84) (L2 := [some (AR 71), some (AI (-1)), some (AI 84), some (AI 90)]) E dJ7_fill_53178_14 rfl (by decide) (by decide) rfl ?_
  refine s_goto (tgt := 5) E dJ7_fill_53178_17 (by decide) ?_
  refine s_iload_n E dJ7_fill_53178_5 rfl rfl ?_
  refine s_iload_n E dJ7_fill_53178_6 rfl rfl ?_
  refine s_icmp_ge (tgt := 20) E dJ7_fill_53178_7 (by decide) (fun hh => absurd hh (by decide)) (fun _ => ?_)
  refine s_aload_n E dJ7_fill_53178_10 rfl rfl ?_
  refine s_iload_n E dJ7_fill_53178_11 rfl rfl ?_
  refine s_iload_n E dJ7_fill_53178_12 rfl rfl ?_
  refine s_iast E rfl (by decide +kernel) (vp_c (by decide)) dJ7_fill_53178_13 ?_
  refine s_world (w2 := wb_121) rfl ?_
  refine s_iinc (v := 85) (L2 := [some (AR 71), some (AI (-1)), some (AI 85), some (AI 90)]) E dJ7_fill_53178_14 rfl (by decide) (by decide) rfl ?_
  refine s_goto (tgt := 5) E dJ7_fill_53178_17 (by decide) ?_
  refine s_iload_n E dJ7_fill_53178_5 rfl rfl ?_
  refine s_iload_n E dJ7_fill_53178_6 rfl rfl ?_
  refine s_icmp_ge (tgt := 20) E dJ7_fill_53178_7 (by decide) (fun hh => absurd hh (by decide)) (fun _ => ?_)
  refine s_aload_n E dJ7_fill_53178_10 rfl rfl ?_
  refine s_iload_n E dJ7_fill_53178_11 rfl rfl ?_
  refine s_iload_n E dJ7_fill_53178_12 rfl rfl ?_
  refine s_iast E rfl (by decide +kernel) (vp_c (by decide)) dJ7_fill_53178_13 ?_
  refine s_world (w2 := wb_122) rfl ?_
  refine s_iinc (v := 86) (L2 := [some (AR 71), some (AI (-1)), some (AI 86), some (AI 90)]) E dJ7_fill_53178_14 rfl (by decide) (by decide) rfl ?_
  refine s_goto (tgt := 5) E dJ7_fill_53178_17 (by decide) ?_
  refine s_iload_n E dJ7_fill_53178_5 rfl rfl ?_
  refine s_iload_n E dJ7_fill_53178_6 rfl rfl ?_
  refine s_icmp_ge (tgt := 20) E dJ7_fill_53178_7 (by decide) (fun hh => absurd hh (by decide)) (fun _ => ?_)
  refine s_aload_n E dJ7_fill_53178_10 rfl rfl ?_
  refine s_iload_n E dJ7_fill_53178_11 rfl rfl ?_
  refine s_iload_n E dJ7_fill_53178_12 rfl rfl ?_
  refine s_iast E rfl (by decide +kernel) (vp_c (by decide)) dJ7_fill_53178_13 ?_
  refine s_world (w2 := wb_123) rfl ?_
  refine s_iinc (v := 87) (L2 := [some (AR 71), some (AI (-1)), some (AI 87), some (AI 90)]) E dJ7_fill_53178_14 rfl (by decide) (by decide) rfl ?_
  refine s_goto (tgt := 5) E dJ7_fill_53178_17 (by decide) ?_
  refine s_iload_n E dJ7_fill_53178_5 rfl rfl ?_
  refine s_iload_n E dJ7_fill_53178_6 rfl rfl ?_
  refine s_icmp_ge (tgt := 20) E dJ7_fill_53178_7 (by decide) (fun hh => absurd hh (by decide)) (fun _ => ?_)
  refine s_aload_n E dJ7_fill_53178_10 rfl rfl ?_
  refine s_iload_n E dJ7_fill_53178_11 rfl rfl ?_
  refine s_iload_n E dJ7_fill_53178_12 rfl rfl ?_
  refine s_iast E rfl (by decide +kernel) (vp_c (by decide)) dJ7_fill_53178_13 ?_
  refine s_world (w2 := wb_124) rfl ?_
  refine s_iinc (v := 88) (L2 := [some (AR 71), some (AI (-1)), some (AI 88), some (AI 90)]) E dJ7_fill_53178_14 rfl (by decide) (by decide) rfl ?_
  refine s_goto (tgt := 5) E dJ7_fill_53178_17 (by decide) ?_
  refine s_iload_n E dJ7_fill_53178_5 rfl rfl ?_
  refine s_iload_n E dJ7_fill_53178_6 rfl rfl ?_
  refine s_icmp_ge (tgt := 20) E dJ7_fill_53178_7 (by decide) (fun hh => absurd hh (by decide)) (fun _ => ?_)
  refine s_aload_n E dJ7_fill_53178_10 rfl rfl ?_
  refine s_iload_n E dJ7_fill_53178_11 rfl rfl ?_
  refine s_iload_n E dJ7_fill_53178_12 rfl rfl ?_
  refine s_iast E rfl (by decide +kernel) (vp_c (by decide)) dJ7_fill_53178_13 ?_
  refine s_world (w2 := wb_125) rfl ?_
  refine s_iinc (v := 89) (L2 := [some (AR 71), some (AI (-1)), some (AI 89), some (AI 90)]) E dJ7_fill_53178_14 rfl (by decide) (by decide) rfl ?_
  refine s_goto (tgt := 5) E dJ7_fill_53178_17 (by decide) ?_
  refine s_iload_n E dJ7_fill_53178_5 rfl rfl ?_
  refine s_iload_n E dJ7_fill_53178_6 rfl rfl ?_
  refine s_icmp_ge (tgt := 20) E dJ7_fill_53178_7 (by decide) (fun hh => absurd hh (by decide)) (fun _ => ?_)
  refine s_aload_n E dJ7_fill_53178_10 rfl rfl ?_
  refine s_iload_n E dJ7_fill_53178_11 rfl rfl ?_
  refine s_iload_n E dJ7_fill_53178_12 rfl rfl ?_
  refine s_iast E rfl (by decide +kernel) (vp_c (by decide)) dJ7_fill_53178_13 ?_
  refine s_world (w2 := wb_126) rfl ?_
  refine s_iinc (v := 90) (L2 := [some (AR 71), some (AI (-1)), some (AI 90), some (AI 90)]) E dJ7_fill_53178_14 rfl (by decide) (by decide) rfl ?_
  refine s_goto (tgt := 5) E dJ7_fill_53178_17 (by decide) ?_
  refine s_iload_n E dJ7_fill_53178_5 rfl rfl ?_
  refine s_iload_n E dJ7_fill_53178_6 rfl rfl ?_
  refine s_icmp_ge (tgt := 20) E dJ7_fill_53178_7 (by decide) (fun _ => ?_) (fun hh => absurd (by decide) hh)
  exact r_void E dJ7_fill_53178_20 rfl
set_option maxRecDepth 20000 in
set_option maxHeartbeats 2000000 in
theorem KB_19 (l : Launch) (D : va_G) (aC : Nat → ClassId) (b : Nat) : CnV l D aC b M_J7_fill_53178 0 0 0 0 [AR 72, AI (-1)] wb_126 (fun u => u = wb_216) := by
  refine cn_V (own := RJ7) (nm := "fill") (L0 := [some (AR 72), some (AI (-1)), none, none]) (by decide +kernel) rfl rfl (Nat.le_of_ble_eq_true rfl) rfl ?_
  intro p e s m args below meth c E hin
  refine s_iconst (v := 0) E dJ7_fill_53178_0 (by decide) ?_
  refine s_istore_n (L2 := [some (AR 72), some (AI (-1)), some (AI 0), none]) E dJ7_fill_53178_1 rfl (by decide) rfl ?_
  refine s_aload_n E dJ7_fill_53178_2 rfl rfl ?_
  refine s_alen (v := 90) E rfl (by decide) (by decide +kernel) (by decide) dJ7_fill_53178_3 ?_
  refine s_istore_n (L2 := [some (AR 72), some (AI (-1)), some (AI 0), some (AI 90)]) E dJ7_fill_53178_4 rfl (by decide) rfl ?_
  refine s_iload_n E dJ7_fill_53178_5 rfl rfl ?_
  refine s_iload_n E dJ7_fill_53178_6 rfl rfl ?_
  refine s_icmp_ge (tgt := 20) E dJ7_fill_53178_7 (by decide) (fun hh => absurd hh (by decide)) (fun _ => ?_)
  refine s_aload_n E dJ7_fill_53178_10 rfl rfl ?_
  refine s_iload_n E dJ7_fill_53178_11 rfl rfl ?_
  refine s_iload_n E dJ7_fill_53178_12 rfl rfl ?_
  refine s_iast E rfl (by decide +kernel) (vp_c (by decide)) dJ7_fill_53178_13 ?_
  refine s_world (w2 := wb_127) rfl ?_
  refine s_iinc (v := 1) (L2 := [some (AR 72), some (AI (-1)), some (AI 1), some (AI 90)]) E dJ7_fill_53178_14 rfl (by decide) (by decide) rfl ?_
  refine s_goto (tgt := 5) E dJ7_fill_53178_17 (by decide) ?_
  refine s_iload_n E dJ7_fill_53178_5 rfl rfl ?_
  refine s_iload_n E dJ7_fill_53178_6 rfl rfl ?_
  refine s_icmp_ge (tgt := 20) E dJ7_fill_53178_7 (by decide) (fun hh => absurd hh (by decide)) (fun _ => ?_)
  refine s_aload_n E dJ7_fill_53178_10 rfl rfl ?_
  refine s_iload_n E dJ7_fill_53178_11 rfl rfl ?_
  refine s_iload_n E dJ7_fill_53178_12 rfl rfl ?_
  refine s_iast E rfl (by decide +kernel) (vp_c (by decide)) dJ7_fill_53178_13 ?_
  refine s_world (w2 := wb_128) rfl ?_
  refine s_iinc (v := 2) (L2 := [some (AR 72), some (AI (-1)), some (AI 2), some (AI 90)]) E dJ7_fill_53178_14 rfl (by decide) (by decide) rfl ?_
  refine s_goto (tgt := 5) E dJ7_fill_53178_17 (by decide) ?_
  refine s_iload_n E dJ7_fill_53178_5 rfl rfl ?_
  refine s_iload_n E dJ7_fill_53178_6 rfl rfl ?_
  refine s_icmp_ge (tgt := 20) E dJ7_fill_53178_7 (by decide) (fun hh => absurd hh (by decide)) (fun _ => ?_)
  refine s_aload_n E dJ7_fill_53178_10 rfl rfl ?_
  refine s_iload_n E dJ7_fill_53178_11 rfl rfl ?_
  refine s_iload_n E dJ7_fill_53178_12 rfl rfl ?_
  refine s_iast E rfl (by decide +kernel) (vp_c (by decide)) dJ7_fill_53178_13 ?_
  refine s_world (w2 := wb_129) rfl ?_
  refine s_iinc (v := 3) (L2 := [some (AR 72), some (AI (-1)), some (AI 3), some (AI 90)]) E dJ7_fill_53178_14 rfl (by decide) (by decide) rfl ?_
  refine s_goto (tgt := 5) E dJ7_fill_53178_17 (by decide) ?_
  refine s_iload_n E dJ7_fill_53178_5 rfl rfl ?_
  refine s_iload_n E dJ7_fill_53178_6 rfl rfl ?_
  refine s_icmp_ge (tgt := 20) E dJ7_fill_53178_7 (by decide) (fun hh => absurd hh (by decide)) (fun _ => ?_)
  refine s_aload_n E dJ7_fill_53178_10 rfl rfl ?_
  refine s_iload_n E dJ7_fill_53178_11 rfl rfl ?_
  refine s_iload_n E dJ7_fill_53178_12 rfl rfl ?_
  refine s_iast E rfl (by decide +kernel) (vp_c (by decide)) dJ7_fill_53178_13 ?_
  refine s_world (w2 := wb_130) rfl ?_
  refine s_iinc (v := 4) (L2 := [some (AR 72), some (AI (-1)), some (AI 4), some (AI 90)]) E dJ7_fill_53178_14 rfl (by decide) (by decide) rfl ?_
  refine s_goto (tgt := 5) E dJ7_fill_53178_17 (by decide) ?_
  refine s_iload_n E dJ7_fill_53178_5 rfl rfl ?_
  refine s_iload_n E dJ7_fill_53178_6 rfl rfl ?_
  refine s_icmp_ge (tgt := 20) E dJ7_fill_53178_7 (by decide) (fun hh => absurd hh (by decide)) (fun _ => ?_)
  refine s_aload_n E dJ7_fill_53178_10 rfl rfl ?_
  refine s_iload_n E dJ7_fill_53178_11 rfl rfl ?_
  refine s_iload_n E dJ7_fill_53178_12 rfl rfl ?_
  refine s_iast E rfl (by decide +kernel) (vp_c (by decide)) dJ7_fill_53178_13 ?_
  refine s_world (w2 := wb_131) rfl ?_
  refine s_iinc (v := 5) (L2 := [some (AR 72), some (AI (-1)), some (AI 5), some (AI 90)]) E dJ7_fill_53178_14 rfl (by decide) (by decide) rfl ?_
  refine s_goto (tgt := 5) E dJ7_fill_53178_17 (by decide) ?_
  refine s_iload_n E dJ7_fill_53178_5 rfl rfl ?_
  refine s_iload_n E dJ7_fill_53178_6 rfl rfl ?_
  refine s_icmp_ge (tgt := 20) E dJ7_fill_53178_7 (by decide) (fun hh => absurd hh (by decide)) (fun _ => ?_)
  refine s_aload_n E dJ7_fill_53178_10 rfl rfl ?_
  refine s_iload_n E dJ7_fill_53178_11 rfl rfl ?_
  refine s_iload_n E dJ7_fill_53178_12 rfl rfl ?_
  refine s_iast E rfl (by decide +kernel) (vp_c (by decide)) dJ7_fill_53178_13 ?_
  refine s_world (w2 := wb_132) rfl ?_
  refine s_iinc (v := 6) (L2 := [some (AR 72), some (AI (-1)), some (AI 6), some (AI 90)]) E dJ7_fill_53178_14 rfl (by decide) (by decide) rfl ?_
  refine s_goto (tgt := 5) E dJ7_fill_53178_17 (by decide) ?_
  refine s_iload_n E dJ7_fill_53178_5 rfl rfl ?_
  refine s_iload_n E dJ7_fill_53178_6 rfl rfl ?_
  refine s_icmp_ge (tgt := 20) E dJ7_fill_53178_7 (by decide) (fun hh => absurd hh (by decide)) (fun _ => ?_)
  refine s_aload_n E dJ7_fill_53178_10 rfl rfl ?_
  refine s_iload_n E dJ7_fill_53178_11 rfl rfl ?_
  refine s_iload_n E dJ7_fill_53178_12 rfl rfl ?_
  refine s_iast E rfl (by decide +kernel) (vp_c (by decide)) dJ7_fill_53178_13 ?_
  refine s_world (w2 := wb_133) rfl ?_
  refine s_iinc (v := 7) (L2 := [some (AR 72), some (AI (-1)), some (AI 7), some (AI 90)]) E dJ7_fill_53178_14 rfl (by decide) (by decide) rfl ?_
  refine s_goto (tgt := 5) E dJ7_fill_53178_17 (by decide) ?_
  refine s_iload_n E dJ7_fill_53178_5 rfl rfl ?_
  refine s_iload_n E dJ7_fill_53178_6 rfl rfl ?_
  refine s_icmp_ge (tgt := 20) E dJ7_fill_53178_7 (by decide) (fun hh => absurd hh (by decide)) (fun _ => ?_)
  refine s_aload_n E dJ7_fill_53178_10 rfl rfl ?_
  refine s_iload_n E dJ7_fill_53178_11 rfl rfl ?_
  refine s_iload_n E dJ7_fill_53178_12 rfl rfl ?_
  refine s_iast E rfl (by decide +kernel) (vp_c (by decide)) dJ7_fill_53178_13 ?_
  refine s_world (w2 := wb_134) rfl ?_
  refine s_iinc (v := 8) (L2 := [some (AR 72), some (AI (-1)), some (AI 8), some (AI 90)]) E dJ7_fill_53178_14 rfl (by decide) (by decide) rfl ?_
  refine s_goto (tgt := 5) E dJ7_fill_53178_17 (by decide) ?_
  refine s_iload_n E dJ7_fill_53178_5 rfl rfl ?_
  refine s_iload_n E dJ7_fill_53178_6 rfl rfl ?_
  refine s_icmp_ge (tgt := 20) E dJ7_fill_53178_7 (by decide) (fun hh => absurd hh (by decide)) (fun _ => ?_)
  refine s_aload_n E dJ7_fill_53178_10 rfl rfl ?_
  refine s_iload_n E dJ7_fill_53178_11 rfl rfl ?_
  refine s_iload_n E dJ7_fill_53178_12 rfl rfl ?_
  refine s_iast E rfl (by decide +kernel) (vp_c (by decide)) dJ7_fill_53178_13 ?_
  refine s_world (w2 := wb_135) rfl ?_
  refine s_iinc (v := 9) (L2 := [some (AR 72), some (AI (-1)), some (AI 9), some (AI 90)]) E dJ7_fill_53178_14 rfl (by decide) (by decide) rfl ?_
  refine s_goto (tgt := 5) E dJ7_fill_53178_17 (by decide) ?_
  refine s_iload_n E dJ7_fill_53178_5 rfl rfl ?_
  refine s_iload_n E dJ7_fill_53178_6 rfl rfl ?_
  refine s_icmp_ge (tgt := 20) E dJ7_fill_53178_7 (by decide) (fun hh => absurd hh (by decide)) (fun _ => ?_)
  refine s_aload_n E dJ7_fill_53178_10 rfl rfl ?_
  refine s_iload_n E dJ7_fill_53178_11 rfl rfl ?_
  refine s_iload_n E dJ7_fill_53178_12 rfl rfl ?_
  refine s_iast E rfl (by decide +kernel) (vp_c (by decide)) dJ7_fill_53178_13 ?_
  refine s_world (w2 := wb_136) rfl ?_
  refine s_iinc (v := 10) (L2 := [some (AR 72), some (AI (-1)), some (AI 10), some (AI 90)]) E dJ7_fill_53178_14 rfl (by decide) (by decide) rfl ?_
  refine s_goto (tgt := 5) E dJ7_fill_53178_17 (by decide) ?_
  refine s_iload_n E dJ7_fill_53178_5 rfl rfl ?_
  refine s_iload_n E dJ7_fill_53178_6 rfl rfl ?_
  refine s_icmp_ge (tgt := 20) E dJ7_fill_53178_7 (by decide) (fun hh => absurd hh (by decide)) (fun _ => ?_)
  refine s_aload_n E dJ7_fill_53178_10 rfl rfl ?_
  refine s_iload_n E dJ7_fill_53178_11 rfl rfl ?_
  refine s_iload_n E dJ7_fill_53178_12 rfl rfl ?_
  refine s_iast E rfl (by decide +kernel) (vp_c (by decide)) dJ7_fill_53178_13 ?_
  refine s_world (w2 := wb_137) rfl ?_
  refine s_iinc (v := 11) (L2 := [some (AR 72), some (AI (-1)), some (AI 11), some (AI 90)]) E dJ7_fill_53178_14 rfl (by decide) (by decide) rfl ?_
  refine s_goto (tgt := 5) E dJ7_fill_53178_17 (by decide) ?_
  refine s_iload_n E dJ7_fill_53178_5 rfl rfl ?_
  refine s_iload_n E dJ7_fill_53178_6 rfl rfl ?_
  refine s_icmp_ge (tgt := 20) E dJ7_fill_53178_7 (by decide) (fun hh => absurd hh (by decide)) (fun _ => ?_)
  refine s_aload_n E dJ7_fill_53178_10 rfl rfl ?_
  refine s_iload_n E dJ7_fill_53178_11 rfl rfl ?_
  refine s_iload_n E dJ7_fill_53178_12 rfl rfl ?_
  refine s_iast E rfl (by decide +kernel) (vp_c (by decide)) dJ7_fill_53178_13 ?_
  refine s_world (w2 := wb_138) rfl ?_
  refine s_iinc (v := 12) (L2 := [some (AR 72), some (AI (-1)), some (AI 12), some (AI 90)]) E dJ7_fill_53178_14 rfl (by decide) (by decide) rfl ?_
  refine s_goto (tgt := 5) E dJ7_fill_53178_17 (by decide) ?_
  refine s_iload_n E dJ7_fill_53178_5 rfl rfl ?_
  refine s_iload_n E dJ7_fill_53178_6 rfl rfl ?_
  refine s_icmp_ge (tgt := 20) E dJ7_fill_53178_7 (by decide) (fun hh => absurd hh (by decide)) (fun _ => ?_)
  refine s_aload_n E dJ7_fill_53178_10 rfl rfl ?_
  refine s_iload_n E dJ7_fill_53178_11 rfl rfl ?_
  refine s_iload_n E dJ7_fill_53178_12 rfl rfl ?_
  refine s_iast E rfl (by decide +kernel) (vp_c (by decide)) dJ7_fill_53178_13 ?_
  refine s_world (w2 := wb_139) rfl ?_
  refine s_iinc (v := 13) (L2 := [some (AR 72), some (AI (-1)), some (AI 13), some (AI 90)]) E dJ7_fill_53178_14 rfl (by decide) (by decide) rfl ?_
  refine s_goto (tgt := 5) E dJ7_fill_53178_17 (by decide) ?_
  refine s_iload_n E dJ7_fill_53178_5 rfl rfl ?_
  refine s_iload_n E dJ7_fill_53178_6 rfl rfl ?_
  refine s_icmp_ge (tgt := 20) E dJ7_fill_53178_7 (by decide) (fun hh => absurd hh (by decide)) (fun _ => ?_)
  refine s_aload_n E dJ7_fill_53178_10 rfl rfl ?_
  refine s_iload_n E dJ7_fill_53178_11 rfl rfl ?_
  refine s_iload_n E dJ7_fill_53178_12 rfl rfl ?_
  refine s_iast E rfl (by decide +kernel) (vp_c (by decide)) dJ7_fill_53178_13 ?_
  refine s_world (w2 := wb_140) rfl ?_
  refine s_iinc (v := 14) (L2 := [some (AR 72), some (AI (-1)), some (AI 14), some (AI 90)]) E dJ7_fill_53178_14 rfl (by decide) (by decide) rfl ?_
  refine s_goto (tgt := 5) E dJ7_fill_53178_17 (by decide) ?_
  refine s_iload_n E dJ7_fill_53178_5 rfl rfl ?_
  refine s_iload_n E dJ7_fill_53178_6 rfl rfl ?_
  refine s_icmp_ge (tgt := 20) E dJ7_fill_53178_7 (by decide) (fun hh => absurd hh (by decide)) (fun _ => ?_)
  refine s_aload_n E dJ7_fill_53178_10 rfl rfl ?_
  refine s_iload_n E dJ7_fill_53178_11 rfl rfl ?_
  refine s_iload_n E dJ7_fill_53178_12 rfl rfl ?_
  refine s_iast E rfl (by decide +kernel) (vp_c (by decide)) dJ7_fill_53178_13 ?_
  refine s_world (w2 := wb_141) rfl ?_
  refine s_iinc (v := 15) (L2 := [some (AR 72), some (AI (-1)), some (AI 15), some (AI 90)]) E dJ7_fill_53178_14 rfl (by decide) (by decide) rfl ?_
  refine s_goto (tgt := 5) E dJ7_fill_53178_17 (by decide) ?_
  refine s_iload_n E dJ7_fill_53178_5 rfl rfl ?_
  refine s_iload_n E dJ7_fill_53178_6 rfl rfl ?_
  refine s_icmp_ge (tgt := 20) E dJ7_fill_53178_7 (by decide) (fun hh => absurd hh (by decide)) (fun _ => ?_)
  refine s_aload_n E dJ7_fill_53178_10 rfl rfl ?_
  refine s_iload_n E dJ7_fill_53178_11 rfl rfl ?_
  refine s_iload_n E dJ7_fill_53178_12 rfl rfl ?_
  refine s_iast E rfl (by decide +kernel) (vp_c (by decide)) dJ7_fill_53178_13 ?_
  refine s_world (w2 := wb_142) rfl ?_
  refine s_iinc (v := 16) (L2 := [some (AR 72), some (AI (-1)), some (AI 16), some (AI 90)]) E dJ7_fill_53178_14 rfl (by decide) (by decide) rfl ?_
  refine s_goto (tgt := 5) E dJ7_fill_53178_17 (by decide) ?_
  refine s_iload_n E dJ7_fill_53178_5 rfl rfl ?_
  refine s_iload_n E dJ7_fill_53178_6 rfl rfl ?_
  refine s_icmp_ge (tgt := 20) E dJ7_fill_53178_7 (by decide) (fun hh => absurd hh (by decide)) (fun _ => ?_)
  refine s_aload_n E dJ7_fill_53178_10 rfl rfl ?_
  refine s_iload_n E dJ7_fill_53178_11 rfl rfl ?_
  refine s_iload_n E dJ7_fill_53178_12 rfl rfl ?_
  refine s_iast E rfl (by decide +kernel) (vp_c (by decide)) dJ7_fill_53178_13 ?_
  refine s_world (w2 := wb_143) rfl ?_
  refine s_iinc (v := 17) (L2 := [some (AR 72), some (AI (-1)), some (AI 17), some (AI 90)]) E dJ7_fill_53178_14 rfl (by decide) (by decide) rfl ?_
  refine s_goto (tgt := 5) E dJ7_fill_53178_17 (by decide) ?_
  refine s_iload_n E dJ7_fill_53178_5 rfl rfl ?_
  refine s_iload_n E dJ7_fill_53178_6 rfl rfl ?_
  refine s_icmp_ge (tgt := 20) E dJ7_fill_53178_7 (by decide) (fun hh => absurd hh (by decide)) (fun _ => ?_)
  refine s_aload_n E dJ7_fill_53178_10 rfl rfl ?_
  refine s_iload_n E dJ7_fill_53178_11 rfl rfl ?_
  refine s_iload_n E dJ7_fill_53178_12 rfl rfl ?_
  refine s_iast E rfl (by decide +kernel) (vp_c (by decide)) dJ7_fill_53178_13 ?_
  refine s_world (w2 := wb_144) rfl ?_
  refine s_iinc (v := 18) (L2 := [some (AR 72), some (AI (-1)), some (AI 18), some (AI 90)]) E dJ7_fill_53178_14 rfl (by decide) (by decide) rfl ?_
  refine s_goto (tgt := 5) E dJ7_fill_53178_17 (by decide) ?_
  refine s_iload_n E dJ7_fill_53178_5 rfl rfl ?_
  refine s_iload_n E dJ7_fill_53178_6 rfl rfl ?_
  refine s_icmp_ge (tgt := 20) E dJ7_fill_53178_7 (by decide) (fun hh => absurd hh (by decide)) (fun _ => ?_)
  refine s_aload_n E dJ7_fill_53178_10 rfl rfl ?_
  refine s_iload_n E dJ7_fill_53178_11 rfl rfl ?_
  refine s_iload_n E dJ7_fill_53178_12 rfl rfl ?_
  refine s_iast E rfl (by decide +kernel) (vp_c (by decide)) dJ7_fill_53178_13 ?_
  refine s_world (w2 := wb_145) rfl ?_
  refine s_iinc (v := 19) (L2 := [some (AR 72), some (AI (-1)), some (AI 19), some (AI 90)]) E dJ7_fill_53178_14 rfl (by decide) (by decide) rfl ?_
  refine s_goto (tgt := 5) E dJ7_fill_53178_17 (by decide) ?_
  refine s_iload_n E dJ7_fill_53178_5 rfl rfl ?_
  refine s_iload_n E dJ7_fill_53178_6 rfl rfl ?_
  refine s_icmp_ge (tgt := 20) E dJ7_fill_53178_7 (by decide) (fun hh => absurd hh (by decide)) (fun _ => ?_)
  refine s_aload_n E dJ7_fill_53178_10 rfl rfl ?_
  refine s_iload_n E dJ7_fill_53178_11 rfl rfl ?_
  refine s_iload_n E dJ7_fill_53178_12 rfl rfl ?_
  refine s_iast E rfl (by decide +kernel) (vp_c (by decide)) dJ7_fill_53178_13 ?_
  refine s_world (w2 := wb_146) rfl ?_
  refine s_iinc (v := 20) (L2 := [some (AR 72), some (AI (-1)), some (AI 20), some (AI 90)]) E dJ7_fill_53178_14 rfl (by decide) (by decide) rfl ?_
  refine s_goto (tgt := 5) E dJ7_fill_53178_17 (by decide) ?_
  refine s_iload_n E dJ7_fill_53178_5 rfl rfl ?_
  refine s_iload_n E dJ7_fill_53178_6 rfl rfl ?_
  refine s_icmp_ge (tgt := 20) E dJ7_fill_53178_7 (by decide) (fun hh => absurd hh (by decide)) (fun _ => ?_)
  refine s_aload_n E dJ7_fill_53178_10 rfl rfl ?_
  refine s_iload_n E dJ7_fill_53178_11 rfl rfl ?_
  refine s_iload_n E dJ7_fill_53178_12 rfl rfl ?_
  refine s_iast E rfl (by decide +kernel) (vp_c (by decide)) dJ7_fill_53178_13 ?_
  refine s_world (w2 := wb_147) rfl ?_
  refine s_iinc (v := 21) (L2 := [some (AR 72), some (AI (-1)), some (AI 21), some (AI 90)]) E dJ7_fill_53178_14 rfl (by decide) (by decide) rfl ?_
  refine s_goto (tgt := 5) E dJ7_fill_53178_17 (by decide) ?_
  refine s_iload_n E dJ7_fill_53178_5 rfl rfl ?_
  refine s_iload_n E dJ7_fill_53178_6 rfl rfl ?_
  refine s_icmp_ge (tgt := 20) E dJ7_fill_53178_7 (by decide) (fun hh => absurd hh (by decide)) (fun _ => ?_)
  refine s_aload_n E dJ7_fill_53178_10 rfl rfl ?_
  refine s_iload_n E dJ7_fill_53178_11 rfl rfl ?_
  refine s_iload_n E dJ7_fill_53178_12 rfl rfl ?_
  refine s_iast E rfl (by decide +kernel) (vp_c (by decide)) dJ7_fill_53178_13 ?_
  refine s_world (w2 := wb_148) rfl ?_
  refine s_iinc (v := 22) (L2 := [some (AR 72), some (AI (-1)), some (AI 22), some (AI 90)]) E dJ7_fill_53178_14 rfl (by decide) (by decide) rfl ?_
  refine s_goto (tgt := 5) E dJ7_fill_53178_17 (by decide) ?_
  refine s_iload_n E dJ7_fill_53178_5 rfl rfl ?_
  refine s_iload_n E dJ7_fill_53178_6 rfl rfl ?_
  refine s_icmp_ge (tgt := 20) E dJ7_fill_53178_7 (by decide) (fun hh => absurd hh (by decide)) (fun _ => ?_)
  refine s_aload_n E dJ7_fill_53178_10 rfl rfl ?_
  refine s_iload_n E dJ7_fill_53178_11 rfl rfl ?_
  refine s_iload_n E dJ7_fill_53178_12 rfl rfl ?_
  refine s_iast E rfl (by decide +kernel) (vp_c (by decide)) dJ7_fill_53178_13 ?_
  refine s_world (w2 := wb_149) rfl ?_
  refine s_iinc (v := 23) (L2 := [some (AR 72), some (AI (-1)), some (AI 23), some (AI 90)]) E dJ7_fill_53178_14 rfl (by decide) (by decide) rfl ?_
  refine s_goto (tgt := 5) E dJ7_fill_53178_17 (by decide) ?_
  refine s_iload_n E dJ7_fill_53178_5 rfl rfl ?_
  refine s_iload_n E dJ7_fill_53178_6 rfl rfl ?_
  refine s_icmp_ge (tgt := 20) E dJ7_fill_53178_7 (by decide) (fun hh => absurd hh (by decide)) (fun _ => ?_)
  refine s_aload_n E dJ7_fill_53178_10 rfl rfl ?_
  refine s_iload_n E dJ7_fill_53178_11 rfl rfl ?_
  refine s_iload_n E dJ7_fill_53178_12 rfl rfl ?_
  refine s_iast E rfl (by decide +kernel) (vp_c (by decide)) dJ7_fill_53178_13 ?_
  refine s_world (w2 := wb_150) rfl ?_
  refine s_iinc (v := 24) (L2 := [some (AR 72), some (AI (-1)), some (AI 24), some (AI 90)]) E dJ7_fill_53178_14 rfl (by decide) (by decide) rfl ?_
  refine s_goto (tgt := 5) E dJ7_fill_53178_17 (by decide) ?_
  refine s_iload_n E dJ7_fill_53178_5 rfl rfl ?_
  refine s_iload_n E dJ7_fill_53178_6 rfl rfl ?_
  refine s_icmp_ge (tgt := 20) E dJ7_fill_53178_7 (by decide) (fun hh => absurd hh (by decide)) (fun _ => ?_)
  refine s_aload_n E dJ7_fill_53178_10 rfl rfl ?_
  refine s_iload_n E dJ7_fill_53178_11 rfl rfl ?_
  refine s_iload_n E dJ7_fill_53178_12 rfl rfl ?_
  refine s_iast E rfl (by decide +kernel) (vp_c (by decide)) dJ7_fill_53178_13 ?_
  refine s_world (w2 := wb_151) rfl ?_
  refine s_iinc (v := 25) (L2 := [some (AR 72), some (AI (-1)), some (AI 25), some (AI 90)]) E dJ7_fill_53178_14 rfl (by decide) (by decide) rfl ?_
  refine s_goto (tgt := 5) E dJ7_fill_53178_17 (by decide) ?_
  refine s_iload_n E dJ7_fill_53178_5 rfl rfl ?_
  refine s_iload_n E dJ7_fill_53178_6 rfl rfl ?_
  refine s_icmp_ge (tgt := 20) E dJ7_fill_53178_7 (by decide) (fun hh => absurd hh (by decide)) (fun _ => ?_)
  refine s_aload_n E dJ7_fill_53178_10 rfl rfl ?_
  refine s_iload_n E dJ7_fill_53178_11 rfl rfl ?_
  refine s_iload_n E dJ7_fill_53178_12 rfl rfl ?_
  refine s_iast E rfl (by decide +kernel) (vp_c (by decide)) dJ7_fill_53178_13 ?_
  refine s_world (w2 := wb_152) rfl ?_
  refine s_iinc (v := 26) (L2 := [some (AR 72), some (AI (-1)), some (AI 26), some (AI 90)]) E dJ7_fill_53178_14 rfl (by decide) (by decide) rfl ?_
  refine s_goto (tgt := 5) E dJ7_fill_53178_17 (by decide) ?_
  refine s_iload_n E dJ7_fill_53178_5 rfl rfl ?_
  refine s_iload_n E dJ7_fill_53178_6 rfl rfl ?_
  refine s_icmp_ge (tgt := 20) E dJ7_fill_53178_7 (by decide) (fun hh => absurd hh (by decide)) (fun _ => ?_)
  refine s_aload_n E dJ7_fill_53178_10 rfl rfl ?_
  refine s_iload_n E dJ7_fill_53178_11 rfl rfl ?_
  refine s_iload_n E dJ7_fill_53178_12 rfl rfl ?_
  refine s_iast E rfl (by decide +kernel) (vp_c (by decide)) dJ7_fill_53178_13 ?_
  refine s_world (w2 := wb_153) rfl ?_
  refine s_iinc (v := 27) (L2 := [some (AR 72), some (AI (-1)), some (AI 27), some (AI 90)]) E dJ7_fill_53178_14 rfl (by decide) (by decide) rfl ?_
  refine s_goto (tgt := 5) E dJ7_fill_53178_17 (by decide) ?_
  refine s_iload_n E dJ7_fill_53178_5 rfl rfl ?_
  refine s_iload_n E dJ7_fill_53178_6 rfl rfl ?_
  refine s_icmp_ge (tgt := 20) E dJ7_fill_53178_7 (by decide) (fun hh => absurd hh (by decide)) (fun _ => ?_)
  refine s_aload_n E dJ7_fill_53178_10 rfl rfl ?_
  refine s_iload_n E dJ7_fill_53178_11 rfl rfl ?_
  refine s_iload_n E dJ7_fill_53178_12 rfl rfl ?_
  refine s_iast E rfl (by decide +kernel) (vp_c (by decide)) dJ7_fill_53178_13 ?_
  refine s_world (w2 := wb_154) rfl ?_
  refine s_iinc (v := 28) (L2 := [some (AR 72), some (AI (-1)), some (AI 28), some (AI 90)]) E dJ7_fill_53178_14 rfl (by decide) (by decide) rfl ?_
  refine s_goto (tgt := 5) E dJ7_fill_53178_17 (by decide) ?_
  refine s_iload_n E dJ7_fill_53178_5 rfl rfl ?_
  refine s_iload_n E dJ7_fill_53178_6 rfl rfl ?_
  refine s_icmp_ge (tgt := 20) E dJ7_fill_53178_7 (by decide) (fun hh => absurd hh (by decide)) (fun _ => ?_)
  refine s_aload_n E dJ7_fill_53178_10 rfl rfl ?_
  refine s_iload_n E dJ7_fill_53178_11 rfl rfl ?_
  refine s_iload_n E dJ7_fill_53178_12 rfl rfl ?_
  refine s_iast E rfl (by decide +kernel) (vp_c (by decide)) dJ7_fill_53178_13 ?_
  refine s_world (w2 := wb_155) rfl ?_
  refine s_iinc (v := 29) (L2 := [some (AR 72), some (AI (-1)), some (AI 29), some (AI 90)]) E dJ7_fill_53178_14 rfl (by decide) (by decide) rfl ?_
  refine s_goto (tgt := 5) E dJ7_fill_53178_17 (by decide) ?_
  refine s_iload_n E dJ7_fill_53178_5 rfl rfl ?_
  refine s_iload_n E dJ7_fill_53178_6 rfl rfl ?_
  refine s_icmp_ge (tgt := 20) E dJ7_fill_53178_7 (by decide) (fun hh => absurd hh (by decide)) (fun _ => ?_)
  refine s_aload_n E dJ7_fill_53178_10 rfl rfl ?_
  refine s_iload_n E dJ7_fill_53178_11 rfl rfl ?_
  refine s_iload_n E dJ7_fill_53178_12 rfl rfl ?_
  refine s_iast E rfl (by decide +kernel) (vp_c (by decide)) dJ7_fill_53178_13 ?_
  refine s_world (w2 := wb_156) rfl ?_
  refine s_iinc (v := 30) (L2 := [some (AR 72), some (AI (-1)), some (AI 30), some (AI 90)]) E dJ7_fill_53178_14 rfl (by decide) (by decide) rfl ?_
  refine s_goto (tgt := 5) E dJ7_fill_53178_17 (by decide) ?_
  refine s_iload_n E dJ7_fill_53178_5 rfl rfl ?_
  refine s_iload_n E dJ7_fill_53178_6 rfl rfl ?_
  refine s_icmp_ge (tgt := 20) E dJ7_fill_53178_7 (by decide) (fun hh => absurd hh (by decide)) (fun _ => ?_)
  refine s_aload_n E dJ7_fill_53178_10 rfl rfl ?_
  refine s_iload_n E dJ7_fill_53178_11 rfl rfl ?_
  refine s_iload_n E dJ7_fill_53178_12 rfl rfl ?_
  refine s_iast E rfl (by decide +kernel) (vp_c (by decide)) dJ7_fill_53178_13 ?_
  refine s_world (w2 := wb_157) rfl ?_
  refine s_iinc (v := 31) (L2 := [some (AR 72), some (AI (-1)), some (AI 31), some (AI 90)]) E dJ7_fill_53178_14 rfl (by decide) (by decide) rfl ?_
  refine s_goto (tgt := 5) E dJ7_fill_53178_17 (by decide) ?_
  refine s_iload_n E dJ7_fill_53178_5 rfl rfl ?_
  refine s_iload_n E dJ7_fill_53178_6 rfl rfl ?_
  refine s_icmp_ge (tgt := 20) E dJ7_fill_53178_7 (by decide) (fun hh => absurd hh (by decide)) (fun _ => ?_)
  refine s_aload_n E dJ7_fill_53178_10 rfl rfl ?_
  refine s_iload_n E dJ7_fill_53178_11 rfl rfl ?_
  refine s_iload_n E dJ7_fill_53178_12 rfl rfl ?_
  refine s_iast E rfl (by decide +kernel) (vp_c (by decide)) dJ7_fill_53178_13 ?_
  refine s_world (w2 := wb_158) rfl ?_
  refine s_iinc (v := 32) (L2 := [some (AR 72), some (AI (-1)), some (AI 32), some (AI 90)]) E dJ7_fill_53178_14 rfl (by decide) (by decide) rfl ?_
  refine s_goto (tgt := 5) E dJ7_fill_53178_17 (by decide) ?_
  refine s_iload_n E dJ7_fill_53178_5 rfl rfl ?_
  refine s_iload_n E dJ7_fill_53178_6 rfl rfl ?_
  refine s_icmp_ge (tgt := 20) E dJ7_fill_53178_7 (by decide) (fun hh => absurd hh (by decide)) (fun _ => ?_)
  refine s_aload_n E dJ7_fill_53178_10 rfl rfl ?_
  refine s_iload_n E dJ7_fill_53178_11 rfl rfl ?_
  refine s_iload_n E dJ7_fill_53178_12 rfl rfl ?_
  refine s_iast E rfl (by decide +kernel) (vp_c (by decide)) dJ7_fill_53178_13 ?_
  refine s_world (w2 := wb_159) rfl ?_
  refine s_iinc (v := 33) (L2 := [some (AR 72), some (AI (-1)), some (AI 33), some (AI 90)]) E dJ7_fill_53178_14 rfl (by decide) (by decide) rfl ?_
  refine s_goto (tgt := 5) E dJ7_fill_53178_17 (by decide) ?_
  refine s_iload_n E dJ7_fill_53178_5 rfl rfl ?_
  refine s_iload_n E dJ7_fill_53178_6 rfl rfl ?_
  refine s_icmp_ge (tgt := 20) E dJ7_fill_53178_7 (by decide) (fun hh => absurd hh (by decide)) (fun _ => ?_)
  refine s_aload_n E dJ7_fill_53178_10 rfl rfl ?_
  refine s_iload_n E dJ7_fill_53178_11 rfl rfl ?_
  refine s_iload_n E dJ7_fill_53178_12 rfl rfl ?_
  refine s_iast E rfl (by decide +kernel) (vp_c (by decide)) dJ7_fill_53178_13 ?_
  refine s_world (w2 := wb_160) rfl ?_
  refine s_iinc (v := 34) (L2 := [some (AR 72), some (AI (-1)), some (AI 34), some (AI 90)]) E dJ7_fill_53178_14 rfl (by decide) (by decide) rfl ?_
  refine s_goto (tgt := 5) E dJ7_fill_53178_17 (by decide) ?_
  refine s_iload_n E dJ7_fill_53178_5 rfl rfl ?_
  refine s_iload_n E dJ7_fill_53178_6 rfl rfl ?_
  refine s_icmp_ge (tgt := 20) E dJ7_fill_53178_7 (by decide) (fun hh => absurd hh (by decide)) (fun _ => ?_)
  refine s_aload_n E dJ7_fill_53178_10 rfl rfl ?_
  refine s_iload_n E dJ7_fill_53178_11 rfl rfl ?_
  refine s_iload_n E dJ7_fill_53178_12 rfl rfl ?_
  refine s_iast E rfl (by decide +kernel) (vp_c (by decide)) dJ7_fill_53178_13 ?_
  refine s_world (w2 := wb_161) rfl ?_
  refine s_iinc (v := 35) (L2 := [some (AR 72), some (AI (-1)), some (AI 35), some (AI 90)]) E dJ7_fill_53178_14 rfl (by decide) (by decide) rfl ?_
  refine s_goto (tgt := 5) E dJ7_fill_53178_17 (by decide) ?_
  refine s_iload_n E dJ7_fill_53178_5 rfl rfl ?_
  refine s_iload_n E dJ7_fill_53178_6 rfl rfl ?_
  refine s_icmp_ge (tgt := 20) E dJ7_fill_53178_7 (by decide) (fun hh => absurd hh (by decide)) (fun _ => ?_)
  refine s_aload_n E dJ7_fill_53178_10 rfl rfl ?_
  refine s_iload_n E dJ7_fill_53178_11 rfl rfl ?_
  refine s_iload_n E dJ7_fill_53178_12 rfl rfl ?_
  refine s_iast E rfl (by decide +kernel) (vp_c (by decide)) dJ7_fill_53178_13 ?_
  refine s_world (w2 := wb_162) rfl ?_
  refine s_iinc (v := 36) (L2 := [some (AR 72), some (AI (-1)), some (AI 36), some (AI 90)]) E dJ7_fill_53178_14 rfl (by decide) (by decide) rfl ?_
  refine s_goto (tgt := 5) E dJ7_fill_53178_17 (by decide) ?_
  refine s_iload_n E dJ7_fill_53178_5 rfl rfl ?_
  refine s_iload_n E dJ7_fill_53178_6 rfl rfl ?_
  refine s_icmp_ge (tgt := 20) E dJ7_fill_53178_7 (by decide) (fun hh => absurd hh (by decide)) (fun _ => ?_)
  refine s_aload_n E dJ7_fill_53178_10 rfl rfl ?_
  refine s_iload_n E dJ7_fill_53178_11 rfl rfl ?_
  refine s_iload_n E dJ7_fill_53178_12 rfl rfl ?_
  refine s_iast E rfl (by decide +kernel) (vp_c (by decide)) dJ7_fill_53178_13 ?_
  refine s_world (w2 := wb_163) rfl ?_
  refine s_iinc (v := 37) (L2 := [some (AR 72), some (AI (-1)), some (AI 37), some (AI 90)]) E dJ7_fill_53178_14 rfl (by decide) (by decide) rfl ?_
  refine s_goto (tgt := 5) E dJ7_fill_53178_17 (by decide) ?_
  refine s_iload_n E dJ7_fill_53178_5 rfl rfl ?_
  refine s_iload_n E dJ7_fill_53178_6 rfl rfl ?_
  refine s_icmp_ge (tgt := 20) E dJ7_fill_53178_7 (by decide) (fun hh => absurd hh (by decide)) (fun _ => ?_)
  refine s_aload_n E dJ7_fill_53178_10 rfl rfl ?_
  refine s_iload_n E dJ7_fill_53178_11 rfl rfl ?_
  refine s_iload_n E dJ7_fill_53178_12 rfl rfl ?_
  refine s_iast E rfl (by decide +kernel) (vp_c (by decide)) dJ7_fill_53178_13 ?_
  refine s_world (w2 := wb_164) rfl ?_
  refine s_iinc (v := 38) (L2 := [some (AR 72), some (AI (-1)), some (AI 38), some (AI 90)]) E dJ7_fill_53178_14 rfl (by decide) (by decide) rfl ?_
  refine s_goto (tgt := 5) E dJ7_fill_53178_17 (by decide) ?_
  refine s_iload_n E dJ7_fill_53178_5 rfl rfl ?_
  refine s_iload_n E dJ7_fill_53178_6 rfl rfl ?_
  refine s_icmp_ge (tgt := 20) E dJ7_fill_53178_7 (by decide) (fun hh => absurd hh (by decide)) (fun _ => ?_)
  refine s_aload_n E dJ7_fill_53178_10 rfl rfl ?_
  refine s_iload_n E dJ7_fill_53178_11 rfl rfl ?_
  refine s_iload_n E dJ7_fill_53178_12 rfl rfl ?_
  refine s_iast E rfl (by decide +kernel) (vp_c (by decide)) dJ7_fill_53178_13 ?_
  refine s_world (w2 := wb_165) rfl ?_
  refine s_iinc (v := 39) (L2 := [some (AR 72), some (AI (-1)), some (AI 39), some (AI 90)]) E dJ7_fill_53178_14 rfl (by decide) (by decide) rfl ?_
  refine s_goto (tgt := 5) E dJ7_fill_53178_17 (by decide) ?_
  refine s_iload_n E dJ7_fill_53178_5 rfl rfl ?_
  refine s_iload_n E dJ7_fill_53178_6 rfl rfl ?_
  refine s_icmp_ge (tgt := 20) E dJ7_fill_53178_7 (by decide) (fun hh => absurd hh (by decide)) (fun _ => ?_)
  refine s_aload_n E dJ7_fill_53178_10 rfl rfl ?_
  refine s_iload_n E dJ7_fill_53178_11 rfl rfl ?_
  refine s_iload_n E dJ7_fill_53178_12 rfl rfl ?_
  refine s_iast E rfl (by decide +kernel) (vp_c (by decide)) dJ7_fill_53178_13 ?_
  refine s_world (w2 := wb_166) rfl ?_
  refine s_iinc (v := 40) (L2 := [some (AR 72), some (AI (-1)), some (AI 40), some (AI 90)]) E dJ7_fill_53178_14 rfl (by decide) (by decide) rfl ?_
  refine s_goto (tgt := 5) E dJ7_fill_53178_17 (by decide) ?_
  refine s_iload_n E dJ7_fill_53178_5 rfl rfl ?_
  refine s_iload_n E dJ7_fill_53178_6 rfl rfl ?_
  refine s_icmp_ge (tgt := 20) E dJ7_fill_53178_7 (by decide) (fun hh => absurd hh (by decide)) (fun _ => ?_)
  refine s_aload_n E dJ7_fill_53178_10 rfl rfl ?_
  refine s_iload_n E dJ7_fill_53178_11 rfl rfl ?_
  refine s_iload_n E dJ7_fill_53178_12 rfl rfl ?_
  refine s_iast E rfl (by decide +kernel) (vp_c (by decide)) dJ7_fill_53178_13 ?_
  refine s_world (w2 := wb_167) rfl ?_
  refine s_iinc (v := 41) (L2 := [some (AR 72), some (AI (-1)), some (AI 41), some (AI 90)]) E dJ7_fill_53178_14 rfl (by decide) (by decide) rfl ?_
  refine s_goto (tgt := 5) E dJ7_fill_53178_17 (by decide) ?_
  refine s_iload_n E dJ7_fill_53178_5 rfl rfl ?_
  refine s_iload_n E dJ7_fill_53178_6 rfl rfl ?_
  refine s_icmp_ge (tgt := 20) E dJ7_fill_53178_7 (by decide) (fun hh => absurd hh (by decide)) (fun _ => ?_)
  refine s_aload_n E dJ7_fill_53178_10 rfl rfl ?_
  refine s_iload_n E dJ7_fill_53178_11 rfl rfl ?_
  refine s_iload_n E dJ7_fill_53178_12 rfl rfl ?_
  refine s_iast E rfl (by decide +kernel) (vp_c (by decide)) dJ7_fill_53178_13 ?_
  refine s_world (w2 := wb_168) rfl ?_
  refine s_iinc (v := 42) (L2 := [some (AR 72), some (AI (-1)), some (AI 42), some (AI 90)]) E dJ7_fill_53178_14 rfl (by decide) (by decide) rfl ?_
  refine s_goto (tgt := 5) E dJ7_fill_53178_17 (by decide) ?_
  refine s_iload_n E dJ7_fill_53178_5 rfl rfl ?_
  refine s_iload_n E dJ7_fill_53178_6 rfl rfl ?_
  refine s_icmp_ge (tgt := 20) E dJ7_fill_53178_7 (by decide) (fun hh => absurd hh (by decide)) (fun _ => ?_)
  refine s_aload_n E dJ7_fill_53178_10 rfl rfl ?_
  refine s_iload_n E dJ7_fill_53178_11 rfl rfl ?_
  refine s_iload_n E dJ7_fill_53178_12 rfl rfl ?_
  refine s_iast E rfl (by decide +kernel) (vp_c (by decide)) dJ7_fill_53178_13 ?_
  refine s_world (w2 := wb_169) rfl ?_
  refine s_iinc (v := 43) (L2 := [some (AR 72), some (AI (-1)), some (AI 43), some (AI 90)]) E dJ7_fill_53178_14 rfl (by decide) (by decide) rfl ?_
  refine s_goto (tgt := 5) E dJ7_fill_53178_17 (by decide) ?_
  refine s_iload_n E dJ7_fill_53178_5 rfl rfl ?_
  refine s_iload_n E dJ7_fill_53178_6 rfl rfl ?_
  refine s_icmp_ge (tgt := 20) E dJ7_fill_53178_7 (by decide) (fun hh => absurd hh (by decide)) (fun _ => ?_)
  refine s_aload_n E dJ7_fill_53178_10 rfl rfl ?_
  refine s_iload_n E dJ7_fill_53178_11 rfl rfl ?_
  refine s_iload_n E dJ7_fill_53178_12 rfl rfl ?_
  refine s_iast E rfl (by decide +kernel) (vp_c (by decide)) dJ7_fill_53178_13 ?_
  refine s_world (w2 := wb_170) rfl ?_
  refine s_iinc (v := 44) (L2 := [some (AR 72), some (AI (-1)), some (AI 44), some (AI 90)]) E dJ7_fill_53178_14 rfl (by decide) (by decide) rfl ?_
  refine s_goto (tgt := 5) E dJ7_fill_53178_17 (by decide) ?_
  refine s_iload_n E dJ7_fill_53178_5 rfl rfl ?_
  refine s_iload_n E dJ7_fill_53178_6 rfl rfl ?_
  refine s_icmp_ge (tgt := 20) E dJ7_fill_53178_7 (by decide) (fun hh => absurd hh (by decide)) (fun _ => ?_)
  refine s_aload_n E dJ7_fill_53178_10 rfl rfl ?_
  refine s_iload_n E dJ7_fill_53178_11 rfl rfl ?_
  refine s_iload_n E dJ7_fill_53178_12 rfl rfl ?_
  refine s_iast E rfl (by decide +kernel) (vp_c (by decide)) dJ7_fill_53178_13 ?_
  refine s_world (w2 := wb_171) rfl ?_
  refine s_iinc (v := 45) (L2 := [some (AR 72), some (AI (-1)), some (AI 45), some (AI 90)]) E dJ7_fill_53178_14 rfl (by decide) (by decide) rfl ?_
  refine s_goto (tgt := 5) E dJ7_fill_53178_17 (by decide) ?_
  refine s_iload_n E dJ7_fill_53178_5 rfl rfl ?_
  refine s_iload_n E dJ7_fill_53178_6 rfl rfl ?_
  refine s_icmp_ge (tgt := 20) E dJ7_fill_53178_7 (by decide) (fun hh => absurd hh (by decide)) (fun _ => ?_)
  refine s_aload_n E dJ7_fill_53178_10 rfl rfl ?_
  refine s_iload_n E dJ7_fill_53178_11 rfl rfl ?_
  refine s_iload_n E dJ7_fill_53178_12 rfl rfl ?_
  refine s_iast E rfl (by decide +kernel) (vp_c (by decide)) dJ7_fill_53178_13 ?_
  refine s_world (w2 := wb_172) rfl ?_
  refine s_iinc (v := 46) (L2 := [some (AR 72), some (AI (-1)), some (AI 46), some (AI 90)]) E dJ7_fill_53178_14 rfl (by decide) (by decide) rfl ?_
  refine s_goto (tgt := 5) E dJ7_fill_53178_17 (by decide) ?_
  refine s_iload_n E dJ7_fill_53178_5 rfl rfl ?_
  refine s_iload_n E dJ7_fill_53178_6 rfl rfl ?_
  refine s_icmp_ge (tgt := 20) E dJ7_fill_53178_7 (by decide) (fun hh => absurd hh (by decide)) (fun _ => ?_)
  refine s_aload_n E dJ7_fill_53178_10 rfl rfl ?_
  refine s_iload_n E dJ7_fill_53178_11 rfl rfl ?_
  refine s_iload_n E dJ7_fill_53178_12 rfl rfl ?_
  refine s_iast E rfl (by decide +kernel) (vp_c (by decide)) dJ7_fill_53178_13 ?_
  refine s_world (w2 := wb_173) rfl ?_
  refine s_iinc (v := 47) (L2 := [some (AR 72), some (AI (-1)), some (AI 47), some (AI 90)]) E dJ7_fill_53178_14 rfl (by decide) (by decide) rfl ?_
  refine s_goto (tgt := 5) E dJ7_fill_53178_17 (by decide) ?_
  refine s_iload_n E dJ7_fill_53178_5 rfl rfl ?_
  refine s_iload_n E dJ7_fill_53178_6 rfl rfl ?_
  refine s_icmp_ge (tgt := 20) E dJ7_fill_53178_7 (by decide) (fun hh => absurd hh (by decide)) (fun _ => ?_)
  refine s_aload_n E dJ7_fill_53178_10 rfl rfl ?_
  refine s_iload_n E dJ7_fill_53178_11 rfl rfl ?_
  refine s_iload_n E dJ7_fill_53178_12 rfl rfl ?_
  refine s_iast E rfl (by decide +kernel) (vp_c (by decide)) dJ7_fill_53178_13 ?_
  refine s_world (w2 := wb_174) rfl ?_
  refine s_iinc (v := 48) (L2 := [some (AR 72), some (AI (-1)), some (AI 48), some (AI 90)]) E dJ7_fill_53178_14 rfl (by decide) (by decide) rfl ?_
  refine s_goto (tgt := 5) E dJ7_fill_53178_17 (by decide) ?_
  refine s_iload_n E dJ7_fill_53178_5 rfl rfl ?_
  refine s_iload_n E dJ7_fill_53178_6 rfl rfl ?_
  refine s_icmp_ge (tgt := 20) E dJ7_fill_53178_7 (by decide) (fun hh => absurd hh (by decide)) (fun _ => ?_)
  refine s_aload_n E dJ7_fill_53178_10 rfl rfl ?_
  refine s_iload_n E dJ7_fill_53178_11 rfl rfl ?_
  refine s_iload_n E dJ7_fill_53178_12 rfl rfl ?_
  refine s_iast E rfl (by decide +kernel) (vp_c (by decide)) dJ7_fill_53178_13 ?_
  refine s_world (w2 := wb_175) rfl ?_
  refine s_iinc (v := 49) (L2 := [some (AR 72), some (AI (-1)), some (AI 49), some (AI 90)]) E dJ7_fill_53178_14 rfl (by decide) (by decide) rfl ?_
  refine s_goto (tgt := 5) E dJ7_fill_53178_17 (by decide) ?_
  refine s_iload_n E dJ7_fill_53178_5 rfl rfl ?_
  refine s_iload_n E dJ7_fill_53178_6 rfl rfl ?_
  refine s_icmp_ge (tgt := 20) E dJ7_fill_53178_7 (by decide) (fun hh => absurd hh (by decide)) (fun _ => ?_)
  refine s_aload_n E dJ7_fill_53178_10 rfl rfl ?_
  refine s_iload_n E dJ7_fill_53178_11 rfl rfl ?_
  refine s_iload_n E dJ7_fill_53178_12 rfl rfl ?_
  refine s_iast E rfl (by decide +kernel) (vp_c (by decide)) dJ7_fill_53178_13 ?_
  refine s_world (w2 := wb_176) rfl ?_
  refine s_iinc (v := 50) (L2 := [some (AR 72), some (AI (-1)), some (AI 50), some (AI 90)]) E dJ7_fill_53178_14 rfl (by decide) (by decide) rfl ?_
  refine s_goto (tgt := 5) E dJ7_fill_53178_17 (by decide) ?_
  refine s_iload_n E dJ7_fill_53178_5 rfl rfl ?_
  refine s_iload_n E dJ7_fill_53178_6 rfl rfl ?_
  refine s_icmp_ge (tgt := 20) E dJ7_fill_53178_7 (by decide) (fun hh => absurd hh (by decide)) (fun _ => ?_)
  refine s_aload_n E dJ7_fill_53178_10 rfl rfl ?_
  refine s_iload_n E dJ7_fill_53178_11 rfl rfl ?_
  refine s_iload_n E dJ7_fill_53178_12 rfl rfl ?_
  refine s_iast E rfl (by decide +kernel) (vp_c (by decide)) dJ7_fill_53178_13 ?_
  refine s_world (w2 := wb_177) rfl ?_
  refine s_iinc (v := 51) (L2 := [some (AR 72), some (AI (-1)), some (AI 51), some (AI 90)]) E dJ7_fill_53178_14 rfl (by decide) (by decide) rfl ?_
  refine s_goto (tgt := 5) E dJ7_fill_53178_17 (by decide) ?_
  refine s_iload_n E dJ7_fill_53178_5 rfl rfl ?_
  refine s_iload_n E dJ7_fill_53178_6 rfl rfl ?_
  refine s_icmp_ge (tgt := 20) E dJ7_fill_53178_7 (by decide) (fun hh => absurd hh (by decide)) (fun _ => ?_)
  refine s_aload_n E dJ7_fill_53178_10 rfl rfl ?_
  refine s_iload_n E dJ7_fill_53178_11 rfl rfl ?_
  refine s_iload_n E dJ7_fill_53178_12 rfl rfl ?_
  refine s_iast E rfl (by decide +kernel) (vp_c (by decide)) dJ7_fill_53178_13 ?_
  refine s_world (w2 := wb_178) rfl ?_
  refine s_iinc (v := 52) (L2 := [some (AR 72), some (AI (-1)), some (AI 52), some (AI 90)]) E dJ7_fill_53178_14 rfl (by decide) (by decide) rfl ?_
  refine s_goto (tgt := 5) E dJ7_fill_53178_17 (by decide) ?_
  refine s_iload_n E dJ7_fill_53178_5 rfl rfl ?_
  refine s_iload_n E dJ7_fill_53178_6 rfl rfl ?_
  refine s_icmp_ge (tgt := 20) E dJ7_fill_53178_7 (by decide) (fun hh => absurd hh (by decide)) (fun _ => ?_)
  refine s_aload_n E dJ7_fill_53178_10 rfl rfl ?_
  refine s_iload_n E dJ7_fill_53178_11 rfl rfl ?_
  refine s_iload_n E dJ7_fill_53178_12 rfl rfl ?_
  refine s_iast E rfl (by decide +kernel) (vp_c (by decide)) dJ7_fill_53178_13 ?_
  refine s_world (w2 := wb_179) rfl ?_
  refine s_iinc (v := 53) (L2 := [some (AR 72), some (AI (-1)), some (AI 53), some (AI 90)]) E dJ7_fill_53178_14 rfl (by decide) (by decide) rfl ?_
  refine s_goto (tgt := 5) E dJ7_fill_53178_17 (by decide) ?_
  refine s_iload_n E dJ7_fill_53178_5 rfl rfl ?_
  refine s_iload_n E dJ7_fill_53178_6 rfl rfl ?_
  refine s_icmp_ge (tgt := 20) E dJ7_fill_53178_7 (by decide) (fun hh => absurd hh (by decide)) (fun _ => ?_)
  refine s_aload_n E dJ7_fill_53178_10 rfl rfl ?_
  refine s_iload_n E dJ7_fill_53178_11 rfl rfl ?_
  refine s_iload_n E dJ7_fill_53178_12 rfl rfl ?_
  refine s_iast E rfl (by decide +kernel) (vp_c (by decide)) dJ7_fill_53178_13 ?_
  refine s_world (w2 := wb_180) rfl ?_
  refine s_iinc (v := 54) (L2 := [some (AR 72), some (AI (-1)), some (AI 54), some (AI 90)]) E dJ7_fill_53178_14 rfl (by decide) (by decide) rfl ?_
  refine s_goto (tgt := 5) E dJ7_fill_53178_17 (by decide) ?_
  refine s_iload_n E dJ7_fill_53178_5 rfl rfl ?_
  refine s_iload_n E dJ7_fill_53178_6 rfl rfl ?_
  refine s_icmp_ge (tgt := 20) E dJ7_fill_53178_7 (by decide) (fun hh => absurd hh (by decide)) (fun _ => ?_)
  refine s_aload_n E dJ7_fill_53178_10 rfl rfl ?_
  refine s_iload_n E dJ7_fill_53178_11 rfl rfl ?_
  refine s_iload_n E dJ7_fill_53178_12 rfl rfl ?_
  refine s_iast E rfl (by decide +kernel) (vp_c (by decide)) dJ7_fill_53178_13 ?_
  refine s_world (w2 := wb_181) rfl ?_
  refine s_iinc (v := 55) (L2 := [some (AR 72), some (AI (-1)), some (AI 55), some (AI 90)]) E dJ7_fill_53178_14 rfl (by decide) (by decide) rfl ?_
  refine s_goto (tgt := 5) E dJ7_fill_53178_17 (by decide) ?_
  refine s_iload_n E dJ7_fill_53178_5 rfl rfl ?_
  refine s_iload_n E dJ7_fill_53178_6 rfl rfl ?_
  refine s_icmp_ge (tgt := 20) E dJ7_fill_53178_7 (by decide) (fun hh => absurd hh (by decide)) (fun _ => ?_)
  refine s_aload_n E dJ7_fill_53178_10 rfl rfl ?_
  refine s_iload_n E dJ7_fill_53178_11 rfl rfl ?_
  refine s_iload_n E dJ7_fill_53178_12 rfl rfl ?_
  refine s_iast E rfl (by decide +kernel) (vp_c (by decide)) dJ7_fill_53178_13 ?_
  refine s_world (w2 := wb_182) rfl ?_
  refine s_iinc (v := 56) (L2 := [some (AR 72), some (AI (-1)), some (AI 56), some (AI 90)]) E dJ7_fill_53178_14 rfl (by decide) (by decide) rfl ?_
  refine s_goto (tgt := 5) E dJ7_fill_53178_17 (by decide) ?_
  refine s_iload_n E dJ7_fill_53178_5 rfl rfl ?_
  refine s_iload_n E dJ7_fill_53178_6 rfl rfl ?_
  refine s_icmp_ge (tgt := 20) E dJ7_fill_53178_7 (by decide) (fun hh => absurd hh (by decide)) (fun _ => ?_)
  refine s_aload_n E dJ7_fill_53178_10 rfl rfl ?_
  refine s_iload_n E dJ7_fill_53178_11 rfl rfl ?_
  refine s_iload_n E dJ7_fill_53178_12 rfl rfl ?_
  refine s_iast E rfl (by decide +kernel) (vp_c (by decide)) dJ7_fill_53178_13 ?_
  refine s_world (w2 := wb_183) rfl ?_
  refine s_iinc (v := 57) (L2 := [some (AR 72), some (AI (-1)), some (AI 57), some (AI 90)]) E dJ7_fill_53178_14 rfl (by decide) (by decide) rfl ?_
  refine s_goto (tgt := 5) E dJ7_fill_53178_17 (by decide) ?_
  refine s_iload_n E dJ7_fill_53178_5 rfl rfl ?_
  refine s_iload_n E dJ7_fill_53178_6 rfl rfl ?_
  refine s_icmp_ge (tgt := 20) E dJ7_fill_53178_7 (by decide) (fun hh => absurd hh (by decide)) (fun _ => ?_)
  refine s_aload_n E dJ7_fill_53178_10 rfl rfl ?_
  refine s_iload_n E dJ7_fill_53178_11 rfl rfl ?_
  refine s_iload_n E dJ7_fill_53178_12 rfl rfl ?_
  refine s_iast E rfl (by decide +kernel) (vp_c (by decide)) dJ7_fill_53178_13 ?_
  refine s_world (w2 := wb_184) rfl ?_
  refine s_iinc (v := 58) (L2 := [some (AR 72), some (AI (-1)), some (AI 58), some (AI 90)]) E dJ7_fill_53178_14 rfl (by decide) (by decide) rfl ?_
  refine s_goto (tgt := 5) E dJ7_fill_53178_17 (by decide) ?_
  refine s_iload_n E dJ7_fill_53178_5 rfl rfl ?_
  refine s_iload_n E dJ7_fill_53178_6 rfl rfl ?_
  refine s_icmp_ge (tgt := 20) E dJ7_fill_53178_7 (by decide) (fun hh => absurd hh (by decide)) (fun _ => ?_)
  refine s_aload_n E dJ7_fill_53178_10 rfl rfl ?_
  refine s_iload_n E dJ7_fill_53178_11 rfl rfl ?_
  refine s_iload_n E dJ7_fill_53178_12 rfl rfl ?_
  refine s_iast E rfl (by decide +kernel) (vp_c (by decide)) dJ7_fill_53178_13 ?_
  refine s_world (w2 := wb_185) rfl ?_
  refine s_iinc (v := 59) (L2 := [some (AR 72), some (AI (-1)), some (AI 59), some (AI 90)]) E dJ7_fill_53178_14 rfl (by decide) (by decide) rfl ?_
  refine s_goto (tgt := 5) E dJ7_fill_53178_17 (by decide) ?_
  refine s_iload_n E dJ7_fill_53178_5 rfl rfl ?_
  refine s_iload_n E dJ7_fill_53178_6 rfl rfl ?_
  refine s_icmp_ge (tgt := 20) E dJ7_fill_53178_7 (by decide) (fun hh => absurd hh (by decide)) (fun _ => ?_)
  refine s_aload_n E dJ7_fill_53178_10 rfl rfl ?_
  refine s_iload_n E dJ7_fill_53178_11 rfl rfl ?_
  refine s_iload_n E dJ7_fill_53178_12 rfl rfl ?_
  refine s_iast E rfl (by decide +kernel) (vp_c (by decide)) dJ7_fill_53178_13 ?_
  refine s_world (w2 := wb_186) rfl ?_
  refine s_iinc (v := 60) (L2 := [some (AR 72), some (AI (-1)), some (AI 60), some (AI 90)]) E dJ7_fill_53178_14 rfl (by decide) (by decide) rfl ?_
  refine s_goto (tgt := 5) E dJ7_fill_53178_17 (by decide) ?_
  refine s_iload_n E dJ7_fill_53178_5 rfl rfl ?_
  refine s_iload_n E dJ7_fill_53178_6 rfl rfl ?_
  refine s_icmp_ge (tgt := 20) E dJ7_fill_53178_7 (by decide) (fun hh => absurd hh (by decide)) (fun _ => ?_)
  refine s_aload_n E dJ7_fill_53178_10 rfl rfl ?_
  refine s_iload_n E dJ7_fill_53178_11 rfl rfl ?_
  refine s_iload_n E dJ7_fill_53178_12 rfl rfl ?_
  refine s_iast E rfl (by decide +kernel) (vp_c (by decide)) dJ7_fill_53178_13 ?_
  refine s_world (w2 := wb_187) rfl ?_
  refine s_iinc (v := 61) (L2 := [some (AR 72), some (AI (-1)), some (AI 61), some (AI 90)]) E dJ7_fill_53178_14 rfl (by decide) (by decide) rfl ?_
  refine s_goto (tgt := 5) E dJ7_fill_53178_17 (by decide) ?_
  refine s_iload_n E dJ7_fill_53178_5 rfl rfl ?_
  refine s_iload_n E dJ7_fill_53178_6 rfl rfl ?_
  refine s_icmp_ge (tgt := 20) E dJ7_fill_53178_7 (by decide) (fun hh => absurd hh (by decide)) (fun _ => ?_)
  refine s_aload_n E dJ7_fill_53178_10 rfl rfl ?_
  refine s_iload_n E dJ7_fill_53178_11 rfl rfl ?_
  refine s_iload_n E dJ7_fill_53178_12 rfl rfl ?_
  refine s_iast E rfl (by decide +kernel) (vp_c (by decide)) dJ7_fill_53178_13 ?_
  refine s_world (w2 := wb_188) rfl ?_
  refine s_iinc (v := 62) (L2 := [some (AR 72), some (AI (-1)), some (AI 62), some (AI 90)]) E dJ7_fill_53178_14 rfl (by decide) (by decide) rfl ?_
  refine s_goto (tgt := 5) E dJ7_fill_53178_17 (by decide) ?_
  refine s_iload_n E dJ7_fill_53178_5 rfl rfl ?_
  refine s_iload_n E dJ7_fill_53178_6 rfl rfl ?_
  refine s_icmp_ge (tgt := 20) E dJ7_fill_53178_7 (by decide) (fun hh => absurd hh (by decide)) (fun _ => ?_)
  refine s_aload_n E dJ7_fill_53178_10 rfl rfl ?_
  refine s_iload_n E dJ7_fill_53178_11 rfl rfl ?_
  refine s_iload_n E dJ7_fill_53178_12 rfl rfl ?_
  refine s_iast E rfl (by decide +kernel) (vp_c (by decide)) dJ7_fill_53178_13 ?_
  refine s_world (w2 := wb_189) rfl ?_
  refine s_iinc (v := 63) (L2 := [some (AR 72), some (AI (-1)), some (AI 63), some (AI 90)]) E dJ7_fill_53178_14 rfl (by decide) (by decide) rfl ?_
  refine s_goto (tgt := 5) E dJ7_fill_53178_17 (by decide) ?_
  refine s_iload_n E dJ7_fill_53178_5 rfl rfl ?_
  refine s_iload_n E dJ7_fill_53178_6 rfl rfl ?_
  refine s_icmp_ge (tgt := 20) E dJ7_fill_53178_7 (by decide) (fun hh => absurd hh (by decide)) (fun _ => ?_)
  refine s_aload_n E dJ7_fill_53178_10 rfl rfl ?_
  refine s_iload_n E dJ7_fill_53178_11 rfl rfl ?_
  refine s_iload_n E dJ7_fill_53178_12 rfl rfl ?_
  refine s_iast E rfl (by decide +kernel) (vp_c (by decide)) dJ7_fill_53178_13 ?_
  refine s_world (w2 := wb_190) rfl ?_
  refine s_iinc (v := 64) (L2 := [some (AR 72), some (AI (-1)), some (AI 64), some (AI 90)]) E dJ7_fill_53178_14 rfl (by decide) (by decide) rfl ?_
  refine s_goto (tgt := 5) E dJ7_fill_53178_17 (by decide) ?_
  refine s_iload_n E dJ7_fill_53178_5 rfl rfl ?_
  refine s_iload_n E dJ7_fill_53178_6 rfl rfl ?_
  refine s_icmp_ge (tgt := 20) E dJ7_fill_53178_7 (by decide) (fun hh => absurd hh (by decide)) (fun _ => ?_)
  refine s_aload_n E dJ7_fill_53178_10 rfl rfl ?_
  refine s_iload_n E dJ7_fill_53178_11 rfl rfl ?_
  refine s_iload_n E dJ7_fill_53178_12 rfl rfl ?_
  refine s_iast E rfl (by decide +kernel) (vp_c (by decide)) dJ7_fill_53178_13 ?_
  refine s_world (w2 := wb_191) rfl ?_
  refine s_iinc (v := 65) (L2 := [some (AR 72), some (AI (-1)), some (AI 65), some (AI 90)]) E dJ7_fill_53178_14 rfl (by decide) (by decide) rfl ?_
  refine s_goto (tgt := 5) E dJ7_fill_53178_17 (by decide) ?_
  refine s_iload_n E dJ7_fill_53178_5 rfl rfl ?_
  refine s_iload_n E dJ7_fill_53178_6 rfl rfl ?_
  refine s_icmp_ge (tgt := 20) E dJ7_fill_53178_7 (by decide) (fun hh => absurd hh (by decide)) (fun _ => ?_)
  refine s_aload_n E dJ7_fill_53178_10 rfl rfl ?_
  refine s_iload_n E dJ7_fill_53178_11 rfl rfl ?_
  refine s_iload_n E dJ7_fill_53178_12 rfl rfl ?_
  refine s_iast E rfl (by decide +kernel) (vp_c (by decide)) dJ7_fill_53178_13 ?_
  refine s_world (w2 := wb_192) rfl ?_
  refine s_iinc (v := 66) (L2 := [some (AR 72), some (AI (-1)), some (AI 66), some (AI 90)]) E dJ7_fill_53178_14 rfl (by decide) (by decide) rfl ?_
  refine s_goto (tgt := 5) E dJ7_fill_53178_17 (by decide) ?_
  refine s_iload_n E dJ7_fill_53178_5 rfl rfl ?_
  refine s_iload_n E dJ7_fill_53178_6 rfl rfl ?_
  refine s_icmp_ge (tgt := 20) E dJ7_fill_53178_7 (by decide) (fun hh => absurd hh (by decide)) (fun _ => ?_)
  refine s_aload_n E dJ7_fill_53178_10 rfl rfl ?_
  refine s_iload_n E dJ7_fill_53178_11 rfl rfl ?_
  refine s_iload_n E dJ7_fill_53178_12 rfl rfl ?_
  refine s_iast E rfl (by decide +kernel) (vp_c (by decide)) dJ7_fill_53178_13 ?_
  refine s_world (w2 := wb_193) rfl ?_
  refine s_iinc (v := 67) (L2 := [some (AR 72), some (AI (-1)), some (AI 67), some (AI 90)]) E dJ7_fill_53178_14 rfl (by decide) (by decide) rfl ?_
  refine s_goto (tgt := 5) E dJ7_fill_53178_17 (by decide) ?_
  refine s_iload_n E dJ7_fill_53178_5 rfl rfl ?_
  refine s_iload_n E dJ7_fill_53178_6 rfl rfl ?_
  refine s_icmp_ge (tgt := 20) E dJ7_fill_53178_7 (by decide) (fun hh => absurd hh (by decide)) (fun _ => ?_)
  refine s_aload_n E dJ7_fill_53178_10 rfl rfl ?_
  refine s_iload_n E dJ7_fill_53178_11 rfl rfl ?_
  refine s_iload_n E dJ7_fill_53178_12 rfl rfl ?_
  refine s_iast E rfl (by decide +kernel) (vp_c (by decide)) dJ7_fill_53178_13 ?_
  refine s_world (w2 := wb_194) rfl ?_
  refine s_iinc (v := 68) (L2 := [some (AR 72), some (AI (-1)), some (AI 68), some (AI 90)]) E dJ7_fill_53178_14 rfl (by decide) (by decide) rfl ?_
  refine s_goto (tgt := 5) E dJ7_fill_53178_17 (by decide) ?_
  refine s_iload_n E dJ7_fill_53178_5 rfl rfl ?_
  refine s_iload_n E dJ7_fill_53178_6 rfl rfl ?_
  refine s_icmp_ge (tgt := 20) E dJ7_fill_53178_7 (by decide) (fun hh => absurd hh (by decide)) (fun _ => ?_)
  refine s_aload_n E dJ7_fill_53178_10 rfl rfl ?_
  refine s_iload_n E dJ7_fill_53178_11 rfl rfl ?_
  refine s_iload_n E dJ7_fill_53178_12 rfl rfl ?_
  refine s_iast E rfl (by decide +kernel) (vp_c (by decide)) dJ7_fill_53178_13 ?_
  refine s_world (w2 := wb_195) rfl ?_
  refine s_iinc (v := 69) (L2 := [some (AR 72), some (AI (-1)), some (AI 69), some (AI 90)]) E dJ7_fill_53178_14 rfl (by decide) (by decide) rfl ?_
  refine s_goto (tgt := 5) E dJ7_fill_53178_17 (by decide) ?_
  refine s_iload_n E dJ7_fill_53178_5 rfl rfl ?_
  refine s_iload_n E dJ7_fill_53178_6 rfl rfl ?_
  refine s_icmp_ge (tgt := 20) E dJ7_fill_53178_7 (by decide) (fun hh => absurd hh (by decide)) (fun _ => ?_)
  refine s_aload_n E dJ7_fill_53178_10 rfl rfl ?_
  refine s_iload_n E dJ7_fill_53178_11 rfl rfl ?_
  refine s_iload_n E dJ7_fill_53178_12 rfl rfl ?_
  refine s_iast E rfl (by decide +kernel) (vp_c (by decide)) dJ7_fill_53178_13 ?_
  refine s_world (w2 := wb_196) rfl ?_
  refine s_iinc (v := 70) (L2 := [some (AR 72), some (AI (-1)), some (AI 70), some (AI 90)]) E dJ7_fill_53178_14 rfl (by decide) (by decide) rfl ?_
  refine s_goto (tgt := 5) E dJ7_fill_53178_17 (by decide) ?_
  refine s_iload_n E dJ7_fill_53178_5 rfl rfl ?_
  refine s_iload_n E dJ7_fill_53178_6 rfl rfl ?_
  refine s_icmp_ge (tgt := 20) E dJ7_fill_53178_7 (by decide) (fun hh => absurd hh (by decide)) (fun _ => ?_)
  refine s_aload_n E dJ7_fill_53178_10 rfl rfl ?_
  refine s_iload_n E dJ7_fill_53178_11 rfl rfl ?_
  refine s_iload_n E dJ7_fill_53178_12 rfl rfl ?_
  refine s_iast E rfl (by decide +kernel) (vp_c (by decide)) dJ7_fill_53178_13 ?_
  refine s_world (w2 := wb_197) rfl ?_
  refine s_iinc (v := 71) (L2 := [some (AR 72), some (AI (-1)), some (AI 71), some (AI 90)]) E dJ7_fill_53178_14 rfl (by decide) (by decide) rfl ?_
  refine s_goto (tgt := 5) E dJ7_fill_53178_17 (by decide) ?_
  refine s_iload_n E dJ7_fill_53178_5 rfl rfl ?_
  refine s_iload_n E dJ7_fill_53178_6 rfl rfl ?_
  refine s_icmp_ge (tgt := 20) E dJ7_fill_53178_7 (by decide) (fun hh => absurd hh (by decide)) (fun _ => ?_)
  refine s_aload_n E dJ7_fill_53178_10 rfl rfl ?_
  refine s_iload_n E dJ7_fill_53178_11 rfl rfl ?_
  refine s_iload_n E dJ7_fill_53178_12 rfl rfl ?_
  refine s_iast E rfl (by decide +kernel) (vp_c (by decide)) dJ7_fill_53178_13 ?_
  refine s_world (w2 := wb_198) rfl ?_
  refine s_iinc (v := 72) (L2 := [some (AR 72), some (AI (-1)), some (AI 72), some (AI 90)]) E dJ7_fill_53178_14 rfl (by decide) (by decide) rfl ?_
  refine s_goto (tgt := 5) E dJ7_fill_53178_17 (by decide) ?_
  refine s_iload_n E dJ7_fill_53178_5 rfl rfl ?_
  refine s_iload_n E dJ7_fill_53178_6 rfl rfl ?_
  refine s_icmp_ge (tgt := 20) E dJ7_fill_53178_7 (by decide) (fun hh => absurd hh (by decide)) (fun _ => ?_)
  refine s_aload_n E dJ7_fill_53178_10 rfl rfl ?_
  refine s_iload_n E dJ7_fill_53178_11 rfl rfl ?_
  refine s_iload_n E dJ7_fill_53178_12 rfl rfl ?_
  refine s_iast E rfl (by decide +kernel) (vp_c (by decide)) dJ7_fill_53178_13 ?_
  refine s_world (w2 := wb_199) rfl ?_
  refine s_iinc (v := 73) (L2 := [some (AR 72), some (AI (-1)), some (AI 73), some (AI 90)]) E dJ7_fill_53178_14 rfl (by decide) (by decide) rfl ?_
  refine s_goto (tgt := 5) E dJ7_fill_53178_17 (by decide) ?_
  refine s_iload_n E dJ7_fill_53178_5 rfl rfl ?_
  refine s_iload_n E dJ7_fill_53178_6 rfl rfl ?_
  refine s_icmp_ge (tgt := 20) E dJ7_fill_53178_7 (by decide) (fun hh => absurd hh (by decide)) (fun _ => ?_)
  refine s_aload_n E dJ7_fill_53178_10 rfl rfl ?_
  refine s_iload_n E dJ7_fill_53178_11 rfl rfl ?_
  refine s_iload_n E dJ7_fill_53178_12 rfl rfl ?_
  refine s_iast E rfl (by decide +kernel) (vp_c (by decide)) dJ7_fill_53178_13 ?_
  refine s_world (w2 := wb_200) rfl ?_
  refine s_iinc (v := 74) (L2 := [some (AR 72), some (AI (-1)), some (AI 74), some (AI 90)]) E dJ7_fill_53178_14 rfl (by decide) (by decide) rfl ?_
  refine s_goto (tgt := 5) E dJ7_fill_53178_17 (by decide) ?_
  refine s_iload_n E dJ7_fill_53178_5 rfl rfl ?_
  refine s_iload_n E dJ7_fill_53178_6 rfl rfl ?_
  refine s_icmp_ge (tgt := 20) E dJ7_fill_53178_7 (by decide) (fun hh => absurd hh (by decide)) (fun _ => ?_)
  refine s_aload_n E dJ7_fill_53178_10 rfl rfl ?_
  refine s_iload_n E dJ7_fill_53178_11 rfl rfl ?_
  refine s_iload_n E dJ7_fill_53178_12 rfl rfl ?_
  refine s_iast E rfl (by decide +kernel) (vp_c (by decide)) dJ7_fill_53178_13 ?_
  refine s_world (w2 := wb_201) rfl ?_
  refine s_iinc (v := 75) (L2 := [some (AR 72), some (AI (-1)), some (AI 75), some (AI 90)]) E dJ7_fill_53178_14 rfl (by decide) (by decide) rfl ?_
  refine s_goto (tgt := 5) E dJ7_fill_53178_17 (by decide) ?_
  refine s_iload_n E dJ7_fill_53178_5 rfl rfl ?_
  refine s_iload_n E dJ7_fill_53178_6 rfl rfl ?_
  refine s_icmp_ge (tgt := 20) E dJ7_fill_53178_7 (by decide) (fun hh => absurd hh (by decide)) (fun _ => ?_)
  refine s_aload_n E dJ7_fill_53178_10 rfl rfl ?_
  refine s_iload_n E dJ7_fill_53178_11 rfl rfl ?_
  refine s_iload_n E dJ7_fill_53178_12 rfl rfl ?_
  refine s_iast E rfl (by decide +kernel) (vp_c (by decide)) dJ7_fill_53178_13 ?_
  refine s_world (w2 := wb_202) rfl ?_
  refine s_iinc (v := 76) (L2 := [some (AR 72), some (AI (-1)), some (AI 76), some (AI 90)]) E dJ7_fill_53178_14 rfl (by decide) (by decide) rfl ?_
  refine s_goto (tgt := 5) E dJ7_fill_53178_17 (by decide) ?_
  refine s_iload_n E dJ7_fill_53178_5 rfl rfl ?_
  refine s_iload_n E dJ7_fill_53178_6 rfl rfl ?_
  refine s_icmp_ge (tgt := 20) E dJ7_fill_53178_7 (by decide) (fun hh => absurd hh (by decide)) (fun _ => ?_)
  refine s_aload_n E dJ7_fill_53178_10 rfl rfl ?_
  refine s_iload_n E dJ7_fill_53178_11 rfl rfl ?_
  refine s_iload_n E dJ7_fill_53178_12 rfl rfl ?_
  refine s_iast E rfl (by decide +kernel) (vp_c (by decide)) dJ7_fill_53178_13 ?_
  refine s_world (w2 := wb_203) rfl ?_
  refine s_iinc (v := 77) (L2 := [some (AR 72), some (AI (-1)), some (AI 77), some (AI 90)]) E dJ7_fill_53178_14 rfl (by decide) (by decide) rfl ?_
  refine s_goto (tgt := 5) E dJ7_fill_53178_17 (by decide) ?_
  refine s_iload_n E dJ7_fill_53178_5 rfl rfl ?_
  refine s_iload_n E dJ7_fill_53178_6 rfl rfl ?_
  refine s_icmp_ge (tgt := 20) E dJ7_fill_53178_7 (by decide) (fun hh => absurd hh (by decide)) (fun _ => ?_)
  refine s_aload_n E dJ7_fill_53178_10 rfl rfl ?_
  refine s_iload_n E dJ7_fill_53178_11 rfl rfl ?_
  refine s_iload_n E dJ7_fill_53178_12 rfl rfl ?_
  refine s_iast E rfl (by decide +kernel) (vp_c (by decide)) dJ7_fill_53178_13 ?_
  refine s_world (w2 := wb_204) rfl ?_
  refine s_iinc (v := 78) (L2 := [some (AR 72), some (AI (-1)), some (AI 78), some (AI 90)]) E dJ7_fill_53178_14 rfl (by decide) (by decide) rfl ?_
  refine s_goto (tgt := 5) E dJ7_fill_53178_17 (by decide) ?_
  refine s_iload_n E dJ7_fill_53178_5 rfl rfl ?_
  refine s_iload_n E dJ7_fill_53178_6 rfl rfl ?_
  refine s_icmp_ge (tgt := 20) E dJ7_fill_53178_7 (by decide) (fun hh => absurd hh (by decide)) (fun _ => ?_)
  refine s_aload_n E dJ7_fill_53178_10 rfl rfl ?_
  refine s_iload_n E dJ7_fill_53178_11 rfl rfl ?_
  refine s_iload_n E dJ7_fill_53178_12 rfl rfl ?_
  refine s_iast E rfl (by decide +kernel) (vp_c (by decide)) dJ7_fill_53178_13 ?_
  refine s_world (w2 := wb_205) rfl ?_
  refine s_iinc (v := 79) (L2 := [some (AR 72), some (AI (-1)), some (AI 79), some (AI 90)]) E dJ7_fill_53178_14 rfl (by decide) (by decide) rfl ?_
  refine s_goto (tgt := 5) E dJ7_fill_53178_17 (by decide) ?_
  refine s_iload_n E dJ7_fill_53178_5 rfl rfl ?_
  refine s_iload_n E dJ7_fill_53178_6 rfl rfl ?_
  refine s_icmp_ge (tgt := 20) E dJ7_fill_53178_7 (by decide) (fun hh => absurd hh (by decide)) (fun _ => ?_)
  refine s_aload_n E dJ7_fill_53178_10 rfl rfl ?_
  refine s_iload_n E dJ7_fill_53178_11 rfl rfl ?_
  refine s_iload_n E dJ7_fill_53178_12 rfl rfl ?_
  refine s_iast E rfl (by decide +kernel) (vp_c (by decide)) dJ7_fill_53178_13 ?_
  refine s_world (w2 := wb_206) rfl ?_
  refine s_iinc (v := 80) (L2 := [some (AR 72), some (AI (-1)), some (AI 80), some (AI 90)]) E dJ7_fill_53178_14 rfl (by decide) (by decide) rfl ?_
  refine s_goto (tgt := 5) E dJ7_fill_53178_17 (by decide) ?_
  refine s_iload_n E dJ7_fill_53178_5 rfl rfl ?_
  refine s_iload_n E dJ7_fill_53178_6 rfl rfl ?_
  refine s_icmp_ge (tgt := 20) E dJ7_fill_53178_7 (by decide) (fun hh => absurd hh (by decide)) (fun _ => ?_)
  refine s_aload_n E dJ7_fill_53178_10 rfl rfl ?_
  refine s_iload_n E dJ7_fill_53178_11 rfl rfl ?_
  refine s_iload_n E dJ7_fill_53178_12 rfl rfl ?_
  refine s_iast E rfl (by decide +kernel) (vp_c (by decide)) dJ7_fill_53178_13 ?_
  refine s_world (w2 := wb_207) rfl ?_
  refine s_iinc (v := 81) (L2 := [some (AR 72), some (AI (-1)), some (AI 81), some (AI 90)]) E dJ7_fill_53178_14 rfl (by decide) (by decide) rfl ?_
  refine s_goto (tgt := 5) E dJ7_fill_53178_17 (by decide) ?_
  refine s_iload_n E dJ7_fill_53178_5 rfl rfl ?_
  refine s_iload_n E dJ7_fill_53178_6 rfl rfl ?_
  refine s_icmp_ge (tgt := 20) E dJ7_fill_53178_7 (by decide) (fun hh => absurd hh (by decide)) (fun _ => ?_)
  refine s_aload_n E dJ7_fill_53178_10 rfl rfl ?_
  refine s_iload_n E dJ7_fill_53178_11 rfl rfl ?_
  refine s_iload_n E dJ7_fill_53178_12 rfl rfl ?_
  refine s_iast E rfl (by decide +kernel) (vp_c (by decide)) dJ7_fill_53178_13 ?_
  refine s_world (w2 := wb_208) rfl ?_
  refine s_iinc (v := 82) (L2 := [some (AR 72), some (AI (-1)), some (AI 82), some (AI 90)]) E dJ7_fill_53178_14 rfl (by decide) (by decide) rfl ?_
  refine s_goto (tgt := 5) E dJ7_fill_53178_17 (by decide) ?_
  refine s_iload_n E dJ7_fill_53178_5 rfl rfl ?_
  refine s_iload_n E dJ7_fill_53178_6 rfl rfl ?_
  refine s_icmp_ge (tgt := 20) E dJ7_fill_53178_7 (by decide) (fun hh => absurd hh (by decide)) (fun _ => ?_)
  refine s_aload_n E dJ7_fill_53178_10 rfl rfl ?_
  refine s_iload_n E dJ7_fill_53178_11 rfl rfl ?_
  refine s_iload_n E dJ7_fill_53178_12 rfl rfl ?_
  refine s_iast E rfl (by decide +kernel) (vp_c (by decide)) dJ7_fill_53178_13 ?_
  refine s_world (w2 := wb_209) rfl ?_
  refine s_iinc (v := 83) (L2 := [some (AR 72), some (AI (-1)), some (AI 83), some (AI 90)]) E dJ7_fill_53178_14 rfl (by decide) (by decide) rfl ?_
  refine s_goto (tgt := 5) E dJ7_fill_53178_17 (by decide) ?_
  refine s_iload_n E dJ7_fill_53178_5 rfl rfl ?_
  refine s_iload_n E dJ7_fill_53178_6 rfl rfl ?_
  refine s_icmp_ge (tgt := 20) E dJ7_fill_53178_7 (by decide) (fun hh => absurd hh (by decide)) (fun _ => ?_)
  refine s_aload_n E dJ7_fill_53178_10 rfl rfl ?_
  refine s_iload_n E dJ7_fill_53178_11 rfl rfl ?_
  refine s_iload_n E dJ7_fill_53178_12 rfl rfl ?_
  refine s_iast E rfl (by decide +kernel) (vp_c (by decide)) dJ7_fill_53178_13 ?_
  refine s_world (w2 := wb_210) rfl ?_
  refine s_iinc (v := 84) (L2 := [some (AR 72), some (AI (-1)), some (AI 84), some (AI 90)]) E dJ7_fill_53178_14 rfl (by decide) (by decide) rfl ?_
  refine s_goto (tgt := 5) E dJ7_fill_53178_17 (by decide) ?_
  refine s_iload_n E dJ7_fill_53178_5 rfl rfl ?_
  refine s_iload_n E dJ7_fill_53178_6 rfl rfl ?_
  refine s_icmp_ge (tgt := 20) E dJ7_fill_53178_7 (by decide) (fun hh => absurd hh (by decide)) (fun _ => ?_)
  refine s_aload_n E dJ7_fill_53178_10 rfl rfl ?_
  refine s_iload_n E dJ7_fill_53178_11 rfl rfl ?_
  refine s_iload_n E dJ7_fill_53178_12 rfl rfl ?_
  refine s_iast E rfl (by decide +kernel) (vp_c (by decide)) dJ7_fill_53178_13 ?_
  refine s_world (w2 := wb_211) rfl ?_
  refine s_iinc (v := 85) (L2 := [some (AR 72), some (AI (-1)), some (AI 85), some (AI 90)]) E dJ7_fill_53178_14 rfl (by decide) (by decide) rfl ?_
  refine s_goto (tgt := 5) E dJ7_fill_53178_17 (by decide) ?_
  refine s_iload_n E dJ7_fill_53178_5 rfl rfl ?_
  refine s_iload_n E dJ7_fill_53178_6 rfl rfl ?_
  refine s_icmp_ge (tgt := 20) E dJ7_fill_53178_7 (by decide) (fun hh => absurd hh (by decide)) (fun _ => ?_)
  refine s_aload_n E dJ7_fill_53178_10 rfl rfl ?_
  refine s_iload_n E dJ7_fill_53178_11 rfl rfl ?_
  refine s_iload_n E dJ7_fill_53178_12 rfl rfl ?_
  refine s_iast E rfl (by decide +kernel) (vp_c (by decide)) dJ7_fill_53178_13 ?_
  refine s_world (w2 := wb_212) rfl ?_
  refine s_iinc (v := 86) (L2 := [some (AR 72), some (AI (-1)), some (AI 86), some (AI 90)]) E dJ7_fill_53178_14 rfl (by decide) (by decide) rfl ?_
  refine s_goto (tgt := 5) E dJ7_fill_53178_17 (by decide) ?_
  refine s_iload_n E dJ7_fill_53178_5 rfl rfl ?_
  refine s_iload_n E dJ7_fill_53178_6 rfl rfl ?_
  refine s_icmp_ge (tgt := 20) E dJ7_fill_53178_7 (by decide) (fun hh => absurd hh (by decide)) (fun _ => ?_)
  refine s_aload_n E dJ7_fill_53178_10 rfl rfl ?_
  refine s_iload_n E dJ7_fill_53178_11 rfl rfl ?_
  refine s_iload_n E dJ7_fill_53178_12 rfl rfl ?_
  refine s_iast E rfl (by decide +kernel) (vp_c (by decide)) dJ7_fill_53178_13 ?_
  refine s_world (w2 := wb_213) rfl ?_
  refine s_iinc (v := 87) (L2 := [some (AR 72), some (AI (-1)), some (AI 87), some (AI 90)]) E dJ7_fill_53178_14 rfl (by decide) (by decide) rfl ?_
  refine s_goto (tgt := 5) E dJ7_fill_53178_17 (by decide) ?_
  refine s_iload_n E dJ7_fill_53178_5 rfl rfl ?_
  refine s_iload_n E dJ7_fill_53178_6 rfl rfl ?_
  refine s_icmp_ge (tgt := 20) E dJ7_fill_53178_7 (by decide) (fun hh => absurd hh (by decide)) (fun _ => ?_)
  refine s_aload_n E dJ7_fill_53178_10 rfl rfl ?_
  refine s_iload_n E dJ7_fill_53178_11 rfl rfl ?_
  refine s_iload_n E dJ7_fill_53178_12 rfl rfl ?_
  refine s_iast E rfl (by decide +kernel) (vp_c (by decide)) dJ7_fill_53178_13 ?_
  refine s_world (w2 := wb_214) rfl ?_
  refine s_iinc (v := 88) (L2 := [some (AR 72), some (AI (-1)), some (AI 88), some (AI 90)]) E dJ7_fill_53178_14 rfl (by decide) (by decide) rfl ?_
  refine s_goto (tgt := 5) E dJ7_fill_53178_17 (by decide) ?_
  refine s_iload_n E dJ7_fill_53178_5 rfl rfl ?_
  refine s_iload_n E dJ7_fill_53178_6 rfl rfl ?_
  refine s_icmp_ge (tgt := 20) E dJ7_fill_53178_7 (by decide) (fun hh => absurd hh (by decide)) (fun _ => ?_)
  refine s_aload_n E dJ7_fill_53178_10 rfl rfl ?_
  refine s_iload_n E dJ7_fill_53178_11 rfl rfl ?_
  refine s_iload_n E dJ7_fill_53178_12 rfl rfl ?_
  refine s_iast E rfl (by decide +kernel) (vp_c (by decide)) dJ7_fill_53178_13 ?_
  refine s_world (w2 := wb_215) rfl ?_
  refine s_iinc (v := 89) (L2 := [some (AR 72), some (AI (-1)), some (AI 89), some (AI 90)]) E dJ7_fill_53178_14 rfl (by decide) (by decide) rfl ?_
  refine s_goto (tgt := 5) E dJ7_fill_53178_17 (by decide) ?_
  refine s_iload_n E dJ7_fill_53178_5 rfl rfl ?_
  refine s_iload_n E dJ7_fill_53178_6 rfl rfl ?_
  refine s_icmp_ge (tgt := 20) E dJ7_fill_53178_7 (by decide) (fun hh => absurd hh (by decide)) (fun _ => ?_)
  refine s_aload_n E dJ7_fill_53178_10 rfl rfl ?_
  refine s_iload_n E dJ7_fill_53178_11 rfl rfl ?_
  refine s_iload_n E dJ7_fill_53178_12 rfl rfl ?_
  refine s_iast E rfl (by decide +kernel) (vp_c (by decide)) dJ7_fill_53178_13 ?_
  refine s_world (w2 := wb_216) rfl ?_
  refine s_iinc (v := 90) (L2 := [some (AR 72), some (AI (-1)), some (AI 90), some (AI 90)]) E dJ7_fill_53178_14 rfl (by decide) (by decide) rfl ?_
  refine s_goto (tgt := 5) E dJ7_fill_53178_17 (by decide) ?_
  refine s_iload_n E dJ7_fill_53178_5 rfl rfl ?_
  refine s_iload_n E dJ7_fill_53178_6 rfl rfl ?_
  refine s_icmp_ge (tgt := 20) E dJ7_fill_53178_7 (by decide) (fun _ => ?_) (fun hh => absurd (by decide) hh)
  exact r_void E dJ7_fill_53178_20 rfl
set_option maxRecDepth 20000 in
set_option maxHeartbeats 2000000 in
theorem KB_20 (l : Launch) (D : va_G) (aC : Nat → ClassId) (b : Nat) : CnV l D aC b M_X2_hearBids 1 23 0 0 [AR 69, AR 2] wb_36 (fun u => u = wb_216) := by
  refine cn_V (own := RX2) (nm := "hearBids") (L0 := [some (AR 69), some (AR 2), none]) (by decide +kernel) rfl rfl (Nat.le_of_ble_eq_true rfl) rfl ?_
  intro p e s m args below meth c E hin
  refine s_aload_n E dX2_hearBids_0 rfl rfl ?_
  refine s_gR (r := 71) E fg_X2_15 rfl rfl (by decide +kernel) (by decide +kernel) dX2_hearBids_1 ?_
  refine s_iconst (v := (-1)) E dX2_hearBids_4 (by decide) ?_
  refine s_sV (As := [AR 71, AI (-1)]) (S := []) E (KB_18 l D aC b) cs_X2_78 rfl rfl (Nat.le_of_ble_eq_true rfl) (Nat.le_of_ble_eq_true rfl) ⟨(Nat.le_of_ble_eq_true rfl), (Nat.le_of_ble_eq_true rfl)⟩ (Nat.le_of_ble_eq_true rfl) dX2_hearBids_5 (fun u hp => ?_)
  subst hp
  refine s_aload_n E dX2_hearBids_8 rfl rfl ?_
  refine s_gR (r := 72) E fg_X2_18 rfl rfl (by decide +kernel) (by decide +kernel) dX2_hearBids_9 ?_
  refine s_iconst (v := (-1)) E dX2_hearBids_12 (by decide) ?_
  refine s_sV (As := [AR 72, AI (-1)]) (S := []) E (KB_19 l D aC b) cs_X2_78 rfl rfl (Nat.le_of_ble_eq_true rfl) (Nat.le_of_ble_eq_true rfl) ⟨(Nat.le_of_ble_eq_true rfl), (Nat.le_of_ble_eq_true rfl)⟩ (Nat.le_of_ble_eq_true rfl) dX2_hearBids_13 (fun u hp => ?_)
  subst hp
  refine s_iconst (v := 0) E dX2_hearBids_16 (by decide) ?_
  refine s_istore_n (L2 := [some (AR 69), some (AR 2), some (AI 0)]) E dX2_hearBids_17 rfl (by decide) rfl ?_
  refine s_iload_n E dX2_hearBids_18 rfl rfl ?_
  refine s_aload_n E dX2_hearBids_19 rfl rfl ?_
  refine s_gR (r := 9) E fg_X2_84 rfl rfl (by decide +kernel) (by decide +kernel) dX2_hearBids_20 ?_
  refine s_gI E fg_X2_57 rfl rfl (by decide +kernel) dX2_hearBids_23 ?_
  refine s_top (y := 0) (by decide +kernel) ?_
  refine s_icmp_ge (tgt := 66) E dX2_hearBids_26 (by decide) (fun _ => ?_) (fun hh => absurd (by decide) hh)
  refine s_iconst (v := 0) E dX2_hearBids_66 (by decide) ?_
  refine s_istore_n (L2 := [some (AR 69), some (AR 2), some (AI 0)]) E dX2_hearBids_67 rfl (by decide) rfl ?_
  refine s_iload_n E dX2_hearBids_68 rfl rfl ?_
  refine s_aload_n E dX2_hearBids_69 rfl rfl ?_
  refine s_gR (r := 11) E fg_X2_91 rfl rfl (by decide +kernel) (by decide +kernel) dX2_hearBids_70 ?_
  refine s_gI E fg_X2_57 rfl rfl (by decide +kernel) dX2_hearBids_73 ?_
  refine s_top (y := 0) (by decide +kernel) ?_
  refine s_icmp_ge (tgt := 128) E dX2_hearBids_76 (by decide) (fun _ => ?_) (fun hh => absurd (by decide) hh)
  exact r_void E dX2_hearBids_128 rfl
set_option maxRecDepth 20000 in
set_option maxHeartbeats 2000000 in
theorem KB_21 (l : Launch) (D : va_G) (aC : Nat → ClassId) (b : Nat) : CnV l D aC b M_X2_gather 0 0 0 0 [AR 69] wb_216 (fun u => u = wb_216) := by
  refine cn_V (own := RX2) (nm := "gather") (L0 := [some (AR 69), none, none]) (by decide +kernel) rfl rfl (Nat.le_of_ble_eq_true rfl) rfl ?_
  intro p e s m args below meth c E hin
  refine s_iconst (v := 0) E dX2_gather_0 (by decide) ?_
  refine s_istore_n (L2 := [some (AR 69), some (AI 0), none]) E dX2_gather_1 rfl (by decide) rfl ?_
  refine s_iload_n E dX2_gather_2 rfl rfl ?_
  refine s_aload_n E dX2_gather_3 rfl rfl ?_
  refine s_gI E fg_X2_35 rfl rfl (by decide +kernel) dX2_gather_4 ?_
  refine s_top (y := 0) (by decide +kernel) ?_
  refine s_icmp_ge (tgt := 54) E dX2_gather_7 (by decide) (fun _ => ?_) (fun hh => absurd (by decide) hh)
  exact r_void E dX2_gather_54 rfl
set_option maxRecDepth 20000 in
set_option maxHeartbeats 2000000 in
theorem KB_22 (l : Launch) (D : va_G) (aC : Nat → ClassId) (b : Nat) : CnV l D aC b M_X2_settle 2 45 0 0 [AR 69, AR 2, AI (-1), AI 0] wb_33 (fun u => u = wb_216) := by
  refine cn_V (own := RX2) (nm := "settle") (L0 := [some (AR 69), some (AR 2), some (AI (-1)), some (AI 0), none]) (by decide +kernel) rfl rfl (Nat.le_of_ble_eq_true rfl) rfl ?_
  intro p e s m args below meth c E hin
  refine s_aload_n E dX2_settle_0 rfl rfl ?_
  refine s_aload_n E dX2_settle_1 rfl rfl ?_
  refine s_iload_n E dX2_settle_2 rfl rfl ?_
  refine s_iload_n E dX2_settle_3 rfl rfl ?_
  refine s_vV (As := [AR 2, AI (-1), AI 0]) (S := []) E (KB_17 l D aC b) cv_X2_27 rfl rfl rfl (by decide +kernel) (Nat.le_of_ble_eq_true rfl) (Nat.le_of_ble_eq_true rfl) ⟨(Nat.le_of_ble_eq_true rfl), (Nat.le_of_ble_eq_true rfl)⟩ (Nat.le_of_ble_eq_true rfl) dX2_settle_4 (fun u hp => ?_)
  subst hp
  refine s_aload_n E dX2_settle_7 rfl rfl ?_
  refine s_aload_n E dX2_settle_8 rfl rfl ?_
  refine s_vV (As := [AR 2]) (S := []) E (KB_20 l D aC b) cv_X2_31 rfl rfl rfl (by decide +kernel) (Nat.le_of_ble_eq_true rfl) (Nat.le_of_ble_eq_true rfl) ⟨(Nat.le_of_ble_eq_true rfl), (Nat.le_of_ble_eq_true rfl)⟩ (Nat.le_of_ble_eq_true rfl) dX2_settle_9 (fun u hp => ?_)
  subst hp
  refine s_iconst (v := 0) E dX2_settle_12 (by decide) ?_
  refine s_istore (L2 := [some (AR 69), some (AR 2), some (AI (-1)), some (AI 0), some (AI 0)]) E dX2_settle_13 (by decide) rfl ?_
  refine s_iload E dX2_settle_15 rfl ?_
  refine s_aload_n E dX2_settle_17 rfl rfl ?_
  refine s_gI E fg_X2_35 rfl rfl (by decide +kernel) dX2_settle_18 ?_
  refine s_top (y := 0) (by decide +kernel) ?_
  refine s_icmp_ge (tgt := 46) E dX2_settle_21 (by decide) (fun _ => ?_) (fun hh => absurd (by decide) hh)
  refine s_aload_n E dX2_settle_46 rfl rfl ?_
  refine s_vV (As := []) (S := []) E (KB_21 l D aC b) cv_X2_54 rfl rfl rfl (by decide +kernel) (Nat.le_of_ble_eq_true rfl) (Nat.le_of_ble_eq_true rfl) ⟨(Nat.le_of_ble_eq_true rfl), (Nat.le_of_ble_eq_true rfl)⟩ (Nat.le_of_ble_eq_true rfl) dX2_settle_47 (fun u hp => ?_)
  subst hp
  exact r_void E dX2_settle_50 rfl
set_option maxRecDepth 20000 in
set_option maxHeartbeats 2000000 in
theorem KB_23 (l : Launch) (D : va_G) (aC : Nat → ClassId) (b : Nat) : CnV l D aC b M_X9_settle 3 69 0 0 [AR 0] wb_33 (fun u => u = wb_216) := by
  refine cn_V (own := RX9) (nm := "settle") (L0 := [some (AR 0)]) (by decide +kernel) rfl rfl (Nat.le_of_ble_eq_true rfl) rfl ?_
  intro p e s m args below meth c E hin
  refine s_aload_n E dX9_settle_0 rfl rfl ?_
  refine s_gR (r := 69) E fg_X9_54 rfl rfl (by decide +kernel) (by decide +kernel) dX9_settle_1 ?_
  refine s_aload_n E dX9_settle_4 rfl rfl ?_
  refine s_gR (r := 2) E fg_X9_20 rfl rfl (by decide +kernel) (by decide +kernel) dX9_settle_5 ?_
  refine s_iconst (v := (-1)) E dX9_settle_8 (by decide) ?_
  refine s_iconst (v := 0) E dX9_settle_9 (by decide) ?_
  refine s_vV (As := [AR 2, AI (-1), AI 0]) (S := []) E (KB_22 l D aC b) cv_X9_116 rfl rfl rfl (by decide +kernel) (Nat.le_of_ble_eq_true rfl) (Nat.le_of_ble_eq_true rfl) ⟨(Nat.le_of_ble_eq_true rfl), (Nat.le_of_ble_eq_true rfl)⟩ (Nat.le_of_ble_eq_true rfl) dX9_settle_10 (fun u hp => ?_)
  subst hp
  exact r_void E dX9_settle_13 rfl
set_option maxRecDepth 20000 in
set_option maxHeartbeats 2000000 in
theorem KB_24 (l : Launch) (D : va_G) (aC : Nat → ClassId) (b : Nat) : CnI l D aC b M_X9_ball 4 102 0 0 [AR 0] wv_318 (fun r u => r = 0 ∧ u = wb_216) := by
  refine cn_I (own := RX9) (nm := "ball") (L0 := [some (AR 0)]) (by decide +kernel) rfl rfl (Nat.le_of_ble_eq_true rfl) rfl ?_
  intro p e s m args below meth c E hin
  refine s_aload_n E dX9_ball_0 rfl rfl ?_
  refine s_gR (r := 24) E fg_X9_32 rfl rfl (by decide +kernel) (by decide +kernel) dX9_ball_1 ?_
  refine s_aload_n E dX9_ball_4 rfl rfl ?_
  refine s_gI E fg_X9_13 rfl rfl (by decide +kernel) dX9_ball_5 ?_
  refine s_top (y := 0) (by decide +kernel) ?_
  refine s_vV (As := [AI 0]) (S := []) E (KB_10 l D aC b) cv_X9_97 rfl rfl rfl (by decide +kernel) (Nat.le_of_ble_eq_true rfl) (Nat.le_of_ble_eq_true rfl) ⟨(Nat.le_of_ble_eq_true rfl), (Nat.le_of_ble_eq_true rfl)⟩ (Nat.le_of_ble_eq_true rfl) dX9_ball_8 (fun u hp => ?_)
  subst hp
  refine s_aload_n E dX9_ball_11 rfl rfl ?_
  refine s_gR (r := 24) E fg_X9_32 rfl rfl (by decide +kernel) (by decide +kernel) dX9_ball_12 ?_
  refine s_gI E fg_X9_100 rfl rfl (by decide +kernel) dX9_ball_15 ?_
  refine s_top (y := 0) (by decide +kernel) ?_
  refine s_if_eq (tgt := 24) E dX9_ball_18 (by decide) (fun _ => ?_) (fun hh => absurd (by decide) hh)
  refine s_aload_n E dX9_ball_24 rfl rfl ?_
  refine s_gR (r := 2) E fg_X9_20 rfl rfl (by decide +kernel) (by decide +kernel) dX9_ball_25 ?_
  refine s_aload_n E dX9_ball_28 rfl rfl ?_
  refine s_gR (r := 13) E fg_X9_24 rfl rfl (by decide +kernel) (by decide +kernel) dX9_ball_29 ?_
  refine s_vV (As := [AR 13]) (S := []) E (KB_16 l D aC b) cv_X9_103 rfl rfl rfl (by decide +kernel) (Nat.le_of_ble_eq_true rfl) (Nat.le_of_ble_eq_true rfl) ⟨(Nat.le_of_ble_eq_true rfl), (Nat.le_of_ble_eq_true rfl)⟩ (Nat.le_of_ble_eq_true rfl) dX9_ball_32 (fun u hp => ?_)
  subst hp
  refine s_aload_n E dX9_ball_35 rfl rfl ?_
  refine s_iconst (v := 0) E dX9_ball_36 (by decide) ?_
  refine s_pI E fp_X9_13 (Or.inl rfl) rfl (by decide +kernel) dX9_ball_37 ?_
  refine s_world (w2 := wb_33) rfl ?_
  refine s_aload_n E dX9_ball_40 rfl rfl ?_
  refine s_vV (As := []) (S := []) E (KB_23 l D aC b) cv_X9_107 rfl rfl rfl (by decide +kernel) (Nat.le_of_ble_eq_true rfl) (Nat.le_of_ble_eq_true rfl) ⟨(Nat.le_of_ble_eq_true rfl), (Nat.le_of_ble_eq_true rfl)⟩ (Nat.le_of_ble_eq_true rfl) dX9_ball_41 (fun u hp => ?_)
  subst hp
  refine s_aload_n E dX9_ball_44 rfl rfl ?_
  refine s_gR (r := 2) E fg_X9_20 rfl rfl (by decide +kernel) (by decide +kernel) dX9_ball_45 ?_
  refine s_gI E fg_X9_110 rfl rfl (by decide +kernel) dX9_ball_48 ?_
  refine s_top (y := 0) (by decide +kernel) ?_
  exact r_int E dX9_ball_51 ⟨rfl, rfl⟩
set_option maxRecDepth 20000 in
set_option maxHeartbeats 2000000 in
theorem KB_25 (l : Launch) (D : va_G) (aC : Nat → ClassId) (b : Nat) : CnI l D aC b M_X10_see 0 0 0 0 [AR 95, AI 0] wb_355 (fun r u => r = (-1) ∧ u = wb_355) := by
  refine cn_I (own := RX10) (nm := "see") (L0 := [some (AR 95), some (AI 0)]) (by decide +kernel) rfl rfl (Nat.le_of_ble_eq_true rfl) rfl ?_
  intro p e s m args below meth c E hin
  refine s_iload_n E dX10_see_0 rfl rfl ?_
  refine s_aload_n E dX10_see_1 rfl rfl ?_
  refine s_gI E fg_X10_93 rfl rfl (by decide +kernel) dX10_see_2 ?_
  refine s_top (y := 0) (by decide +kernel) ?_
  refine s_icmp_ge (tgt := 21) E dX10_see_5 (by decide) (fun _ => ?_) (fun hh => absurd (by decide) hh)
  refine s_iconst (v := (-1)) E dX10_see_21 (by decide) ?_
  exact r_int E dX10_see_22 ⟨rfl, rfl⟩
set_option maxRecDepth 20000 in
set_option maxHeartbeats 2000000 in
theorem KB_26 (l : Launch) (D : va_G) (aC : Nat → ClassId) (b : Nat) : CnI l D aC b M_X10_see 0 0 0 0 [AR 95, AI 0] wb_355 (fun r u => r = (-1) ∧ u = wb_355) := by
  refine cn_I (own := RX10) (nm := "see") (L0 := [some (AR 95), some (AI 0)]) (by decide +kernel) rfl rfl (Nat.le_of_ble_eq_true rfl) rfl ?_
  intro p e s m args below meth c E hin
  refine s_iload_n E dX10_see_0 rfl rfl ?_
  refine s_aload_n E dX10_see_1 rfl rfl ?_
  refine s_gI E fg_X10_93 rfl rfl (by decide +kernel) dX10_see_2 ?_
  refine s_top (y := 0) (by decide +kernel) ?_
  refine s_icmp_ge (tgt := 21) E dX10_see_5 (by decide) (fun _ => ?_) (fun hh => absurd (by decide) hh)
  refine s_iconst (v := (-1)) E dX10_see_21 (by decide) ?_
  exact r_int E dX10_see_22 ⟨rfl, rfl⟩
set_option maxRecDepth 20000 in
set_option maxHeartbeats 2000000 in
theorem KB_27 (l : Launch) (D : va_G) (aC : Nat → ClassId) (b : Nat) : CnI l D aC b M_X10_see 0 0 0 0 [AR 95, AI 0] wb_356 (fun r u => r = (-1) ∧ u = wb_356) := by
  refine cn_I (own := RX10) (nm := "see") (L0 := [some (AR 95), some (AI 0)]) (by decide +kernel) rfl rfl (Nat.le_of_ble_eq_true rfl) rfl ?_
  intro p e s m args below meth c E hin
  refine s_iload_n E dX10_see_0 rfl rfl ?_
  refine s_aload_n E dX10_see_1 rfl rfl ?_
  refine s_gI E fg_X10_93 rfl rfl (by decide +kernel) dX10_see_2 ?_
  refine s_top (y := 0) (by decide +kernel) ?_
  refine s_icmp_ge (tgt := 21) E dX10_see_5 (by decide) (fun _ => ?_) (fun hh => absurd (by decide) hh)
  refine s_iconst (v := (-1)) E dX10_see_21 (by decide) ?_
  exact r_int E dX10_see_22 ⟨rfl, rfl⟩
set_option maxRecDepth 20000 in
set_option maxHeartbeats 2000000 in
theorem KB_28 (l : Launch) (D : va_G) (aC : Nat → ClassId) (b : Nat) : CnV l D aC b M_X10_advance 1 21 0 0 [AR 95] wb_355 (fun u => u = wb_357) := by
  refine cn_V (own := RX10) (nm := "advance") (L0 := [some (AR 95), none]) (by decide +kernel) rfl rfl (Nat.le_of_ble_eq_true rfl) rfl ?_
  intro p e s m args below meth c E hin
  refine s_aload_n E dX10_advance_0 rfl rfl ?_
  refine s_aload_n E dX10_advance_1 rfl rfl ?_
  refine s_gI E fg_X10_96 rfl rfl (by decide +kernel) dX10_advance_2 ?_
  refine s_top (y := 0) (by decide +kernel) ?_
  refine s_vI (As := [AI 0]) (S := []) E (KB_25 l D aC b) cv_X10_99 rfl rfl rfl (by decide +kernel) (Nat.le_of_ble_eq_true rfl) (Nat.le_of_ble_eq_true rfl) ⟨(Nat.le_of_ble_eq_true rfl), (Nat.le_of_ble_eq_true rfl)⟩ (Nat.le_of_ble_eq_true rfl) dX10_advance_5 (fun r u hp => ?_)
  obtain ⟨rfl, rfl⟩ := hp
  refine s_bipush (v := 32) E dX10_advance_8 (by decide) ?_
  refine s_icmp_eq (tgt := 26) E dX10_advance_10 (by decide) (fun hh => absurd hh (by decide)) (fun _ => ?_)
  refine s_aload_n E dX10_advance_13 rfl rfl ?_
  refine s_aload_n E dX10_advance_14 rfl rfl ?_
  refine s_gI E fg_X10_96 rfl rfl (by decide +kernel) dX10_advance_15 ?_
  refine s_top (y := 0) (by decide +kernel) ?_
  refine s_vI (As := [AI 0]) (S := []) E (KB_26 l D aC b) cv_X10_99 rfl rfl rfl (by decide +kernel) (Nat.le_of_ble_eq_true rfl) (Nat.le_of_ble_eq_true rfl) ⟨(Nat.le_of_ble_eq_true rfl), (Nat.le_of_ble_eq_true rfl)⟩ (Nat.le_of_ble_eq_true rfl) dX10_advance_18 (fun r u hp => ?_)
  obtain ⟨rfl, rfl⟩ := hp
  refine s_bipush (v := 10) E dX10_advance_21 (by decide) ?_
  refine s_icmp_ne (tgt := 39) E dX10_advance_23 (by decide) (fun _ => ?_) (fun hh => absurd hh (by decide))
  refine s_aload_n E dX10_advance_39 rfl rfl ?_
  refine s_aload_n E dX10_advance_40 rfl rfl ?_
  refine s_gI E fg_X10_96 rfl rfl (by decide +kernel) dX10_advance_41 ?_
  refine s_top (y := 0) (by decide +kernel) ?_
  refine s_pI E fp_X10_103 (Or.inl rfl) rfl (by decide +kernel) dX10_advance_44 ?_
  refine s_world (w2 := wb_356) rfl ?_
  refine s_aload_n E dX10_advance_47 rfl rfl ?_
  refine s_aload_n E dX10_advance_48 rfl rfl ?_
  refine s_gI E fg_X10_96 rfl rfl (by decide +kernel) dX10_advance_49 ?_
  refine s_top (y := 0) (by decide +kernel) ?_
  refine s_vI (As := [AI 0]) (S := []) E (KB_27 l D aC b) cv_X10_99 rfl rfl rfl (by decide +kernel) (Nat.le_of_ble_eq_true rfl) (Nat.le_of_ble_eq_true rfl) ⟨(Nat.le_of_ble_eq_true rfl), (Nat.le_of_ble_eq_true rfl)⟩ (Nat.le_of_ble_eq_true rfl) dX10_advance_52 (fun r u hp => ?_)
  obtain ⟨rfl, rfl⟩ := hp
  refine s_istore_n (L2 := [some (AR 95), some (AI (-1))]) E dX10_advance_55 rfl (by decide) rfl ?_
  refine s_iload_n E dX10_advance_56 rfl rfl ?_
  refine s_iconst (v := (-1)) E dX10_advance_57 (by decide) ?_
  refine s_icmp_ne (tgt := 69) E dX10_advance_58 (by decide) (fun hh => absurd (by decide) hh) (fun _ => ?_)
  refine s_aload_n E dX10_advance_61 rfl rfl ?_
  refine s_iconst (v := 0) E dX10_advance_62 (by decide) ?_
  refine s_pI E fp_X10_106 (Or.inl rfl) rfl (by decide +kernel) dX10_advance_63 ?_
  refine s_world (w2 := wb_357) rfl ?_
  refine s_goto (tgt := 239) E dX10_advance_66 (by decide) ?_
  exact r_void E dX10_advance_239 rfl
set_option maxRecDepth 20000 in
set_option maxHeartbeats 2000000 in
theorem KB_29 (l : Launch) (D : va_G) (aC : Nat → ClassId) (b : Nat) : CnI l D aC b M_X10_good 0 0 0 0 [AR 95] wb_357 (fun r u => r = 1 ∧ u = wb_357) := by
  refine cn_I (own := RX10) (nm := "good") (L0 := [some (AR 95)]) (by decide +kernel) rfl rfl (Nat.le_of_ble_eq_true rfl) rfl ?_
  intro p e s m args below meth c E hin
  refine s_aload_n E dX10_good_0 rfl rfl ?_
  refine s_gI E fg_X10_127 rfl rfl (by decide +kernel) dX10_good_1 ?_
  refine s_top (y := 0) (by decide +kernel) ?_
  refine s_if_ne (tgt := 11) E dX10_good_4 (by decide) (fun hh => absurd (by decide) hh) (fun _ => ?_)
  refine s_iconst (v := 1) E dX10_good_7 (by decide) ?_
  refine s_goto (tgt := 12) E dX10_good_8 (by decide) ?_
  exact r_bool E dX10_good_12 (Or.inr rfl) ⟨rfl, rfl⟩
set_option maxRecDepth 20000 in
set_option maxHeartbeats 2000000 in
theorem KB_30 (l : Launch) (D : va_G) (aC : Nat → ClassId) (b : Nat) : CnI l D aC b M_X10_good 0 0 0 0 [AR 95] wb_357 (fun r u => r = 1 ∧ u = wb_357) := by
  refine cn_I (own := RX10) (nm := "good") (L0 := [some (AR 95)]) (by decide +kernel) rfl rfl (Nat.le_of_ble_eq_true rfl) rfl ?_
  intro p e s m args below meth c E hin
  refine s_aload_n E dX10_good_0 rfl rfl ?_
  refine s_gI E fg_X10_127 rfl rfl (by decide +kernel) dX10_good_1 ?_
  refine s_top (y := 0) (by decide +kernel) ?_
  refine s_if_ne (tgt := 11) E dX10_good_4 (by decide) (fun hh => absurd (by decide) hh) (fun _ => ?_)
  refine s_iconst (v := 1) E dX10_good_7 (by decide) ?_
  refine s_goto (tgt := 12) E dX10_good_8 (by decide) ?_
  exact r_bool E dX10_good_12 (Or.inr rfl) ⟨rfl, rfl⟩
set_option maxRecDepth 20000 in
set_option maxHeartbeats 2000000 in
theorem KB_31 (l : Launch) (D : va_G) (aC : Nat → ClassId) (b : Nat) : CnI l D aC b M_X10_ball 2 42 0 0 [AR 95] wb_216 (fun r u => r = 0 ∧ u = wb_491) := by
  refine cn_I (own := RX10) (nm := "ball") (L0 := [some (AR 95), none]) (by decide +kernel) rfl rfl (Nat.le_of_ble_eq_true rfl) rfl ?_
  intro p e s m args below meth c E hin
  refine s_aload_n E dX10_ball_0 rfl rfl ?_
  refine s_aload_n E dX10_ball_1 rfl rfl ?_
  refine s_gI E fg_X10_90 rfl rfl (by decide +kernel) dX10_ball_2 ?_
  refine s_top (y := 0) (by decide +kernel) ?_
  refine s_pI E fp_X10_93 (Or.inl rfl) rfl (by decide +kernel) dX10_ball_5 ?_
  refine s_world (w2 := wb_217) rfl ?_
  refine s_aload_n E dX10_ball_8 rfl rfl ?_
  refine s_iconst (v := 0) E dX10_ball_9 (by decide) ?_
  refine s_pI E fp_X10_90 (Or.inl rfl) rfl (by decide +kernel) dX10_ball_10 ?_
  refine s_world (w2 := wb_218) rfl ?_
  refine s_aload_n E dX10_ball_13 rfl rfl ?_
  refine s_iconst (v := 0) E dX10_ball_14 (by decide) ?_
  refine s_pI E fp_X10_96 (Or.inl rfl) rfl (by decide +kernel) dX10_ball_15 ?_
  refine s_world (w2 := wb_219) rfl ?_
  refine s_aload_n E dX10_ball_18 rfl rfl ?_
  refine s_iconst (v := 0) E dX10_ball_19 (by decide) ?_
  refine s_pI E fp_X10_127 (Or.inl rfl) rfl (by decide +kernel) dX10_ball_20 ?_
  refine s_world (w2 := wb_220) rfl ?_
  refine s_aload_n E dX10_ball_23 rfl rfl ?_
  refine s_iconst (v := (-1)) E dX10_ball_24 (by decide) ?_
  refine s_pI E fp_X10_27 (Or.inl rfl) rfl (by decide +kernel) dX10_ball_25 ?_
  refine s_world (w2 := wb_221) rfl ?_
  refine s_iconst (v := 0) E dX10_ball_28 (by decide) ?_
  refine s_istore_n (L2 := [some (AR 95), some (AI 0)]) E dX10_ball_29 rfl (by decide) rfl ?_
  refine s_iload_n E dX10_ball_30 rfl rfl ?_
  refine s_sipush (v := 134) E dX10_ball_31 (by decide) ?_
  refine s_icmp_ge (tgt := 50) E dX10_ball_34 (by decide) (fun hh => absurd hh (by decide)) (fun _ => ?_)
  refine s_aload_n E dX10_ball_37 rfl rfl ?_
  refine s_gR (r := 101) E fg_X10_31 rfl rfl (by decide +kernel) (by decide +kernel) dX10_ball_38 ?_
  refine s_iload_n E dX10_ball_41 rfl rfl ?_
  refine s_iconst (v := 0) E dX10_ball_42 (by decide) ?_
  refine s_iast E rfl (by decide +kernel) (vp_c (by decide)) dX10_ball_43 ?_
  refine s_world (w2 := wb_222) rfl ?_
  refine s_iinc (v := 1) (L2 := [some (AR 95), some (AI 1)]) E dX10_ball_44 rfl (by decide) (by decide) rfl ?_
  refine s_goto (tgt := 30) E dX10_ball_47 (by decide) ?_
  refine s_iload_n E dX10_ball_30 rfl rfl ?_
  refine s_sipush (v := 134) E dX10_ball_31 (by decide) ?_
  refine s_icmp_ge (tgt := 50) E dX10_ball_34 (by decide) (fun hh => absurd hh (by decide)) (fun _ => ?_)
  refine s_aload_n E dX10_ball_37 rfl rfl ?_
  refine s_gR (r := 101) E fg_X10_31 rfl rfl (by decide +kernel) (by decide +kernel) dX10_ball_38 ?_
  refine s_iload_n E dX10_ball_41 rfl rfl ?_
  refine s_iconst (v := 0) E dX10_ball_42 (by decide) ?_
  refine s_iast E rfl (by decide +kernel) (vp_c (by decide)) dX10_ball_43 ?_
  refine s_world (w2 := wb_223) rfl ?_
  refine s_iinc (v := 2) (L2 := [some (AR 95), some (AI 2)]) E dX10_ball_44 rfl (by decide) (by decide) rfl ?_
  refine s_goto (tgt := 30) E dX10_ball_47 (by decide) ?_
  refine s_iload_n E dX10_ball_30 rfl rfl ?_
  refine s_sipush (v := 134) E dX10_ball_31 (by decide) ?_
  refine s_icmp_ge (tgt := 50) E dX10_ball_34 (by decide) (fun hh => absurd hh (by decide)) (fun _ => ?_)
  refine s_aload_n E dX10_ball_37 rfl rfl ?_
  refine s_gR (r := 101) E fg_X10_31 rfl rfl (by decide +kernel) (by decide +kernel) dX10_ball_38 ?_
  refine s_iload_n E dX10_ball_41 rfl rfl ?_
  refine s_iconst (v := 0) E dX10_ball_42 (by decide) ?_
  refine s_iast E rfl (by decide +kernel) (vp_c (by decide)) dX10_ball_43 ?_
  refine s_world (w2 := wb_224) rfl ?_
  refine s_iinc (v := 3) (L2 := [some (AR 95), some (AI 3)]) E dX10_ball_44 rfl (by decide) (by decide) rfl ?_
  refine s_goto (tgt := 30) E dX10_ball_47 (by decide) ?_
  refine s_iload_n E dX10_ball_30 rfl rfl ?_
  refine s_sipush (v := 134) E dX10_ball_31 (by decide) ?_
  refine s_icmp_ge (tgt := 50) E dX10_ball_34 (by decide) (fun hh => absurd hh (by decide)) (fun _ => ?_)
  refine s_aload_n E dX10_ball_37 rfl rfl ?_
  refine s_gR (r := 101) E fg_X10_31 rfl rfl (by decide +kernel) (by decide +kernel) dX10_ball_38 ?_
  refine s_iload_n E dX10_ball_41 rfl rfl ?_
  refine s_iconst (v := 0) E dX10_ball_42 (by decide) ?_
  refine s_iast E rfl (by decide +kernel) (vp_c (by decide)) dX10_ball_43 ?_
  refine s_world (w2 := wb_225) rfl ?_
  refine s_iinc (v := 4) (L2 := [some (AR 95), some (AI 4)]) E dX10_ball_44 rfl (by decide) (by decide) rfl ?_
  refine s_goto (tgt := 30) E dX10_ball_47 (by decide) ?_
  refine s_iload_n E dX10_ball_30 rfl rfl ?_
  refine s_sipush (v := 134) E dX10_ball_31 (by decide) ?_
  refine s_icmp_ge (tgt := 50) E dX10_ball_34 (by decide) (fun hh => absurd hh (by decide)) (fun _ => ?_)
  refine s_aload_n E dX10_ball_37 rfl rfl ?_
  refine s_gR (r := 101) E fg_X10_31 rfl rfl (by decide +kernel) (by decide +kernel) dX10_ball_38 ?_
  refine s_iload_n E dX10_ball_41 rfl rfl ?_
  refine s_iconst (v := 0) E dX10_ball_42 (by decide) ?_
  refine s_iast E rfl (by decide +kernel) (vp_c (by decide)) dX10_ball_43 ?_
  refine s_world (w2 := wb_226) rfl ?_
  refine s_iinc (v := 5) (L2 := [some (AR 95), some (AI 5)]) E dX10_ball_44 rfl (by decide) (by decide) rfl ?_
  refine s_goto (tgt := 30) E dX10_ball_47 (by decide) ?_
  refine s_iload_n E dX10_ball_30 rfl rfl ?_
  refine s_sipush (v := 134) E dX10_ball_31 (by decide) ?_
  refine s_icmp_ge (tgt := 50) E dX10_ball_34 (by decide) (fun hh => absurd hh (by decide)) (fun _ => ?_)
  refine s_aload_n E dX10_ball_37 rfl rfl ?_
  refine s_gR (r := 101) E fg_X10_31 rfl rfl (by decide +kernel) (by decide +kernel) dX10_ball_38 ?_
  refine s_iload_n E dX10_ball_41 rfl rfl ?_
  refine s_iconst (v := 0) E dX10_ball_42 (by decide) ?_
  refine s_iast E rfl (by decide +kernel) (vp_c (by decide)) dX10_ball_43 ?_
  refine s_world (w2 := wb_227) rfl ?_
  refine s_iinc (v := 6) (L2 := [some (AR 95), some (AI 6)]) E dX10_ball_44 rfl (by decide) (by decide) rfl ?_
  refine s_goto (tgt := 30) E dX10_ball_47 (by decide) ?_
  refine s_iload_n E dX10_ball_30 rfl rfl ?_
  refine s_sipush (v := 134) E dX10_ball_31 (by decide) ?_
  refine s_icmp_ge (tgt := 50) E dX10_ball_34 (by decide) (fun hh => absurd hh (by decide)) (fun _ => ?_)
  refine s_aload_n E dX10_ball_37 rfl rfl ?_
  refine s_gR (r := 101) E fg_X10_31 rfl rfl (by decide +kernel) (by decide +kernel) dX10_ball_38 ?_
  refine s_iload_n E dX10_ball_41 rfl rfl ?_
  refine s_iconst (v := 0) E dX10_ball_42 (by decide) ?_
  refine s_iast E rfl (by decide +kernel) (vp_c (by decide)) dX10_ball_43 ?_
  refine s_world (w2 := wb_228) rfl ?_
  refine s_iinc (v := 7) (L2 := [some (AR 95), some (AI 7)]) E dX10_ball_44 rfl (by decide) (by decide) rfl ?_
  refine s_goto (tgt := 30) E dX10_ball_47 (by decide) ?_
  refine s_iload_n E dX10_ball_30 rfl rfl ?_
  refine s_sipush (v := 134) E dX10_ball_31 (by decide) ?_
  refine s_icmp_ge (tgt := 50) E dX10_ball_34 (by decide) (fun hh => absurd hh (by decide)) (fun _ => ?_)
  refine s_aload_n E dX10_ball_37 rfl rfl ?_
  refine s_gR (r := 101) E fg_X10_31 rfl rfl (by decide +kernel) (by decide +kernel) dX10_ball_38 ?_
  refine s_iload_n E dX10_ball_41 rfl rfl ?_
  refine s_iconst (v := 0) E dX10_ball_42 (by decide) ?_
  refine s_iast E rfl (by decide +kernel) (vp_c (by decide)) dX10_ball_43 ?_
  refine s_world (w2 := wb_229) rfl ?_
  refine s_iinc (v := 8) (L2 := [some (AR 95), some (AI 8)]) E dX10_ball_44 rfl (by decide) (by decide) rfl ?_
  refine s_goto (tgt := 30) E dX10_ball_47 (by decide) ?_
  refine s_iload_n E dX10_ball_30 rfl rfl ?_
  refine s_sipush (v := 134) E dX10_ball_31 (by decide) ?_
  refine s_icmp_ge (tgt := 50) E dX10_ball_34 (by decide) (fun hh => absurd hh (by decide)) (fun _ => ?_)
  refine s_aload_n E dX10_ball_37 rfl rfl ?_
  refine s_gR (r := 101) E fg_X10_31 rfl rfl (by decide +kernel) (by decide +kernel) dX10_ball_38 ?_
  refine s_iload_n E dX10_ball_41 rfl rfl ?_
  refine s_iconst (v := 0) E dX10_ball_42 (by decide) ?_
  refine s_iast E rfl (by decide +kernel) (vp_c (by decide)) dX10_ball_43 ?_
  refine s_world (w2 := wb_230) rfl ?_
  refine s_iinc (v := 9) (L2 := [some (AR 95), some (AI 9)]) E dX10_ball_44 rfl (by decide) (by decide) rfl ?_
  refine s_goto (tgt := 30) E dX10_ball_47 (by decide) ?_
  refine s_iload_n E dX10_ball_30 rfl rfl ?_
  refine s_sipush (v := 134) E dX10_ball_31 (by decide) ?_
  refine s_icmp_ge (tgt := 50) E dX10_ball_34 (by decide) (fun hh => absurd hh (by decide)) (fun _ => ?_)
  refine s_aload_n E dX10_ball_37 rfl rfl ?_
  refine s_gR (r := 101) E fg_X10_31 rfl rfl (by decide +kernel) (by decide +kernel) dX10_ball_38 ?_
  refine s_iload_n E dX10_ball_41 rfl rfl ?_
  refine s_iconst (v := 0) E dX10_ball_42 (by decide) ?_
  refine s_iast E rfl (by decide +kernel) (vp_c (by decide)) dX10_ball_43 ?_
  refine s_world (w2 := wb_231) rfl ?_
  refine s_iinc (v := 10) (L2 := [some (AR 95), some (AI 10)]) E dX10_ball_44 rfl (by decide) (by decide) rfl ?_
  refine s_goto (tgt := 30) E dX10_ball_47 (by decide) ?_
  refine s_iload_n E dX10_ball_30 rfl rfl ?_
  refine s_sipush (v := 134) E dX10_ball_31 (by decide) ?_
  refine s_icmp_ge (tgt := 50) E dX10_ball_34 (by decide) (fun hh => absurd hh (by decide)) (fun _ => ?_)
  refine s_aload_n E dX10_ball_37 rfl rfl ?_
  refine s_gR (r := 101) E fg_X10_31 rfl rfl (by decide +kernel) (by decide +kernel) dX10_ball_38 ?_
  refine s_iload_n E dX10_ball_41 rfl rfl ?_
  refine s_iconst (v := 0) E dX10_ball_42 (by decide) ?_
  refine s_iast E rfl (by decide +kernel) (vp_c (by decide)) dX10_ball_43 ?_
  refine s_world (w2 := wb_232) rfl ?_
  refine s_iinc (v := 11) (L2 := [some (AR 95), some (AI 11)]) E dX10_ball_44 rfl (by decide) (by decide) rfl ?_
  refine s_goto (tgt := 30) E dX10_ball_47 (by decide) ?_
  refine s_iload_n E dX10_ball_30 rfl rfl ?_
  refine s_sipush (v := 134) E dX10_ball_31 (by decide) ?_
  refine s_icmp_ge (tgt := 50) E dX10_ball_34 (by decide) (fun hh => absurd hh (by decide)) (fun _ => ?_)
  refine s_aload_n E dX10_ball_37 rfl rfl ?_
  refine s_gR (r := 101) E fg_X10_31 rfl rfl (by decide +kernel) (by decide +kernel) dX10_ball_38 ?_
  refine s_iload_n E dX10_ball_41 rfl rfl ?_
  refine s_iconst (v := 0) E dX10_ball_42 (by decide) ?_
  refine s_iast E rfl (by decide +kernel) (vp_c (by decide)) dX10_ball_43 ?_
  refine s_world (w2 := wb_233) rfl ?_
  refine s_iinc (v := 12) (L2 := [some (AR 95), some (AI 12)]) E dX10_ball_44 rfl (by decide) (by decide) rfl ?_
  refine s_goto (tgt := 30) E dX10_ball_47 (by decide) ?_
  refine s_iload_n E dX10_ball_30 rfl rfl ?_
  refine s_sipush (v := 134) E dX10_ball_31 (by decide) ?_
  refine s_icmp_ge (tgt := 50) E dX10_ball_34 (by decide) (fun hh => absurd hh (by decide)) (fun _ => ?_)
  refine s_aload_n E dX10_ball_37 rfl rfl ?_
  refine s_gR (r := 101) E fg_X10_31 rfl rfl (by decide +kernel) (by decide +kernel) dX10_ball_38 ?_
  refine s_iload_n E dX10_ball_41 rfl rfl ?_
  refine s_iconst (v := 0) E dX10_ball_42 (by decide) ?_
  refine s_iast E rfl (by decide +kernel) (vp_c (by decide)) dX10_ball_43 ?_
  refine s_world (w2 := wb_234) rfl ?_
  refine s_iinc (v := 13) (L2 := [some (AR 95), some (AI 13)]) E dX10_ball_44 rfl (by decide) (by decide) rfl ?_
  refine s_goto (tgt := 30) E dX10_ball_47 (by decide) ?_
  refine s_iload_n E dX10_ball_30 rfl rfl ?_
  refine s_sipush (v := 134) E dX10_ball_31 (by decide) ?_
  refine s_icmp_ge (tgt := 50) E dX10_ball_34 (by decide) (fun hh => absurd hh (by decide)) (fun _ => ?_)
  refine s_aload_n E dX10_ball_37 rfl rfl ?_
  refine s_gR (r := 101) E fg_X10_31 rfl rfl (by decide +kernel) (by decide +kernel) dX10_ball_38 ?_
  refine s_iload_n E dX10_ball_41 rfl rfl ?_
  refine s_iconst (v := 0) E dX10_ball_42 (by decide) ?_
  refine s_iast E rfl (by decide +kernel) (vp_c (by decide)) dX10_ball_43 ?_
  refine s_world (w2 := wb_235) rfl ?_
  refine s_iinc (v := 14) (L2 := [some (AR 95), some (AI 14)]) E dX10_ball_44 rfl (by decide) (by decide) rfl ?_
  refine s_goto (tgt := 30) E dX10_ball_47 (by decide) ?_
  refine s_iload_n E dX10_ball_30 rfl rfl ?_
  refine s_sipush (v := 134) E dX10_ball_31 (by decide) ?_
  refine s_icmp_ge (tgt := 50) E dX10_ball_34 (by decide) (fun hh => absurd hh (by decide)) (fun _ => ?_)
  refine s_aload_n E dX10_ball_37 rfl rfl ?_
  refine s_gR (r := 101) E fg_X10_31 rfl rfl (by decide +kernel) (by decide +kernel) dX10_ball_38 ?_
  refine s_iload_n E dX10_ball_41 rfl rfl ?_
  refine s_iconst (v := 0) E dX10_ball_42 (by decide) ?_
  refine s_iast E rfl (by decide +kernel) (vp_c (by decide)) dX10_ball_43 ?_
  refine s_world (w2 := wb_236) rfl ?_
  refine s_iinc (v := 15) (L2 := [some (AR 95), some (AI 15)]) E dX10_ball_44 rfl (by decide) (by decide) rfl ?_
  refine s_goto (tgt := 30) E dX10_ball_47 (by decide) ?_
  refine s_iload_n E dX10_ball_30 rfl rfl ?_
  refine s_sipush (v := 134) E dX10_ball_31 (by decide) ?_
  refine s_icmp_ge (tgt := 50) E dX10_ball_34 (by decide) (fun hh => absurd hh (by decide)) (fun _ => ?_)
  refine s_aload_n E dX10_ball_37 rfl rfl ?_
  refine s_gR (r := 101) E fg_X10_31 rfl rfl (by decide +kernel) (by decide +kernel) dX10_ball_38 ?_
  refine s_iload_n E dX10_ball_41 rfl rfl ?_
  refine s_iconst (v := 0) E dX10_ball_42 (by decide) ?_
  refine s_iast E rfl (by decide +kernel) (vp_c (by decide)) dX10_ball_43 ?_
  refine s_world (w2 := wb_237) rfl ?_
  refine s_iinc (v := 16) (L2 := [some (AR 95), some (AI 16)]) E dX10_ball_44 rfl (by decide) (by decide) rfl ?_
  refine s_goto (tgt := 30) E dX10_ball_47 (by decide) ?_
  refine s_iload_n E dX10_ball_30 rfl rfl ?_
  refine s_sipush (v := 134) E dX10_ball_31 (by decide) ?_
  refine s_icmp_ge (tgt := 50) E dX10_ball_34 (by decide) (fun hh => absurd hh (by decide)) (fun _ => ?_)
  refine s_aload_n E dX10_ball_37 rfl rfl ?_
  refine s_gR (r := 101) E fg_X10_31 rfl rfl (by decide +kernel) (by decide +kernel) dX10_ball_38 ?_
  refine s_iload_n E dX10_ball_41 rfl rfl ?_
  refine s_iconst (v := 0) E dX10_ball_42 (by decide) ?_
  refine s_iast E rfl (by decide +kernel) (vp_c (by decide)) dX10_ball_43 ?_
  refine s_world (w2 := wb_238) rfl ?_
  refine s_iinc (v := 17) (L2 := [some (AR 95), some (AI 17)]) E dX10_ball_44 rfl (by decide) (by decide) rfl ?_
  refine s_goto (tgt := 30) E dX10_ball_47 (by decide) ?_
  refine s_iload_n E dX10_ball_30 rfl rfl ?_
  refine s_sipush (v := 134) E dX10_ball_31 (by decide) ?_
  refine s_icmp_ge (tgt := 50) E dX10_ball_34 (by decide) (fun hh => absurd hh (by decide)) (fun _ => ?_)
  refine s_aload_n E dX10_ball_37 rfl rfl ?_
  refine s_gR (r := 101) E fg_X10_31 rfl rfl (by decide +kernel) (by decide +kernel) dX10_ball_38 ?_
  refine s_iload_n E dX10_ball_41 rfl rfl ?_
  refine s_iconst (v := 0) E dX10_ball_42 (by decide) ?_
  refine s_iast E rfl (by decide +kernel) (vp_c (by decide)) dX10_ball_43 ?_
  refine s_world (w2 := wb_239) rfl ?_
  refine s_iinc (v := 18) (L2 := [some (AR 95), some (AI 18)]) E dX10_ball_44 rfl (by decide) (by decide) rfl ?_
  refine s_goto (tgt := 30) E dX10_ball_47 (by decide) ?_
  refine s_iload_n E dX10_ball_30 rfl rfl ?_
  refine s_sipush (v := 134) E dX10_ball_31 (by decide) ?_
  refine s_icmp_ge (tgt := 50) E dX10_ball_34 (by decide) (fun hh => absurd hh (by decide)) (fun _ => ?_)
  refine s_aload_n E dX10_ball_37 rfl rfl ?_
  refine s_gR (r := 101) E fg_X10_31 rfl rfl (by decide +kernel) (by decide +kernel) dX10_ball_38 ?_
  refine s_iload_n E dX10_ball_41 rfl rfl ?_
  refine s_iconst (v := 0) E dX10_ball_42 (by decide) ?_
  refine s_iast E rfl (by decide +kernel) (vp_c (by decide)) dX10_ball_43 ?_
  refine s_world (w2 := wb_240) rfl ?_
  refine s_iinc (v := 19) (L2 := [some (AR 95), some (AI 19)]) E dX10_ball_44 rfl (by decide) (by decide) rfl ?_
  refine s_goto (tgt := 30) E dX10_ball_47 (by decide) ?_
  refine s_iload_n E dX10_ball_30 rfl rfl ?_
  refine s_sipush (v := 134) E dX10_ball_31 (by decide) ?_
  refine s_icmp_ge (tgt := 50) E dX10_ball_34 (by decide) (fun hh => absurd hh (by decide)) (fun _ => ?_)
  refine s_aload_n E dX10_ball_37 rfl rfl ?_
  refine s_gR (r := 101) E fg_X10_31 rfl rfl (by decide +kernel) (by decide +kernel) dX10_ball_38 ?_
  refine s_iload_n E dX10_ball_41 rfl rfl ?_
  refine s_iconst (v := 0) E dX10_ball_42 (by decide) ?_
  refine s_iast E rfl (by decide +kernel) (vp_c (by decide)) dX10_ball_43 ?_
  refine s_world (w2 := wb_241) rfl ?_
  refine s_iinc (v := 20) (L2 := [some (AR 95), some (AI 20)]) E dX10_ball_44 rfl (by decide) (by decide) rfl ?_
  refine s_goto (tgt := 30) E dX10_ball_47 (by decide) ?_
  refine s_iload_n E dX10_ball_30 rfl rfl ?_
  refine s_sipush (v := 134) E dX10_ball_31 (by decide) ?_
  refine s_icmp_ge (tgt := 50) E dX10_ball_34 (by decide) (fun hh => absurd hh (by decide)) (fun _ => ?_)
  refine s_aload_n E dX10_ball_37 rfl rfl ?_
  refine s_gR (r := 101) E fg_X10_31 rfl rfl (by decide +kernel) (by decide +kernel) dX10_ball_38 ?_
  refine s_iload_n E dX10_ball_41 rfl rfl ?_
  refine s_iconst (v := 0) E dX10_ball_42 (by decide) ?_
  refine s_iast E rfl (by decide +kernel) (vp_c (by decide)) dX10_ball_43 ?_
  refine s_world (w2 := wb_242) rfl ?_
  refine s_iinc (v := 21) (L2 := [some (AR 95), some (AI 21)]) E dX10_ball_44 rfl (by decide) (by decide) rfl ?_
  refine s_goto (tgt := 30) E dX10_ball_47 (by decide) ?_
  refine s_iload_n E dX10_ball_30 rfl rfl ?_
  refine s_sipush (v := 134) E dX10_ball_31 (by decide) ?_
  refine s_icmp_ge (tgt := 50) E dX10_ball_34 (by decide) (fun hh => absurd hh (by decide)) (fun _ => ?_)
  refine s_aload_n E dX10_ball_37 rfl rfl ?_
  refine s_gR (r := 101) E fg_X10_31 rfl rfl (by decide +kernel) (by decide +kernel) dX10_ball_38 ?_
  refine s_iload_n E dX10_ball_41 rfl rfl ?_
  refine s_iconst (v := 0) E dX10_ball_42 (by decide) ?_
  refine s_iast E rfl (by decide +kernel) (vp_c (by decide)) dX10_ball_43 ?_
  refine s_world (w2 := wb_243) rfl ?_
  refine s_iinc (v := 22) (L2 := [some (AR 95), some (AI 22)]) E dX10_ball_44 rfl (by decide) (by decide) rfl ?_
  refine s_goto (tgt := 30) E dX10_ball_47 (by decide) ?_
  refine s_iload_n E dX10_ball_30 rfl rfl ?_
  refine s_sipush (v := 134) E dX10_ball_31 (by decide) ?_
  refine s_icmp_ge (tgt := 50) E dX10_ball_34 (by decide) (fun hh => absurd hh (by decide)) (fun _ => ?_)
  refine s_aload_n E dX10_ball_37 rfl rfl ?_
  refine s_gR (r := 101) E fg_X10_31 rfl rfl (by decide +kernel) (by decide +kernel) dX10_ball_38 ?_
  refine s_iload_n E dX10_ball_41 rfl rfl ?_
  refine s_iconst (v := 0) E dX10_ball_42 (by decide) ?_
  refine s_iast E rfl (by decide +kernel) (vp_c (by decide)) dX10_ball_43 ?_
  refine s_world (w2 := wb_244) rfl ?_
  refine s_iinc (v := 23) (L2 := [some (AR 95), some (AI 23)]) E dX10_ball_44 rfl (by decide) (by decide) rfl ?_
  refine s_goto (tgt := 30) E dX10_ball_47 (by decide) ?_
  refine s_iload_n E dX10_ball_30 rfl rfl ?_
  refine s_sipush (v := 134) E dX10_ball_31 (by decide) ?_
  refine s_icmp_ge (tgt := 50) E dX10_ball_34 (by decide) (fun hh => absurd hh (by decide)) (fun _ => ?_)
  refine s_aload_n E dX10_ball_37 rfl rfl ?_
  refine s_gR (r := 101) E fg_X10_31 rfl rfl (by decide +kernel) (by decide +kernel) dX10_ball_38 ?_
  refine s_iload_n E dX10_ball_41 rfl rfl ?_
  refine s_iconst (v := 0) E dX10_ball_42 (by decide) ?_
  refine s_iast E rfl (by decide +kernel) (vp_c (by decide)) dX10_ball_43 ?_
  refine s_world (w2 := wb_245) rfl ?_
  refine s_iinc (v := 24) (L2 := [some (AR 95), some (AI 24)]) E dX10_ball_44 rfl (by decide) (by decide) rfl ?_
  refine s_goto (tgt := 30) E dX10_ball_47 (by decide) ?_
  refine s_iload_n E dX10_ball_30 rfl rfl ?_
  refine s_sipush (v := 134) E dX10_ball_31 (by decide) ?_
  refine s_icmp_ge (tgt := 50) E dX10_ball_34 (by decide) (fun hh => absurd hh (by decide)) (fun _ => ?_)
  refine s_aload_n E dX10_ball_37 rfl rfl ?_
  refine s_gR (r := 101) E fg_X10_31 rfl rfl (by decide +kernel) (by decide +kernel) dX10_ball_38 ?_
  refine s_iload_n E dX10_ball_41 rfl rfl ?_
  refine s_iconst (v := 0) E dX10_ball_42 (by decide) ?_
  refine s_iast E rfl (by decide +kernel) (vp_c (by decide)) dX10_ball_43 ?_
  refine s_world (w2 := wb_246) rfl ?_
  refine s_iinc (v := 25) (L2 := [some (AR 95), some (AI 25)]) E dX10_ball_44 rfl (by decide) (by decide) rfl ?_
  refine s_goto (tgt := 30) E dX10_ball_47 (by decide) ?_
  refine s_iload_n E dX10_ball_30 rfl rfl ?_
  refine s_sipush (v := 134) E dX10_ball_31 (by decide) ?_
  refine s_icmp_ge (tgt := 50) E dX10_ball_34 (by decide) (fun hh => absurd hh (by decide)) (fun _ => ?_)
  refine s_aload_n E dX10_ball_37 rfl rfl ?_
  refine s_gR (r := 101) E fg_X10_31 rfl rfl (by decide +kernel) (by decide +kernel) dX10_ball_38 ?_
  refine s_iload_n E dX10_ball_41 rfl rfl ?_
  refine s_iconst (v := 0) E dX10_ball_42 (by decide) ?_
  refine s_iast E rfl (by decide +kernel) (vp_c (by decide)) dX10_ball_43 ?_
  refine s_world (w2 := wb_247) rfl ?_
  refine s_iinc (v := 26) (L2 := [some (AR 95), some (AI 26)]) E dX10_ball_44 rfl (by decide) (by decide) rfl ?_
  refine s_goto (tgt := 30) E dX10_ball_47 (by decide) ?_
  refine s_iload_n E dX10_ball_30 rfl rfl ?_
  refine s_sipush (v := 134) E dX10_ball_31 (by decide) ?_
  refine s_icmp_ge (tgt := 50) E dX10_ball_34 (by decide) (fun hh => absurd hh (by decide)) (fun _ => ?_)
  refine s_aload_n E dX10_ball_37 rfl rfl ?_
  refine s_gR (r := 101) E fg_X10_31 rfl rfl (by decide +kernel) (by decide +kernel) dX10_ball_38 ?_
  refine s_iload_n E dX10_ball_41 rfl rfl ?_
  refine s_iconst (v := 0) E dX10_ball_42 (by decide) ?_
  refine s_iast E rfl (by decide +kernel) (vp_c (by decide)) dX10_ball_43 ?_
  refine s_world (w2 := wb_248) rfl ?_
  refine s_iinc (v := 27) (L2 := [some (AR 95), some (AI 27)]) E dX10_ball_44 rfl (by decide) (by decide) rfl ?_
  refine s_goto (tgt := 30) E dX10_ball_47 (by decide) ?_
  refine s_iload_n E dX10_ball_30 rfl rfl ?_
  refine s_sipush (v := 134) E dX10_ball_31 (by decide) ?_
  refine s_icmp_ge (tgt := 50) E dX10_ball_34 (by decide) (fun hh => absurd hh (by decide)) (fun _ => ?_)
  refine s_aload_n E dX10_ball_37 rfl rfl ?_
  refine s_gR (r := 101) E fg_X10_31 rfl rfl (by decide +kernel) (by decide +kernel) dX10_ball_38 ?_
  refine s_iload_n E dX10_ball_41 rfl rfl ?_
  refine s_iconst (v := 0) E dX10_ball_42 (by decide) ?_
  refine s_iast E rfl (by decide +kernel) (vp_c (by decide)) dX10_ball_43 ?_
  refine s_world (w2 := wb_249) rfl ?_
  refine s_iinc (v := 28) (L2 := [some (AR 95), some (AI 28)]) E dX10_ball_44 rfl (by decide) (by decide) rfl ?_
  refine s_goto (tgt := 30) E dX10_ball_47 (by decide) ?_
  refine s_iload_n E dX10_ball_30 rfl rfl ?_
  refine s_sipush (v := 134) E dX10_ball_31 (by decide) ?_
  refine s_icmp_ge (tgt := 50) E dX10_ball_34 (by decide) (fun hh => absurd hh (by decide)) (fun _ => ?_)
  refine s_aload_n E dX10_ball_37 rfl rfl ?_
  refine s_gR (r := 101) E fg_X10_31 rfl rfl (by decide +kernel) (by decide +kernel) dX10_ball_38 ?_
  refine s_iload_n E dX10_ball_41 rfl rfl ?_
  refine s_iconst (v := 0) E dX10_ball_42 (by decide) ?_
  refine s_iast E rfl (by decide +kernel) (vp_c (by decide)) dX10_ball_43 ?_
  refine s_world (w2 := wb_250) rfl ?_
  refine s_iinc (v := 29) (L2 := [some (AR 95), some (AI 29)]) E dX10_ball_44 rfl (by decide) (by decide) rfl ?_
  refine s_goto (tgt := 30) E dX10_ball_47 (by decide) ?_
  refine s_iload_n E dX10_ball_30 rfl rfl ?_
  refine s_sipush (v := 134) E dX10_ball_31 (by decide) ?_
  refine s_icmp_ge (tgt := 50) E dX10_ball_34 (by decide) (fun hh => absurd hh (by decide)) (fun _ => ?_)
  refine s_aload_n E dX10_ball_37 rfl rfl ?_
  refine s_gR (r := 101) E fg_X10_31 rfl rfl (by decide +kernel) (by decide +kernel) dX10_ball_38 ?_
  refine s_iload_n E dX10_ball_41 rfl rfl ?_
  refine s_iconst (v := 0) E dX10_ball_42 (by decide) ?_
  refine s_iast E rfl (by decide +kernel) (vp_c (by decide)) dX10_ball_43 ?_
  refine s_world (w2 := wb_251) rfl ?_
  refine s_iinc (v := 30) (L2 := [some (AR 95), some (AI 30)]) E dX10_ball_44 rfl (by decide) (by decide) rfl ?_
  refine s_goto (tgt := 30) E dX10_ball_47 (by decide) ?_
  refine s_iload_n E dX10_ball_30 rfl rfl ?_
  refine s_sipush (v := 134) E dX10_ball_31 (by decide) ?_
  refine s_icmp_ge (tgt := 50) E dX10_ball_34 (by decide) (fun hh => absurd hh (by decide)) (fun _ => ?_)
  refine s_aload_n E dX10_ball_37 rfl rfl ?_
  refine s_gR (r := 101) E fg_X10_31 rfl rfl (by decide +kernel) (by decide +kernel) dX10_ball_38 ?_
  refine s_iload_n E dX10_ball_41 rfl rfl ?_
  refine s_iconst (v := 0) E dX10_ball_42 (by decide) ?_
  refine s_iast E rfl (by decide +kernel) (vp_c (by decide)) dX10_ball_43 ?_
  refine s_world (w2 := wb_252) rfl ?_
  refine s_iinc (v := 31) (L2 := [some (AR 95), some (AI 31)]) E dX10_ball_44 rfl (by decide) (by decide) rfl ?_
  refine s_goto (tgt := 30) E dX10_ball_47 (by decide) ?_
  refine s_iload_n E dX10_ball_30 rfl rfl ?_
  refine s_sipush (v := 134) E dX10_ball_31 (by decide) ?_
  refine s_icmp_ge (tgt := 50) E dX10_ball_34 (by decide) (fun hh => absurd hh (by decide)) (fun _ => ?_)
  refine s_aload_n E dX10_ball_37 rfl rfl ?_
  refine s_gR (r := 101) E fg_X10_31 rfl rfl (by decide +kernel) (by decide +kernel) dX10_ball_38 ?_
  refine s_iload_n E dX10_ball_41 rfl rfl ?_
  refine s_iconst (v := 0) E dX10_ball_42 (by decide) ?_
  refine s_iast E rfl (by decide +kernel) (vp_c (by decide)) dX10_ball_43 ?_
  refine s_world (w2 := wb_253) rfl ?_
  refine s_iinc (v := 32) (L2 := [some (AR 95), some (AI 32)]) E dX10_ball_44 rfl (by decide) (by decide) rfl ?_
  refine s_goto (tgt := 30) E dX10_ball_47 (by decide) ?_
  refine s_iload_n E dX10_ball_30 rfl rfl ?_
  refine s_sipush (v := 134) E dX10_ball_31 (by decide) ?_
  refine s_icmp_ge (tgt := 50) E dX10_ball_34 (by decide) (fun hh => absurd hh (by decide)) (fun _ => ?_)
  refine s_aload_n E dX10_ball_37 rfl rfl ?_
  refine s_gR (r := 101) E fg_X10_31 rfl rfl (by decide +kernel) (by decide +kernel) dX10_ball_38 ?_
  refine s_iload_n E dX10_ball_41 rfl rfl ?_
  refine s_iconst (v := 0) E dX10_ball_42 (by decide) ?_
  refine s_iast E rfl (by decide +kernel) (vp_c (by decide)) dX10_ball_43 ?_
  refine s_world (w2 := wb_254) rfl ?_
  refine s_iinc (v := 33) (L2 := [some (AR 95), some (AI 33)]) E dX10_ball_44 rfl (by decide) (by decide) rfl ?_
  refine s_goto (tgt := 30) E dX10_ball_47 (by decide) ?_
  refine s_iload_n E dX10_ball_30 rfl rfl ?_
  refine s_sipush (v := 134) E dX10_ball_31 (by decide) ?_
  refine s_icmp_ge (tgt := 50) E dX10_ball_34 (by decide) (fun hh => absurd hh (by decide)) (fun _ => ?_)
  refine s_aload_n E dX10_ball_37 rfl rfl ?_
  refine s_gR (r := 101) E fg_X10_31 rfl rfl (by decide +kernel) (by decide +kernel) dX10_ball_38 ?_
  refine s_iload_n E dX10_ball_41 rfl rfl ?_
  refine s_iconst (v := 0) E dX10_ball_42 (by decide) ?_
  refine s_iast E rfl (by decide +kernel) (vp_c (by decide)) dX10_ball_43 ?_
  refine s_world (w2 := wb_255) rfl ?_
  refine s_iinc (v := 34) (L2 := [some (AR 95), some (AI 34)]) E dX10_ball_44 rfl (by decide) (by decide) rfl ?_
  refine s_goto (tgt := 30) E dX10_ball_47 (by decide) ?_
  refine s_iload_n E dX10_ball_30 rfl rfl ?_
  refine s_sipush (v := 134) E dX10_ball_31 (by decide) ?_
  refine s_icmp_ge (tgt := 50) E dX10_ball_34 (by decide) (fun hh => absurd hh (by decide)) (fun _ => ?_)
  refine s_aload_n E dX10_ball_37 rfl rfl ?_
  refine s_gR (r := 101) E fg_X10_31 rfl rfl (by decide +kernel) (by decide +kernel) dX10_ball_38 ?_
  refine s_iload_n E dX10_ball_41 rfl rfl ?_
  refine s_iconst (v := 0) E dX10_ball_42 (by decide) ?_
  refine s_iast E rfl (by decide +kernel) (vp_c (by decide)) dX10_ball_43 ?_
  refine s_world (w2 := wb_256) rfl ?_
  refine s_iinc (v := 35) (L2 := [some (AR 95), some (AI 35)]) E dX10_ball_44 rfl (by decide) (by decide) rfl ?_
  refine s_goto (tgt := 30) E dX10_ball_47 (by decide) ?_
  refine s_iload_n E dX10_ball_30 rfl rfl ?_
  refine s_sipush (v := 134) E dX10_ball_31 (by decide) ?_
  refine s_icmp_ge (tgt := 50) E dX10_ball_34 (by decide) (fun hh => absurd hh (by decide)) (fun _ => ?_)
  refine s_aload_n E dX10_ball_37 rfl rfl ?_
  refine s_gR (r := 101) E fg_X10_31 rfl rfl (by decide +kernel) (by decide +kernel) dX10_ball_38 ?_
  refine s_iload_n E dX10_ball_41 rfl rfl ?_
  refine s_iconst (v := 0) E dX10_ball_42 (by decide) ?_
  refine s_iast E rfl (by decide +kernel) (vp_c (by decide)) dX10_ball_43 ?_
  refine s_world (w2 := wb_257) rfl ?_
  refine s_iinc (v := 36) (L2 := [some (AR 95), some (AI 36)]) E dX10_ball_44 rfl (by decide) (by decide) rfl ?_
  refine s_goto (tgt := 30) E dX10_ball_47 (by decide) ?_
  refine s_iload_n E dX10_ball_30 rfl rfl ?_
  refine s_sipush (v := 134) E dX10_ball_31 (by decide) ?_
  refine s_icmp_ge (tgt := 50) E dX10_ball_34 (by decide) (fun hh => absurd hh (by decide)) (fun _ => ?_)
  refine s_aload_n E dX10_ball_37 rfl rfl ?_
  refine s_gR (r := 101) E fg_X10_31 rfl rfl (by decide +kernel) (by decide +kernel) dX10_ball_38 ?_
  refine s_iload_n E dX10_ball_41 rfl rfl ?_
  refine s_iconst (v := 0) E dX10_ball_42 (by decide) ?_
  refine s_iast E rfl (by decide +kernel) (vp_c (by decide)) dX10_ball_43 ?_
  refine s_world (w2 := wb_258) rfl ?_
  refine s_iinc (v := 37) (L2 := [some (AR 95), some (AI 37)]) E dX10_ball_44 rfl (by decide) (by decide) rfl ?_
  refine s_goto (tgt := 30) E dX10_ball_47 (by decide) ?_
  refine s_iload_n E dX10_ball_30 rfl rfl ?_
  refine s_sipush (v := 134) E dX10_ball_31 (by decide) ?_
  refine s_icmp_ge (tgt := 50) E dX10_ball_34 (by decide) (fun hh => absurd hh (by decide)) (fun _ => ?_)
  refine s_aload_n E dX10_ball_37 rfl rfl ?_
  refine s_gR (r := 101) E fg_X10_31 rfl rfl (by decide +kernel) (by decide +kernel) dX10_ball_38 ?_
  refine s_iload_n E dX10_ball_41 rfl rfl ?_
  refine s_iconst (v := 0) E dX10_ball_42 (by decide) ?_
  refine s_iast E rfl (by decide +kernel) (vp_c (by decide)) dX10_ball_43 ?_
  refine s_world (w2 := wb_259) rfl ?_
  refine s_iinc (v := 38) (L2 := [some (AR 95), some (AI 38)]) E dX10_ball_44 rfl (by decide) (by decide) rfl ?_
  refine s_goto (tgt := 30) E dX10_ball_47 (by decide) ?_
  refine s_iload_n E dX10_ball_30 rfl rfl ?_
  refine s_sipush (v := 134) E dX10_ball_31 (by decide) ?_
  refine s_icmp_ge (tgt := 50) E dX10_ball_34 (by decide) (fun hh => absurd hh (by decide)) (fun _ => ?_)
  refine s_aload_n E dX10_ball_37 rfl rfl ?_
  refine s_gR (r := 101) E fg_X10_31 rfl rfl (by decide +kernel) (by decide +kernel) dX10_ball_38 ?_
  refine s_iload_n E dX10_ball_41 rfl rfl ?_
  refine s_iconst (v := 0) E dX10_ball_42 (by decide) ?_
  refine s_iast E rfl (by decide +kernel) (vp_c (by decide)) dX10_ball_43 ?_
  refine s_world (w2 := wb_260) rfl ?_
  refine s_iinc (v := 39) (L2 := [some (AR 95), some (AI 39)]) E dX10_ball_44 rfl (by decide) (by decide) rfl ?_
  refine s_goto (tgt := 30) E dX10_ball_47 (by decide) ?_
  refine s_iload_n E dX10_ball_30 rfl rfl ?_
  refine s_sipush (v := 134) E dX10_ball_31 (by decide) ?_
  refine s_icmp_ge (tgt := 50) E dX10_ball_34 (by decide) (fun hh => absurd hh (by decide)) (fun _ => ?_)
  refine s_aload_n E dX10_ball_37 rfl rfl ?_
  refine s_gR (r := 101) E fg_X10_31 rfl rfl (by decide +kernel) (by decide +kernel) dX10_ball_38 ?_
  refine s_iload_n E dX10_ball_41 rfl rfl ?_
  refine s_iconst (v := 0) E dX10_ball_42 (by decide) ?_
  refine s_iast E rfl (by decide +kernel) (vp_c (by decide)) dX10_ball_43 ?_
  refine s_world (w2 := wb_261) rfl ?_
  refine s_iinc (v := 40) (L2 := [some (AR 95), some (AI 40)]) E dX10_ball_44 rfl (by decide) (by decide) rfl ?_
  refine s_goto (tgt := 30) E dX10_ball_47 (by decide) ?_
  refine s_iload_n E dX10_ball_30 rfl rfl ?_
  refine s_sipush (v := 134) E dX10_ball_31 (by decide) ?_
  refine s_icmp_ge (tgt := 50) E dX10_ball_34 (by decide) (fun hh => absurd hh (by decide)) (fun _ => ?_)
  refine s_aload_n E dX10_ball_37 rfl rfl ?_
  refine s_gR (r := 101) E fg_X10_31 rfl rfl (by decide +kernel) (by decide +kernel) dX10_ball_38 ?_
  refine s_iload_n E dX10_ball_41 rfl rfl ?_
  refine s_iconst (v := 0) E dX10_ball_42 (by decide) ?_
  refine s_iast E rfl (by decide +kernel) (vp_c (by decide)) dX10_ball_43 ?_
  refine s_world (w2 := wb_262) rfl ?_
  refine s_iinc (v := 41) (L2 := [some (AR 95), some (AI 41)]) E dX10_ball_44 rfl (by decide) (by decide) rfl ?_
  refine s_goto (tgt := 30) E dX10_ball_47 (by decide) ?_
  refine s_iload_n E dX10_ball_30 rfl rfl ?_
  refine s_sipush (v := 134) E dX10_ball_31 (by decide) ?_
  refine s_icmp_ge (tgt := 50) E dX10_ball_34 (by decide) (fun hh => absurd hh (by decide)) (fun _ => ?_)
  refine s_aload_n E dX10_ball_37 rfl rfl ?_
  refine s_gR (r := 101) E fg_X10_31 rfl rfl (by decide +kernel) (by decide +kernel) dX10_ball_38 ?_
  refine s_iload_n E dX10_ball_41 rfl rfl ?_
  refine s_iconst (v := 0) E dX10_ball_42 (by decide) ?_
  refine s_iast E rfl (by decide +kernel) (vp_c (by decide)) dX10_ball_43 ?_
  refine s_world (w2 := wb_263) rfl ?_
  refine s_iinc (v := 42) (L2 := [some (AR 95), some (AI 42)]) E dX10_ball_44 rfl (by decide) (by decide) rfl ?_
  refine s_goto (tgt := 30) E dX10_ball_47 (by decide) ?_
  refine s_iload_n E dX10_ball_30 rfl rfl ?_
  refine s_sipush (v := 134) E dX10_ball_31 (by decide) ?_
  refine s_icmp_ge (tgt := 50) E dX10_ball_34 (by decide) (fun hh => absurd hh (by decide)) (fun _ => ?_)
  refine s_aload_n E dX10_ball_37 rfl rfl ?_
  refine s_gR (r := 101) E fg_X10_31 rfl rfl (by decide +kernel) (by decide +kernel) dX10_ball_38 ?_
  refine s_iload_n E dX10_ball_41 rfl rfl ?_
  refine s_iconst (v := 0) E dX10_ball_42 (by decide) ?_
  refine s_iast E rfl (by decide +kernel) (vp_c (by decide)) dX10_ball_43 ?_
  refine s_world (w2 := wb_264) rfl ?_
  refine s_iinc (v := 43) (L2 := [some (AR 95), some (AI 43)]) E dX10_ball_44 rfl (by decide) (by decide) rfl ?_
  refine s_goto (tgt := 30) E dX10_ball_47 (by decide) ?_
  refine s_iload_n E dX10_ball_30 rfl rfl ?_
  refine s_sipush (v := 134) E dX10_ball_31 (by decide) ?_
  refine s_icmp_ge (tgt := 50) E dX10_ball_34 (by decide) (fun hh => absurd hh (by decide)) (fun _ => ?_)
  refine s_aload_n E dX10_ball_37 rfl rfl ?_
  refine s_gR (r := 101) E fg_X10_31 rfl rfl (by decide +kernel) (by decide +kernel) dX10_ball_38 ?_
  refine s_iload_n E dX10_ball_41 rfl rfl ?_
  refine s_iconst (v := 0) E dX10_ball_42 (by decide) ?_
  refine s_iast E rfl (by decide +kernel) (vp_c (by decide)) dX10_ball_43 ?_
  refine s_world (w2 := wb_265) rfl ?_
  refine s_iinc (v := 44) (L2 := [some (AR 95), some (AI 44)]) E dX10_ball_44 rfl (by decide) (by decide) rfl ?_
  refine s_goto (tgt := 30) E dX10_ball_47 (by decide) ?_
  refine s_iload_n E dX10_ball_30 rfl rfl ?_
  refine s_sipush (v := 134) E dX10_ball_31 (by decide) ?_
  refine s_icmp_ge (tgt := 50) E dX10_ball_34 (by decide) (fun hh => absurd hh (by decide)) (fun _ => ?_)
  refine s_aload_n E dX10_ball_37 rfl rfl ?_
  refine s_gR (r := 101) E fg_X10_31 rfl rfl (by decide +kernel) (by decide +kernel) dX10_ball_38 ?_
  refine s_iload_n E dX10_ball_41 rfl rfl ?_
  refine s_iconst (v := 0) E dX10_ball_42 (by decide) ?_
  refine s_iast E rfl (by decide +kernel) (vp_c (by decide)) dX10_ball_43 ?_
  refine s_world (w2 := wb_266) rfl ?_
  refine s_iinc (v := 45) (L2 := [some (AR 95), some (AI 45)]) E dX10_ball_44 rfl (by decide) (by decide) rfl ?_
  refine s_goto (tgt := 30) E dX10_ball_47 (by decide) ?_
  refine s_iload_n E dX10_ball_30 rfl rfl ?_
  refine s_sipush (v := 134) E dX10_ball_31 (by decide) ?_
  refine s_icmp_ge (tgt := 50) E dX10_ball_34 (by decide) (fun hh => absurd hh (by decide)) (fun _ => ?_)
  refine s_aload_n E dX10_ball_37 rfl rfl ?_
  refine s_gR (r := 101) E fg_X10_31 rfl rfl (by decide +kernel) (by decide +kernel) dX10_ball_38 ?_
  refine s_iload_n E dX10_ball_41 rfl rfl ?_
  refine s_iconst (v := 0) E dX10_ball_42 (by decide) ?_
  refine s_iast E rfl (by decide +kernel) (vp_c (by decide)) dX10_ball_43 ?_
  refine s_world (w2 := wb_267) rfl ?_
  refine s_iinc (v := 46) (L2 := [some (AR 95), some (AI 46)]) E dX10_ball_44 rfl (by decide) (by decide) rfl ?_
  refine s_goto (tgt := 30) E dX10_ball_47 (by decide) ?_
  refine s_iload_n E dX10_ball_30 rfl rfl ?_
  refine s_sipush (v := 134) E dX10_ball_31 (by decide) ?_
  refine s_icmp_ge (tgt := 50) E dX10_ball_34 (by decide) (fun hh => absurd hh (by decide)) (fun _ => ?_)
  refine s_aload_n E dX10_ball_37 rfl rfl ?_
  refine s_gR (r := 101) E fg_X10_31 rfl rfl (by decide +kernel) (by decide +kernel) dX10_ball_38 ?_
  refine s_iload_n E dX10_ball_41 rfl rfl ?_
  refine s_iconst (v := 0) E dX10_ball_42 (by decide) ?_
  refine s_iast E rfl (by decide +kernel) (vp_c (by decide)) dX10_ball_43 ?_
  refine s_world (w2 := wb_268) rfl ?_
  refine s_iinc (v := 47) (L2 := [some (AR 95), some (AI 47)]) E dX10_ball_44 rfl (by decide) (by decide) rfl ?_
  refine s_goto (tgt := 30) E dX10_ball_47 (by decide) ?_
  refine s_iload_n E dX10_ball_30 rfl rfl ?_
  refine s_sipush (v := 134) E dX10_ball_31 (by decide) ?_
  refine s_icmp_ge (tgt := 50) E dX10_ball_34 (by decide) (fun hh => absurd hh (by decide)) (fun _ => ?_)
  refine s_aload_n E dX10_ball_37 rfl rfl ?_
  refine s_gR (r := 101) E fg_X10_31 rfl rfl (by decide +kernel) (by decide +kernel) dX10_ball_38 ?_
  refine s_iload_n E dX10_ball_41 rfl rfl ?_
  refine s_iconst (v := 0) E dX10_ball_42 (by decide) ?_
  refine s_iast E rfl (by decide +kernel) (vp_c (by decide)) dX10_ball_43 ?_
  refine s_world (w2 := wb_269) rfl ?_
  refine s_iinc (v := 48) (L2 := [some (AR 95), some (AI 48)]) E dX10_ball_44 rfl (by decide) (by decide) rfl ?_
  refine s_goto (tgt := 30) E dX10_ball_47 (by decide) ?_
  refine s_iload_n E dX10_ball_30 rfl rfl ?_
  refine s_sipush (v := 134) E dX10_ball_31 (by decide) ?_
  refine s_icmp_ge (tgt := 50) E dX10_ball_34 (by decide) (fun hh => absurd hh (by decide)) (fun _ => ?_)
  refine s_aload_n E dX10_ball_37 rfl rfl ?_
  refine s_gR (r := 101) E fg_X10_31 rfl rfl (by decide +kernel) (by decide +kernel) dX10_ball_38 ?_
  refine s_iload_n E dX10_ball_41 rfl rfl ?_
  refine s_iconst (v := 0) E dX10_ball_42 (by decide) ?_
  refine s_iast E rfl (by decide +kernel) (vp_c (by decide)) dX10_ball_43 ?_
  refine s_world (w2 := wb_270) rfl ?_
  refine s_iinc (v := 49) (L2 := [some (AR 95), some (AI 49)]) E dX10_ball_44 rfl (by decide) (by decide) rfl ?_
  refine s_goto (tgt := 30) E dX10_ball_47 (by decide) ?_
  refine s_iload_n E dX10_ball_30 rfl rfl ?_
  refine s_sipush (v := 134) E dX10_ball_31 (by decide) ?_
  refine s_icmp_ge (tgt := 50) E dX10_ball_34 (by decide) (fun hh => absurd hh (by decide)) (fun _ => ?_)
  refine s_aload_n E dX10_ball_37 rfl rfl ?_
  refine s_gR (r := 101) E fg_X10_31 rfl rfl (by decide +kernel) (by decide +kernel) dX10_ball_38 ?_
  refine s_iload_n E dX10_ball_41 rfl rfl ?_
  refine s_iconst (v := 0) E dX10_ball_42 (by decide) ?_
  refine s_iast E rfl (by decide +kernel) (vp_c (by decide)) dX10_ball_43 ?_
  refine s_world (w2 := wb_271) rfl ?_
  refine s_iinc (v := 50) (L2 := [some (AR 95), some (AI 50)]) E dX10_ball_44 rfl (by decide) (by decide) rfl ?_
  refine s_goto (tgt := 30) E dX10_ball_47 (by decide) ?_
  refine s_iload_n E dX10_ball_30 rfl rfl ?_
  refine s_sipush (v := 134) E dX10_ball_31 (by decide) ?_
  refine s_icmp_ge (tgt := 50) E dX10_ball_34 (by decide) (fun hh => absurd hh (by decide)) (fun _ => ?_)
  refine s_aload_n E dX10_ball_37 rfl rfl ?_
  refine s_gR (r := 101) E fg_X10_31 rfl rfl (by decide +kernel) (by decide +kernel) dX10_ball_38 ?_
  refine s_iload_n E dX10_ball_41 rfl rfl ?_
  refine s_iconst (v := 0) E dX10_ball_42 (by decide) ?_
  refine s_iast E rfl (by decide +kernel) (vp_c (by decide)) dX10_ball_43 ?_
  refine s_world (w2 := wb_272) rfl ?_
  refine s_iinc (v := 51) (L2 := [some (AR 95), some (AI 51)]) E dX10_ball_44 rfl (by decide) (by decide) rfl ?_
  refine s_goto (tgt := 30) E dX10_ball_47 (by decide) ?_
  refine s_iload_n E dX10_ball_30 rfl rfl ?_
  refine s_sipush (v := 134) E dX10_ball_31 (by decide) ?_
  refine s_icmp_ge (tgt := 50) E dX10_ball_34 (by decide) (fun hh => absurd hh (by decide)) (fun _ => ?_)
  refine s_aload_n E dX10_ball_37 rfl rfl ?_
  refine s_gR (r := 101) E fg_X10_31 rfl rfl (by decide +kernel) (by decide +kernel) dX10_ball_38 ?_
  refine s_iload_n E dX10_ball_41 rfl rfl ?_
  refine s_iconst (v := 0) E dX10_ball_42 (by decide) ?_
  refine s_iast E rfl (by decide +kernel) (vp_c (by decide)) dX10_ball_43 ?_
  refine s_world (w2 := wb_273) rfl ?_
  refine s_iinc (v := 52) (L2 := [some (AR 95), some (AI 52)]) E dX10_ball_44 rfl (by decide) (by decide) rfl ?_
  refine s_goto (tgt := 30) E dX10_ball_47 (by decide) ?_
  refine s_iload_n E dX10_ball_30 rfl rfl ?_
  refine s_sipush (v := 134) E dX10_ball_31 (by decide) ?_
  refine s_icmp_ge (tgt := 50) E dX10_ball_34 (by decide) (fun hh => absurd hh (by decide)) (fun _ => ?_)
  refine s_aload_n E dX10_ball_37 rfl rfl ?_
  refine s_gR (r := 101) E fg_X10_31 rfl rfl (by decide +kernel) (by decide +kernel) dX10_ball_38 ?_
  refine s_iload_n E dX10_ball_41 rfl rfl ?_
  refine s_iconst (v := 0) E dX10_ball_42 (by decide) ?_
  refine s_iast E rfl (by decide +kernel) (vp_c (by decide)) dX10_ball_43 ?_
  refine s_world (w2 := wb_274) rfl ?_
  refine s_iinc (v := 53) (L2 := [some (AR 95), some (AI 53)]) E dX10_ball_44 rfl (by decide) (by decide) rfl ?_
  refine s_goto (tgt := 30) E dX10_ball_47 (by decide) ?_
  refine s_iload_n E dX10_ball_30 rfl rfl ?_
  refine s_sipush (v := 134) E dX10_ball_31 (by decide) ?_
  refine s_icmp_ge (tgt := 50) E dX10_ball_34 (by decide) (fun hh => absurd hh (by decide)) (fun _ => ?_)
  refine s_aload_n E dX10_ball_37 rfl rfl ?_
  refine s_gR (r := 101) E fg_X10_31 rfl rfl (by decide +kernel) (by decide +kernel) dX10_ball_38 ?_
  refine s_iload_n E dX10_ball_41 rfl rfl ?_
  refine s_iconst (v := 0) E dX10_ball_42 (by decide) ?_
  refine s_iast E rfl (by decide +kernel) (vp_c (by decide)) dX10_ball_43 ?_
  refine s_world (w2 := wb_275) rfl ?_
  refine s_iinc (v := 54) (L2 := [some (AR 95), some (AI 54)]) E dX10_ball_44 rfl (by decide) (by decide) rfl ?_
  refine s_goto (tgt := 30) E dX10_ball_47 (by decide) ?_
  refine s_iload_n E dX10_ball_30 rfl rfl ?_
  refine s_sipush (v := 134) E dX10_ball_31 (by decide) ?_
  refine s_icmp_ge (tgt := 50) E dX10_ball_34 (by decide) (fun hh => absurd hh (by decide)) (fun _ => ?_)
  refine s_aload_n E dX10_ball_37 rfl rfl ?_
  refine s_gR (r := 101) E fg_X10_31 rfl rfl (by decide +kernel) (by decide +kernel) dX10_ball_38 ?_
  refine s_iload_n E dX10_ball_41 rfl rfl ?_
  refine s_iconst (v := 0) E dX10_ball_42 (by decide) ?_
  refine s_iast E rfl (by decide +kernel) (vp_c (by decide)) dX10_ball_43 ?_
  refine s_world (w2 := wb_276) rfl ?_
  refine s_iinc (v := 55) (L2 := [some (AR 95), some (AI 55)]) E dX10_ball_44 rfl (by decide) (by decide) rfl ?_
  refine s_goto (tgt := 30) E dX10_ball_47 (by decide) ?_
  refine s_iload_n E dX10_ball_30 rfl rfl ?_
  refine s_sipush (v := 134) E dX10_ball_31 (by decide) ?_
  refine s_icmp_ge (tgt := 50) E dX10_ball_34 (by decide) (fun hh => absurd hh (by decide)) (fun _ => ?_)
  refine s_aload_n E dX10_ball_37 rfl rfl ?_
  refine s_gR (r := 101) E fg_X10_31 rfl rfl (by decide +kernel) (by decide +kernel) dX10_ball_38 ?_
  refine s_iload_n E dX10_ball_41 rfl rfl ?_
  refine s_iconst (v := 0) E dX10_ball_42 (by decide) ?_
  refine s_iast E rfl (by decide +kernel) (vp_c (by decide)) dX10_ball_43 ?_
  refine s_world (w2 := wb_277) rfl ?_
  refine s_iinc (v := 56) (L2 := [some (AR 95), some (AI 56)]) E dX10_ball_44 rfl (by decide) (by decide) rfl ?_
  refine s_goto (tgt := 30) E dX10_ball_47 (by decide) ?_
  refine s_iload_n E dX10_ball_30 rfl rfl ?_
  refine s_sipush (v := 134) E dX10_ball_31 (by decide) ?_
  refine s_icmp_ge (tgt := 50) E dX10_ball_34 (by decide) (fun hh => absurd hh (by decide)) (fun _ => ?_)
  refine s_aload_n E dX10_ball_37 rfl rfl ?_
  refine s_gR (r := 101) E fg_X10_31 rfl rfl (by decide +kernel) (by decide +kernel) dX10_ball_38 ?_
  refine s_iload_n E dX10_ball_41 rfl rfl ?_
  refine s_iconst (v := 0) E dX10_ball_42 (by decide) ?_
  refine s_iast E rfl (by decide +kernel) (vp_c (by decide)) dX10_ball_43 ?_
  refine s_world (w2 := wb_278) rfl ?_
  refine s_iinc (v := 57) (L2 := [some (AR 95), some (AI 57)]) E dX10_ball_44 rfl (by decide) (by decide) rfl ?_
  refine s_goto (tgt := 30) E dX10_ball_47 (by decide) ?_
  refine s_iload_n E dX10_ball_30 rfl rfl ?_
  refine s_sipush (v := 134) E dX10_ball_31 (by decide) ?_
  refine s_icmp_ge (tgt := 50) E dX10_ball_34 (by decide) (fun hh => absurd hh (by decide)) (fun _ => ?_)
  refine s_aload_n E dX10_ball_37 rfl rfl ?_
  refine s_gR (r := 101) E fg_X10_31 rfl rfl (by decide +kernel) (by decide +kernel) dX10_ball_38 ?_
  refine s_iload_n E dX10_ball_41 rfl rfl ?_
  refine s_iconst (v := 0) E dX10_ball_42 (by decide) ?_
  refine s_iast E rfl (by decide +kernel) (vp_c (by decide)) dX10_ball_43 ?_
  refine s_world (w2 := wb_279) rfl ?_
  refine s_iinc (v := 58) (L2 := [some (AR 95), some (AI 58)]) E dX10_ball_44 rfl (by decide) (by decide) rfl ?_
  refine s_goto (tgt := 30) E dX10_ball_47 (by decide) ?_
  refine s_iload_n E dX10_ball_30 rfl rfl ?_
  refine s_sipush (v := 134) E dX10_ball_31 (by decide) ?_
  refine s_icmp_ge (tgt := 50) E dX10_ball_34 (by decide) (fun hh => absurd hh (by decide)) (fun _ => ?_)
  refine s_aload_n E dX10_ball_37 rfl rfl ?_
  refine s_gR (r := 101) E fg_X10_31 rfl rfl (by decide +kernel) (by decide +kernel) dX10_ball_38 ?_
  refine s_iload_n E dX10_ball_41 rfl rfl ?_
  refine s_iconst (v := 0) E dX10_ball_42 (by decide) ?_
  refine s_iast E rfl (by decide +kernel) (vp_c (by decide)) dX10_ball_43 ?_
  refine s_world (w2 := wb_280) rfl ?_
  refine s_iinc (v := 59) (L2 := [some (AR 95), some (AI 59)]) E dX10_ball_44 rfl (by decide) (by decide) rfl ?_
  refine s_goto (tgt := 30) E dX10_ball_47 (by decide) ?_
  refine s_iload_n E dX10_ball_30 rfl rfl ?_
  refine s_sipush (v := 134) E dX10_ball_31 (by decide) ?_
  refine s_icmp_ge (tgt := 50) E dX10_ball_34 (by decide) (fun hh => absurd hh (by decide)) (fun _ => ?_)
  refine s_aload_n E dX10_ball_37 rfl rfl ?_
  refine s_gR (r := 101) E fg_X10_31 rfl rfl (by decide +kernel) (by decide +kernel) dX10_ball_38 ?_
  refine s_iload_n E dX10_ball_41 rfl rfl ?_
  refine s_iconst (v := 0) E dX10_ball_42 (by decide) ?_
  refine s_iast E rfl (by decide +kernel) (vp_c (by decide)) dX10_ball_43 ?_
  refine s_world (w2 := wb_281) rfl ?_
  refine s_iinc (v := 60) (L2 := [some (AR 95), some (AI 60)]) E dX10_ball_44 rfl (by decide) (by decide) rfl ?_
  refine s_goto (tgt := 30) E dX10_ball_47 (by decide) ?_
  refine s_iload_n E dX10_ball_30 rfl rfl ?_
  refine s_sipush (v := 134) E dX10_ball_31 (by decide) ?_
  refine s_icmp_ge (tgt := 50) E dX10_ball_34 (by decide) (fun hh => absurd hh (by decide)) (fun _ => ?_)
  refine s_aload_n E dX10_ball_37 rfl rfl ?_
  refine s_gR (r := 101) E fg_X10_31 rfl rfl (by decide +kernel) (by decide +kernel) dX10_ball_38 ?_
  refine s_iload_n E dX10_ball_41 rfl rfl ?_
  refine s_iconst (v := 0) E dX10_ball_42 (by decide) ?_
  refine s_iast E rfl (by decide +kernel) (vp_c (by decide)) dX10_ball_43 ?_
  refine s_world (w2 := wb_282) rfl ?_
  refine s_iinc (v := 61) (L2 := [some (AR 95), some (AI 61)]) E dX10_ball_44 rfl (by decide) (by decide) rfl ?_
  refine s_goto (tgt := 30) E dX10_ball_47 (by decide) ?_
  refine s_iload_n E dX10_ball_30 rfl rfl ?_
  refine s_sipush (v := 134) E dX10_ball_31 (by decide) ?_
  refine s_icmp_ge (tgt := 50) E dX10_ball_34 (by decide) (fun hh => absurd hh (by decide)) (fun _ => ?_)
  refine s_aload_n E dX10_ball_37 rfl rfl ?_
  refine s_gR (r := 101) E fg_X10_31 rfl rfl (by decide +kernel) (by decide +kernel) dX10_ball_38 ?_
  refine s_iload_n E dX10_ball_41 rfl rfl ?_
  refine s_iconst (v := 0) E dX10_ball_42 (by decide) ?_
  refine s_iast E rfl (by decide +kernel) (vp_c (by decide)) dX10_ball_43 ?_
  refine s_world (w2 := wb_283) rfl ?_
  refine s_iinc (v := 62) (L2 := [some (AR 95), some (AI 62)]) E dX10_ball_44 rfl (by decide) (by decide) rfl ?_
  refine s_goto (tgt := 30) E dX10_ball_47 (by decide) ?_
  refine s_iload_n E dX10_ball_30 rfl rfl ?_
  refine s_sipush (v := 134) E dX10_ball_31 (by decide) ?_
  refine s_icmp_ge (tgt := 50) E dX10_ball_34 (by decide) (fun hh => absurd hh (by decide)) (fun _ => ?_)
  refine s_aload_n E dX10_ball_37 rfl rfl ?_
  refine s_gR (r := 101) E fg_X10_31 rfl rfl (by decide +kernel) (by decide +kernel) dX10_ball_38 ?_
  refine s_iload_n E dX10_ball_41 rfl rfl ?_
  refine s_iconst (v := 0) E dX10_ball_42 (by decide) ?_
  refine s_iast E rfl (by decide +kernel) (vp_c (by decide)) dX10_ball_43 ?_
  refine s_world (w2 := wb_284) rfl ?_
  refine s_iinc (v := 63) (L2 := [some (AR 95), some (AI 63)]) E dX10_ball_44 rfl (by decide) (by decide) rfl ?_
  refine s_goto (tgt := 30) E dX10_ball_47 (by decide) ?_
  refine s_iload_n E dX10_ball_30 rfl rfl ?_
  refine s_sipush (v := 134) E dX10_ball_31 (by decide) ?_
  refine s_icmp_ge (tgt := 50) E dX10_ball_34 (by decide) (fun hh => absurd hh (by decide)) (fun _ => ?_)
  refine s_aload_n E dX10_ball_37 rfl rfl ?_
  refine s_gR (r := 101) E fg_X10_31 rfl rfl (by decide +kernel) (by decide +kernel) dX10_ball_38 ?_
  refine s_iload_n E dX10_ball_41 rfl rfl ?_
  refine s_iconst (v := 0) E dX10_ball_42 (by decide) ?_
  refine s_iast E rfl (by decide +kernel) (vp_c (by decide)) dX10_ball_43 ?_
  refine s_world (w2 := wb_285) rfl ?_
  refine s_iinc (v := 64) (L2 := [some (AR 95), some (AI 64)]) E dX10_ball_44 rfl (by decide) (by decide) rfl ?_
  refine s_goto (tgt := 30) E dX10_ball_47 (by decide) ?_
  refine s_iload_n E dX10_ball_30 rfl rfl ?_
  refine s_sipush (v := 134) E dX10_ball_31 (by decide) ?_
  refine s_icmp_ge (tgt := 50) E dX10_ball_34 (by decide) (fun hh => absurd hh (by decide)) (fun _ => ?_)
  refine s_aload_n E dX10_ball_37 rfl rfl ?_
  refine s_gR (r := 101) E fg_X10_31 rfl rfl (by decide +kernel) (by decide +kernel) dX10_ball_38 ?_
  refine s_iload_n E dX10_ball_41 rfl rfl ?_
  refine s_iconst (v := 0) E dX10_ball_42 (by decide) ?_
  refine s_iast E rfl (by decide +kernel) (vp_c (by decide)) dX10_ball_43 ?_
  refine s_world (w2 := wb_286) rfl ?_
  refine s_iinc (v := 65) (L2 := [some (AR 95), some (AI 65)]) E dX10_ball_44 rfl (by decide) (by decide) rfl ?_
  refine s_goto (tgt := 30) E dX10_ball_47 (by decide) ?_
  refine s_iload_n E dX10_ball_30 rfl rfl ?_
  refine s_sipush (v := 134) E dX10_ball_31 (by decide) ?_
  refine s_icmp_ge (tgt := 50) E dX10_ball_34 (by decide) (fun hh => absurd hh (by decide)) (fun _ => ?_)
  refine s_aload_n E dX10_ball_37 rfl rfl ?_
  refine s_gR (r := 101) E fg_X10_31 rfl rfl (by decide +kernel) (by decide +kernel) dX10_ball_38 ?_
  refine s_iload_n E dX10_ball_41 rfl rfl ?_
  refine s_iconst (v := 0) E dX10_ball_42 (by decide) ?_
  refine s_iast E rfl (by decide +kernel) (vp_c (by decide)) dX10_ball_43 ?_
  refine s_world (w2 := wb_287) rfl ?_
  refine s_iinc (v := 66) (L2 := [some (AR 95), some (AI 66)]) E dX10_ball_44 rfl (by decide) (by decide) rfl ?_
  refine s_goto (tgt := 30) E dX10_ball_47 (by decide) ?_
  refine s_iload_n E dX10_ball_30 rfl rfl ?_
  refine s_sipush (v := 134) E dX10_ball_31 (by decide) ?_
  refine s_icmp_ge (tgt := 50) E dX10_ball_34 (by decide) (fun hh => absurd hh (by decide)) (fun _ => ?_)
  refine s_aload_n E dX10_ball_37 rfl rfl ?_
  refine s_gR (r := 101) E fg_X10_31 rfl rfl (by decide +kernel) (by decide +kernel) dX10_ball_38 ?_
  refine s_iload_n E dX10_ball_41 rfl rfl ?_
  refine s_iconst (v := 0) E dX10_ball_42 (by decide) ?_
  refine s_iast E rfl (by decide +kernel) (vp_c (by decide)) dX10_ball_43 ?_
  refine s_world (w2 := wb_288) rfl ?_
  refine s_iinc (v := 67) (L2 := [some (AR 95), some (AI 67)]) E dX10_ball_44 rfl (by decide) (by decide) rfl ?_
  refine s_goto (tgt := 30) E dX10_ball_47 (by decide) ?_
  refine s_iload_n E dX10_ball_30 rfl rfl ?_
  refine s_sipush (v := 134) E dX10_ball_31 (by decide) ?_
  refine s_icmp_ge (tgt := 50) E dX10_ball_34 (by decide) (fun hh => absurd hh (by decide)) (fun _ => ?_)
  refine s_aload_n E dX10_ball_37 rfl rfl ?_
  refine s_gR (r := 101) E fg_X10_31 rfl rfl (by decide +kernel) (by decide +kernel) dX10_ball_38 ?_
  refine s_iload_n E dX10_ball_41 rfl rfl ?_
  refine s_iconst (v := 0) E dX10_ball_42 (by decide) ?_
  refine s_iast E rfl (by decide +kernel) (vp_c (by decide)) dX10_ball_43 ?_
  refine s_world (w2 := wb_289) rfl ?_
  refine s_iinc (v := 68) (L2 := [some (AR 95), some (AI 68)]) E dX10_ball_44 rfl (by decide) (by decide) rfl ?_
  refine s_goto (tgt := 30) E dX10_ball_47 (by decide) ?_
  refine s_iload_n E dX10_ball_30 rfl rfl ?_
  refine s_sipush (v := 134) E dX10_ball_31 (by decide) ?_
  refine s_icmp_ge (tgt := 50) E dX10_ball_34 (by decide) (fun hh => absurd hh (by decide)) (fun _ => ?_)
  refine s_aload_n E dX10_ball_37 rfl rfl ?_
  refine s_gR (r := 101) E fg_X10_31 rfl rfl (by decide +kernel) (by decide +kernel) dX10_ball_38 ?_
  refine s_iload_n E dX10_ball_41 rfl rfl ?_
  refine s_iconst (v := 0) E dX10_ball_42 (by decide) ?_
  refine s_iast E rfl (by decide +kernel) (vp_c (by decide)) dX10_ball_43 ?_
  refine s_world (w2 := wb_290) rfl ?_
  refine s_iinc (v := 69) (L2 := [some (AR 95), some (AI 69)]) E dX10_ball_44 rfl (by decide) (by decide) rfl ?_
  refine s_goto (tgt := 30) E dX10_ball_47 (by decide) ?_
  refine s_iload_n E dX10_ball_30 rfl rfl ?_
  refine s_sipush (v := 134) E dX10_ball_31 (by decide) ?_
  refine s_icmp_ge (tgt := 50) E dX10_ball_34 (by decide) (fun hh => absurd hh (by decide)) (fun _ => ?_)
  refine s_aload_n E dX10_ball_37 rfl rfl ?_
  refine s_gR (r := 101) E fg_X10_31 rfl rfl (by decide +kernel) (by decide +kernel) dX10_ball_38 ?_
  refine s_iload_n E dX10_ball_41 rfl rfl ?_
  refine s_iconst (v := 0) E dX10_ball_42 (by decide) ?_
  refine s_iast E rfl (by decide +kernel) (vp_c (by decide)) dX10_ball_43 ?_
  refine s_world (w2 := wb_291) rfl ?_
  refine s_iinc (v := 70) (L2 := [some (AR 95), some (AI 70)]) E dX10_ball_44 rfl (by decide) (by decide) rfl ?_
  refine s_goto (tgt := 30) E dX10_ball_47 (by decide) ?_
  refine s_iload_n E dX10_ball_30 rfl rfl ?_
  refine s_sipush (v := 134) E dX10_ball_31 (by decide) ?_
  refine s_icmp_ge (tgt := 50) E dX10_ball_34 (by decide) (fun hh => absurd hh (by decide)) (fun _ => ?_)
  refine s_aload_n E dX10_ball_37 rfl rfl ?_
  refine s_gR (r := 101) E fg_X10_31 rfl rfl (by decide +kernel) (by decide +kernel) dX10_ball_38 ?_
  refine s_iload_n E dX10_ball_41 rfl rfl ?_
  refine s_iconst (v := 0) E dX10_ball_42 (by decide) ?_
  refine s_iast E rfl (by decide +kernel) (vp_c (by decide)) dX10_ball_43 ?_
  refine s_world (w2 := wb_292) rfl ?_
  refine s_iinc (v := 71) (L2 := [some (AR 95), some (AI 71)]) E dX10_ball_44 rfl (by decide) (by decide) rfl ?_
  refine s_goto (tgt := 30) E dX10_ball_47 (by decide) ?_
  refine s_iload_n E dX10_ball_30 rfl rfl ?_
  refine s_sipush (v := 134) E dX10_ball_31 (by decide) ?_
  refine s_icmp_ge (tgt := 50) E dX10_ball_34 (by decide) (fun hh => absurd hh (by decide)) (fun _ => ?_)
  refine s_aload_n E dX10_ball_37 rfl rfl ?_
  refine s_gR (r := 101) E fg_X10_31 rfl rfl (by decide +kernel) (by decide +kernel) dX10_ball_38 ?_
  refine s_iload_n E dX10_ball_41 rfl rfl ?_
  refine s_iconst (v := 0) E dX10_ball_42 (by decide) ?_
  refine s_iast E rfl (by decide +kernel) (vp_c (by decide)) dX10_ball_43 ?_
  refine s_world (w2 := wb_293) rfl ?_
  refine s_iinc (v := 72) (L2 := [some (AR 95), some (AI 72)]) E dX10_ball_44 rfl (by decide) (by decide) rfl ?_
  refine s_goto (tgt := 30) E dX10_ball_47 (by decide) ?_
  refine s_iload_n E dX10_ball_30 rfl rfl ?_
  refine s_sipush (v := 134) E dX10_ball_31 (by decide) ?_
  refine s_icmp_ge (tgt := 50) E dX10_ball_34 (by decide) (fun hh => absurd hh (by decide)) (fun _ => ?_)
  refine s_aload_n E dX10_ball_37 rfl rfl ?_
  refine s_gR (r := 101) E fg_X10_31 rfl rfl (by decide +kernel) (by decide +kernel) dX10_ball_38 ?_
  refine s_iload_n E dX10_ball_41 rfl rfl ?_
  refine s_iconst (v := 0) E dX10_ball_42 (by decide) ?_
  refine s_iast E rfl (by decide +kernel) (vp_c (by decide)) dX10_ball_43 ?_
  refine s_world (w2 := wb_294) rfl ?_
  refine s_iinc (v := 73) (L2 := [some (AR 95), some (AI 73)]) E dX10_ball_44 rfl (by decide) (by decide) rfl ?_
  refine s_goto (tgt := 30) E dX10_ball_47 (by decide) ?_
  refine s_iload_n E dX10_ball_30 rfl rfl ?_
  refine s_sipush (v := 134) E dX10_ball_31 (by decide) ?_
  refine s_icmp_ge (tgt := 50) E dX10_ball_34 (by decide) (fun hh => absurd hh (by decide)) (fun _ => ?_)
  refine s_aload_n E dX10_ball_37 rfl rfl ?_
  refine s_gR (r := 101) E fg_X10_31 rfl rfl (by decide +kernel) (by decide +kernel) dX10_ball_38 ?_
  refine s_iload_n E dX10_ball_41 rfl rfl ?_
  refine s_iconst (v := 0) E dX10_ball_42 (by decide) ?_
  refine s_iast E rfl (by decide +kernel) (vp_c (by decide)) dX10_ball_43 ?_
  refine s_world (w2 := wb_295) rfl ?_
  refine s_iinc (v := 74) (L2 := [some (AR 95), some (AI 74)]) E dX10_ball_44 rfl (by decide) (by decide) rfl ?_
  refine s_goto (tgt := 30) E dX10_ball_47 (by decide) ?_
  refine s_iload_n E dX10_ball_30 rfl rfl ?_
  refine s_sipush (v := 134) E dX10_ball_31 (by decide) ?_
  refine s_icmp_ge (tgt := 50) E dX10_ball_34 (by decide) (fun hh => absurd hh (by decide)) (fun _ => ?_)
  refine s_aload_n E dX10_ball_37 rfl rfl ?_
  refine s_gR (r := 101) E fg_X10_31 rfl rfl (by decide +kernel) (by decide +kernel) dX10_ball_38 ?_
  refine s_iload_n E dX10_ball_41 rfl rfl ?_
  refine s_iconst (v := 0) E dX10_ball_42 (by decide) ?_
  refine s_iast E rfl (by decide +kernel) (vp_c (by decide)) dX10_ball_43 ?_
  refine s_world (w2 := wb_296) rfl ?_
  refine s_iinc (v := 75) (L2 := [some (AR 95), some (AI 75)]) E dX10_ball_44 rfl (by decide) (by decide) rfl ?_
  refine s_goto (tgt := 30) E dX10_ball_47 (by decide) ?_
  refine s_iload_n E dX10_ball_30 rfl rfl ?_
  refine s_sipush (v := 134) E dX10_ball_31 (by decide) ?_
  refine s_icmp_ge (tgt := 50) E dX10_ball_34 (by decide) (fun hh => absurd hh (by decide)) (fun _ => ?_)
  refine s_aload_n E dX10_ball_37 rfl rfl ?_
  refine s_gR (r := 101) E fg_X10_31 rfl rfl (by decide +kernel) (by decide +kernel) dX10_ball_38 ?_
  refine s_iload_n E dX10_ball_41 rfl rfl ?_
  refine s_iconst (v := 0) E dX10_ball_42 (by decide) ?_
  refine s_iast E rfl (by decide +kernel) (vp_c (by decide)) dX10_ball_43 ?_
  refine s_world (w2 := wb_297) rfl ?_
  refine s_iinc (v := 76) (L2 := [some (AR 95), some (AI 76)]) E dX10_ball_44 rfl (by decide) (by decide) rfl ?_
  refine s_goto (tgt := 30) E dX10_ball_47 (by decide) ?_
  refine s_iload_n E dX10_ball_30 rfl rfl ?_
  refine s_sipush (v := 134) E dX10_ball_31 (by decide) ?_
  refine s_icmp_ge (tgt := 50) E dX10_ball_34 (by decide) (fun hh => absurd hh (by decide)) (fun _ => ?_)
  refine s_aload_n E dX10_ball_37 rfl rfl ?_
  refine s_gR (r := 101) E fg_X10_31 rfl rfl (by decide +kernel) (by decide +kernel) dX10_ball_38 ?_
  refine s_iload_n E dX10_ball_41 rfl rfl ?_
  refine s_iconst (v := 0) E dX10_ball_42 (by decide) ?_
  refine s_iast E rfl (by decide +kernel) (vp_c (by decide)) dX10_ball_43 ?_
  refine s_world (w2 := wb_298) rfl ?_
  refine s_iinc (v := 77) (L2 := [some (AR 95), some (AI 77)]) E dX10_ball_44 rfl (by decide) (by decide) rfl ?_
  refine s_goto (tgt := 30) E dX10_ball_47 (by decide) ?_
  refine s_iload_n E dX10_ball_30 rfl rfl ?_
  refine s_sipush (v := 134) E dX10_ball_31 (by decide) ?_
  refine s_icmp_ge (tgt := 50) E dX10_ball_34 (by decide) (fun hh => absurd hh (by decide)) (fun _ => ?_)
  refine s_aload_n E dX10_ball_37 rfl rfl ?_
  refine s_gR (r := 101) E fg_X10_31 rfl rfl (by decide +kernel) (by decide +kernel) dX10_ball_38 ?_
  refine s_iload_n E dX10_ball_41 rfl rfl ?_
  refine s_iconst (v := 0) E dX10_ball_42 (by decide) ?_
  refine s_iast E rfl (by decide +kernel) (vp_c (by decide)) dX10_ball_43 ?_
  refine s_world (w2 := wb_299) rfl ?_
  refine s_iinc (v := 78) (L2 := [some (AR 95), some (AI 78)]) E dX10_ball_44 rfl (by decide) (by decide) rfl ?_
  refine s_goto (tgt := 30) E dX10_ball_47 (by decide) ?_
  refine s_iload_n E dX10_ball_30 rfl rfl ?_
  refine s_sipush (v := 134) E dX10_ball_31 (by decide) ?_
  refine s_icmp_ge (tgt := 50) E dX10_ball_34 (by decide) (fun hh => absurd hh (by decide)) (fun _ => ?_)
  refine s_aload_n E dX10_ball_37 rfl rfl ?_
  refine s_gR (r := 101) E fg_X10_31 rfl rfl (by decide +kernel) (by decide +kernel) dX10_ball_38 ?_
  refine s_iload_n E dX10_ball_41 rfl rfl ?_
  refine s_iconst (v := 0) E dX10_ball_42 (by decide) ?_
  refine s_iast E rfl (by decide +kernel) (vp_c (by decide)) dX10_ball_43 ?_
  refine s_world (w2 := wb_300) rfl ?_
  refine s_iinc (v := 79) (L2 := [some (AR 95), some (AI 79)]) E dX10_ball_44 rfl (by decide) (by decide) rfl ?_
  refine s_goto (tgt := 30) E dX10_ball_47 (by decide) ?_
  refine s_iload_n E dX10_ball_30 rfl rfl ?_
  refine s_sipush (v := 134) E dX10_ball_31 (by decide) ?_
  refine s_icmp_ge (tgt := 50) E dX10_ball_34 (by decide) (fun hh => absurd hh (by decide)) (fun _ => ?_)
  refine s_aload_n E dX10_ball_37 rfl rfl ?_
  refine s_gR (r := 101) E fg_X10_31 rfl rfl (by decide +kernel) (by decide +kernel) dX10_ball_38 ?_
  refine s_iload_n E dX10_ball_41 rfl rfl ?_
  refine s_iconst (v := 0) E dX10_ball_42 (by decide) ?_
  refine s_iast E rfl (by decide +kernel) (vp_c (by decide)) dX10_ball_43 ?_
  refine s_world (w2 := wb_301) rfl ?_
  refine s_iinc (v := 80) (L2 := [some (AR 95), some (AI 80)]) E dX10_ball_44 rfl (by decide) (by decide) rfl ?_
  refine s_goto (tgt := 30) E dX10_ball_47 (by decide) ?_
  refine s_iload_n E dX10_ball_30 rfl rfl ?_
  refine s_sipush (v := 134) E dX10_ball_31 (by decide) ?_
  refine s_icmp_ge (tgt := 50) E dX10_ball_34 (by decide) (fun hh => absurd hh (by decide)) (fun _ => ?_)
  refine s_aload_n E dX10_ball_37 rfl rfl ?_
  refine s_gR (r := 101) E fg_X10_31 rfl rfl (by decide +kernel) (by decide +kernel) dX10_ball_38 ?_
  refine s_iload_n E dX10_ball_41 rfl rfl ?_
  refine s_iconst (v := 0) E dX10_ball_42 (by decide) ?_
  refine s_iast E rfl (by decide +kernel) (vp_c (by decide)) dX10_ball_43 ?_
  refine s_world (w2 := wb_302) rfl ?_
  refine s_iinc (v := 81) (L2 := [some (AR 95), some (AI 81)]) E dX10_ball_44 rfl (by decide) (by decide) rfl ?_
  refine s_goto (tgt := 30) E dX10_ball_47 (by decide) ?_
  refine s_iload_n E dX10_ball_30 rfl rfl ?_
  refine s_sipush (v := 134) E dX10_ball_31 (by decide) ?_
  refine s_icmp_ge (tgt := 50) E dX10_ball_34 (by decide) (fun hh => absurd hh (by decide)) (fun _ => ?_)
  refine s_aload_n E dX10_ball_37 rfl rfl ?_
  refine s_gR (r := 101) E fg_X10_31 rfl rfl (by decide +kernel) (by decide +kernel) dX10_ball_38 ?_
  refine s_iload_n E dX10_ball_41 rfl rfl ?_
  refine s_iconst (v := 0) E dX10_ball_42 (by decide) ?_
  refine s_iast E rfl (by decide +kernel) (vp_c (by decide)) dX10_ball_43 ?_
  refine s_world (w2 := wb_303) rfl ?_
  refine s_iinc (v := 82) (L2 := [some (AR 95), some (AI 82)]) E dX10_ball_44 rfl (by decide) (by decide) rfl ?_
  refine s_goto (tgt := 30) E dX10_ball_47 (by decide) ?_
  refine s_iload_n E dX10_ball_30 rfl rfl ?_
  refine s_sipush (v := 134) E dX10_ball_31 (by decide) ?_
  refine s_icmp_ge (tgt := 50) E dX10_ball_34 (by decide) (fun hh => absurd hh (by decide)) (fun _ => ?_)
  refine s_aload_n E dX10_ball_37 rfl rfl ?_
  refine s_gR (r := 101) E fg_X10_31 rfl rfl (by decide +kernel) (by decide +kernel) dX10_ball_38 ?_
  refine s_iload_n E dX10_ball_41 rfl rfl ?_
  refine s_iconst (v := 0) E dX10_ball_42 (by decide) ?_
  refine s_iast E rfl (by decide +kernel) (vp_c (by decide)) dX10_ball_43 ?_
  refine s_world (w2 := wb_304) rfl ?_
  refine s_iinc (v := 83) (L2 := [some (AR 95), some (AI 83)]) E dX10_ball_44 rfl (by decide) (by decide) rfl ?_
  refine s_goto (tgt := 30) E dX10_ball_47 (by decide) ?_
  refine s_iload_n E dX10_ball_30 rfl rfl ?_
  refine s_sipush (v := 134) E dX10_ball_31 (by decide) ?_
  refine s_icmp_ge (tgt := 50) E dX10_ball_34 (by decide) (fun hh => absurd hh (by decide)) (fun _ => ?_)
  refine s_aload_n E dX10_ball_37 rfl rfl ?_
  refine s_gR (r := 101) E fg_X10_31 rfl rfl (by decide +kernel) (by decide +kernel) dX10_ball_38 ?_
  refine s_iload_n E dX10_ball_41 rfl rfl ?_
  refine s_iconst (v := 0) E dX10_ball_42 (by decide) ?_
  refine s_iast E rfl (by decide +kernel) (vp_c (by decide)) dX10_ball_43 ?_
  refine s_world (w2 := wb_305) rfl ?_
  refine s_iinc (v := 84) (L2 := [some (AR 95), some (AI 84)]) E dX10_ball_44 rfl (by decide) (by decide) rfl ?_
  refine s_goto (tgt := 30) E dX10_ball_47 (by decide) ?_
  refine s_iload_n E dX10_ball_30 rfl rfl ?_
  refine s_sipush (v := 134) E dX10_ball_31 (by decide) ?_
  refine s_icmp_ge (tgt := 50) E dX10_ball_34 (by decide) (fun hh => absurd hh (by decide)) (fun _ => ?_)
  refine s_aload_n E dX10_ball_37 rfl rfl ?_
  refine s_gR (r := 101) E fg_X10_31 rfl rfl (by decide +kernel) (by decide +kernel) dX10_ball_38 ?_
  refine s_iload_n E dX10_ball_41 rfl rfl ?_
  refine s_iconst (v := 0) E dX10_ball_42 (by decide) ?_
  refine s_iast E rfl (by decide +kernel) (vp_c (by decide)) dX10_ball_43 ?_
  refine s_world (w2 := wb_306) rfl ?_
  refine s_iinc (v := 85) (L2 := [some (AR 95), some (AI 85)]) E dX10_ball_44 rfl (by decide) (by decide) rfl ?_
  refine s_goto (tgt := 30) E dX10_ball_47 (by decide) ?_
  refine s_iload_n E dX10_ball_30 rfl rfl ?_
  refine s_sipush (v := 134) E dX10_ball_31 (by decide) ?_
  refine s_icmp_ge (tgt := 50) E dX10_ball_34 (by decide) (fun hh => absurd hh (by decide)) (fun _ => ?_)
  refine s_aload_n E dX10_ball_37 rfl rfl ?_
  refine s_gR (r := 101) E fg_X10_31 rfl rfl (by decide +kernel) (by decide +kernel) dX10_ball_38 ?_
  refine s_iload_n E dX10_ball_41 rfl rfl ?_
  refine s_iconst (v := 0) E dX10_ball_42 (by decide) ?_
  refine s_iast E rfl (by decide +kernel) (vp_c (by decide)) dX10_ball_43 ?_
  refine s_world (w2 := wb_307) rfl ?_
  refine s_iinc (v := 86) (L2 := [some (AR 95), some (AI 86)]) E dX10_ball_44 rfl (by decide) (by decide) rfl ?_
  refine s_goto (tgt := 30) E dX10_ball_47 (by decide) ?_
  refine s_iload_n E dX10_ball_30 rfl rfl ?_
  refine s_sipush (v := 134) E dX10_ball_31 (by decide) ?_
  refine s_icmp_ge (tgt := 50) E dX10_ball_34 (by decide) (fun hh => absurd hh (by decide)) (fun _ => ?_)
  refine s_aload_n E dX10_ball_37 rfl rfl ?_
  refine s_gR (r := 101) E fg_X10_31 rfl rfl (by decide +kernel) (by decide +kernel) dX10_ball_38 ?_
  refine s_iload_n E dX10_ball_41 rfl rfl ?_
  refine s_iconst (v := 0) E dX10_ball_42 (by decide) ?_
  refine s_iast E rfl (by decide +kernel) (vp_c (by decide)) dX10_ball_43 ?_
  refine s_world (w2 := wb_308) rfl ?_
  refine s_iinc (v := 87) (L2 := [some (AR 95), some (AI 87)]) E dX10_ball_44 rfl (by decide) (by decide) rfl ?_
  refine s_goto (tgt := 30) E dX10_ball_47 (by decide) ?_
  refine s_iload_n E dX10_ball_30 rfl rfl ?_
  refine s_sipush (v := 134) E dX10_ball_31 (by decide) ?_
  refine s_icmp_ge (tgt := 50) E dX10_ball_34 (by decide) (fun hh => absurd hh (by decide)) (fun _ => ?_)
  refine s_aload_n E dX10_ball_37 rfl rfl ?_
  refine s_gR (r := 101) E fg_X10_31 rfl rfl (by decide +kernel) (by decide +kernel) dX10_ball_38 ?_
  refine s_iload_n E dX10_ball_41 rfl rfl ?_
  refine s_iconst (v := 0) E dX10_ball_42 (by decide) ?_
  refine s_iast E rfl (by decide +kernel) (vp_c (by decide)) dX10_ball_43 ?_
  refine s_world (w2 := wb_309) rfl ?_
  refine s_iinc (v := 88) (L2 := [some (AR 95), some (AI 88)]) E dX10_ball_44 rfl (by decide) (by decide) rfl ?_
  refine s_goto (tgt := 30) E dX10_ball_47 (by decide) ?_
  refine s_iload_n E dX10_ball_30 rfl rfl ?_
  refine s_sipush (v := 134) E dX10_ball_31 (by decide) ?_
  refine s_icmp_ge (tgt := 50) E dX10_ball_34 (by decide) (fun hh => absurd hh (by decide)) (fun _ => ?_)
  refine s_aload_n E dX10_ball_37 rfl rfl ?_
  refine s_gR (r := 101) E fg_X10_31 rfl rfl (by decide +kernel) (by decide +kernel) dX10_ball_38 ?_
  refine s_iload_n E dX10_ball_41 rfl rfl ?_
  refine s_iconst (v := 0) E dX10_ball_42 (by decide) ?_
  refine s_iast E rfl (by decide +kernel) (vp_c (by decide)) dX10_ball_43 ?_
  refine s_world (w2 := wb_310) rfl ?_
  refine s_iinc (v := 89) (L2 := [some (AR 95), some (AI 89)]) E dX10_ball_44 rfl (by decide) (by decide) rfl ?_
  refine s_goto (tgt := 30) E dX10_ball_47 (by decide) ?_
  refine s_iload_n E dX10_ball_30 rfl rfl ?_
  refine s_sipush (v := 134) E dX10_ball_31 (by decide) ?_
  refine s_icmp_ge (tgt := 50) E dX10_ball_34 (by decide) (fun hh => absurd hh (by decide)) (fun _ => ?_)
  refine s_aload_n E dX10_ball_37 rfl rfl ?_
  refine s_gR (r := 101) E fg_X10_31 rfl rfl (by decide +kernel) (by decide +kernel) dX10_ball_38 ?_
  refine s_iload_n E dX10_ball_41 rfl rfl ?_
  refine s_iconst (v := 0) E dX10_ball_42 (by decide) ?_
  refine s_iast E rfl (by decide +kernel) (vp_c (by decide)) dX10_ball_43 ?_
  refine s_world (w2 := wb_311) rfl ?_
  refine s_iinc (v := 90) (L2 := [some (AR 95), some (AI 90)]) E dX10_ball_44 rfl (by decide) (by decide) rfl ?_
  refine s_goto (tgt := 30) E dX10_ball_47 (by decide) ?_
  refine s_iload_n E dX10_ball_30 rfl rfl ?_
  refine s_sipush (v := 134) E dX10_ball_31 (by decide) ?_
  refine s_icmp_ge (tgt := 50) E dX10_ball_34 (by decide) (fun hh => absurd hh (by decide)) (fun _ => ?_)
  refine s_aload_n E dX10_ball_37 rfl rfl ?_
  refine s_gR (r := 101) E fg_X10_31 rfl rfl (by decide +kernel) (by decide +kernel) dX10_ball_38 ?_
  refine s_iload_n E dX10_ball_41 rfl rfl ?_
  refine s_iconst (v := 0) E dX10_ball_42 (by decide) ?_
  refine s_iast E rfl (by decide +kernel) (vp_c (by decide)) dX10_ball_43 ?_
  refine s_world (w2 := wb_312) rfl ?_
  refine s_iinc (v := 91) (L2 := [some (AR 95), some (AI 91)]) E dX10_ball_44 rfl (by decide) (by decide) rfl ?_
  refine s_goto (tgt := 30) E dX10_ball_47 (by decide) ?_
  refine s_iload_n E dX10_ball_30 rfl rfl ?_
  refine s_sipush (v := 134) E dX10_ball_31 (by decide) ?_
  refine s_icmp_ge (tgt := 50) E dX10_ball_34 (by decide) (fun hh => absurd hh (by decide)) (fun _ => ?_)
  refine s_aload_n E dX10_ball_37 rfl rfl ?_
  refine s_gR (r := 101) E fg_X10_31 rfl rfl (by decide +kernel) (by decide +kernel) dX10_ball_38 ?_
  refine s_iload_n E dX10_ball_41 rfl rfl ?_
  refine s_iconst (v := 0) E dX10_ball_42 (by decide) ?_
  refine s_iast E rfl (by decide +kernel) (vp_c (by decide)) dX10_ball_43 ?_
  refine s_world (w2 := wb_313) rfl ?_
  refine s_iinc (v := 92) (L2 := [some (AR 95), some (AI 92)]) E dX10_ball_44 rfl (by decide) (by decide) rfl ?_
  refine s_goto (tgt := 30) E dX10_ball_47 (by decide) ?_
  refine s_iload_n E dX10_ball_30 rfl rfl ?_
  refine s_sipush (v := 134) E dX10_ball_31 (by decide) ?_
  refine s_icmp_ge (tgt := 50) E dX10_ball_34 (by decide) (fun hh => absurd hh (by decide)) (fun _ => ?_)
  refine s_aload_n E dX10_ball_37 rfl rfl ?_
  refine s_gR (r := 101) E fg_X10_31 rfl rfl (by decide +kernel) (by decide +kernel) dX10_ball_38 ?_
  refine s_iload_n E dX10_ball_41 rfl rfl ?_
  refine s_iconst (v := 0) E dX10_ball_42 (by decide) ?_
  refine s_iast E rfl (by decide +kernel) (vp_c (by decide)) dX10_ball_43 ?_
  refine s_world (w2 := wb_314) rfl ?_
  refine s_iinc (v := 93) (L2 := [some (AR 95), some (AI 93)]) E dX10_ball_44 rfl (by decide) (by decide) rfl ?_
  refine s_goto (tgt := 30) E dX10_ball_47 (by decide) ?_
  refine s_iload_n E dX10_ball_30 rfl rfl ?_
  refine s_sipush (v := 134) E dX10_ball_31 (by decide) ?_
  refine s_icmp_ge (tgt := 50) E dX10_ball_34 (by decide) (fun hh => absurd hh (by decide)) (fun _ => ?_)
  refine s_aload_n E dX10_ball_37 rfl rfl ?_
  refine s_gR (r := 101) E fg_X10_31 rfl rfl (by decide +kernel) (by decide +kernel) dX10_ball_38 ?_
  refine s_iload_n E dX10_ball_41 rfl rfl ?_
  refine s_iconst (v := 0) E dX10_ball_42 (by decide) ?_
  refine s_iast E rfl (by decide +kernel) (vp_c (by decide)) dX10_ball_43 ?_
  refine s_world (w2 := wb_315) rfl ?_
  refine s_iinc (v := 94) (L2 := [some (AR 95), some (AI 94)]) E dX10_ball_44 rfl (by decide) (by decide) rfl ?_
  refine s_goto (tgt := 30) E dX10_ball_47 (by decide) ?_
  refine s_iload_n E dX10_ball_30 rfl rfl ?_
  refine s_sipush (v := 134) E dX10_ball_31 (by decide) ?_
  refine s_icmp_ge (tgt := 50) E dX10_ball_34 (by decide) (fun hh => absurd hh (by decide)) (fun _ => ?_)
  refine s_aload_n E dX10_ball_37 rfl rfl ?_
  refine s_gR (r := 101) E fg_X10_31 rfl rfl (by decide +kernel) (by decide +kernel) dX10_ball_38 ?_
  refine s_iload_n E dX10_ball_41 rfl rfl ?_
  refine s_iconst (v := 0) E dX10_ball_42 (by decide) ?_
  refine s_iast E rfl (by decide +kernel) (vp_c (by decide)) dX10_ball_43 ?_
  refine s_world (w2 := wb_316) rfl ?_
  refine s_iinc (v := 95) (L2 := [some (AR 95), some (AI 95)]) E dX10_ball_44 rfl (by decide) (by decide) rfl ?_
  refine s_goto (tgt := 30) E dX10_ball_47 (by decide) ?_
  refine s_iload_n E dX10_ball_30 rfl rfl ?_
  refine s_sipush (v := 134) E dX10_ball_31 (by decide) ?_
  refine s_icmp_ge (tgt := 50) E dX10_ball_34 (by decide) (fun hh => absurd hh (by decide)) (fun _ => ?_)
  refine s_aload_n E dX10_ball_37 rfl rfl ?_
  refine s_gR (r := 101) E fg_X10_31 rfl rfl (by decide +kernel) (by decide +kernel) dX10_ball_38 ?_
  refine s_iload_n E dX10_ball_41 rfl rfl ?_
  refine s_iconst (v := 0) E dX10_ball_42 (by decide) ?_
  refine s_iast E rfl (by decide +kernel) (vp_c (by decide)) dX10_ball_43 ?_
  refine s_world (w2 := wb_317) rfl ?_
  refine s_iinc (v := 96) (L2 := [some (AR 95), some (AI 96)]) E dX10_ball_44 rfl (by decide) (by decide) rfl ?_
  refine s_goto (tgt := 30) E dX10_ball_47 (by decide) ?_
  refine s_iload_n E dX10_ball_30 rfl rfl ?_
  refine s_sipush (v := 134) E dX10_ball_31 (by decide) ?_
  refine s_icmp_ge (tgt := 50) E dX10_ball_34 (by decide) (fun hh => absurd hh (by decide)) (fun _ => ?_)
  refine s_aload_n E dX10_ball_37 rfl rfl ?_
  refine s_gR (r := 101) E fg_X10_31 rfl rfl (by decide +kernel) (by decide +kernel) dX10_ball_38 ?_
  refine s_iload_n E dX10_ball_41 rfl rfl ?_
  refine s_iconst (v := 0) E dX10_ball_42 (by decide) ?_
  refine s_iast E rfl (by decide +kernel) (vp_c (by decide)) dX10_ball_43 ?_
  refine s_world (w2 := wb_318) rfl ?_
  refine s_iinc (v := 97) (L2 := [some (AR 95), some (AI 97)]) E dX10_ball_44 rfl (by decide) (by decide) rfl ?_
  refine s_goto (tgt := 30) E dX10_ball_47 (by decide) ?_
  refine s_iload_n E dX10_ball_30 rfl rfl ?_
  refine s_sipush (v := 134) E dX10_ball_31 (by decide) ?_
  refine s_icmp_ge (tgt := 50) E dX10_ball_34 (by decide) (fun hh => absurd hh (by decide)) (fun _ => ?_)
  refine s_aload_n E dX10_ball_37 rfl rfl ?_
  refine s_gR (r := 101) E fg_X10_31 rfl rfl (by decide +kernel) (by decide +kernel) dX10_ball_38 ?_
  refine s_iload_n E dX10_ball_41 rfl rfl ?_
  refine s_iconst (v := 0) E dX10_ball_42 (by decide) ?_
  refine s_iast E rfl (by decide +kernel) (vp_c (by decide)) dX10_ball_43 ?_
  refine s_world (w2 := wb_319) rfl ?_
  refine s_iinc (v := 98) (L2 := [some (AR 95), some (AI 98)]) E dX10_ball_44 rfl (by decide) (by decide) rfl ?_
  refine s_goto (tgt := 30) E dX10_ball_47 (by decide) ?_
  refine s_iload_n E dX10_ball_30 rfl rfl ?_
  refine s_sipush (v := 134) E dX10_ball_31 (by decide) ?_
  refine s_icmp_ge (tgt := 50) E dX10_ball_34 (by decide) (fun hh => absurd hh (by decide)) (fun _ => ?_)
  refine s_aload_n E dX10_ball_37 rfl rfl ?_
  refine s_gR (r := 101) E fg_X10_31 rfl rfl (by decide +kernel) (by decide +kernel) dX10_ball_38 ?_
  refine s_iload_n E dX10_ball_41 rfl rfl ?_
  refine s_iconst (v := 0) E dX10_ball_42 (by decide) ?_
  refine s_iast E rfl (by decide +kernel) (vp_c (by decide)) dX10_ball_43 ?_
  refine s_world (w2 := wb_320) rfl ?_
  refine s_iinc (v := 99) (L2 := [some (AR 95), some (AI 99)]) E dX10_ball_44 rfl (by decide) (by decide) rfl ?_
  refine s_goto (tgt := 30) E dX10_ball_47 (by decide) ?_
  refine s_iload_n E dX10_ball_30 rfl rfl ?_
  refine s_sipush (v := 134) E dX10_ball_31 (by decide) ?_
  refine s_icmp_ge (tgt := 50) E dX10_ball_34 (by decide) (fun hh => absurd hh (by decide)) (fun _ => ?_)
  refine s_aload_n E dX10_ball_37 rfl rfl ?_
  refine s_gR (r := 101) E fg_X10_31 rfl rfl (by decide +kernel) (by decide +kernel) dX10_ball_38 ?_
  refine s_iload_n E dX10_ball_41 rfl rfl ?_
  refine s_iconst (v := 0) E dX10_ball_42 (by decide) ?_
  refine s_iast E rfl (by decide +kernel) (vp_c (by decide)) dX10_ball_43 ?_
  refine s_world (w2 := wb_321) rfl ?_
  refine s_iinc (v := 100) (L2 := [some (AR 95), some (AI 100)]) E dX10_ball_44 rfl (by decide) (by decide) rfl ?_
  refine s_goto (tgt := 30) E dX10_ball_47 (by decide) ?_
  refine s_iload_n E dX10_ball_30 rfl rfl ?_
  refine s_sipush (v := 134) E dX10_ball_31 (by decide) ?_
  refine s_icmp_ge (tgt := 50) E dX10_ball_34 (by decide) (fun hh => absurd hh (by decide)) (fun _ => ?_)
  refine s_aload_n E dX10_ball_37 rfl rfl ?_
  refine s_gR (r := 101) E fg_X10_31 rfl rfl (by decide +kernel) (by decide +kernel) dX10_ball_38 ?_
  refine s_iload_n E dX10_ball_41 rfl rfl ?_
  refine s_iconst (v := 0) E dX10_ball_42 (by decide) ?_
  refine s_iast E rfl (by decide +kernel) (vp_c (by decide)) dX10_ball_43 ?_
  refine s_world (w2 := wb_322) rfl ?_
  refine s_iinc (v := 101) (L2 := [some (AR 95), some (AI 101)]) E dX10_ball_44 rfl (by decide) (by decide) rfl ?_
  refine s_goto (tgt := 30) E dX10_ball_47 (by decide) ?_
  refine s_iload_n E dX10_ball_30 rfl rfl ?_
  refine s_sipush (v := 134) E dX10_ball_31 (by decide) ?_
  refine s_icmp_ge (tgt := 50) E dX10_ball_34 (by decide) (fun hh => absurd hh (by decide)) (fun _ => ?_)
  refine s_aload_n E dX10_ball_37 rfl rfl ?_
  refine s_gR (r := 101) E fg_X10_31 rfl rfl (by decide +kernel) (by decide +kernel) dX10_ball_38 ?_
  refine s_iload_n E dX10_ball_41 rfl rfl ?_
  refine s_iconst (v := 0) E dX10_ball_42 (by decide) ?_
  refine s_iast E rfl (by decide +kernel) (vp_c (by decide)) dX10_ball_43 ?_
  refine s_world (w2 := wb_323) rfl ?_
  refine s_iinc (v := 102) (L2 := [some (AR 95), some (AI 102)]) E dX10_ball_44 rfl (by decide) (by decide) rfl ?_
  refine s_goto (tgt := 30) E dX10_ball_47 (by decide) ?_
  refine s_iload_n E dX10_ball_30 rfl rfl ?_
  refine s_sipush (v := 134) E dX10_ball_31 (by decide) ?_
  refine s_icmp_ge (tgt := 50) E dX10_ball_34 (by decide) (fun hh => absurd hh (by decide)) (fun _ => ?_)
  refine s_aload_n E dX10_ball_37 rfl rfl ?_
  refine s_gR (r := 101) E fg_X10_31 rfl rfl (by decide +kernel) (by decide +kernel) dX10_ball_38 ?_
  refine s_iload_n E dX10_ball_41 rfl rfl ?_
  refine s_iconst (v := 0) E dX10_ball_42 (by decide) ?_
  refine s_iast E rfl (by decide +kernel) (vp_c (by decide)) dX10_ball_43 ?_
  refine s_world (w2 := wb_324) rfl ?_
  refine s_iinc (v := 103) (L2 := [some (AR 95), some (AI 103)]) E dX10_ball_44 rfl (by decide) (by decide) rfl ?_
  refine s_goto (tgt := 30) E dX10_ball_47 (by decide) ?_
  refine s_iload_n E dX10_ball_30 rfl rfl ?_
  refine s_sipush (v := 134) E dX10_ball_31 (by decide) ?_
  refine s_icmp_ge (tgt := 50) E dX10_ball_34 (by decide) (fun hh => absurd hh (by decide)) (fun _ => ?_)
  refine s_aload_n E dX10_ball_37 rfl rfl ?_
  refine s_gR (r := 101) E fg_X10_31 rfl rfl (by decide +kernel) (by decide +kernel) dX10_ball_38 ?_
  refine s_iload_n E dX10_ball_41 rfl rfl ?_
  refine s_iconst (v := 0) E dX10_ball_42 (by decide) ?_
  refine s_iast E rfl (by decide +kernel) (vp_c (by decide)) dX10_ball_43 ?_
  refine s_world (w2 := wb_325) rfl ?_
  refine s_iinc (v := 104) (L2 := [some (AR 95), some (AI 104)]) E dX10_ball_44 rfl (by decide) (by decide) rfl ?_
  refine s_goto (tgt := 30) E dX10_ball_47 (by decide) ?_
  refine s_iload_n E dX10_ball_30 rfl rfl ?_
  refine s_sipush (v := 134) E dX10_ball_31 (by decide) ?_
  refine s_icmp_ge (tgt := 50) E dX10_ball_34 (by decide) (fun hh => absurd hh (by decide)) (fun _ => ?_)
  refine s_aload_n E dX10_ball_37 rfl rfl ?_
  refine s_gR (r := 101) E fg_X10_31 rfl rfl (by decide +kernel) (by decide +kernel) dX10_ball_38 ?_
  refine s_iload_n E dX10_ball_41 rfl rfl ?_
  refine s_iconst (v := 0) E dX10_ball_42 (by decide) ?_
  refine s_iast E rfl (by decide +kernel) (vp_c (by decide)) dX10_ball_43 ?_
  refine s_world (w2 := wb_326) rfl ?_
  refine s_iinc (v := 105) (L2 := [some (AR 95), some (AI 105)]) E dX10_ball_44 rfl (by decide) (by decide) rfl ?_
  refine s_goto (tgt := 30) E dX10_ball_47 (by decide) ?_
  refine s_iload_n E dX10_ball_30 rfl rfl ?_
  refine s_sipush (v := 134) E dX10_ball_31 (by decide) ?_
  refine s_icmp_ge (tgt := 50) E dX10_ball_34 (by decide) (fun hh => absurd hh (by decide)) (fun _ => ?_)
  refine s_aload_n E dX10_ball_37 rfl rfl ?_
  refine s_gR (r := 101) E fg_X10_31 rfl rfl (by decide +kernel) (by decide +kernel) dX10_ball_38 ?_
  refine s_iload_n E dX10_ball_41 rfl rfl ?_
  refine s_iconst (v := 0) E dX10_ball_42 (by decide) ?_
  refine s_iast E rfl (by decide +kernel) (vp_c (by decide)) dX10_ball_43 ?_
  refine s_world (w2 := wb_327) rfl ?_
  refine s_iinc (v := 106) (L2 := [some (AR 95), some (AI 106)]) E dX10_ball_44 rfl (by decide) (by decide) rfl ?_
  refine s_goto (tgt := 30) E dX10_ball_47 (by decide) ?_
  refine s_iload_n E dX10_ball_30 rfl rfl ?_
  refine s_sipush (v := 134) E dX10_ball_31 (by decide) ?_
  refine s_icmp_ge (tgt := 50) E dX10_ball_34 (by decide) (fun hh => absurd hh (by decide)) (fun _ => ?_)
  refine s_aload_n E dX10_ball_37 rfl rfl ?_
  refine s_gR (r := 101) E fg_X10_31 rfl rfl (by decide +kernel) (by decide +kernel) dX10_ball_38 ?_
  refine s_iload_n E dX10_ball_41 rfl rfl ?_
  refine s_iconst (v := 0) E dX10_ball_42 (by decide) ?_
  refine s_iast E rfl (by decide +kernel) (vp_c (by decide)) dX10_ball_43 ?_
  refine s_world (w2 := wb_328) rfl ?_
  refine s_iinc (v := 107) (L2 := [some (AR 95), some (AI 107)]) E dX10_ball_44 rfl (by decide) (by decide) rfl ?_
  refine s_goto (tgt := 30) E dX10_ball_47 (by decide) ?_
  refine s_iload_n E dX10_ball_30 rfl rfl ?_
  refine s_sipush (v := 134) E dX10_ball_31 (by decide) ?_
  refine s_icmp_ge (tgt := 50) E dX10_ball_34 (by decide) (fun hh => absurd hh (by decide)) (fun _ => ?_)
  refine s_aload_n E dX10_ball_37 rfl rfl ?_
  refine s_gR (r := 101) E fg_X10_31 rfl rfl (by decide +kernel) (by decide +kernel) dX10_ball_38 ?_
  refine s_iload_n E dX10_ball_41 rfl rfl ?_
  refine s_iconst (v := 0) E dX10_ball_42 (by decide) ?_
  refine s_iast E rfl (by decide +kernel) (vp_c (by decide)) dX10_ball_43 ?_
  refine s_world (w2 := wb_329) rfl ?_
  refine s_iinc (v := 108) (L2 := [some (AR 95), some (AI 108)]) E dX10_ball_44 rfl (by decide) (by decide) rfl ?_
  refine s_goto (tgt := 30) E dX10_ball_47 (by decide) ?_
  refine s_iload_n E dX10_ball_30 rfl rfl ?_
  refine s_sipush (v := 134) E dX10_ball_31 (by decide) ?_
  refine s_icmp_ge (tgt := 50) E dX10_ball_34 (by decide) (fun hh => absurd hh (by decide)) (fun _ => ?_)
  refine s_aload_n E dX10_ball_37 rfl rfl ?_
  refine s_gR (r := 101) E fg_X10_31 rfl rfl (by decide +kernel) (by decide +kernel) dX10_ball_38 ?_
  refine s_iload_n E dX10_ball_41 rfl rfl ?_
  refine s_iconst (v := 0) E dX10_ball_42 (by decide) ?_
  refine s_iast E rfl (by decide +kernel) (vp_c (by decide)) dX10_ball_43 ?_
  refine s_world (w2 := wb_330) rfl ?_
  refine s_iinc (v := 109) (L2 := [some (AR 95), some (AI 109)]) E dX10_ball_44 rfl (by decide) (by decide) rfl ?_
  refine s_goto (tgt := 30) E dX10_ball_47 (by decide) ?_
  refine s_iload_n E dX10_ball_30 rfl rfl ?_
  refine s_sipush (v := 134) E dX10_ball_31 (by decide) ?_
  refine s_icmp_ge (tgt := 50) E dX10_ball_34 (by decide) (fun hh => absurd hh (by decide)) (fun _ => ?_)
  refine s_aload_n E dX10_ball_37 rfl rfl ?_
  refine s_gR (r := 101) E fg_X10_31 rfl rfl (by decide +kernel) (by decide +kernel) dX10_ball_38 ?_
  refine s_iload_n E dX10_ball_41 rfl rfl ?_
  refine s_iconst (v := 0) E dX10_ball_42 (by decide) ?_
  refine s_iast E rfl (by decide +kernel) (vp_c (by decide)) dX10_ball_43 ?_
  refine s_world (w2 := wb_331) rfl ?_
  refine s_iinc (v := 110) (L2 := [some (AR 95), some (AI 110)]) E dX10_ball_44 rfl (by decide) (by decide) rfl ?_
  refine s_goto (tgt := 30) E dX10_ball_47 (by decide) ?_
  refine s_iload_n E dX10_ball_30 rfl rfl ?_
  refine s_sipush (v := 134) E dX10_ball_31 (by decide) ?_
  refine s_icmp_ge (tgt := 50) E dX10_ball_34 (by decide) (fun hh => absurd hh (by decide)) (fun _ => ?_)
  refine s_aload_n E dX10_ball_37 rfl rfl ?_
  refine s_gR (r := 101) E fg_X10_31 rfl rfl (by decide +kernel) (by decide +kernel) dX10_ball_38 ?_
  refine s_iload_n E dX10_ball_41 rfl rfl ?_
  refine s_iconst (v := 0) E dX10_ball_42 (by decide) ?_
  refine s_iast E rfl (by decide +kernel) (vp_c (by decide)) dX10_ball_43 ?_
  refine s_world (w2 := wb_332) rfl ?_
  refine s_iinc (v := 111) (L2 := [some (AR 95), some (AI 111)]) E dX10_ball_44 rfl (by decide) (by decide) rfl ?_
  refine s_goto (tgt := 30) E dX10_ball_47 (by decide) ?_
  refine s_iload_n E dX10_ball_30 rfl rfl ?_
  refine s_sipush (v := 134) E dX10_ball_31 (by decide) ?_
  refine s_icmp_ge (tgt := 50) E dX10_ball_34 (by decide) (fun hh => absurd hh (by decide)) (fun _ => ?_)
  refine s_aload_n E dX10_ball_37 rfl rfl ?_
  refine s_gR (r := 101) E fg_X10_31 rfl rfl (by decide +kernel) (by decide +kernel) dX10_ball_38 ?_
  refine s_iload_n E dX10_ball_41 rfl rfl ?_
  refine s_iconst (v := 0) E dX10_ball_42 (by decide) ?_
  refine s_iast E rfl (by decide +kernel) (vp_c (by decide)) dX10_ball_43 ?_
  refine s_world (w2 := wb_333) rfl ?_
  refine s_iinc (v := 112) (L2 := [some (AR 95), some (AI 112)]) E dX10_ball_44 rfl (by decide) (by decide) rfl ?_
  refine s_goto (tgt := 30) E dX10_ball_47 (by decide) ?_
  refine s_iload_n E dX10_ball_30 rfl rfl ?_
  refine s_sipush (v := 134) E dX10_ball_31 (by decide) ?_
  refine s_icmp_ge (tgt := 50) E dX10_ball_34 (by decide) (fun hh => absurd hh (by decide)) (fun _ => ?_)
  refine s_aload_n E dX10_ball_37 rfl rfl ?_
  refine s_gR (r := 101) E fg_X10_31 rfl rfl (by decide +kernel) (by decide +kernel) dX10_ball_38 ?_
  refine s_iload_n E dX10_ball_41 rfl rfl ?_
  refine s_iconst (v := 0) E dX10_ball_42 (by decide) ?_
  refine s_iast E rfl (by decide +kernel) (vp_c (by decide)) dX10_ball_43 ?_
  refine s_world (w2 := wb_334) rfl ?_
  refine s_iinc (v := 113) (L2 := [some (AR 95), some (AI 113)]) E dX10_ball_44 rfl (by decide) (by decide) rfl ?_
  refine s_goto (tgt := 30) E dX10_ball_47 (by decide) ?_
  refine s_iload_n E dX10_ball_30 rfl rfl ?_
  refine s_sipush (v := 134) E dX10_ball_31 (by decide) ?_
  refine s_icmp_ge (tgt := 50) E dX10_ball_34 (by decide) (fun hh => absurd hh (by decide)) (fun _ => ?_)
  refine s_aload_n E dX10_ball_37 rfl rfl ?_
  refine s_gR (r := 101) E fg_X10_31 rfl rfl (by decide +kernel) (by decide +kernel) dX10_ball_38 ?_
  refine s_iload_n E dX10_ball_41 rfl rfl ?_
  refine s_iconst (v := 0) E dX10_ball_42 (by decide) ?_
  refine s_iast E rfl (by decide +kernel) (vp_c (by decide)) dX10_ball_43 ?_
  refine s_world (w2 := wb_335) rfl ?_
  refine s_iinc (v := 114) (L2 := [some (AR 95), some (AI 114)]) E dX10_ball_44 rfl (by decide) (by decide) rfl ?_
  refine s_goto (tgt := 30) E dX10_ball_47 (by decide) ?_
  refine s_iload_n E dX10_ball_30 rfl rfl ?_
  refine s_sipush (v := 134) E dX10_ball_31 (by decide) ?_
  refine s_icmp_ge (tgt := 50) E dX10_ball_34 (by decide) (fun hh => absurd hh (by decide)) (fun _ => ?_)
  refine s_aload_n E dX10_ball_37 rfl rfl ?_
  refine s_gR (r := 101) E fg_X10_31 rfl rfl (by decide +kernel) (by decide +kernel) dX10_ball_38 ?_
  refine s_iload_n E dX10_ball_41 rfl rfl ?_
  refine s_iconst (v := 0) E dX10_ball_42 (by decide) ?_
  refine s_iast E rfl (by decide +kernel) (vp_c (by decide)) dX10_ball_43 ?_
  refine s_world (w2 := wb_336) rfl ?_
  refine s_iinc (v := 115) (L2 := [some (AR 95), some (AI 115)]) E dX10_ball_44 rfl (by decide) (by decide) rfl ?_
  refine s_goto (tgt := 30) E dX10_ball_47 (by decide) ?_
  refine s_iload_n E dX10_ball_30 rfl rfl ?_
  refine s_sipush (v := 134) E dX10_ball_31 (by decide) ?_
  refine s_icmp_ge (tgt := 50) E dX10_ball_34 (by decide) (fun hh => absurd hh (by decide)) (fun _ => ?_)
  refine s_aload_n E dX10_ball_37 rfl rfl ?_
  refine s_gR (r := 101) E fg_X10_31 rfl rfl (by decide +kernel) (by decide +kernel) dX10_ball_38 ?_
  refine s_iload_n E dX10_ball_41 rfl rfl ?_
  refine s_iconst (v := 0) E dX10_ball_42 (by decide) ?_
  refine s_iast E rfl (by decide +kernel) (vp_c (by decide)) dX10_ball_43 ?_
  refine s_world (w2 := wb_337) rfl ?_
  refine s_iinc (v := 116) (L2 := [some (AR 95), some (AI 116)]) E dX10_ball_44 rfl (by decide) (by decide) rfl ?_
  refine s_goto (tgt := 30) E dX10_ball_47 (by decide) ?_
  refine s_iload_n E dX10_ball_30 rfl rfl ?_
  refine s_sipush (v := 134) E dX10_ball_31 (by decide) ?_
  refine s_icmp_ge (tgt := 50) E dX10_ball_34 (by decide) (fun hh => absurd hh (by decide)) (fun _ => ?_)
  refine s_aload_n E dX10_ball_37 rfl rfl ?_
  refine s_gR (r := 101) E fg_X10_31 rfl rfl (by decide +kernel) (by decide +kernel) dX10_ball_38 ?_
  refine s_iload_n E dX10_ball_41 rfl rfl ?_
  refine s_iconst (v := 0) E dX10_ball_42 (by decide) ?_
  refine s_iast E rfl (by decide +kernel) (vp_c (by decide)) dX10_ball_43 ?_
  refine s_world (w2 := wb_338) rfl ?_
  refine s_iinc (v := 117) (L2 := [some (AR 95), some (AI 117)]) E dX10_ball_44 rfl (by decide) (by decide) rfl ?_
  refine s_goto (tgt := 30) E dX10_ball_47 (by decide) ?_
  refine s_iload_n E dX10_ball_30 rfl rfl ?_
  refine s_sipush (v := 134) E dX10_ball_31 (by decide) ?_
  refine s_icmp_ge (tgt := 50) E dX10_ball_34 (by decide) (fun hh => absurd hh (by decide)) (fun _ => ?_)
  refine s_aload_n E dX10_ball_37 rfl rfl ?_
  refine s_gR (r := 101) E fg_X10_31 rfl rfl (by decide +kernel) (by decide +kernel) dX10_ball_38 ?_
  refine s_iload_n E dX10_ball_41 rfl rfl ?_
  refine s_iconst (v := 0) E dX10_ball_42 (by decide) ?_
  refine s_iast E rfl (by decide +kernel) (vp_c (by decide)) dX10_ball_43 ?_
  refine s_world (w2 := wb_339) rfl ?_
  refine s_iinc (v := 118) (L2 := [some (AR 95), some (AI 118)]) E dX10_ball_44 rfl (by decide) (by decide) rfl ?_
  refine s_goto (tgt := 30) E dX10_ball_47 (by decide) ?_
  refine s_iload_n E dX10_ball_30 rfl rfl ?_
  refine s_sipush (v := 134) E dX10_ball_31 (by decide) ?_
  refine s_icmp_ge (tgt := 50) E dX10_ball_34 (by decide) (fun hh => absurd hh (by decide)) (fun _ => ?_)
  refine s_aload_n E dX10_ball_37 rfl rfl ?_
  refine s_gR (r := 101) E fg_X10_31 rfl rfl (by decide +kernel) (by decide +kernel) dX10_ball_38 ?_
  refine s_iload_n E dX10_ball_41 rfl rfl ?_
  refine s_iconst (v := 0) E dX10_ball_42 (by decide) ?_
  refine s_iast E rfl (by decide +kernel) (vp_c (by decide)) dX10_ball_43 ?_
  refine s_world (w2 := wb_340) rfl ?_
  refine s_iinc (v := 119) (L2 := [some (AR 95), some (AI 119)]) E dX10_ball_44 rfl (by decide) (by decide) rfl ?_
  refine s_goto (tgt := 30) E dX10_ball_47 (by decide) ?_
  refine s_iload_n E dX10_ball_30 rfl rfl ?_
  refine s_sipush (v := 134) E dX10_ball_31 (by decide) ?_
  refine s_icmp_ge (tgt := 50) E dX10_ball_34 (by decide) (fun hh => absurd hh (by decide)) (fun _ => ?_)
  refine s_aload_n E dX10_ball_37 rfl rfl ?_
  refine s_gR (r := 101) E fg_X10_31 rfl rfl (by decide +kernel) (by decide +kernel) dX10_ball_38 ?_
  refine s_iload_n E dX10_ball_41 rfl rfl ?_
  refine s_iconst (v := 0) E dX10_ball_42 (by decide) ?_
  refine s_iast E rfl (by decide +kernel) (vp_c (by decide)) dX10_ball_43 ?_
  refine s_world (w2 := wb_341) rfl ?_
  refine s_iinc (v := 120) (L2 := [some (AR 95), some (AI 120)]) E dX10_ball_44 rfl (by decide) (by decide) rfl ?_
  refine s_goto (tgt := 30) E dX10_ball_47 (by decide) ?_
  refine s_iload_n E dX10_ball_30 rfl rfl ?_
  refine s_sipush (v := 134) E dX10_ball_31 (by decide) ?_
  refine s_icmp_ge (tgt := 50) E dX10_ball_34 (by decide) (fun hh => absurd hh (by decide)) (fun _ => ?_)
  refine s_aload_n E dX10_ball_37 rfl rfl ?_
  refine s_gR (r := 101) E fg_X10_31 rfl rfl (by decide +kernel) (by decide +kernel) dX10_ball_38 ?_
  refine s_iload_n E dX10_ball_41 rfl rfl ?_
  refine s_iconst (v := 0) E dX10_ball_42 (by decide) ?_
  refine s_iast E rfl (by decide +kernel) (vp_c (by decide)) dX10_ball_43 ?_
  refine s_world (w2 := wb_342) rfl ?_
  refine s_iinc (v := 121) (L2 := [some (AR 95), some (AI 121)]) E dX10_ball_44 rfl (by decide) (by decide) rfl ?_
  refine s_goto (tgt := 30) E dX10_ball_47 (by decide) ?_
  refine s_iload_n E dX10_ball_30 rfl rfl ?_
  refine s_sipush (v := 134) E dX10_ball_31 (by decide) ?_
  refine s_icmp_ge (tgt := 50) E dX10_ball_34 (by decide) (fun hh => absurd hh (by decide)) (fun _ => ?_)
  refine s_aload_n E dX10_ball_37 rfl rfl ?_
  refine s_gR (r := 101) E fg_X10_31 rfl rfl (by decide +kernel) (by decide +kernel) dX10_ball_38 ?_
  refine s_iload_n E dX10_ball_41 rfl rfl ?_
  refine s_iconst (v := 0) E dX10_ball_42 (by decide) ?_
  refine s_iast E rfl (by decide +kernel) (vp_c (by decide)) dX10_ball_43 ?_
  refine s_world (w2 := wb_343) rfl ?_
  refine s_iinc (v := 122) (L2 := [some (AR 95), some (AI 122)]) E dX10_ball_44 rfl (by decide) (by decide) rfl ?_
  refine s_goto (tgt := 30) E dX10_ball_47 (by decide) ?_
  refine s_iload_n E dX10_ball_30 rfl rfl ?_
  refine s_sipush (v := 134) E dX10_ball_31 (by decide) ?_
  refine s_icmp_ge (tgt := 50) E dX10_ball_34 (by decide) (fun hh => absurd hh (by decide)) (fun _ => ?_)
  refine s_aload_n E dX10_ball_37 rfl rfl ?_
  refine s_gR (r := 101) E fg_X10_31 rfl rfl (by decide +kernel) (by decide +kernel) dX10_ball_38 ?_
  refine s_iload_n E dX10_ball_41 rfl rfl ?_
  refine s_iconst (v := 0) E dX10_ball_42 (by decide) ?_
  refine s_iast E rfl (by decide +kernel) (vp_c (by decide)) dX10_ball_43 ?_
  refine s_world (w2 := wb_344) rfl ?_
  refine s_iinc (v := 123) (L2 := [some (AR 95), some (AI 123)]) E dX10_ball_44 rfl (by decide) (by decide) rfl ?_
  refine s_goto (tgt := 30) E dX10_ball_47 (by decide) ?_
  refine s_iload_n E dX10_ball_30 rfl rfl ?_
  refine s_sipush (v := 134) E dX10_ball_31 (by decide) ?_
  refine s_icmp_ge (tgt := 50) E dX10_ball_34 (by decide) (fun hh => absurd hh (by decide)) (fun _ => ?_)
  refine s_aload_n E dX10_ball_37 rfl rfl ?_
  refine s_gR (r := 101) E fg_X10_31 rfl rfl (by decide +kernel) (by decide +kernel) dX10_ball_38 ?_
  refine s_iload_n E dX10_ball_41 rfl rfl ?_
  refine s_iconst (v := 0) E dX10_ball_42 (by decide) ?_
  refine s_iast E rfl (by decide +kernel) (vp_c (by decide)) dX10_ball_43 ?_
  refine s_world (w2 := wb_345) rfl ?_
  refine s_iinc (v := 124) (L2 := [some (AR 95), some (AI 124)]) E dX10_ball_44 rfl (by decide) (by decide) rfl ?_
  refine s_goto (tgt := 30) E dX10_ball_47 (by decide) ?_
  refine s_iload_n E dX10_ball_30 rfl rfl ?_
  refine s_sipush (v := 134) E dX10_ball_31 (by decide) ?_
  refine s_icmp_ge (tgt := 50) E dX10_ball_34 (by decide) (fun hh => absurd hh (by decide)) (fun _ => ?_)
  refine s_aload_n E dX10_ball_37 rfl rfl ?_
  refine s_gR (r := 101) E fg_X10_31 rfl rfl (by decide +kernel) (by decide +kernel) dX10_ball_38 ?_
  refine s_iload_n E dX10_ball_41 rfl rfl ?_
  refine s_iconst (v := 0) E dX10_ball_42 (by decide) ?_
  refine s_iast E rfl (by decide +kernel) (vp_c (by decide)) dX10_ball_43 ?_
  refine s_world (w2 := wb_346) rfl ?_
  refine s_iinc (v := 125) (L2 := [some (AR 95), some (AI 125)]) E dX10_ball_44 rfl (by decide) (by decide) rfl ?_
  refine s_goto (tgt := 30) E dX10_ball_47 (by decide) ?_
  refine s_iload_n E dX10_ball_30 rfl rfl ?_
  refine s_sipush (v := 134) E dX10_ball_31 (by decide) ?_
  refine s_icmp_ge (tgt := 50) E dX10_ball_34 (by decide) (fun hh => absurd hh (by decide)) (fun _ => ?_)
  refine s_aload_n E dX10_ball_37 rfl rfl ?_
  refine s_gR (r := 101) E fg_X10_31 rfl rfl (by decide +kernel) (by decide +kernel) dX10_ball_38 ?_
  refine s_iload_n E dX10_ball_41 rfl rfl ?_
  refine s_iconst (v := 0) E dX10_ball_42 (by decide) ?_
  refine s_iast E rfl (by decide +kernel) (vp_c (by decide)) dX10_ball_43 ?_
  refine s_world (w2 := wb_347) rfl ?_
  refine s_iinc (v := 126) (L2 := [some (AR 95), some (AI 126)]) E dX10_ball_44 rfl (by decide) (by decide) rfl ?_
  refine s_goto (tgt := 30) E dX10_ball_47 (by decide) ?_
  refine s_iload_n E dX10_ball_30 rfl rfl ?_
  refine s_sipush (v := 134) E dX10_ball_31 (by decide) ?_
  refine s_icmp_ge (tgt := 50) E dX10_ball_34 (by decide) (fun hh => absurd hh (by decide)) (fun _ => ?_)
  refine s_aload_n E dX10_ball_37 rfl rfl ?_
  refine s_gR (r := 101) E fg_X10_31 rfl rfl (by decide +kernel) (by decide +kernel) dX10_ball_38 ?_
  refine s_iload_n E dX10_ball_41 rfl rfl ?_
  refine s_iconst (v := 0) E dX10_ball_42 (by decide) ?_
  refine s_iast E rfl (by decide +kernel) (vp_c (by decide)) dX10_ball_43 ?_
  refine s_world (w2 := wb_348) rfl ?_
  refine s_iinc (v := 127) (L2 := [some (AR 95), some (AI 127)]) E dX10_ball_44 rfl (by decide) (by decide) rfl ?_
  refine s_goto (tgt := 30) E dX10_ball_47 (by decide) ?_
  refine s_iload_n E dX10_ball_30 rfl rfl ?_
  refine s_sipush (v := 134) E dX10_ball_31 (by decide) ?_
  refine s_icmp_ge (tgt := 50) E dX10_ball_34 (by decide) (fun hh => absurd hh (by decide)) (fun _ => ?_)
  refine s_aload_n E dX10_ball_37 rfl rfl ?_
  refine s_gR (r := 101) E fg_X10_31 rfl rfl (by decide +kernel) (by decide +kernel) dX10_ball_38 ?_
  refine s_iload_n E dX10_ball_41 rfl rfl ?_
  refine s_iconst (v := 0) E dX10_ball_42 (by decide) ?_
  refine s_iast E rfl (by decide +kernel) (vp_c (by decide)) dX10_ball_43 ?_
  refine s_world (w2 := wb_349) rfl ?_
  refine s_iinc (v := 128) (L2 := [some (AR 95), some (AI 128)]) E dX10_ball_44 rfl (by decide) (by decide) rfl ?_
  refine s_goto (tgt := 30) E dX10_ball_47 (by decide) ?_
  refine s_iload_n E dX10_ball_30 rfl rfl ?_
  refine s_sipush (v := 134) E dX10_ball_31 (by decide) ?_
  refine s_icmp_ge (tgt := 50) E dX10_ball_34 (by decide) (fun hh => absurd hh (by decide)) (fun _ => ?_)
  refine s_aload_n E dX10_ball_37 rfl rfl ?_
  refine s_gR (r := 101) E fg_X10_31 rfl rfl (by decide +kernel) (by decide +kernel) dX10_ball_38 ?_
  refine s_iload_n E dX10_ball_41 rfl rfl ?_
  refine s_iconst (v := 0) E dX10_ball_42 (by decide) ?_
  refine s_iast E rfl (by decide +kernel) (vp_c (by decide)) dX10_ball_43 ?_
  refine s_world (w2 := wb_350) rfl ?_
  refine s_iinc (v := 129) (L2 := [some (AR 95), some (AI 129)]) E dX10_ball_44 rfl (by decide) (by decide) rfl ?_
  refine s_goto (tgt := 30) E dX10_ball_47 (by decide) ?_
  refine s_iload_n E dX10_ball_30 rfl rfl ?_
  refine s_sipush (v := 134) E dX10_ball_31 (by decide) ?_
  refine s_icmp_ge (tgt := 50) E dX10_ball_34 (by decide) (fun hh => absurd hh (by decide)) (fun _ => ?_)
  refine s_aload_n E dX10_ball_37 rfl rfl ?_
  refine s_gR (r := 101) E fg_X10_31 rfl rfl (by decide +kernel) (by decide +kernel) dX10_ball_38 ?_
  refine s_iload_n E dX10_ball_41 rfl rfl ?_
  refine s_iconst (v := 0) E dX10_ball_42 (by decide) ?_
  refine s_iast E rfl (by decide +kernel) (vp_c (by decide)) dX10_ball_43 ?_
  refine s_world (w2 := wb_351) rfl ?_
  refine s_iinc (v := 130) (L2 := [some (AR 95), some (AI 130)]) E dX10_ball_44 rfl (by decide) (by decide) rfl ?_
  refine s_goto (tgt := 30) E dX10_ball_47 (by decide) ?_
  refine s_iload_n E dX10_ball_30 rfl rfl ?_
  refine s_sipush (v := 134) E dX10_ball_31 (by decide) ?_
  refine s_icmp_ge (tgt := 50) E dX10_ball_34 (by decide) (fun hh => absurd hh (by decide)) (fun _ => ?_)
  refine s_aload_n E dX10_ball_37 rfl rfl ?_
  refine s_gR (r := 101) E fg_X10_31 rfl rfl (by decide +kernel) (by decide +kernel) dX10_ball_38 ?_
  refine s_iload_n E dX10_ball_41 rfl rfl ?_
  refine s_iconst (v := 0) E dX10_ball_42 (by decide) ?_
  refine s_iast E rfl (by decide +kernel) (vp_c (by decide)) dX10_ball_43 ?_
  refine s_world (w2 := wb_352) rfl ?_
  refine s_iinc (v := 131) (L2 := [some (AR 95), some (AI 131)]) E dX10_ball_44 rfl (by decide) (by decide) rfl ?_
  refine s_goto (tgt := 30) E dX10_ball_47 (by decide) ?_
  refine s_iload_n E dX10_ball_30 rfl rfl ?_
  refine s_sipush (v := 134) E dX10_ball_31 (by decide) ?_
  refine s_icmp_ge (tgt := 50) E dX10_ball_34 (by decide) (fun hh => absurd hh (by decide)) (fun _ => ?_)
  refine s_aload_n E dX10_ball_37 rfl rfl ?_
  refine s_gR (r := 101) E fg_X10_31 rfl rfl (by decide +kernel) (by decide +kernel) dX10_ball_38 ?_
  refine s_iload_n E dX10_ball_41 rfl rfl ?_
  refine s_iconst (v := 0) E dX10_ball_42 (by decide) ?_
  refine s_iast E rfl (by decide +kernel) (vp_c (by decide)) dX10_ball_43 ?_
  refine s_world (w2 := wb_353) rfl ?_
  refine s_iinc (v := 132) (L2 := [some (AR 95), some (AI 132)]) E dX10_ball_44 rfl (by decide) (by decide) rfl ?_
  refine s_goto (tgt := 30) E dX10_ball_47 (by decide) ?_
  refine s_iload_n E dX10_ball_30 rfl rfl ?_
  refine s_sipush (v := 134) E dX10_ball_31 (by decide) ?_
  refine s_icmp_ge (tgt := 50) E dX10_ball_34 (by decide) (fun hh => absurd hh (by decide)) (fun _ => ?_)
  refine s_aload_n E dX10_ball_37 rfl rfl ?_
  refine s_gR (r := 101) E fg_X10_31 rfl rfl (by decide +kernel) (by decide +kernel) dX10_ball_38 ?_
  refine s_iload_n E dX10_ball_41 rfl rfl ?_
  refine s_iconst (v := 0) E dX10_ball_42 (by decide) ?_
  refine s_iast E rfl (by decide +kernel) (vp_c (by decide)) dX10_ball_43 ?_
  refine s_world (w2 := wb_354) rfl ?_
  refine s_iinc (v := 133) (L2 := [some (AR 95), some (AI 133)]) E dX10_ball_44 rfl (by decide) (by decide) rfl ?_
  refine s_goto (tgt := 30) E dX10_ball_47 (by decide) ?_
  refine s_iload_n E dX10_ball_30 rfl rfl ?_
  refine s_sipush (v := 134) E dX10_ball_31 (by decide) ?_
  refine s_icmp_ge (tgt := 50) E dX10_ball_34 (by decide) (fun hh => absurd hh (by decide)) (fun _ => ?_)
  refine s_aload_n E dX10_ball_37 rfl rfl ?_
  refine s_gR (r := 101) E fg_X10_31 rfl rfl (by decide +kernel) (by decide +kernel) dX10_ball_38 ?_
  refine s_iload_n E dX10_ball_41 rfl rfl ?_
  refine s_iconst (v := 0) E dX10_ball_42 (by decide) ?_
  refine s_iast E rfl (by decide +kernel) (vp_c (by decide)) dX10_ball_43 ?_
  refine s_world (w2 := wb_355) rfl ?_
  refine s_iinc (v := 134) (L2 := [some (AR 95), some (AI 134)]) E dX10_ball_44 rfl (by decide) (by decide) rfl ?_
  refine s_goto (tgt := 30) E dX10_ball_47 (by decide) ?_
  refine s_iload_n E dX10_ball_30 rfl rfl ?_
  refine s_sipush (v := 134) E dX10_ball_31 (by decide) ?_
  refine s_icmp_ge (tgt := 50) E dX10_ball_34 (by decide) (fun _ => ?_) (fun hh => absurd (by decide) hh)
  refine s_aload_n E dX10_ball_50 rfl rfl ?_
  refine s_vV (As := []) (S := []) E (KB_28 l D aC b) cv_X10_147 rfl rfl rfl (by decide +kernel) (Nat.le_of_ble_eq_true rfl) (Nat.le_of_ble_eq_true rfl) ⟨(Nat.le_of_ble_eq_true rfl), (Nat.le_of_ble_eq_true rfl)⟩ (Nat.le_of_ble_eq_true rfl) dX10_ball_51 (fun u hp => ?_)
  subst hp
  refine s_aload_n E dX10_ball_54 rfl rfl ?_
  refine s_vI (As := []) (S := []) E (KB_29 l D aC b) cv_X10_130 rfl rfl rfl (by decide +kernel) (Nat.le_of_ble_eq_true rfl) (Nat.le_of_ble_eq_true rfl) ⟨(Nat.le_of_ble_eq_true rfl), (Nat.le_of_ble_eq_true rfl)⟩ (Nat.le_of_ble_eq_true rfl) dX10_ball_55 (fun r u hp => ?_)
  obtain ⟨rfl, rfl⟩ := hp
  refine s_if_eq (tgt := 75) E dX10_ball_58 (by decide) (fun hh => absurd hh (by decide)) (fun _ => ?_)
  refine s_aload_n E dX10_ball_61 rfl rfl ?_
  refine s_gI E fg_X10_106 rfl rfl (by decide +kernel) dX10_ball_62 ?_
  refine s_top (y := 0) (by decide +kernel) ?_
  refine s_if_eq (tgt := 75) E dX10_ball_65 (by decide) (fun _ => ?_) (fun hh => absurd (by decide) hh)
  refine s_aload_n E dX10_ball_75 rfl rfl ?_
  refine s_vI (As := []) (S := []) E (KB_30 l D aC b) cv_X10_130 rfl rfl rfl (by decide +kernel) (Nat.le_of_ble_eq_true rfl) (Nat.le_of_ble_eq_true rfl) ⟨(Nat.le_of_ble_eq_true rfl), (Nat.le_of_ble_eq_true rfl)⟩ (Nat.le_of_ble_eq_true rfl) dX10_ball_76 (fun r u hp => ?_)
  obtain ⟨rfl, rfl⟩ := hp
  refine s_if_ne (tgt := 85) E dX10_ball_79 (by decide) (fun _ => ?_) (fun hh => absurd hh (by decide))
  refine s_iconst (v := 0) E dX10_ball_85 (by decide) ?_
  refine s_istore_n (L2 := [some (AR 95), some (AI 0)]) E dX10_ball_86 rfl (by decide) rfl ?_
  refine s_iload_n E dX10_ball_87 rfl rfl ?_
  refine s_sipush (v := 134) E dX10_ball_88 (by decide) ?_
  refine s_icmp_ge (tgt := 112) E dX10_ball_91 (by decide) (fun hh => absurd hh (by decide)) (fun _ => ?_)
  refine s_aload_n E dX10_ball_94 rfl rfl ?_
  refine s_gR (r := 96) E fg_X10_9 rfl rfl (by decide +kernel) (by decide +kernel) dX10_ball_95 ?_
  refine s_iload_n E dX10_ball_98 rfl rfl ?_
  refine s_aload_n E dX10_ball_99 rfl rfl ?_
  refine s_gR (r := 101) E fg_X10_31 rfl rfl (by decide +kernel) (by decide +kernel) dX10_ball_100 ?_
  refine s_iload_n E dX10_ball_103 rfl rfl ?_
  refine s_iald E rfl (by decide +kernel) (vp_c (by decide)) dX10_ball_104 ?_
  refine s_top (y := 0) (by decide +kernel) ?_
  refine s_iast E rfl (by decide +kernel) (vp_c (by decide)) dX10_ball_105 ?_
  refine s_world (w2 := wb_358) rfl ?_
  refine s_iinc (v := 1) (L2 := [some (AR 95), some (AI 1)]) E dX10_ball_106 rfl (by decide) (by decide) rfl ?_
  refine s_goto (tgt := 87) E dX10_ball_109 (by decide) ?_
  refine s_iload_n E dX10_ball_87 rfl rfl ?_
  refine s_sipush (v := 134) E dX10_ball_88 (by decide) ?_
  refine s_icmp_ge (tgt := 112) E dX10_ball_91 (by decide) (fun hh => absurd hh (by decide)) (fun _ => ?_)
  refine s_aload_n E dX10_ball_94 rfl rfl ?_
  refine s_gR (r := 96) E fg_X10_9 rfl rfl (by decide +kernel) (by decide +kernel) dX10_ball_95 ?_
  refine s_iload_n E dX10_ball_98 rfl rfl ?_
  refine s_aload_n E dX10_ball_99 rfl rfl ?_
  refine s_gR (r := 101) E fg_X10_31 rfl rfl (by decide +kernel) (by decide +kernel) dX10_ball_100 ?_
  refine s_iload_n E dX10_ball_103 rfl rfl ?_
  refine s_iald E rfl (by decide +kernel) (vp_c (by decide)) dX10_ball_104 ?_
  refine s_top (y := 0) (by decide +kernel) ?_
  refine s_iast E rfl (by decide +kernel) (vp_c (by decide)) dX10_ball_105 ?_
  refine s_world (w2 := wb_359) rfl ?_
  refine s_iinc (v := 2) (L2 := [some (AR 95), some (AI 2)]) E dX10_ball_106 rfl (by decide) (by decide) rfl ?_
  refine s_goto (tgt := 87) E dX10_ball_109 (by decide) ?_
  refine s_iload_n E dX10_ball_87 rfl rfl ?_
  refine s_sipush (v := 134) E dX10_ball_88 (by decide) ?_
  refine s_icmp_ge (tgt := 112) E dX10_ball_91 (by decide) (fun hh => absurd hh (by decide)) (fun _ => ?_)
  refine s_aload_n E dX10_ball_94 rfl rfl ?_
  refine s_gR (r := 96) E fg_X10_9 rfl rfl (by decide +kernel) (by decide +kernel) dX10_ball_95 ?_
  refine s_iload_n E dX10_ball_98 rfl rfl ?_
  refine s_aload_n E dX10_ball_99 rfl rfl ?_
  refine s_gR (r := 101) E fg_X10_31 rfl rfl (by decide +kernel) (by decide +kernel) dX10_ball_100 ?_
  refine s_iload_n E dX10_ball_103 rfl rfl ?_
  refine s_iald E rfl (by decide +kernel) (vp_c (by decide)) dX10_ball_104 ?_
  refine s_top (y := 0) (by decide +kernel) ?_
  refine s_iast E rfl (by decide +kernel) (vp_c (by decide)) dX10_ball_105 ?_
  refine s_world (w2 := wb_360) rfl ?_
  refine s_iinc (v := 3) (L2 := [some (AR 95), some (AI 3)]) E dX10_ball_106 rfl (by decide) (by decide) rfl ?_
  refine s_goto (tgt := 87) E dX10_ball_109 (by decide) ?_
  refine s_iload_n E dX10_ball_87 rfl rfl ?_
  refine s_sipush (v := 134) E dX10_ball_88 (by decide) ?_
  refine s_icmp_ge (tgt := 112) E dX10_ball_91 (by decide) (fun hh => absurd hh (by decide)) (fun _ => ?_)
  refine s_aload_n E dX10_ball_94 rfl rfl ?_
  refine s_gR (r := 96) E fg_X10_9 rfl rfl (by decide +kernel) (by decide +kernel) dX10_ball_95 ?_
  refine s_iload_n E dX10_ball_98 rfl rfl ?_
  refine s_aload_n E dX10_ball_99 rfl rfl ?_
  refine s_gR (r := 101) E fg_X10_31 rfl rfl (by decide +kernel) (by decide +kernel) dX10_ball_100 ?_
  refine s_iload_n E dX10_ball_103 rfl rfl ?_
  refine s_iald E rfl (by decide +kernel) (vp_c (by decide)) dX10_ball_104 ?_
  refine s_top (y := 0) (by decide +kernel) ?_
  refine s_iast E rfl (by decide +kernel) (vp_c (by decide)) dX10_ball_105 ?_
  refine s_world (w2 := wb_361) rfl ?_
  refine s_iinc (v := 4) (L2 := [some (AR 95), some (AI 4)]) E dX10_ball_106 rfl (by decide) (by decide) rfl ?_
  refine s_goto (tgt := 87) E dX10_ball_109 (by decide) ?_
  refine s_iload_n E dX10_ball_87 rfl rfl ?_
  refine s_sipush (v := 134) E dX10_ball_88 (by decide) ?_
  refine s_icmp_ge (tgt := 112) E dX10_ball_91 (by decide) (fun hh => absurd hh (by decide)) (fun _ => ?_)
  refine s_aload_n E dX10_ball_94 rfl rfl ?_
  refine s_gR (r := 96) E fg_X10_9 rfl rfl (by decide +kernel) (by decide +kernel) dX10_ball_95 ?_
  refine s_iload_n E dX10_ball_98 rfl rfl ?_
  refine s_aload_n E dX10_ball_99 rfl rfl ?_
  refine s_gR (r := 101) E fg_X10_31 rfl rfl (by decide +kernel) (by decide +kernel) dX10_ball_100 ?_
  refine s_iload_n E dX10_ball_103 rfl rfl ?_
  refine s_iald E rfl (by decide +kernel) (vp_c (by decide)) dX10_ball_104 ?_
  refine s_top (y := 0) (by decide +kernel) ?_
  refine s_iast E rfl (by decide +kernel) (vp_c (by decide)) dX10_ball_105 ?_
  refine s_world (w2 := wb_362) rfl ?_
  refine s_iinc (v := 5) (L2 := [some (AR 95), some (AI 5)]) E dX10_ball_106 rfl (by decide) (by decide) rfl ?_
  refine s_goto (tgt := 87) E dX10_ball_109 (by decide) ?_
  refine s_iload_n E dX10_ball_87 rfl rfl ?_
  refine s_sipush (v := 134) E dX10_ball_88 (by decide) ?_
  refine s_icmp_ge (tgt := 112) E dX10_ball_91 (by decide) (fun hh => absurd hh (by decide)) (fun _ => ?_)
  refine s_aload_n E dX10_ball_94 rfl rfl ?_
  refine s_gR (r := 96) E fg_X10_9 rfl rfl (by decide +kernel) (by decide +kernel) dX10_ball_95 ?_
  refine s_iload_n E dX10_ball_98 rfl rfl ?_
  refine s_aload_n E dX10_ball_99 rfl rfl ?_
  refine s_gR (r := 101) E fg_X10_31 rfl rfl (by decide +kernel) (by decide +kernel) dX10_ball_100 ?_
  refine s_iload_n E dX10_ball_103 rfl rfl ?_
  refine s_iald E rfl (by decide +kernel) (vp_c (by decide)) dX10_ball_104 ?_
  refine s_top (y := 0) (by decide +kernel) ?_
  refine s_iast E rfl (by decide +kernel) (vp_c (by decide)) dX10_ball_105 ?_
  refine s_world (w2 := wb_363) rfl ?_
  refine s_iinc (v := 6) (L2 := [some (AR 95), some (AI 6)]) E dX10_ball_106 rfl (by decide) (by decide) rfl ?_
  refine s_goto (tgt := 87) E dX10_ball_109 (by decide) ?_
  refine s_iload_n E dX10_ball_87 rfl rfl ?_
  refine s_sipush (v := 134) E dX10_ball_88 (by decide) ?_
  refine s_icmp_ge (tgt := 112) E dX10_ball_91 (by decide) (fun hh => absurd hh (by decide)) (fun _ => ?_)
  refine s_aload_n E dX10_ball_94 rfl rfl ?_
  refine s_gR (r := 96) E fg_X10_9 rfl rfl (by decide +kernel) (by decide +kernel) dX10_ball_95 ?_
  refine s_iload_n E dX10_ball_98 rfl rfl ?_
  refine s_aload_n E dX10_ball_99 rfl rfl ?_
  refine s_gR (r := 101) E fg_X10_31 rfl rfl (by decide +kernel) (by decide +kernel) dX10_ball_100 ?_
  refine s_iload_n E dX10_ball_103 rfl rfl ?_
  refine s_iald E rfl (by decide +kernel) (vp_c (by decide)) dX10_ball_104 ?_
  refine s_top (y := 0) (by decide +kernel) ?_
  refine s_iast E rfl (by decide +kernel) (vp_c (by decide)) dX10_ball_105 ?_
  refine s_world (w2 := wb_364) rfl ?_
  refine s_iinc (v := 7) (L2 := [some (AR 95), some (AI 7)]) E dX10_ball_106 rfl (by decide) (by decide) rfl ?_
  refine s_goto (tgt := 87) E dX10_ball_109 (by decide) ?_
  refine s_iload_n E dX10_ball_87 rfl rfl ?_
  refine s_sipush (v := 134) E dX10_ball_88 (by decide) ?_
  refine s_icmp_ge (tgt := 112) E dX10_ball_91 (by decide) (fun hh => absurd hh (by decide)) (fun _ => ?_)
  refine s_aload_n E dX10_ball_94 rfl rfl ?_
  refine s_gR (r := 96) E fg_X10_9 rfl rfl (by decide +kernel) (by decide +kernel) dX10_ball_95 ?_
  refine s_iload_n E dX10_ball_98 rfl rfl ?_
  refine s_aload_n E dX10_ball_99 rfl rfl ?_
  refine s_gR (r := 101) E fg_X10_31 rfl rfl (by decide +kernel) (by decide +kernel) dX10_ball_100 ?_
  refine s_iload_n E dX10_ball_103 rfl rfl ?_
  refine s_iald E rfl (by decide +kernel) (vp_c (by decide)) dX10_ball_104 ?_
  refine s_top (y := 0) (by decide +kernel) ?_
  refine s_iast E rfl (by decide +kernel) (vp_c (by decide)) dX10_ball_105 ?_
  refine s_world (w2 := wb_365) rfl ?_
  refine s_iinc (v := 8) (L2 := [some (AR 95), some (AI 8)]) E dX10_ball_106 rfl (by decide) (by decide) rfl ?_
  refine s_goto (tgt := 87) E dX10_ball_109 (by decide) ?_
  refine s_iload_n E dX10_ball_87 rfl rfl ?_
  refine s_sipush (v := 134) E dX10_ball_88 (by decide) ?_
  refine s_icmp_ge (tgt := 112) E dX10_ball_91 (by decide) (fun hh => absurd hh (by decide)) (fun _ => ?_)
  refine s_aload_n E dX10_ball_94 rfl rfl ?_
  refine s_gR (r := 96) E fg_X10_9 rfl rfl (by decide +kernel) (by decide +kernel) dX10_ball_95 ?_
  refine s_iload_n E dX10_ball_98 rfl rfl ?_
  refine s_aload_n E dX10_ball_99 rfl rfl ?_
  refine s_gR (r := 101) E fg_X10_31 rfl rfl (by decide +kernel) (by decide +kernel) dX10_ball_100 ?_
  refine s_iload_n E dX10_ball_103 rfl rfl ?_
  refine s_iald E rfl (by decide +kernel) (vp_c (by decide)) dX10_ball_104 ?_
  refine s_top (y := 0) (by decide +kernel) ?_
  refine s_iast E rfl (by decide +kernel) (vp_c (by decide)) dX10_ball_105 ?_
  refine s_world (w2 := wb_366) rfl ?_
  refine s_iinc (v := 9) (L2 := [some (AR 95), some (AI 9)]) E dX10_ball_106 rfl (by decide) (by decide) rfl ?_
  refine s_goto (tgt := 87) E dX10_ball_109 (by decide) ?_
  refine s_iload_n E dX10_ball_87 rfl rfl ?_
  refine s_sipush (v := 134) E dX10_ball_88 (by decide) ?_
  refine s_icmp_ge (tgt := 112) E dX10_ball_91 (by decide) (fun hh => absurd hh (by decide)) (fun _ => ?_)
  refine s_aload_n E dX10_ball_94 rfl rfl ?_
  refine s_gR (r := 96) E fg_X10_9 rfl rfl (by decide +kernel) (by decide +kernel) dX10_ball_95 ?_
  refine s_iload_n E dX10_ball_98 rfl rfl ?_
  refine s_aload_n E dX10_ball_99 rfl rfl ?_
  refine s_gR (r := 101) E fg_X10_31 rfl rfl (by decide +kernel) (by decide +kernel) dX10_ball_100 ?_
  refine s_iload_n E dX10_ball_103 rfl rfl ?_
  refine s_iald E rfl (by decide +kernel) (vp_c (by decide)) dX10_ball_104 ?_
  refine s_top (y := 0) (by decide +kernel) ?_
  refine s_iast E rfl (by decide +kernel) (vp_c (by decide)) dX10_ball_105 ?_
  refine s_world (w2 := wb_367) rfl ?_
  refine s_iinc (v := 10) (L2 := [some (AR 95), some (AI 10)]) E dX10_ball_106 rfl (by decide) (by decide) rfl ?_
  refine s_goto (tgt := 87) E dX10_ball_109 (by decide) ?_
  refine s_iload_n E dX10_ball_87 rfl rfl ?_
  refine s_sipush (v := 134) E dX10_ball_88 (by decide) ?_
  refine s_icmp_ge (tgt := 112) E dX10_ball_91 (by decide) (fun hh => absurd hh (by decide)) (fun _ => ?_)
  refine s_aload_n E dX10_ball_94 rfl rfl ?_
  refine s_gR (r := 96) E fg_X10_9 rfl rfl (by decide +kernel) (by decide +kernel) dX10_ball_95 ?_
  refine s_iload_n E dX10_ball_98 rfl rfl ?_
  refine s_aload_n E dX10_ball_99 rfl rfl ?_
  refine s_gR (r := 101) E fg_X10_31 rfl rfl (by decide +kernel) (by decide +kernel) dX10_ball_100 ?_
  refine s_iload_n E dX10_ball_103 rfl rfl ?_
  refine s_iald E rfl (by decide +kernel) (vp_c (by decide)) dX10_ball_104 ?_
  refine s_top (y := 0) (by decide +kernel) ?_
  refine s_iast E rfl (by decide +kernel) (vp_c (by decide)) dX10_ball_105 ?_
  refine s_world (w2 := wb_368) rfl ?_
  refine s_iinc (v := 11) (L2 := [some (AR 95), some (AI 11)]) E dX10_ball_106 rfl (by decide) (by decide) rfl ?_
  refine s_goto (tgt := 87) E dX10_ball_109 (by decide) ?_
  refine s_iload_n E dX10_ball_87 rfl rfl ?_
  refine s_sipush (v := 134) E dX10_ball_88 (by decide) ?_
  refine s_icmp_ge (tgt := 112) E dX10_ball_91 (by decide) (fun hh => absurd hh (by decide)) (fun _ => ?_)
  refine s_aload_n E dX10_ball_94 rfl rfl ?_
  refine s_gR (r := 96) E fg_X10_9 rfl rfl (by decide +kernel) (by decide +kernel) dX10_ball_95 ?_
  refine s_iload_n E dX10_ball_98 rfl rfl ?_
  refine s_aload_n E dX10_ball_99 rfl rfl ?_
  refine s_gR (r := 101) E fg_X10_31 rfl rfl (by decide +kernel) (by decide +kernel) dX10_ball_100 ?_
  refine s_iload_n E dX10_ball_103 rfl rfl ?_
  refine s_iald E rfl (by decide +kernel) (vp_c (by decide)) dX10_ball_104 ?_
  refine s_top (y := 0) (by decide +kernel) ?_
  refine s_iast E rfl (by decide +kernel) (vp_c (by decide)) dX10_ball_105 ?_
  refine s_world (w2 := wb_369) rfl ?_
  refine s_iinc (v := 12) (L2 := [some (AR 95), some (AI 12)]) E dX10_ball_106 rfl (by decide) (by decide) rfl ?_
  refine s_goto (tgt := 87) E dX10_ball_109 (by decide) ?_
  refine s_iload_n E dX10_ball_87 rfl rfl ?_
  refine s_sipush (v := 134) E dX10_ball_88 (by decide) ?_
  refine s_icmp_ge (tgt := 112) E dX10_ball_91 (by decide) (fun hh => absurd hh (by decide)) (fun _ => ?_)
  refine s_aload_n E dX10_ball_94 rfl rfl ?_
  refine s_gR (r := 96) E fg_X10_9 rfl rfl (by decide +kernel) (by decide +kernel) dX10_ball_95 ?_
  refine s_iload_n E dX10_ball_98 rfl rfl ?_
  refine s_aload_n E dX10_ball_99 rfl rfl ?_
  refine s_gR (r := 101) E fg_X10_31 rfl rfl (by decide +kernel) (by decide +kernel) dX10_ball_100 ?_
  refine s_iload_n E dX10_ball_103 rfl rfl ?_
  refine s_iald E rfl (by decide +kernel) (vp_c (by decide)) dX10_ball_104 ?_
  refine s_top (y := 0) (by decide +kernel) ?_
  refine s_iast E rfl (by decide +kernel) (vp_c (by decide)) dX10_ball_105 ?_
  refine s_world (w2 := wb_370) rfl ?_
  refine s_iinc (v := 13) (L2 := [some (AR 95), some (AI 13)]) E dX10_ball_106 rfl (by decide) (by decide) rfl ?_
  refine s_goto (tgt := 87) E dX10_ball_109 (by decide) ?_
  refine s_iload_n E dX10_ball_87 rfl rfl ?_
  refine s_sipush (v := 134) E dX10_ball_88 (by decide) ?_
  refine s_icmp_ge (tgt := 112) E dX10_ball_91 (by decide) (fun hh => absurd hh (by decide)) (fun _ => ?_)
  refine s_aload_n E dX10_ball_94 rfl rfl ?_
  refine s_gR (r := 96) E fg_X10_9 rfl rfl (by decide +kernel) (by decide +kernel) dX10_ball_95 ?_
  refine s_iload_n E dX10_ball_98 rfl rfl ?_
  refine s_aload_n E dX10_ball_99 rfl rfl ?_
  refine s_gR (r := 101) E fg_X10_31 rfl rfl (by decide +kernel) (by decide +kernel) dX10_ball_100 ?_
  refine s_iload_n E dX10_ball_103 rfl rfl ?_
  refine s_iald E rfl (by decide +kernel) (vp_c (by decide)) dX10_ball_104 ?_
  refine s_top (y := 0) (by decide +kernel) ?_
  refine s_iast E rfl (by decide +kernel) (vp_c (by decide)) dX10_ball_105 ?_
  refine s_world (w2 := wb_371) rfl ?_
  refine s_iinc (v := 14) (L2 := [some (AR 95), some (AI 14)]) E dX10_ball_106 rfl (by decide) (by decide) rfl ?_
  refine s_goto (tgt := 87) E dX10_ball_109 (by decide) ?_
  refine s_iload_n E dX10_ball_87 rfl rfl ?_
  refine s_sipush (v := 134) E dX10_ball_88 (by decide) ?_
  refine s_icmp_ge (tgt := 112) E dX10_ball_91 (by decide) (fun hh => absurd hh (by decide)) (fun _ => ?_)
  refine s_aload_n E dX10_ball_94 rfl rfl ?_
  refine s_gR (r := 96) E fg_X10_9 rfl rfl (by decide +kernel) (by decide +kernel) dX10_ball_95 ?_
  refine s_iload_n E dX10_ball_98 rfl rfl ?_
  refine s_aload_n E dX10_ball_99 rfl rfl ?_
  refine s_gR (r := 101) E fg_X10_31 rfl rfl (by decide +kernel) (by decide +kernel) dX10_ball_100 ?_
  refine s_iload_n E dX10_ball_103 rfl rfl ?_
  refine s_iald E rfl (by decide +kernel) (vp_c (by decide)) dX10_ball_104 ?_
  refine s_top (y := 0) (by decide +kernel) ?_
  refine s_iast E rfl (by decide +kernel) (vp_c (by decide)) dX10_ball_105 ?_
  refine s_world (w2 := wb_372) rfl ?_
  refine s_iinc (v := 15) (L2 := [some (AR 95), some (AI 15)]) E dX10_ball_106 rfl (by decide) (by decide) rfl ?_
  refine s_goto (tgt := 87) E dX10_ball_109 (by decide) ?_
  refine s_iload_n E dX10_ball_87 rfl rfl ?_
  refine s_sipush (v := 134) E dX10_ball_88 (by decide) ?_
  refine s_icmp_ge (tgt := 112) E dX10_ball_91 (by decide) (fun hh => absurd hh (by decide)) (fun _ => ?_)
  refine s_aload_n E dX10_ball_94 rfl rfl ?_
  refine s_gR (r := 96) E fg_X10_9 rfl rfl (by decide +kernel) (by decide +kernel) dX10_ball_95 ?_
  refine s_iload_n E dX10_ball_98 rfl rfl ?_
  refine s_aload_n E dX10_ball_99 rfl rfl ?_
  refine s_gR (r := 101) E fg_X10_31 rfl rfl (by decide +kernel) (by decide +kernel) dX10_ball_100 ?_
  refine s_iload_n E dX10_ball_103 rfl rfl ?_
  refine s_iald E rfl (by decide +kernel) (vp_c (by decide)) dX10_ball_104 ?_
  refine s_top (y := 0) (by decide +kernel) ?_
  refine s_iast E rfl (by decide +kernel) (vp_c (by decide)) dX10_ball_105 ?_
  refine s_world (w2 := wb_373) rfl ?_
  refine s_iinc (v := 16) (L2 := [some (AR 95), some (AI 16)]) E dX10_ball_106 rfl (by decide) (by decide) rfl ?_
  refine s_goto (tgt := 87) E dX10_ball_109 (by decide) ?_
  refine s_iload_n E dX10_ball_87 rfl rfl ?_
  refine s_sipush (v := 134) E dX10_ball_88 (by decide) ?_
  refine s_icmp_ge (tgt := 112) E dX10_ball_91 (by decide) (fun hh => absurd hh (by decide)) (fun _ => ?_)
  refine s_aload_n E dX10_ball_94 rfl rfl ?_
  refine s_gR (r := 96) E fg_X10_9 rfl rfl (by decide +kernel) (by decide +kernel) dX10_ball_95 ?_
  refine s_iload_n E dX10_ball_98 rfl rfl ?_
  refine s_aload_n E dX10_ball_99 rfl rfl ?_
  refine s_gR (r := 101) E fg_X10_31 rfl rfl (by decide +kernel) (by decide +kernel) dX10_ball_100 ?_
  refine s_iload_n E dX10_ball_103 rfl rfl ?_
  refine s_iald E rfl (by decide +kernel) (vp_c (by decide)) dX10_ball_104 ?_
  refine s_top (y := 0) (by decide +kernel) ?_
  refine s_iast E rfl (by decide +kernel) (vp_c (by decide)) dX10_ball_105 ?_
  refine s_world (w2 := wb_374) rfl ?_
  refine s_iinc (v := 17) (L2 := [some (AR 95), some (AI 17)]) E dX10_ball_106 rfl (by decide) (by decide) rfl ?_
  refine s_goto (tgt := 87) E dX10_ball_109 (by decide) ?_
  refine s_iload_n E dX10_ball_87 rfl rfl ?_
  refine s_sipush (v := 134) E dX10_ball_88 (by decide) ?_
  refine s_icmp_ge (tgt := 112) E dX10_ball_91 (by decide) (fun hh => absurd hh (by decide)) (fun _ => ?_)
  refine s_aload_n E dX10_ball_94 rfl rfl ?_
  refine s_gR (r := 96) E fg_X10_9 rfl rfl (by decide +kernel) (by decide +kernel) dX10_ball_95 ?_
  refine s_iload_n E dX10_ball_98 rfl rfl ?_
  refine s_aload_n E dX10_ball_99 rfl rfl ?_
  refine s_gR (r := 101) E fg_X10_31 rfl rfl (by decide +kernel) (by decide +kernel) dX10_ball_100 ?_
  refine s_iload_n E dX10_ball_103 rfl rfl ?_
  refine s_iald E rfl (by decide +kernel) (vp_c (by decide)) dX10_ball_104 ?_
  refine s_top (y := 0) (by decide +kernel) ?_
  refine s_iast E rfl (by decide +kernel) (vp_c (by decide)) dX10_ball_105 ?_
  refine s_world (w2 := wb_375) rfl ?_
  refine s_iinc (v := 18) (L2 := [some (AR 95), some (AI 18)]) E dX10_ball_106 rfl (by decide) (by decide) rfl ?_
  refine s_goto (tgt := 87) E dX10_ball_109 (by decide) ?_
  refine s_iload_n E dX10_ball_87 rfl rfl ?_
  refine s_sipush (v := 134) E dX10_ball_88 (by decide) ?_
  refine s_icmp_ge (tgt := 112) E dX10_ball_91 (by decide) (fun hh => absurd hh (by decide)) (fun _ => ?_)
  refine s_aload_n E dX10_ball_94 rfl rfl ?_
  refine s_gR (r := 96) E fg_X10_9 rfl rfl (by decide +kernel) (by decide +kernel) dX10_ball_95 ?_
  refine s_iload_n E dX10_ball_98 rfl rfl ?_
  refine s_aload_n E dX10_ball_99 rfl rfl ?_
  refine s_gR (r := 101) E fg_X10_31 rfl rfl (by decide +kernel) (by decide +kernel) dX10_ball_100 ?_
  refine s_iload_n E dX10_ball_103 rfl rfl ?_
  refine s_iald E rfl (by decide +kernel) (vp_c (by decide)) dX10_ball_104 ?_
  refine s_top (y := 0) (by decide +kernel) ?_
  refine s_iast E rfl (by decide +kernel) (vp_c (by decide)) dX10_ball_105 ?_
  refine s_world (w2 := wb_376) rfl ?_
  refine s_iinc (v := 19) (L2 := [some (AR 95), some (AI 19)]) E dX10_ball_106 rfl (by decide) (by decide) rfl ?_
  refine s_goto (tgt := 87) E dX10_ball_109 (by decide) ?_
  refine s_iload_n E dX10_ball_87 rfl rfl ?_
  refine s_sipush (v := 134) E dX10_ball_88 (by decide) ?_
  refine s_icmp_ge (tgt := 112) E dX10_ball_91 (by decide) (fun hh => absurd hh (by decide)) (fun _ => ?_)
  refine s_aload_n E dX10_ball_94 rfl rfl ?_
  refine s_gR (r := 96) E fg_X10_9 rfl rfl (by decide +kernel) (by decide +kernel) dX10_ball_95 ?_
  refine s_iload_n E dX10_ball_98 rfl rfl ?_
  refine s_aload_n E dX10_ball_99 rfl rfl ?_
  refine s_gR (r := 101) E fg_X10_31 rfl rfl (by decide +kernel) (by decide +kernel) dX10_ball_100 ?_
  refine s_iload_n E dX10_ball_103 rfl rfl ?_
  refine s_iald E rfl (by decide +kernel) (vp_c (by decide)) dX10_ball_104 ?_
  refine s_top (y := 0) (by decide +kernel) ?_
  refine s_iast E rfl (by decide +kernel) (vp_c (by decide)) dX10_ball_105 ?_
  refine s_world (w2 := wb_377) rfl ?_
  refine s_iinc (v := 20) (L2 := [some (AR 95), some (AI 20)]) E dX10_ball_106 rfl (by decide) (by decide) rfl ?_
  refine s_goto (tgt := 87) E dX10_ball_109 (by decide) ?_
  refine s_iload_n E dX10_ball_87 rfl rfl ?_
  refine s_sipush (v := 134) E dX10_ball_88 (by decide) ?_
  refine s_icmp_ge (tgt := 112) E dX10_ball_91 (by decide) (fun hh => absurd hh (by decide)) (fun _ => ?_)
  refine s_aload_n E dX10_ball_94 rfl rfl ?_
  refine s_gR (r := 96) E fg_X10_9 rfl rfl (by decide +kernel) (by decide +kernel) dX10_ball_95 ?_
  refine s_iload_n E dX10_ball_98 rfl rfl ?_
  refine s_aload_n E dX10_ball_99 rfl rfl ?_
  refine s_gR (r := 101) E fg_X10_31 rfl rfl (by decide +kernel) (by decide +kernel) dX10_ball_100 ?_
  refine s_iload_n E dX10_ball_103 rfl rfl ?_
  refine s_iald E rfl (by decide +kernel) (vp_c (by decide)) dX10_ball_104 ?_
  refine s_top (y := 0) (by decide +kernel) ?_
  refine s_iast E rfl (by decide +kernel) (vp_c (by decide)) dX10_ball_105 ?_
  refine s_world (w2 := wb_378) rfl ?_
  refine s_iinc (v := 21) (L2 := [some (AR 95), some (AI 21)]) E dX10_ball_106 rfl (by decide) (by decide) rfl ?_
  refine s_goto (tgt := 87) E dX10_ball_109 (by decide) ?_
  refine s_iload_n E dX10_ball_87 rfl rfl ?_
  refine s_sipush (v := 134) E dX10_ball_88 (by decide) ?_
  refine s_icmp_ge (tgt := 112) E dX10_ball_91 (by decide) (fun hh => absurd hh (by decide)) (fun _ => ?_)
  refine s_aload_n E dX10_ball_94 rfl rfl ?_
  refine s_gR (r := 96) E fg_X10_9 rfl rfl (by decide +kernel) (by decide +kernel) dX10_ball_95 ?_
  refine s_iload_n E dX10_ball_98 rfl rfl ?_
  refine s_aload_n E dX10_ball_99 rfl rfl ?_
  refine s_gR (r := 101) E fg_X10_31 rfl rfl (by decide +kernel) (by decide +kernel) dX10_ball_100 ?_
  refine s_iload_n E dX10_ball_103 rfl rfl ?_
  refine s_iald E rfl (by decide +kernel) (vp_c (by decide)) dX10_ball_104 ?_
  refine s_top (y := 0) (by decide +kernel) ?_
  refine s_iast E rfl (by decide +kernel) (vp_c (by decide)) dX10_ball_105 ?_
  refine s_world (w2 := wb_379) rfl ?_
  refine s_iinc (v := 22) (L2 := [some (AR 95), some (AI 22)]) E dX10_ball_106 rfl (by decide) (by decide) rfl ?_
  refine s_goto (tgt := 87) E dX10_ball_109 (by decide) ?_
  refine s_iload_n E dX10_ball_87 rfl rfl ?_
  refine s_sipush (v := 134) E dX10_ball_88 (by decide) ?_
  refine s_icmp_ge (tgt := 112) E dX10_ball_91 (by decide) (fun hh => absurd hh (by decide)) (fun _ => ?_)
  refine s_aload_n E dX10_ball_94 rfl rfl ?_
  refine s_gR (r := 96) E fg_X10_9 rfl rfl (by decide +kernel) (by decide +kernel) dX10_ball_95 ?_
  refine s_iload_n E dX10_ball_98 rfl rfl ?_
  refine s_aload_n E dX10_ball_99 rfl rfl ?_
  refine s_gR (r := 101) E fg_X10_31 rfl rfl (by decide +kernel) (by decide +kernel) dX10_ball_100 ?_
  refine s_iload_n E dX10_ball_103 rfl rfl ?_
  refine s_iald E rfl (by decide +kernel) (vp_c (by decide)) dX10_ball_104 ?_
  refine s_top (y := 0) (by decide +kernel) ?_
  refine s_iast E rfl (by decide +kernel) (vp_c (by decide)) dX10_ball_105 ?_
  refine s_world (w2 := wb_380) rfl ?_
  refine s_iinc (v := 23) (L2 := [some (AR 95), some (AI 23)]) E dX10_ball_106 rfl (by decide) (by decide) rfl ?_
  refine s_goto (tgt := 87) E dX10_ball_109 (by decide) ?_
  refine s_iload_n E dX10_ball_87 rfl rfl ?_
  refine s_sipush (v := 134) E dX10_ball_88 (by decide) ?_
  refine s_icmp_ge (tgt := 112) E dX10_ball_91 (by decide) (fun hh => absurd hh (by decide)) (fun _ => ?_)
  refine s_aload_n E dX10_ball_94 rfl rfl ?_
  refine s_gR (r := 96) E fg_X10_9 rfl rfl (by decide +kernel) (by decide +kernel) dX10_ball_95 ?_
  refine s_iload_n E dX10_ball_98 rfl rfl ?_
  refine s_aload_n E dX10_ball_99 rfl rfl ?_
  refine s_gR (r := 101) E fg_X10_31 rfl rfl (by decide +kernel) (by decide +kernel) dX10_ball_100 ?_
  refine s_iload_n E dX10_ball_103 rfl rfl ?_
  refine s_iald E rfl (by decide +kernel) (vp_c (by decide)) dX10_ball_104 ?_
  refine s_top (y := 0) (by decide +kernel) ?_
  refine s_iast E rfl (by decide +kernel) (vp_c (by decide)) dX10_ball_105 ?_
  refine s_world (w2 := wb_381) rfl ?_
  refine s_iinc (v := 24) (L2 := [some (AR 95), some (AI 24)]) E dX10_ball_106 rfl (by decide) (by decide) rfl ?_
  refine s_goto (tgt := 87) E dX10_ball_109 (by decide) ?_
  refine s_iload_n E dX10_ball_87 rfl rfl ?_
  refine s_sipush (v := 134) E dX10_ball_88 (by decide) ?_
  refine s_icmp_ge (tgt := 112) E dX10_ball_91 (by decide) (fun hh => absurd hh (by decide)) (fun _ => ?_)
  refine s_aload_n E dX10_ball_94 rfl rfl ?_
  refine s_gR (r := 96) E fg_X10_9 rfl rfl (by decide +kernel) (by decide +kernel) dX10_ball_95 ?_
  refine s_iload_n E dX10_ball_98 rfl rfl ?_
  refine s_aload_n E dX10_ball_99 rfl rfl ?_
  refine s_gR (r := 101) E fg_X10_31 rfl rfl (by decide +kernel) (by decide +kernel) dX10_ball_100 ?_
  refine s_iload_n E dX10_ball_103 rfl rfl ?_
  refine s_iald E rfl (by decide +kernel) (vp_c (by decide)) dX10_ball_104 ?_
  refine s_top (y := 0) (by decide +kernel) ?_
  refine s_iast E rfl (by decide +kernel) (vp_c (by decide)) dX10_ball_105 ?_
  refine s_world (w2 := wb_382) rfl ?_
  refine s_iinc (v := 25) (L2 := [some (AR 95), some (AI 25)]) E dX10_ball_106 rfl (by decide) (by decide) rfl ?_
  refine s_goto (tgt := 87) E dX10_ball_109 (by decide) ?_
  refine s_iload_n E dX10_ball_87 rfl rfl ?_
  refine s_sipush (v := 134) E dX10_ball_88 (by decide) ?_
  refine s_icmp_ge (tgt := 112) E dX10_ball_91 (by decide) (fun hh => absurd hh (by decide)) (fun _ => ?_)
  refine s_aload_n E dX10_ball_94 rfl rfl ?_
  refine s_gR (r := 96) E fg_X10_9 rfl rfl (by decide +kernel) (by decide +kernel) dX10_ball_95 ?_
  refine s_iload_n E dX10_ball_98 rfl rfl ?_
  refine s_aload_n E dX10_ball_99 rfl rfl ?_
  refine s_gR (r := 101) E fg_X10_31 rfl rfl (by decide +kernel) (by decide +kernel) dX10_ball_100 ?_
  refine s_iload_n E dX10_ball_103 rfl rfl ?_
  refine s_iald E rfl (by decide +kernel) (vp_c (by decide)) dX10_ball_104 ?_
  refine s_top (y := 0) (by decide +kernel) ?_
  refine s_iast E rfl (by decide +kernel) (vp_c (by decide)) dX10_ball_105 ?_
  refine s_world (w2 := wb_383) rfl ?_
  refine s_iinc (v := 26) (L2 := [some (AR 95), some (AI 26)]) E dX10_ball_106 rfl (by decide) (by decide) rfl ?_
  refine s_goto (tgt := 87) E dX10_ball_109 (by decide) ?_
  refine s_iload_n E dX10_ball_87 rfl rfl ?_
  refine s_sipush (v := 134) E dX10_ball_88 (by decide) ?_
  refine s_icmp_ge (tgt := 112) E dX10_ball_91 (by decide) (fun hh => absurd hh (by decide)) (fun _ => ?_)
  refine s_aload_n E dX10_ball_94 rfl rfl ?_
  refine s_gR (r := 96) E fg_X10_9 rfl rfl (by decide +kernel) (by decide +kernel) dX10_ball_95 ?_
  refine s_iload_n E dX10_ball_98 rfl rfl ?_
  refine s_aload_n E dX10_ball_99 rfl rfl ?_
  refine s_gR (r := 101) E fg_X10_31 rfl rfl (by decide +kernel) (by decide +kernel) dX10_ball_100 ?_
  refine s_iload_n E dX10_ball_103 rfl rfl ?_
  refine s_iald E rfl (by decide +kernel) (vp_c (by decide)) dX10_ball_104 ?_
  refine s_top (y := 0) (by decide +kernel) ?_
  refine s_iast E rfl (by decide +kernel) (vp_c (by decide)) dX10_ball_105 ?_
  refine s_world (w2 := wb_384) rfl ?_
  refine s_iinc (v := 27) (L2 := [some (AR 95), some (AI 27)]) E dX10_ball_106 rfl (by decide) (by decide) rfl ?_
  refine s_goto (tgt := 87) E dX10_ball_109 (by decide) ?_
  refine s_iload_n E dX10_ball_87 rfl rfl ?_
  refine s_sipush (v := 134) E dX10_ball_88 (by decide) ?_
  refine s_icmp_ge (tgt := 112) E dX10_ball_91 (by decide) (fun hh => absurd hh (by decide)) (fun _ => ?_)
  refine s_aload_n E dX10_ball_94 rfl rfl ?_
  refine s_gR (r := 96) E fg_X10_9 rfl rfl (by decide +kernel) (by decide +kernel) dX10_ball_95 ?_
  refine s_iload_n E dX10_ball_98 rfl rfl ?_
  refine s_aload_n E dX10_ball_99 rfl rfl ?_
  refine s_gR (r := 101) E fg_X10_31 rfl rfl (by decide +kernel) (by decide +kernel) dX10_ball_100 ?_
  refine s_iload_n E dX10_ball_103 rfl rfl ?_
  refine s_iald E rfl (by decide +kernel) (vp_c (by decide)) dX10_ball_104 ?_
  refine s_top (y := 0) (by decide +kernel) ?_
  refine s_iast E rfl (by decide +kernel) (vp_c (by decide)) dX10_ball_105 ?_
  refine s_world (w2 := wb_385) rfl ?_
  refine s_iinc (v := 28) (L2 := [some (AR 95), some (AI 28)]) E dX10_ball_106 rfl (by decide) (by decide) rfl ?_
  refine s_goto (tgt := 87) E dX10_ball_109 (by decide) ?_
  refine s_iload_n E dX10_ball_87 rfl rfl ?_
  refine s_sipush (v := 134) E dX10_ball_88 (by decide) ?_
  refine s_icmp_ge (tgt := 112) E dX10_ball_91 (by decide) (fun hh => absurd hh (by decide)) (fun _ => ?_)
  refine s_aload_n E dX10_ball_94 rfl rfl ?_
  refine s_gR (r := 96) E fg_X10_9 rfl rfl (by decide +kernel) (by decide +kernel) dX10_ball_95 ?_
  refine s_iload_n E dX10_ball_98 rfl rfl ?_
  refine s_aload_n E dX10_ball_99 rfl rfl ?_
  refine s_gR (r := 101) E fg_X10_31 rfl rfl (by decide +kernel) (by decide +kernel) dX10_ball_100 ?_
  refine s_iload_n E dX10_ball_103 rfl rfl ?_
  refine s_iald E rfl (by decide +kernel) (vp_c (by decide)) dX10_ball_104 ?_
  refine s_top (y := 0) (by decide +kernel) ?_
  refine s_iast E rfl (by decide +kernel) (vp_c (by decide)) dX10_ball_105 ?_
  refine s_world (w2 := wb_386) rfl ?_
  refine s_iinc (v := 29) (L2 := [some (AR 95), some (AI 29)]) E dX10_ball_106 rfl (by decide) (by decide) rfl ?_
  refine s_goto (tgt := 87) E dX10_ball_109 (by decide) ?_
  refine s_iload_n E dX10_ball_87 rfl rfl ?_
  refine s_sipush (v := 134) E dX10_ball_88 (by decide) ?_
  refine s_icmp_ge (tgt := 112) E dX10_ball_91 (by decide) (fun hh => absurd hh (by decide)) (fun _ => ?_)
  refine s_aload_n E dX10_ball_94 rfl rfl ?_
  refine s_gR (r := 96) E fg_X10_9 rfl rfl (by decide +kernel) (by decide +kernel) dX10_ball_95 ?_
  refine s_iload_n E dX10_ball_98 rfl rfl ?_
  refine s_aload_n E dX10_ball_99 rfl rfl ?_
  refine s_gR (r := 101) E fg_X10_31 rfl rfl (by decide +kernel) (by decide +kernel) dX10_ball_100 ?_
  refine s_iload_n E dX10_ball_103 rfl rfl ?_
  refine s_iald E rfl (by decide +kernel) (vp_c (by decide)) dX10_ball_104 ?_
  refine s_top (y := 0) (by decide +kernel) ?_
  refine s_iast E rfl (by decide +kernel) (vp_c (by decide)) dX10_ball_105 ?_
  refine s_world (w2 := wb_387) rfl ?_
  refine s_iinc (v := 30) (L2 := [some (AR 95), some (AI 30)]) E dX10_ball_106 rfl (by decide) (by decide) rfl ?_
  refine s_goto (tgt := 87) E dX10_ball_109 (by decide) ?_
  refine s_iload_n E dX10_ball_87 rfl rfl ?_
  refine s_sipush (v := 134) E dX10_ball_88 (by decide) ?_
  refine s_icmp_ge (tgt := 112) E dX10_ball_91 (by decide) (fun hh => absurd hh (by decide)) (fun _ => ?_)
  refine s_aload_n E dX10_ball_94 rfl rfl ?_
  refine s_gR (r := 96) E fg_X10_9 rfl rfl (by decide +kernel) (by decide +kernel) dX10_ball_95 ?_
  refine s_iload_n E dX10_ball_98 rfl rfl ?_
  refine s_aload_n E dX10_ball_99 rfl rfl ?_
  refine s_gR (r := 101) E fg_X10_31 rfl rfl (by decide +kernel) (by decide +kernel) dX10_ball_100 ?_
  refine s_iload_n E dX10_ball_103 rfl rfl ?_
  refine s_iald E rfl (by decide +kernel) (vp_c (by decide)) dX10_ball_104 ?_
  refine s_top (y := 0) (by decide +kernel) ?_
  refine s_iast E rfl (by decide +kernel) (vp_c (by decide)) dX10_ball_105 ?_
  refine s_world (w2 := wb_388) rfl ?_
  refine s_iinc (v := 31) (L2 := [some (AR 95), some (AI 31)]) E dX10_ball_106 rfl (by decide) (by decide) rfl ?_
  refine s_goto (tgt := 87) E dX10_ball_109 (by decide) ?_
  refine s_iload_n E dX10_ball_87 rfl rfl ?_
  refine s_sipush (v := 134) E dX10_ball_88 (by decide) ?_
  refine s_icmp_ge (tgt := 112) E dX10_ball_91 (by decide) (fun hh => absurd hh (by decide)) (fun _ => ?_)
  refine s_aload_n E dX10_ball_94 rfl rfl ?_
  refine s_gR (r := 96) E fg_X10_9 rfl rfl (by decide +kernel) (by decide +kernel) dX10_ball_95 ?_
  refine s_iload_n E dX10_ball_98 rfl rfl ?_
  refine s_aload_n E dX10_ball_99 rfl rfl ?_
  refine s_gR (r := 101) E fg_X10_31 rfl rfl (by decide +kernel) (by decide +kernel) dX10_ball_100 ?_
  refine s_iload_n E dX10_ball_103 rfl rfl ?_
  refine s_iald E rfl (by decide +kernel) (vp_c (by decide)) dX10_ball_104 ?_
  refine s_top (y := 0) (by decide +kernel) ?_
  refine s_iast E rfl (by decide +kernel) (vp_c (by decide)) dX10_ball_105 ?_
  refine s_world (w2 := wb_389) rfl ?_
  refine s_iinc (v := 32) (L2 := [some (AR 95), some (AI 32)]) E dX10_ball_106 rfl (by decide) (by decide) rfl ?_
  refine s_goto (tgt := 87) E dX10_ball_109 (by decide) ?_
  refine s_iload_n E dX10_ball_87 rfl rfl ?_
  refine s_sipush (v := 134) E dX10_ball_88 (by decide) ?_
  refine s_icmp_ge (tgt := 112) E dX10_ball_91 (by decide) (fun hh => absurd hh (by decide)) (fun _ => ?_)
  refine s_aload_n E dX10_ball_94 rfl rfl ?_
  refine s_gR (r := 96) E fg_X10_9 rfl rfl (by decide +kernel) (by decide +kernel) dX10_ball_95 ?_
  refine s_iload_n E dX10_ball_98 rfl rfl ?_
  refine s_aload_n E dX10_ball_99 rfl rfl ?_
  refine s_gR (r := 101) E fg_X10_31 rfl rfl (by decide +kernel) (by decide +kernel) dX10_ball_100 ?_
  refine s_iload_n E dX10_ball_103 rfl rfl ?_
  refine s_iald E rfl (by decide +kernel) (vp_c (by decide)) dX10_ball_104 ?_
  refine s_top (y := 0) (by decide +kernel) ?_
  refine s_iast E rfl (by decide +kernel) (vp_c (by decide)) dX10_ball_105 ?_
  refine s_world (w2 := wb_390) rfl ?_
  refine s_iinc (v := 33) (L2 := [some (AR 95), some (AI 33)]) E dX10_ball_106 rfl (by decide) (by decide) rfl ?_
  refine s_goto (tgt := 87) E dX10_ball_109 (by decide) ?_
  refine s_iload_n E dX10_ball_87 rfl rfl ?_
  refine s_sipush (v := 134) E dX10_ball_88 (by decide) ?_
  refine s_icmp_ge (tgt := 112) E dX10_ball_91 (by decide) (fun hh => absurd hh (by decide)) (fun _ => ?_)
  refine s_aload_n E dX10_ball_94 rfl rfl ?_
  refine s_gR (r := 96) E fg_X10_9 rfl rfl (by decide +kernel) (by decide +kernel) dX10_ball_95 ?_
  refine s_iload_n E dX10_ball_98 rfl rfl ?_
  refine s_aload_n E dX10_ball_99 rfl rfl ?_
  refine s_gR (r := 101) E fg_X10_31 rfl rfl (by decide +kernel) (by decide +kernel) dX10_ball_100 ?_
  refine s_iload_n E dX10_ball_103 rfl rfl ?_
  refine s_iald E rfl (by decide +kernel) (vp_c (by decide)) dX10_ball_104 ?_
  refine s_top (y := 0) (by decide +kernel) ?_
  refine s_iast E rfl (by decide +kernel) (vp_c (by decide)) dX10_ball_105 ?_
  refine s_world (w2 := wb_391) rfl ?_
  refine s_iinc (v := 34) (L2 := [some (AR 95), some (AI 34)]) E dX10_ball_106 rfl (by decide) (by decide) rfl ?_
  refine s_goto (tgt := 87) E dX10_ball_109 (by decide) ?_
  refine s_iload_n E dX10_ball_87 rfl rfl ?_
  refine s_sipush (v := 134) E dX10_ball_88 (by decide) ?_
  refine s_icmp_ge (tgt := 112) E dX10_ball_91 (by decide) (fun hh => absurd hh (by decide)) (fun _ => ?_)
  refine s_aload_n E dX10_ball_94 rfl rfl ?_
  refine s_gR (r := 96) E fg_X10_9 rfl rfl (by decide +kernel) (by decide +kernel) dX10_ball_95 ?_
  refine s_iload_n E dX10_ball_98 rfl rfl ?_
  refine s_aload_n E dX10_ball_99 rfl rfl ?_
  refine s_gR (r := 101) E fg_X10_31 rfl rfl (by decide +kernel) (by decide +kernel) dX10_ball_100 ?_
  refine s_iload_n E dX10_ball_103 rfl rfl ?_
  refine s_iald E rfl (by decide +kernel) (vp_c (by decide)) dX10_ball_104 ?_
  refine s_top (y := 0) (by decide +kernel) ?_
  refine s_iast E rfl (by decide +kernel) (vp_c (by decide)) dX10_ball_105 ?_
  refine s_world (w2 := wb_392) rfl ?_
  refine s_iinc (v := 35) (L2 := [some (AR 95), some (AI 35)]) E dX10_ball_106 rfl (by decide) (by decide) rfl ?_
  refine s_goto (tgt := 87) E dX10_ball_109 (by decide) ?_
  refine s_iload_n E dX10_ball_87 rfl rfl ?_
  refine s_sipush (v := 134) E dX10_ball_88 (by decide) ?_
  refine s_icmp_ge (tgt := 112) E dX10_ball_91 (by decide) (fun hh => absurd hh (by decide)) (fun _ => ?_)
  refine s_aload_n E dX10_ball_94 rfl rfl ?_
  refine s_gR (r := 96) E fg_X10_9 rfl rfl (by decide +kernel) (by decide +kernel) dX10_ball_95 ?_
  refine s_iload_n E dX10_ball_98 rfl rfl ?_
  refine s_aload_n E dX10_ball_99 rfl rfl ?_
  refine s_gR (r := 101) E fg_X10_31 rfl rfl (by decide +kernel) (by decide +kernel) dX10_ball_100 ?_
  refine s_iload_n E dX10_ball_103 rfl rfl ?_
  refine s_iald E rfl (by decide +kernel) (vp_c (by decide)) dX10_ball_104 ?_
  refine s_top (y := 0) (by decide +kernel) ?_
  refine s_iast E rfl (by decide +kernel) (vp_c (by decide)) dX10_ball_105 ?_
  refine s_world (w2 := wb_393) rfl ?_
  refine s_iinc (v := 36) (L2 := [some (AR 95), some (AI 36)]) E dX10_ball_106 rfl (by decide) (by decide) rfl ?_
  refine s_goto (tgt := 87) E dX10_ball_109 (by decide) ?_
  refine s_iload_n E dX10_ball_87 rfl rfl ?_
  refine s_sipush (v := 134) E dX10_ball_88 (by decide) ?_
  refine s_icmp_ge (tgt := 112) E dX10_ball_91 (by decide) (fun hh => absurd hh (by decide)) (fun _ => ?_)
  refine s_aload_n E dX10_ball_94 rfl rfl ?_
  refine s_gR (r := 96) E fg_X10_9 rfl rfl (by decide +kernel) (by decide +kernel) dX10_ball_95 ?_
  refine s_iload_n E dX10_ball_98 rfl rfl ?_
  refine s_aload_n E dX10_ball_99 rfl rfl ?_
  refine s_gR (r := 101) E fg_X10_31 rfl rfl (by decide +kernel) (by decide +kernel) dX10_ball_100 ?_
  refine s_iload_n E dX10_ball_103 rfl rfl ?_
  refine s_iald E rfl (by decide +kernel) (vp_c (by decide)) dX10_ball_104 ?_
  refine s_top (y := 0) (by decide +kernel) ?_
  refine s_iast E rfl (by decide +kernel) (vp_c (by decide)) dX10_ball_105 ?_
  refine s_world (w2 := wb_394) rfl ?_
  refine s_iinc (v := 37) (L2 := [some (AR 95), some (AI 37)]) E dX10_ball_106 rfl (by decide) (by decide) rfl ?_
  refine s_goto (tgt := 87) E dX10_ball_109 (by decide) ?_
  refine s_iload_n E dX10_ball_87 rfl rfl ?_
  refine s_sipush (v := 134) E dX10_ball_88 (by decide) ?_
  refine s_icmp_ge (tgt := 112) E dX10_ball_91 (by decide) (fun hh => absurd hh (by decide)) (fun _ => ?_)
  refine s_aload_n E dX10_ball_94 rfl rfl ?_
  refine s_gR (r := 96) E fg_X10_9 rfl rfl (by decide +kernel) (by decide +kernel) dX10_ball_95 ?_
  refine s_iload_n E dX10_ball_98 rfl rfl ?_
  refine s_aload_n E dX10_ball_99 rfl rfl ?_
  refine s_gR (r := 101) E fg_X10_31 rfl rfl (by decide +kernel) (by decide +kernel) dX10_ball_100 ?_
  refine s_iload_n E dX10_ball_103 rfl rfl ?_
  refine s_iald E rfl (by decide +kernel) (vp_c (by decide)) dX10_ball_104 ?_
  refine s_top (y := 0) (by decide +kernel) ?_
  refine s_iast E rfl (by decide +kernel) (vp_c (by decide)) dX10_ball_105 ?_
  refine s_world (w2 := wb_395) rfl ?_
  refine s_iinc (v := 38) (L2 := [some (AR 95), some (AI 38)]) E dX10_ball_106 rfl (by decide) (by decide) rfl ?_
  refine s_goto (tgt := 87) E dX10_ball_109 (by decide) ?_
  refine s_iload_n E dX10_ball_87 rfl rfl ?_
  refine s_sipush (v := 134) E dX10_ball_88 (by decide) ?_
  refine s_icmp_ge (tgt := 112) E dX10_ball_91 (by decide) (fun hh => absurd hh (by decide)) (fun _ => ?_)
  refine s_aload_n E dX10_ball_94 rfl rfl ?_
  refine s_gR (r := 96) E fg_X10_9 rfl rfl (by decide +kernel) (by decide +kernel) dX10_ball_95 ?_
  refine s_iload_n E dX10_ball_98 rfl rfl ?_
  refine s_aload_n E dX10_ball_99 rfl rfl ?_
  refine s_gR (r := 101) E fg_X10_31 rfl rfl (by decide +kernel) (by decide +kernel) dX10_ball_100 ?_
  refine s_iload_n E dX10_ball_103 rfl rfl ?_
  refine s_iald E rfl (by decide +kernel) (vp_c (by decide)) dX10_ball_104 ?_
  refine s_top (y := 0) (by decide +kernel) ?_
  refine s_iast E rfl (by decide +kernel) (vp_c (by decide)) dX10_ball_105 ?_
  refine s_world (w2 := wb_396) rfl ?_
  refine s_iinc (v := 39) (L2 := [some (AR 95), some (AI 39)]) E dX10_ball_106 rfl (by decide) (by decide) rfl ?_
  refine s_goto (tgt := 87) E dX10_ball_109 (by decide) ?_
  refine s_iload_n E dX10_ball_87 rfl rfl ?_
  refine s_sipush (v := 134) E dX10_ball_88 (by decide) ?_
  refine s_icmp_ge (tgt := 112) E dX10_ball_91 (by decide) (fun hh => absurd hh (by decide)) (fun _ => ?_)
  refine s_aload_n E dX10_ball_94 rfl rfl ?_
  refine s_gR (r := 96) E fg_X10_9 rfl rfl (by decide +kernel) (by decide +kernel) dX10_ball_95 ?_
  refine s_iload_n E dX10_ball_98 rfl rfl ?_
  refine s_aload_n E dX10_ball_99 rfl rfl ?_
  refine s_gR (r := 101) E fg_X10_31 rfl rfl (by decide +kernel) (by decide +kernel) dX10_ball_100 ?_
  refine s_iload_n E dX10_ball_103 rfl rfl ?_
  refine s_iald E rfl (by decide +kernel) (vp_c (by decide)) dX10_ball_104 ?_
  refine s_top (y := 0) (by decide +kernel) ?_
  refine s_iast E rfl (by decide +kernel) (vp_c (by decide)) dX10_ball_105 ?_
  refine s_world (w2 := wb_397) rfl ?_
  refine s_iinc (v := 40) (L2 := [some (AR 95), some (AI 40)]) E dX10_ball_106 rfl (by decide) (by decide) rfl ?_
  refine s_goto (tgt := 87) E dX10_ball_109 (by decide) ?_
  refine s_iload_n E dX10_ball_87 rfl rfl ?_
  refine s_sipush (v := 134) E dX10_ball_88 (by decide) ?_
  refine s_icmp_ge (tgt := 112) E dX10_ball_91 (by decide) (fun hh => absurd hh (by decide)) (fun _ => ?_)
  refine s_aload_n E dX10_ball_94 rfl rfl ?_
  refine s_gR (r := 96) E fg_X10_9 rfl rfl (by decide +kernel) (by decide +kernel) dX10_ball_95 ?_
  refine s_iload_n E dX10_ball_98 rfl rfl ?_
  refine s_aload_n E dX10_ball_99 rfl rfl ?_
  refine s_gR (r := 101) E fg_X10_31 rfl rfl (by decide +kernel) (by decide +kernel) dX10_ball_100 ?_
  refine s_iload_n E dX10_ball_103 rfl rfl ?_
  refine s_iald E rfl (by decide +kernel) (vp_c (by decide)) dX10_ball_104 ?_
  refine s_top (y := 0) (by decide +kernel) ?_
  refine s_iast E rfl (by decide +kernel) (vp_c (by decide)) dX10_ball_105 ?_
  refine s_world (w2 := wb_398) rfl ?_
  refine s_iinc (v := 41) (L2 := [some (AR 95), some (AI 41)]) E dX10_ball_106 rfl (by decide) (by decide) rfl ?_
  refine s_goto (tgt := 87) E dX10_ball_109 (by decide) ?_
  refine s_iload_n E dX10_ball_87 rfl rfl ?_
  refine s_sipush (v := 134) E dX10_ball_88 (by decide) ?_
  refine s_icmp_ge (tgt := 112) E dX10_ball_91 (by decide) (fun hh => absurd hh (by decide)) (fun _ => ?_)
  refine s_aload_n E dX10_ball_94 rfl rfl ?_
  refine s_gR (r := 96) E fg_X10_9 rfl rfl (by decide +kernel) (by decide +kernel) dX10_ball_95 ?_
  refine s_iload_n E dX10_ball_98 rfl rfl ?_
  refine s_aload_n E dX10_ball_99 rfl rfl ?_
  refine s_gR (r := 101) E fg_X10_31 rfl rfl (by decide +kernel) (by decide +kernel) dX10_ball_100 ?_
  refine s_iload_n E dX10_ball_103 rfl rfl ?_
  refine s_iald E rfl (by decide +kernel) (vp_c (by decide)) dX10_ball_104 ?_
  refine s_top (y := 0) (by decide +kernel) ?_
  refine s_iast E rfl (by decide +kernel) (vp_c (by decide)) dX10_ball_105 ?_
  refine s_world (w2 := wb_399) rfl ?_
  refine s_iinc (v := 42) (L2 := [some (AR 95), some (AI 42)]) E dX10_ball_106 rfl (by decide) (by decide) rfl ?_
  refine s_goto (tgt := 87) E dX10_ball_109 (by decide) ?_
  refine s_iload_n E dX10_ball_87 rfl rfl ?_
  refine s_sipush (v := 134) E dX10_ball_88 (by decide) ?_
  refine s_icmp_ge (tgt := 112) E dX10_ball_91 (by decide) (fun hh => absurd hh (by decide)) (fun _ => ?_)
  refine s_aload_n E dX10_ball_94 rfl rfl ?_
  refine s_gR (r := 96) E fg_X10_9 rfl rfl (by decide +kernel) (by decide +kernel) dX10_ball_95 ?_
  refine s_iload_n E dX10_ball_98 rfl rfl ?_
  refine s_aload_n E dX10_ball_99 rfl rfl ?_
  refine s_gR (r := 101) E fg_X10_31 rfl rfl (by decide +kernel) (by decide +kernel) dX10_ball_100 ?_
  refine s_iload_n E dX10_ball_103 rfl rfl ?_
  refine s_iald E rfl (by decide +kernel) (vp_c (by decide)) dX10_ball_104 ?_
  refine s_top (y := 0) (by decide +kernel) ?_
  refine s_iast E rfl (by decide +kernel) (vp_c (by decide)) dX10_ball_105 ?_
  refine s_world (w2 := wb_400) rfl ?_
  refine s_iinc (v := 43) (L2 := [some (AR 95), some (AI 43)]) E dX10_ball_106 rfl (by decide) (by decide) rfl ?_
  refine s_goto (tgt := 87) E dX10_ball_109 (by decide) ?_
  refine s_iload_n E dX10_ball_87 rfl rfl ?_
  refine s_sipush (v := 134) E dX10_ball_88 (by decide) ?_
  refine s_icmp_ge (tgt := 112) E dX10_ball_91 (by decide) (fun hh => absurd hh (by decide)) (fun _ => ?_)
  refine s_aload_n E dX10_ball_94 rfl rfl ?_
  refine s_gR (r := 96) E fg_X10_9 rfl rfl (by decide +kernel) (by decide +kernel) dX10_ball_95 ?_
  refine s_iload_n E dX10_ball_98 rfl rfl ?_
  refine s_aload_n E dX10_ball_99 rfl rfl ?_
  refine s_gR (r := 101) E fg_X10_31 rfl rfl (by decide +kernel) (by decide +kernel) dX10_ball_100 ?_
  refine s_iload_n E dX10_ball_103 rfl rfl ?_
  refine s_iald E rfl (by decide +kernel) (vp_c (by decide)) dX10_ball_104 ?_
  refine s_top (y := 0) (by decide +kernel) ?_
  refine s_iast E rfl (by decide +kernel) (vp_c (by decide)) dX10_ball_105 ?_
  refine s_world (w2 := wb_401) rfl ?_
  refine s_iinc (v := 44) (L2 := [some (AR 95), some (AI 44)]) E dX10_ball_106 rfl (by decide) (by decide) rfl ?_
  refine s_goto (tgt := 87) E dX10_ball_109 (by decide) ?_
  refine s_iload_n E dX10_ball_87 rfl rfl ?_
  refine s_sipush (v := 134) E dX10_ball_88 (by decide) ?_
  refine s_icmp_ge (tgt := 112) E dX10_ball_91 (by decide) (fun hh => absurd hh (by decide)) (fun _ => ?_)
  refine s_aload_n E dX10_ball_94 rfl rfl ?_
  refine s_gR (r := 96) E fg_X10_9 rfl rfl (by decide +kernel) (by decide +kernel) dX10_ball_95 ?_
  refine s_iload_n E dX10_ball_98 rfl rfl ?_
  refine s_aload_n E dX10_ball_99 rfl rfl ?_
  refine s_gR (r := 101) E fg_X10_31 rfl rfl (by decide +kernel) (by decide +kernel) dX10_ball_100 ?_
  refine s_iload_n E dX10_ball_103 rfl rfl ?_
  refine s_iald E rfl (by decide +kernel) (vp_c (by decide)) dX10_ball_104 ?_
  refine s_top (y := 0) (by decide +kernel) ?_
  refine s_iast E rfl (by decide +kernel) (vp_c (by decide)) dX10_ball_105 ?_
  refine s_world (w2 := wb_402) rfl ?_
  refine s_iinc (v := 45) (L2 := [some (AR 95), some (AI 45)]) E dX10_ball_106 rfl (by decide) (by decide) rfl ?_
  refine s_goto (tgt := 87) E dX10_ball_109 (by decide) ?_
  refine s_iload_n E dX10_ball_87 rfl rfl ?_
  refine s_sipush (v := 134) E dX10_ball_88 (by decide) ?_
  refine s_icmp_ge (tgt := 112) E dX10_ball_91 (by decide) (fun hh => absurd hh (by decide)) (fun _ => ?_)
  refine s_aload_n E dX10_ball_94 rfl rfl ?_
  refine s_gR (r := 96) E fg_X10_9 rfl rfl (by decide +kernel) (by decide +kernel) dX10_ball_95 ?_
  refine s_iload_n E dX10_ball_98 rfl rfl ?_
  refine s_aload_n E dX10_ball_99 rfl rfl ?_
  refine s_gR (r := 101) E fg_X10_31 rfl rfl (by decide +kernel) (by decide +kernel) dX10_ball_100 ?_
  refine s_iload_n E dX10_ball_103 rfl rfl ?_
  refine s_iald E rfl (by decide +kernel) (vp_c (by decide)) dX10_ball_104 ?_
  refine s_top (y := 0) (by decide +kernel) ?_
  refine s_iast E rfl (by decide +kernel) (vp_c (by decide)) dX10_ball_105 ?_
  refine s_world (w2 := wb_403) rfl ?_
  refine s_iinc (v := 46) (L2 := [some (AR 95), some (AI 46)]) E dX10_ball_106 rfl (by decide) (by decide) rfl ?_
  refine s_goto (tgt := 87) E dX10_ball_109 (by decide) ?_
  refine s_iload_n E dX10_ball_87 rfl rfl ?_
  refine s_sipush (v := 134) E dX10_ball_88 (by decide) ?_
  refine s_icmp_ge (tgt := 112) E dX10_ball_91 (by decide) (fun hh => absurd hh (by decide)) (fun _ => ?_)
  refine s_aload_n E dX10_ball_94 rfl rfl ?_
  refine s_gR (r := 96) E fg_X10_9 rfl rfl (by decide +kernel) (by decide +kernel) dX10_ball_95 ?_
  refine s_iload_n E dX10_ball_98 rfl rfl ?_
  refine s_aload_n E dX10_ball_99 rfl rfl ?_
  refine s_gR (r := 101) E fg_X10_31 rfl rfl (by decide +kernel) (by decide +kernel) dX10_ball_100 ?_
  refine s_iload_n E dX10_ball_103 rfl rfl ?_
  refine s_iald E rfl (by decide +kernel) (vp_c (by decide)) dX10_ball_104 ?_
  refine s_top (y := 0) (by decide +kernel) ?_
  refine s_iast E rfl (by decide +kernel) (vp_c (by decide)) dX10_ball_105 ?_
  refine s_world (w2 := wb_404) rfl ?_
  refine s_iinc (v := 47) (L2 := [some (AR 95), some (AI 47)]) E dX10_ball_106 rfl (by decide) (by decide) rfl ?_
  refine s_goto (tgt := 87) E dX10_ball_109 (by decide) ?_
  refine s_iload_n E dX10_ball_87 rfl rfl ?_
  refine s_sipush (v := 134) E dX10_ball_88 (by decide) ?_
  refine s_icmp_ge (tgt := 112) E dX10_ball_91 (by decide) (fun hh => absurd hh (by decide)) (fun _ => ?_)
  refine s_aload_n E dX10_ball_94 rfl rfl ?_
  refine s_gR (r := 96) E fg_X10_9 rfl rfl (by decide +kernel) (by decide +kernel) dX10_ball_95 ?_
  refine s_iload_n E dX10_ball_98 rfl rfl ?_
  refine s_aload_n E dX10_ball_99 rfl rfl ?_
  refine s_gR (r := 101) E fg_X10_31 rfl rfl (by decide +kernel) (by decide +kernel) dX10_ball_100 ?_
  refine s_iload_n E dX10_ball_103 rfl rfl ?_
  refine s_iald E rfl (by decide +kernel) (vp_c (by decide)) dX10_ball_104 ?_
  refine s_top (y := 0) (by decide +kernel) ?_
  refine s_iast E rfl (by decide +kernel) (vp_c (by decide)) dX10_ball_105 ?_
  refine s_world (w2 := wb_405) rfl ?_
  refine s_iinc (v := 48) (L2 := [some (AR 95), some (AI 48)]) E dX10_ball_106 rfl (by decide) (by decide) rfl ?_
  refine s_goto (tgt := 87) E dX10_ball_109 (by decide) ?_
  refine s_iload_n E dX10_ball_87 rfl rfl ?_
  refine s_sipush (v := 134) E dX10_ball_88 (by decide) ?_
  refine s_icmp_ge (tgt := 112) E dX10_ball_91 (by decide) (fun hh => absurd hh (by decide)) (fun _ => ?_)
  refine s_aload_n E dX10_ball_94 rfl rfl ?_
  refine s_gR (r := 96) E fg_X10_9 rfl rfl (by decide +kernel) (by decide +kernel) dX10_ball_95 ?_
  refine s_iload_n E dX10_ball_98 rfl rfl ?_
  refine s_aload_n E dX10_ball_99 rfl rfl ?_
  refine s_gR (r := 101) E fg_X10_31 rfl rfl (by decide +kernel) (by decide +kernel) dX10_ball_100 ?_
  refine s_iload_n E dX10_ball_103 rfl rfl ?_
  refine s_iald E rfl (by decide +kernel) (vp_c (by decide)) dX10_ball_104 ?_
  refine s_top (y := 0) (by decide +kernel) ?_
  refine s_iast E rfl (by decide +kernel) (vp_c (by decide)) dX10_ball_105 ?_
  refine s_world (w2 := wb_406) rfl ?_
  refine s_iinc (v := 49) (L2 := [some (AR 95), some (AI 49)]) E dX10_ball_106 rfl (by decide) (by decide) rfl ?_
  refine s_goto (tgt := 87) E dX10_ball_109 (by decide) ?_
  refine s_iload_n E dX10_ball_87 rfl rfl ?_
  refine s_sipush (v := 134) E dX10_ball_88 (by decide) ?_
  refine s_icmp_ge (tgt := 112) E dX10_ball_91 (by decide) (fun hh => absurd hh (by decide)) (fun _ => ?_)
  refine s_aload_n E dX10_ball_94 rfl rfl ?_
  refine s_gR (r := 96) E fg_X10_9 rfl rfl (by decide +kernel) (by decide +kernel) dX10_ball_95 ?_
  refine s_iload_n E dX10_ball_98 rfl rfl ?_
  refine s_aload_n E dX10_ball_99 rfl rfl ?_
  refine s_gR (r := 101) E fg_X10_31 rfl rfl (by decide +kernel) (by decide +kernel) dX10_ball_100 ?_
  refine s_iload_n E dX10_ball_103 rfl rfl ?_
  refine s_iald E rfl (by decide +kernel) (vp_c (by decide)) dX10_ball_104 ?_
  refine s_top (y := 0) (by decide +kernel) ?_
  refine s_iast E rfl (by decide +kernel) (vp_c (by decide)) dX10_ball_105 ?_
  refine s_world (w2 := wb_407) rfl ?_
  refine s_iinc (v := 50) (L2 := [some (AR 95), some (AI 50)]) E dX10_ball_106 rfl (by decide) (by decide) rfl ?_
  refine s_goto (tgt := 87) E dX10_ball_109 (by decide) ?_
  refine s_iload_n E dX10_ball_87 rfl rfl ?_
  refine s_sipush (v := 134) E dX10_ball_88 (by decide) ?_
  refine s_icmp_ge (tgt := 112) E dX10_ball_91 (by decide) (fun hh => absurd hh (by decide)) (fun _ => ?_)
  refine s_aload_n E dX10_ball_94 rfl rfl ?_
  refine s_gR (r := 96) E fg_X10_9 rfl rfl (by decide +kernel) (by decide +kernel) dX10_ball_95 ?_
  refine s_iload_n E dX10_ball_98 rfl rfl ?_
  refine s_aload_n E dX10_ball_99 rfl rfl ?_
  refine s_gR (r := 101) E fg_X10_31 rfl rfl (by decide +kernel) (by decide +kernel) dX10_ball_100 ?_
  refine s_iload_n E dX10_ball_103 rfl rfl ?_
  refine s_iald E rfl (by decide +kernel) (vp_c (by decide)) dX10_ball_104 ?_
  refine s_top (y := 0) (by decide +kernel) ?_
  refine s_iast E rfl (by decide +kernel) (vp_c (by decide)) dX10_ball_105 ?_
  refine s_world (w2 := wb_408) rfl ?_
  refine s_iinc (v := 51) (L2 := [some (AR 95), some (AI 51)]) E dX10_ball_106 rfl (by decide) (by decide) rfl ?_
  refine s_goto (tgt := 87) E dX10_ball_109 (by decide) ?_
  refine s_iload_n E dX10_ball_87 rfl rfl ?_
  refine s_sipush (v := 134) E dX10_ball_88 (by decide) ?_
  refine s_icmp_ge (tgt := 112) E dX10_ball_91 (by decide) (fun hh => absurd hh (by decide)) (fun _ => ?_)
  refine s_aload_n E dX10_ball_94 rfl rfl ?_
  refine s_gR (r := 96) E fg_X10_9 rfl rfl (by decide +kernel) (by decide +kernel) dX10_ball_95 ?_
  refine s_iload_n E dX10_ball_98 rfl rfl ?_
  refine s_aload_n E dX10_ball_99 rfl rfl ?_
  refine s_gR (r := 101) E fg_X10_31 rfl rfl (by decide +kernel) (by decide +kernel) dX10_ball_100 ?_
  refine s_iload_n E dX10_ball_103 rfl rfl ?_
  refine s_iald E rfl (by decide +kernel) (vp_c (by decide)) dX10_ball_104 ?_
  refine s_top (y := 0) (by decide +kernel) ?_
  refine s_iast E rfl (by decide +kernel) (vp_c (by decide)) dX10_ball_105 ?_
  refine s_world (w2 := wb_409) rfl ?_
  refine s_iinc (v := 52) (L2 := [some (AR 95), some (AI 52)]) E dX10_ball_106 rfl (by decide) (by decide) rfl ?_
  refine s_goto (tgt := 87) E dX10_ball_109 (by decide) ?_
  refine s_iload_n E dX10_ball_87 rfl rfl ?_
  refine s_sipush (v := 134) E dX10_ball_88 (by decide) ?_
  refine s_icmp_ge (tgt := 112) E dX10_ball_91 (by decide) (fun hh => absurd hh (by decide)) (fun _ => ?_)
  refine s_aload_n E dX10_ball_94 rfl rfl ?_
  refine s_gR (r := 96) E fg_X10_9 rfl rfl (by decide +kernel) (by decide +kernel) dX10_ball_95 ?_
  refine s_iload_n E dX10_ball_98 rfl rfl ?_
  refine s_aload_n E dX10_ball_99 rfl rfl ?_
  refine s_gR (r := 101) E fg_X10_31 rfl rfl (by decide +kernel) (by decide +kernel) dX10_ball_100 ?_
  refine s_iload_n E dX10_ball_103 rfl rfl ?_
  refine s_iald E rfl (by decide +kernel) (vp_c (by decide)) dX10_ball_104 ?_
  refine s_top (y := 0) (by decide +kernel) ?_
  refine s_iast E rfl (by decide +kernel) (vp_c (by decide)) dX10_ball_105 ?_
  refine s_world (w2 := wb_410) rfl ?_
  refine s_iinc (v := 53) (L2 := [some (AR 95), some (AI 53)]) E dX10_ball_106 rfl (by decide) (by decide) rfl ?_
  refine s_goto (tgt := 87) E dX10_ball_109 (by decide) ?_
  refine s_iload_n E dX10_ball_87 rfl rfl ?_
  refine s_sipush (v := 134) E dX10_ball_88 (by decide) ?_
  refine s_icmp_ge (tgt := 112) E dX10_ball_91 (by decide) (fun hh => absurd hh (by decide)) (fun _ => ?_)
  refine s_aload_n E dX10_ball_94 rfl rfl ?_
  refine s_gR (r := 96) E fg_X10_9 rfl rfl (by decide +kernel) (by decide +kernel) dX10_ball_95 ?_
  refine s_iload_n E dX10_ball_98 rfl rfl ?_
  refine s_aload_n E dX10_ball_99 rfl rfl ?_
  refine s_gR (r := 101) E fg_X10_31 rfl rfl (by decide +kernel) (by decide +kernel) dX10_ball_100 ?_
  refine s_iload_n E dX10_ball_103 rfl rfl ?_
  refine s_iald E rfl (by decide +kernel) (vp_c (by decide)) dX10_ball_104 ?_
  refine s_top (y := 0) (by decide +kernel) ?_
  refine s_iast E rfl (by decide +kernel) (vp_c (by decide)) dX10_ball_105 ?_
  refine s_world (w2 := wb_411) rfl ?_
  refine s_iinc (v := 54) (L2 := [some (AR 95), some (AI 54)]) E dX10_ball_106 rfl (by decide) (by decide) rfl ?_
  refine s_goto (tgt := 87) E dX10_ball_109 (by decide) ?_
  refine s_iload_n E dX10_ball_87 rfl rfl ?_
  refine s_sipush (v := 134) E dX10_ball_88 (by decide) ?_
  refine s_icmp_ge (tgt := 112) E dX10_ball_91 (by decide) (fun hh => absurd hh (by decide)) (fun _ => ?_)
  refine s_aload_n E dX10_ball_94 rfl rfl ?_
  refine s_gR (r := 96) E fg_X10_9 rfl rfl (by decide +kernel) (by decide +kernel) dX10_ball_95 ?_
  refine s_iload_n E dX10_ball_98 rfl rfl ?_
  refine s_aload_n E dX10_ball_99 rfl rfl ?_
  refine s_gR (r := 101) E fg_X10_31 rfl rfl (by decide +kernel) (by decide +kernel) dX10_ball_100 ?_
  refine s_iload_n E dX10_ball_103 rfl rfl ?_
  refine s_iald E rfl (by decide +kernel) (vp_c (by decide)) dX10_ball_104 ?_
  refine s_top (y := 0) (by decide +kernel) ?_
  refine s_iast E rfl (by decide +kernel) (vp_c (by decide)) dX10_ball_105 ?_
  refine s_world (w2 := wb_412) rfl ?_
  refine s_iinc (v := 55) (L2 := [some (AR 95), some (AI 55)]) E dX10_ball_106 rfl (by decide) (by decide) rfl ?_
  refine s_goto (tgt := 87) E dX10_ball_109 (by decide) ?_
  refine s_iload_n E dX10_ball_87 rfl rfl ?_
  refine s_sipush (v := 134) E dX10_ball_88 (by decide) ?_
  refine s_icmp_ge (tgt := 112) E dX10_ball_91 (by decide) (fun hh => absurd hh (by decide)) (fun _ => ?_)
  refine s_aload_n E dX10_ball_94 rfl rfl ?_
  refine s_gR (r := 96) E fg_X10_9 rfl rfl (by decide +kernel) (by decide +kernel) dX10_ball_95 ?_
  refine s_iload_n E dX10_ball_98 rfl rfl ?_
  refine s_aload_n E dX10_ball_99 rfl rfl ?_
  refine s_gR (r := 101) E fg_X10_31 rfl rfl (by decide +kernel) (by decide +kernel) dX10_ball_100 ?_
  refine s_iload_n E dX10_ball_103 rfl rfl ?_
  refine s_iald E rfl (by decide +kernel) (vp_c (by decide)) dX10_ball_104 ?_
  refine s_top (y := 0) (by decide +kernel) ?_
  refine s_iast E rfl (by decide +kernel) (vp_c (by decide)) dX10_ball_105 ?_
  refine s_world (w2 := wb_413) rfl ?_
  refine s_iinc (v := 56) (L2 := [some (AR 95), some (AI 56)]) E dX10_ball_106 rfl (by decide) (by decide) rfl ?_
  refine s_goto (tgt := 87) E dX10_ball_109 (by decide) ?_
  refine s_iload_n E dX10_ball_87 rfl rfl ?_
  refine s_sipush (v := 134) E dX10_ball_88 (by decide) ?_
  refine s_icmp_ge (tgt := 112) E dX10_ball_91 (by decide) (fun hh => absurd hh (by decide)) (fun _ => ?_)
  refine s_aload_n E dX10_ball_94 rfl rfl ?_
  refine s_gR (r := 96) E fg_X10_9 rfl rfl (by decide +kernel) (by decide +kernel) dX10_ball_95 ?_
  refine s_iload_n E dX10_ball_98 rfl rfl ?_
  refine s_aload_n E dX10_ball_99 rfl rfl ?_
  refine s_gR (r := 101) E fg_X10_31 rfl rfl (by decide +kernel) (by decide +kernel) dX10_ball_100 ?_
  refine s_iload_n E dX10_ball_103 rfl rfl ?_
  refine s_iald E rfl (by decide +kernel) (vp_c (by decide)) dX10_ball_104 ?_
  refine s_top (y := 0) (by decide +kernel) ?_
  refine s_iast E rfl (by decide +kernel) (vp_c (by decide)) dX10_ball_105 ?_
  refine s_world (w2 := wb_414) rfl ?_
  refine s_iinc (v := 57) (L2 := [some (AR 95), some (AI 57)]) E dX10_ball_106 rfl (by decide) (by decide) rfl ?_
  refine s_goto (tgt := 87) E dX10_ball_109 (by decide) ?_
  refine s_iload_n E dX10_ball_87 rfl rfl ?_
  refine s_sipush (v := 134) E dX10_ball_88 (by decide) ?_
  refine s_icmp_ge (tgt := 112) E dX10_ball_91 (by decide) (fun hh => absurd hh (by decide)) (fun _ => ?_)
  refine s_aload_n E dX10_ball_94 rfl rfl ?_
  refine s_gR (r := 96) E fg_X10_9 rfl rfl (by decide +kernel) (by decide +kernel) dX10_ball_95 ?_
  refine s_iload_n E dX10_ball_98 rfl rfl ?_
  refine s_aload_n E dX10_ball_99 rfl rfl ?_
  refine s_gR (r := 101) E fg_X10_31 rfl rfl (by decide +kernel) (by decide +kernel) dX10_ball_100 ?_
  refine s_iload_n E dX10_ball_103 rfl rfl ?_
  refine s_iald E rfl (by decide +kernel) (vp_c (by decide)) dX10_ball_104 ?_
  refine s_top (y := 0) (by decide +kernel) ?_
  refine s_iast E rfl (by decide +kernel) (vp_c (by decide)) dX10_ball_105 ?_
  refine s_world (w2 := wb_415) rfl ?_
  refine s_iinc (v := 58) (L2 := [some (AR 95), some (AI 58)]) E dX10_ball_106 rfl (by decide) (by decide) rfl ?_
  refine s_goto (tgt := 87) E dX10_ball_109 (by decide) ?_
  refine s_iload_n E dX10_ball_87 rfl rfl ?_
  refine s_sipush (v := 134) E dX10_ball_88 (by decide) ?_
  refine s_icmp_ge (tgt := 112) E dX10_ball_91 (by decide) (fun hh => absurd hh (by decide)) (fun _ => ?_)
  refine s_aload_n E dX10_ball_94 rfl rfl ?_
  refine s_gR (r := 96) E fg_X10_9 rfl rfl (by decide +kernel) (by decide +kernel) dX10_ball_95 ?_
  refine s_iload_n E dX10_ball_98 rfl rfl ?_
  refine s_aload_n E dX10_ball_99 rfl rfl ?_
  refine s_gR (r := 101) E fg_X10_31 rfl rfl (by decide +kernel) (by decide +kernel) dX10_ball_100 ?_
  refine s_iload_n E dX10_ball_103 rfl rfl ?_
  refine s_iald E rfl (by decide +kernel) (vp_c (by decide)) dX10_ball_104 ?_
  refine s_top (y := 0) (by decide +kernel) ?_
  refine s_iast E rfl (by decide +kernel) (vp_c (by decide)) dX10_ball_105 ?_
  refine s_world (w2 := wb_416) rfl ?_
  refine s_iinc (v := 59) (L2 := [some (AR 95), some (AI 59)]) E dX10_ball_106 rfl (by decide) (by decide) rfl ?_
  refine s_goto (tgt := 87) E dX10_ball_109 (by decide) ?_
  refine s_iload_n E dX10_ball_87 rfl rfl ?_
  refine s_sipush (v := 134) E dX10_ball_88 (by decide) ?_
  refine s_icmp_ge (tgt := 112) E dX10_ball_91 (by decide) (fun hh => absurd hh (by decide)) (fun _ => ?_)
  refine s_aload_n E dX10_ball_94 rfl rfl ?_
  refine s_gR (r := 96) E fg_X10_9 rfl rfl (by decide +kernel) (by decide +kernel) dX10_ball_95 ?_
  refine s_iload_n E dX10_ball_98 rfl rfl ?_
  refine s_aload_n E dX10_ball_99 rfl rfl ?_
  refine s_gR (r := 101) E fg_X10_31 rfl rfl (by decide +kernel) (by decide +kernel) dX10_ball_100 ?_
  refine s_iload_n E dX10_ball_103 rfl rfl ?_
  refine s_iald E rfl (by decide +kernel) (vp_c (by decide)) dX10_ball_104 ?_
  refine s_top (y := 0) (by decide +kernel) ?_
  refine s_iast E rfl (by decide +kernel) (vp_c (by decide)) dX10_ball_105 ?_
  refine s_world (w2 := wb_417) rfl ?_
  refine s_iinc (v := 60) (L2 := [some (AR 95), some (AI 60)]) E dX10_ball_106 rfl (by decide) (by decide) rfl ?_
  refine s_goto (tgt := 87) E dX10_ball_109 (by decide) ?_
  refine s_iload_n E dX10_ball_87 rfl rfl ?_
  refine s_sipush (v := 134) E dX10_ball_88 (by decide) ?_
  refine s_icmp_ge (tgt := 112) E dX10_ball_91 (by decide) (fun hh => absurd hh (by decide)) (fun _ => ?_)
  refine s_aload_n E dX10_ball_94 rfl rfl ?_
  refine s_gR (r := 96) E fg_X10_9 rfl rfl (by decide +kernel) (by decide +kernel) dX10_ball_95 ?_
  refine s_iload_n E dX10_ball_98 rfl rfl ?_
  refine s_aload_n E dX10_ball_99 rfl rfl ?_
  refine s_gR (r := 101) E fg_X10_31 rfl rfl (by decide +kernel) (by decide +kernel) dX10_ball_100 ?_
  refine s_iload_n E dX10_ball_103 rfl rfl ?_
  refine s_iald E rfl (by decide +kernel) (vp_c (by decide)) dX10_ball_104 ?_
  refine s_top (y := 0) (by decide +kernel) ?_
  refine s_iast E rfl (by decide +kernel) (vp_c (by decide)) dX10_ball_105 ?_
  refine s_world (w2 := wb_418) rfl ?_
  refine s_iinc (v := 61) (L2 := [some (AR 95), some (AI 61)]) E dX10_ball_106 rfl (by decide) (by decide) rfl ?_
  refine s_goto (tgt := 87) E dX10_ball_109 (by decide) ?_
  refine s_iload_n E dX10_ball_87 rfl rfl ?_
  refine s_sipush (v := 134) E dX10_ball_88 (by decide) ?_
  refine s_icmp_ge (tgt := 112) E dX10_ball_91 (by decide) (fun hh => absurd hh (by decide)) (fun _ => ?_)
  refine s_aload_n E dX10_ball_94 rfl rfl ?_
  refine s_gR (r := 96) E fg_X10_9 rfl rfl (by decide +kernel) (by decide +kernel) dX10_ball_95 ?_
  refine s_iload_n E dX10_ball_98 rfl rfl ?_
  refine s_aload_n E dX10_ball_99 rfl rfl ?_
  refine s_gR (r := 101) E fg_X10_31 rfl rfl (by decide +kernel) (by decide +kernel) dX10_ball_100 ?_
  refine s_iload_n E dX10_ball_103 rfl rfl ?_
  refine s_iald E rfl (by decide +kernel) (vp_c (by decide)) dX10_ball_104 ?_
  refine s_top (y := 0) (by decide +kernel) ?_
  refine s_iast E rfl (by decide +kernel) (vp_c (by decide)) dX10_ball_105 ?_
  refine s_world (w2 := wb_419) rfl ?_
  refine s_iinc (v := 62) (L2 := [some (AR 95), some (AI 62)]) E dX10_ball_106 rfl (by decide) (by decide) rfl ?_
  refine s_goto (tgt := 87) E dX10_ball_109 (by decide) ?_
  refine s_iload_n E dX10_ball_87 rfl rfl ?_
  refine s_sipush (v := 134) E dX10_ball_88 (by decide) ?_
  refine s_icmp_ge (tgt := 112) E dX10_ball_91 (by decide) (fun hh => absurd hh (by decide)) (fun _ => ?_)
  refine s_aload_n E dX10_ball_94 rfl rfl ?_
  refine s_gR (r := 96) E fg_X10_9 rfl rfl (by decide +kernel) (by decide +kernel) dX10_ball_95 ?_
  refine s_iload_n E dX10_ball_98 rfl rfl ?_
  refine s_aload_n E dX10_ball_99 rfl rfl ?_
  refine s_gR (r := 101) E fg_X10_31 rfl rfl (by decide +kernel) (by decide +kernel) dX10_ball_100 ?_
  refine s_iload_n E dX10_ball_103 rfl rfl ?_
  refine s_iald E rfl (by decide +kernel) (vp_c (by decide)) dX10_ball_104 ?_
  refine s_top (y := 0) (by decide +kernel) ?_
  refine s_iast E rfl (by decide +kernel) (vp_c (by decide)) dX10_ball_105 ?_
  refine s_world (w2 := wb_420) rfl ?_
  refine s_iinc (v := 63) (L2 := [some (AR 95), some (AI 63)]) E dX10_ball_106 rfl (by decide) (by decide) rfl ?_
  refine s_goto (tgt := 87) E dX10_ball_109 (by decide) ?_
  refine s_iload_n E dX10_ball_87 rfl rfl ?_
  refine s_sipush (v := 134) E dX10_ball_88 (by decide) ?_
  refine s_icmp_ge (tgt := 112) E dX10_ball_91 (by decide) (fun hh => absurd hh (by decide)) (fun _ => ?_)
  refine s_aload_n E dX10_ball_94 rfl rfl ?_
  refine s_gR (r := 96) E fg_X10_9 rfl rfl (by decide +kernel) (by decide +kernel) dX10_ball_95 ?_
  refine s_iload_n E dX10_ball_98 rfl rfl ?_
  refine s_aload_n E dX10_ball_99 rfl rfl ?_
  refine s_gR (r := 101) E fg_X10_31 rfl rfl (by decide +kernel) (by decide +kernel) dX10_ball_100 ?_
  refine s_iload_n E dX10_ball_103 rfl rfl ?_
  refine s_iald E rfl (by decide +kernel) (vp_c (by decide)) dX10_ball_104 ?_
  refine s_top (y := 0) (by decide +kernel) ?_
  refine s_iast E rfl (by decide +kernel) (vp_c (by decide)) dX10_ball_105 ?_
  refine s_world (w2 := wb_421) rfl ?_
  refine s_iinc (v := 64) (L2 := [some (AR 95), some (AI 64)]) E dX10_ball_106 rfl (by decide) (by decide) rfl ?_
  refine s_goto (tgt := 87) E dX10_ball_109 (by decide) ?_
  refine s_iload_n E dX10_ball_87 rfl rfl ?_
  refine s_sipush (v := 134) E dX10_ball_88 (by decide) ?_
  refine s_icmp_ge (tgt := 112) E dX10_ball_91 (by decide) (fun hh => absurd hh (by decide)) (fun _ => ?_)
  refine s_aload_n E dX10_ball_94 rfl rfl ?_
  refine s_gR (r := 96) E fg_X10_9 rfl rfl (by decide +kernel) (by decide +kernel) dX10_ball_95 ?_
  refine s_iload_n E dX10_ball_98 rfl rfl ?_
  refine s_aload_n E dX10_ball_99 rfl rfl ?_
  refine s_gR (r := 101) E fg_X10_31 rfl rfl (by decide +kernel) (by decide +kernel) dX10_ball_100 ?_
  refine s_iload_n E dX10_ball_103 rfl rfl ?_
  refine s_iald E rfl (by decide +kernel) (vp_c (by decide)) dX10_ball_104 ?_
  refine s_top (y := 0) (by decide +kernel) ?_
  refine s_iast E rfl (by decide +kernel) (vp_c (by decide)) dX10_ball_105 ?_
  refine s_world (w2 := wb_422) rfl ?_
  refine s_iinc (v := 65) (L2 := [some (AR 95), some (AI 65)]) E dX10_ball_106 rfl (by decide) (by decide) rfl ?_
  refine s_goto (tgt := 87) E dX10_ball_109 (by decide) ?_
  refine s_iload_n E dX10_ball_87 rfl rfl ?_
  refine s_sipush (v := 134) E dX10_ball_88 (by decide) ?_
  refine s_icmp_ge (tgt := 112) E dX10_ball_91 (by decide) (fun hh => absurd hh (by decide)) (fun _ => ?_)
  refine s_aload_n E dX10_ball_94 rfl rfl ?_
  refine s_gR (r := 96) E fg_X10_9 rfl rfl (by decide +kernel) (by decide +kernel) dX10_ball_95 ?_
  refine s_iload_n E dX10_ball_98 rfl rfl ?_
  refine s_aload_n E dX10_ball_99 rfl rfl ?_
  refine s_gR (r := 101) E fg_X10_31 rfl rfl (by decide +kernel) (by decide +kernel) dX10_ball_100 ?_
  refine s_iload_n E dX10_ball_103 rfl rfl ?_
  refine s_iald E rfl (by decide +kernel) (vp_c (by decide)) dX10_ball_104 ?_
  refine s_top (y := 0) (by decide +kernel) ?_
  refine s_iast E rfl (by decide +kernel) (vp_c (by decide)) dX10_ball_105 ?_
  refine s_world (w2 := wb_423) rfl ?_
  refine s_iinc (v := 66) (L2 := [some (AR 95), some (AI 66)]) E dX10_ball_106 rfl (by decide) (by decide) rfl ?_
  refine s_goto (tgt := 87) E dX10_ball_109 (by decide) ?_
  refine s_iload_n E dX10_ball_87 rfl rfl ?_
  refine s_sipush (v := 134) E dX10_ball_88 (by decide) ?_
  refine s_icmp_ge (tgt := 112) E dX10_ball_91 (by decide) (fun hh => absurd hh (by decide)) (fun _ => ?_)
  refine s_aload_n E dX10_ball_94 rfl rfl ?_
  refine s_gR (r := 96) E fg_X10_9 rfl rfl (by decide +kernel) (by decide +kernel) dX10_ball_95 ?_
  refine s_iload_n E dX10_ball_98 rfl rfl ?_
  refine s_aload_n E dX10_ball_99 rfl rfl ?_
  refine s_gR (r := 101) E fg_X10_31 rfl rfl (by decide +kernel) (by decide +kernel) dX10_ball_100 ?_
  refine s_iload_n E dX10_ball_103 rfl rfl ?_
  refine s_iald E rfl (by decide +kernel) (vp_c (by decide)) dX10_ball_104 ?_
  refine s_top (y := 0) (by decide +kernel) ?_
  refine s_iast E rfl (by decide +kernel) (vp_c (by decide)) dX10_ball_105 ?_
  refine s_world (w2 := wb_424) rfl ?_
  refine s_iinc (v := 67) (L2 := [some (AR 95), some (AI 67)]) E dX10_ball_106 rfl (by decide) (by decide) rfl ?_
  refine s_goto (tgt := 87) E dX10_ball_109 (by decide) ?_
  refine s_iload_n E dX10_ball_87 rfl rfl ?_
  refine s_sipush (v := 134) E dX10_ball_88 (by decide) ?_
  refine s_icmp_ge (tgt := 112) E dX10_ball_91 (by decide) (fun hh => absurd hh (by decide)) (fun _ => ?_)
  refine s_aload_n E dX10_ball_94 rfl rfl ?_
  refine s_gR (r := 96) E fg_X10_9 rfl rfl (by decide +kernel) (by decide +kernel) dX10_ball_95 ?_
  refine s_iload_n E dX10_ball_98 rfl rfl ?_
  refine s_aload_n E dX10_ball_99 rfl rfl ?_
  refine s_gR (r := 101) E fg_X10_31 rfl rfl (by decide +kernel) (by decide +kernel) dX10_ball_100 ?_
  refine s_iload_n E dX10_ball_103 rfl rfl ?_
  refine s_iald E rfl (by decide +kernel) (vp_c (by decide)) dX10_ball_104 ?_
  refine s_top (y := 0) (by decide +kernel) ?_
  refine s_iast E rfl (by decide +kernel) (vp_c (by decide)) dX10_ball_105 ?_
  refine s_world (w2 := wb_425) rfl ?_
  refine s_iinc (v := 68) (L2 := [some (AR 95), some (AI 68)]) E dX10_ball_106 rfl (by decide) (by decide) rfl ?_
  refine s_goto (tgt := 87) E dX10_ball_109 (by decide) ?_
  refine s_iload_n E dX10_ball_87 rfl rfl ?_
  refine s_sipush (v := 134) E dX10_ball_88 (by decide) ?_
  refine s_icmp_ge (tgt := 112) E dX10_ball_91 (by decide) (fun hh => absurd hh (by decide)) (fun _ => ?_)
  refine s_aload_n E dX10_ball_94 rfl rfl ?_
  refine s_gR (r := 96) E fg_X10_9 rfl rfl (by decide +kernel) (by decide +kernel) dX10_ball_95 ?_
  refine s_iload_n E dX10_ball_98 rfl rfl ?_
  refine s_aload_n E dX10_ball_99 rfl rfl ?_
  refine s_gR (r := 101) E fg_X10_31 rfl rfl (by decide +kernel) (by decide +kernel) dX10_ball_100 ?_
  refine s_iload_n E dX10_ball_103 rfl rfl ?_
  refine s_iald E rfl (by decide +kernel) (vp_c (by decide)) dX10_ball_104 ?_
  refine s_top (y := 0) (by decide +kernel) ?_
  refine s_iast E rfl (by decide +kernel) (vp_c (by decide)) dX10_ball_105 ?_
  refine s_world (w2 := wb_426) rfl ?_
  refine s_iinc (v := 69) (L2 := [some (AR 95), some (AI 69)]) E dX10_ball_106 rfl (by decide) (by decide) rfl ?_
  refine s_goto (tgt := 87) E dX10_ball_109 (by decide) ?_
  refine s_iload_n E dX10_ball_87 rfl rfl ?_
  refine s_sipush (v := 134) E dX10_ball_88 (by decide) ?_
  refine s_icmp_ge (tgt := 112) E dX10_ball_91 (by decide) (fun hh => absurd hh (by decide)) (fun _ => ?_)
  refine s_aload_n E dX10_ball_94 rfl rfl ?_
  refine s_gR (r := 96) E fg_X10_9 rfl rfl (by decide +kernel) (by decide +kernel) dX10_ball_95 ?_
  refine s_iload_n E dX10_ball_98 rfl rfl ?_
  refine s_aload_n E dX10_ball_99 rfl rfl ?_
  refine s_gR (r := 101) E fg_X10_31 rfl rfl (by decide +kernel) (by decide +kernel) dX10_ball_100 ?_
  refine s_iload_n E dX10_ball_103 rfl rfl ?_
  refine s_iald E rfl (by decide +kernel) (vp_c (by decide)) dX10_ball_104 ?_
  refine s_top (y := 0) (by decide +kernel) ?_
  refine s_iast E rfl (by decide +kernel) (vp_c (by decide)) dX10_ball_105 ?_
  refine s_world (w2 := wb_427) rfl ?_
  refine s_iinc (v := 70) (L2 := [some (AR 95), some (AI 70)]) E dX10_ball_106 rfl (by decide) (by decide) rfl ?_
  refine s_goto (tgt := 87) E dX10_ball_109 (by decide) ?_
  refine s_iload_n E dX10_ball_87 rfl rfl ?_
  refine s_sipush (v := 134) E dX10_ball_88 (by decide) ?_
  refine s_icmp_ge (tgt := 112) E dX10_ball_91 (by decide) (fun hh => absurd hh (by decide)) (fun _ => ?_)
  refine s_aload_n E dX10_ball_94 rfl rfl ?_
  refine s_gR (r := 96) E fg_X10_9 rfl rfl (by decide +kernel) (by decide +kernel) dX10_ball_95 ?_
  refine s_iload_n E dX10_ball_98 rfl rfl ?_
  refine s_aload_n E dX10_ball_99 rfl rfl ?_
  refine s_gR (r := 101) E fg_X10_31 rfl rfl (by decide +kernel) (by decide +kernel) dX10_ball_100 ?_
  refine s_iload_n E dX10_ball_103 rfl rfl ?_
  refine s_iald E rfl (by decide +kernel) (vp_c (by decide)) dX10_ball_104 ?_
  refine s_top (y := 0) (by decide +kernel) ?_
  refine s_iast E rfl (by decide +kernel) (vp_c (by decide)) dX10_ball_105 ?_
  refine s_world (w2 := wb_428) rfl ?_
  refine s_iinc (v := 71) (L2 := [some (AR 95), some (AI 71)]) E dX10_ball_106 rfl (by decide) (by decide) rfl ?_
  refine s_goto (tgt := 87) E dX10_ball_109 (by decide) ?_
  refine s_iload_n E dX10_ball_87 rfl rfl ?_
  refine s_sipush (v := 134) E dX10_ball_88 (by decide) ?_
  refine s_icmp_ge (tgt := 112) E dX10_ball_91 (by decide) (fun hh => absurd hh (by decide)) (fun _ => ?_)
  refine s_aload_n E dX10_ball_94 rfl rfl ?_
  refine s_gR (r := 96) E fg_X10_9 rfl rfl (by decide +kernel) (by decide +kernel) dX10_ball_95 ?_
  refine s_iload_n E dX10_ball_98 rfl rfl ?_
  refine s_aload_n E dX10_ball_99 rfl rfl ?_
  refine s_gR (r := 101) E fg_X10_31 rfl rfl (by decide +kernel) (by decide +kernel) dX10_ball_100 ?_
  refine s_iload_n E dX10_ball_103 rfl rfl ?_
  refine s_iald E rfl (by decide +kernel) (vp_c (by decide)) dX10_ball_104 ?_
  refine s_top (y := 0) (by decide +kernel) ?_
  refine s_iast E rfl (by decide +kernel) (vp_c (by decide)) dX10_ball_105 ?_
  refine s_world (w2 := wb_429) rfl ?_
  refine s_iinc (v := 72) (L2 := [some (AR 95), some (AI 72)]) E dX10_ball_106 rfl (by decide) (by decide) rfl ?_
  refine s_goto (tgt := 87) E dX10_ball_109 (by decide) ?_
  refine s_iload_n E dX10_ball_87 rfl rfl ?_
  refine s_sipush (v := 134) E dX10_ball_88 (by decide) ?_
  refine s_icmp_ge (tgt := 112) E dX10_ball_91 (by decide) (fun hh => absurd hh (by decide)) (fun _ => ?_)
  refine s_aload_n E dX10_ball_94 rfl rfl ?_
  refine s_gR (r := 96) E fg_X10_9 rfl rfl (by decide +kernel) (by decide +kernel) dX10_ball_95 ?_
  refine s_iload_n E dX10_ball_98 rfl rfl ?_
  refine s_aload_n E dX10_ball_99 rfl rfl ?_
  refine s_gR (r := 101) E fg_X10_31 rfl rfl (by decide +kernel) (by decide +kernel) dX10_ball_100 ?_
  refine s_iload_n E dX10_ball_103 rfl rfl ?_
  refine s_iald E rfl (by decide +kernel) (vp_c (by decide)) dX10_ball_104 ?_
  refine s_top (y := 0) (by decide +kernel) ?_
  refine s_iast E rfl (by decide +kernel) (vp_c (by decide)) dX10_ball_105 ?_
  refine s_world (w2 := wb_430) rfl ?_
  refine s_iinc (v := 73) (L2 := [some (AR 95), some (AI 73)]) E dX10_ball_106 rfl (by decide) (by decide) rfl ?_
  refine s_goto (tgt := 87) E dX10_ball_109 (by decide) ?_
  refine s_iload_n E dX10_ball_87 rfl rfl ?_
  refine s_sipush (v := 134) E dX10_ball_88 (by decide) ?_
  refine s_icmp_ge (tgt := 112) E dX10_ball_91 (by decide) (fun hh => absurd hh (by decide)) (fun _ => ?_)
  refine s_aload_n E dX10_ball_94 rfl rfl ?_
  refine s_gR (r := 96) E fg_X10_9 rfl rfl (by decide +kernel) (by decide +kernel) dX10_ball_95 ?_
  refine s_iload_n E dX10_ball_98 rfl rfl ?_
  refine s_aload_n E dX10_ball_99 rfl rfl ?_
  refine s_gR (r := 101) E fg_X10_31 rfl rfl (by decide +kernel) (by decide +kernel) dX10_ball_100 ?_
  refine s_iload_n E dX10_ball_103 rfl rfl ?_
  refine s_iald E rfl (by decide +kernel) (vp_c (by decide)) dX10_ball_104 ?_
  refine s_top (y := 0) (by decide +kernel) ?_
  refine s_iast E rfl (by decide +kernel) (vp_c (by decide)) dX10_ball_105 ?_
  refine s_world (w2 := wb_431) rfl ?_
  refine s_iinc (v := 74) (L2 := [some (AR 95), some (AI 74)]) E dX10_ball_106 rfl (by decide) (by decide) rfl ?_
  refine s_goto (tgt := 87) E dX10_ball_109 (by decide) ?_
  refine s_iload_n E dX10_ball_87 rfl rfl ?_
  refine s_sipush (v := 134) E dX10_ball_88 (by decide) ?_
  refine s_icmp_ge (tgt := 112) E dX10_ball_91 (by decide) (fun hh => absurd hh (by decide)) (fun _ => ?_)
  refine s_aload_n E dX10_ball_94 rfl rfl ?_
  refine s_gR (r := 96) E fg_X10_9 rfl rfl (by decide +kernel) (by decide +kernel) dX10_ball_95 ?_
  refine s_iload_n E dX10_ball_98 rfl rfl ?_
  refine s_aload_n E dX10_ball_99 rfl rfl ?_
  refine s_gR (r := 101) E fg_X10_31 rfl rfl (by decide +kernel) (by decide +kernel) dX10_ball_100 ?_
  refine s_iload_n E dX10_ball_103 rfl rfl ?_
  refine s_iald E rfl (by decide +kernel) (vp_c (by decide)) dX10_ball_104 ?_
  refine s_top (y := 0) (by decide +kernel) ?_
  refine s_iast E rfl (by decide +kernel) (vp_c (by decide)) dX10_ball_105 ?_
  refine s_world (w2 := wb_432) rfl ?_
  refine s_iinc (v := 75) (L2 := [some (AR 95), some (AI 75)]) E dX10_ball_106 rfl (by decide) (by decide) rfl ?_
  refine s_goto (tgt := 87) E dX10_ball_109 (by decide) ?_
  refine s_iload_n E dX10_ball_87 rfl rfl ?_
  refine s_sipush (v := 134) E dX10_ball_88 (by decide) ?_
  refine s_icmp_ge (tgt := 112) E dX10_ball_91 (by decide) (fun hh => absurd hh (by decide)) (fun _ => ?_)
  refine s_aload_n E dX10_ball_94 rfl rfl ?_
  refine s_gR (r := 96) E fg_X10_9 rfl rfl (by decide +kernel) (by decide +kernel) dX10_ball_95 ?_
  refine s_iload_n E dX10_ball_98 rfl rfl ?_
  refine s_aload_n E dX10_ball_99 rfl rfl ?_
  refine s_gR (r := 101) E fg_X10_31 rfl rfl (by decide +kernel) (by decide +kernel) dX10_ball_100 ?_
  refine s_iload_n E dX10_ball_103 rfl rfl ?_
  refine s_iald E rfl (by decide +kernel) (vp_c (by decide)) dX10_ball_104 ?_
  refine s_top (y := 0) (by decide +kernel) ?_
  refine s_iast E rfl (by decide +kernel) (vp_c (by decide)) dX10_ball_105 ?_
  refine s_world (w2 := wb_433) rfl ?_
  refine s_iinc (v := 76) (L2 := [some (AR 95), some (AI 76)]) E dX10_ball_106 rfl (by decide) (by decide) rfl ?_
  refine s_goto (tgt := 87) E dX10_ball_109 (by decide) ?_
  refine s_iload_n E dX10_ball_87 rfl rfl ?_
  refine s_sipush (v := 134) E dX10_ball_88 (by decide) ?_
  refine s_icmp_ge (tgt := 112) E dX10_ball_91 (by decide) (fun hh => absurd hh (by decide)) (fun _ => ?_)
  refine s_aload_n E dX10_ball_94 rfl rfl ?_
  refine s_gR (r := 96) E fg_X10_9 rfl rfl (by decide +kernel) (by decide +kernel) dX10_ball_95 ?_
  refine s_iload_n E dX10_ball_98 rfl rfl ?_
  refine s_aload_n E dX10_ball_99 rfl rfl ?_
  refine s_gR (r := 101) E fg_X10_31 rfl rfl (by decide +kernel) (by decide +kernel) dX10_ball_100 ?_
  refine s_iload_n E dX10_ball_103 rfl rfl ?_
  refine s_iald E rfl (by decide +kernel) (vp_c (by decide)) dX10_ball_104 ?_
  refine s_top (y := 0) (by decide +kernel) ?_
  refine s_iast E rfl (by decide +kernel) (vp_c (by decide)) dX10_ball_105 ?_
  refine s_world (w2 := wb_434) rfl ?_
  refine s_iinc (v := 77) (L2 := [some (AR 95), some (AI 77)]) E dX10_ball_106 rfl (by decide) (by decide) rfl ?_
  refine s_goto (tgt := 87) E dX10_ball_109 (by decide) ?_
  refine s_iload_n E dX10_ball_87 rfl rfl ?_
  refine s_sipush (v := 134) E dX10_ball_88 (by decide) ?_
  refine s_icmp_ge (tgt := 112) E dX10_ball_91 (by decide) (fun hh => absurd hh (by decide)) (fun _ => ?_)
  refine s_aload_n E dX10_ball_94 rfl rfl ?_
  refine s_gR (r := 96) E fg_X10_9 rfl rfl (by decide +kernel) (by decide +kernel) dX10_ball_95 ?_
  refine s_iload_n E dX10_ball_98 rfl rfl ?_
  refine s_aload_n E dX10_ball_99 rfl rfl ?_
  refine s_gR (r := 101) E fg_X10_31 rfl rfl (by decide +kernel) (by decide +kernel) dX10_ball_100 ?_
  refine s_iload_n E dX10_ball_103 rfl rfl ?_
  refine s_iald E rfl (by decide +kernel) (vp_c (by decide)) dX10_ball_104 ?_
  refine s_top (y := 0) (by decide +kernel) ?_
  refine s_iast E rfl (by decide +kernel) (vp_c (by decide)) dX10_ball_105 ?_
  refine s_world (w2 := wb_435) rfl ?_
  refine s_iinc (v := 78) (L2 := [some (AR 95), some (AI 78)]) E dX10_ball_106 rfl (by decide) (by decide) rfl ?_
  refine s_goto (tgt := 87) E dX10_ball_109 (by decide) ?_
  refine s_iload_n E dX10_ball_87 rfl rfl ?_
  refine s_sipush (v := 134) E dX10_ball_88 (by decide) ?_
  refine s_icmp_ge (tgt := 112) E dX10_ball_91 (by decide) (fun hh => absurd hh (by decide)) (fun _ => ?_)
  refine s_aload_n E dX10_ball_94 rfl rfl ?_
  refine s_gR (r := 96) E fg_X10_9 rfl rfl (by decide +kernel) (by decide +kernel) dX10_ball_95 ?_
  refine s_iload_n E dX10_ball_98 rfl rfl ?_
  refine s_aload_n E dX10_ball_99 rfl rfl ?_
  refine s_gR (r := 101) E fg_X10_31 rfl rfl (by decide +kernel) (by decide +kernel) dX10_ball_100 ?_
  refine s_iload_n E dX10_ball_103 rfl rfl ?_
  refine s_iald E rfl (by decide +kernel) (vp_c (by decide)) dX10_ball_104 ?_
  refine s_top (y := 0) (by decide +kernel) ?_
  refine s_iast E rfl (by decide +kernel) (vp_c (by decide)) dX10_ball_105 ?_
  refine s_world (w2 := wb_436) rfl ?_
  refine s_iinc (v := 79) (L2 := [some (AR 95), some (AI 79)]) E dX10_ball_106 rfl (by decide) (by decide) rfl ?_
  refine s_goto (tgt := 87) E dX10_ball_109 (by decide) ?_
  refine s_iload_n E dX10_ball_87 rfl rfl ?_
  refine s_sipush (v := 134) E dX10_ball_88 (by decide) ?_
  refine s_icmp_ge (tgt := 112) E dX10_ball_91 (by decide) (fun hh => absurd hh (by decide)) (fun _ => ?_)
  refine s_aload_n E dX10_ball_94 rfl rfl ?_
  refine s_gR (r := 96) E fg_X10_9 rfl rfl (by decide +kernel) (by decide +kernel) dX10_ball_95 ?_
  refine s_iload_n E dX10_ball_98 rfl rfl ?_
  refine s_aload_n E dX10_ball_99 rfl rfl ?_
  refine s_gR (r := 101) E fg_X10_31 rfl rfl (by decide +kernel) (by decide +kernel) dX10_ball_100 ?_
  refine s_iload_n E dX10_ball_103 rfl rfl ?_
  refine s_iald E rfl (by decide +kernel) (vp_c (by decide)) dX10_ball_104 ?_
  refine s_top (y := 0) (by decide +kernel) ?_
  refine s_iast E rfl (by decide +kernel) (vp_c (by decide)) dX10_ball_105 ?_
  refine s_world (w2 := wb_437) rfl ?_
  refine s_iinc (v := 80) (L2 := [some (AR 95), some (AI 80)]) E dX10_ball_106 rfl (by decide) (by decide) rfl ?_
  refine s_goto (tgt := 87) E dX10_ball_109 (by decide) ?_
  refine s_iload_n E dX10_ball_87 rfl rfl ?_
  refine s_sipush (v := 134) E dX10_ball_88 (by decide) ?_
  refine s_icmp_ge (tgt := 112) E dX10_ball_91 (by decide) (fun hh => absurd hh (by decide)) (fun _ => ?_)
  refine s_aload_n E dX10_ball_94 rfl rfl ?_
  refine s_gR (r := 96) E fg_X10_9 rfl rfl (by decide +kernel) (by decide +kernel) dX10_ball_95 ?_
  refine s_iload_n E dX10_ball_98 rfl rfl ?_
  refine s_aload_n E dX10_ball_99 rfl rfl ?_
  refine s_gR (r := 101) E fg_X10_31 rfl rfl (by decide +kernel) (by decide +kernel) dX10_ball_100 ?_
  refine s_iload_n E dX10_ball_103 rfl rfl ?_
  refine s_iald E rfl (by decide +kernel) (vp_c (by decide)) dX10_ball_104 ?_
  refine s_top (y := 0) (by decide +kernel) ?_
  refine s_iast E rfl (by decide +kernel) (vp_c (by decide)) dX10_ball_105 ?_
  refine s_world (w2 := wb_438) rfl ?_
  refine s_iinc (v := 81) (L2 := [some (AR 95), some (AI 81)]) E dX10_ball_106 rfl (by decide) (by decide) rfl ?_
  refine s_goto (tgt := 87) E dX10_ball_109 (by decide) ?_
  refine s_iload_n E dX10_ball_87 rfl rfl ?_
  refine s_sipush (v := 134) E dX10_ball_88 (by decide) ?_
  refine s_icmp_ge (tgt := 112) E dX10_ball_91 (by decide) (fun hh => absurd hh (by decide)) (fun _ => ?_)
  refine s_aload_n E dX10_ball_94 rfl rfl ?_
  refine s_gR (r := 96) E fg_X10_9 rfl rfl (by decide +kernel) (by decide +kernel) dX10_ball_95 ?_
  refine s_iload_n E dX10_ball_98 rfl rfl ?_
  refine s_aload_n E dX10_ball_99 rfl rfl ?_
  refine s_gR (r := 101) E fg_X10_31 rfl rfl (by decide +kernel) (by decide +kernel) dX10_ball_100 ?_
  refine s_iload_n E dX10_ball_103 rfl rfl ?_
  refine s_iald E rfl (by decide +kernel) (vp_c (by decide)) dX10_ball_104 ?_
  refine s_top (y := 0) (by decide +kernel) ?_
  refine s_iast E rfl (by decide +kernel) (vp_c (by decide)) dX10_ball_105 ?_
  refine s_world (w2 := wb_439) rfl ?_
  refine s_iinc (v := 82) (L2 := [some (AR 95), some (AI 82)]) E dX10_ball_106 rfl (by decide) (by decide) rfl ?_
  refine s_goto (tgt := 87) E dX10_ball_109 (by decide) ?_
  refine s_iload_n E dX10_ball_87 rfl rfl ?_
  refine s_sipush (v := 134) E dX10_ball_88 (by decide) ?_
  refine s_icmp_ge (tgt := 112) E dX10_ball_91 (by decide) (fun hh => absurd hh (by decide)) (fun _ => ?_)
  refine s_aload_n E dX10_ball_94 rfl rfl ?_
  refine s_gR (r := 96) E fg_X10_9 rfl rfl (by decide +kernel) (by decide +kernel) dX10_ball_95 ?_
  refine s_iload_n E dX10_ball_98 rfl rfl ?_
  refine s_aload_n E dX10_ball_99 rfl rfl ?_
  refine s_gR (r := 101) E fg_X10_31 rfl rfl (by decide +kernel) (by decide +kernel) dX10_ball_100 ?_
  refine s_iload_n E dX10_ball_103 rfl rfl ?_
  refine s_iald E rfl (by decide +kernel) (vp_c (by decide)) dX10_ball_104 ?_
  refine s_top (y := 0) (by decide +kernel) ?_
  refine s_iast E rfl (by decide +kernel) (vp_c (by decide)) dX10_ball_105 ?_
  refine s_world (w2 := wb_440) rfl ?_
  refine s_iinc (v := 83) (L2 := [some (AR 95), some (AI 83)]) E dX10_ball_106 rfl (by decide) (by decide) rfl ?_
  refine s_goto (tgt := 87) E dX10_ball_109 (by decide) ?_
  refine s_iload_n E dX10_ball_87 rfl rfl ?_
  refine s_sipush (v := 134) E dX10_ball_88 (by decide) ?_
  refine s_icmp_ge (tgt := 112) E dX10_ball_91 (by decide) (fun hh => absurd hh (by decide)) (fun _ => ?_)
  refine s_aload_n E dX10_ball_94 rfl rfl ?_
  refine s_gR (r := 96) E fg_X10_9 rfl rfl (by decide +kernel) (by decide +kernel) dX10_ball_95 ?_
  refine s_iload_n E dX10_ball_98 rfl rfl ?_
  refine s_aload_n E dX10_ball_99 rfl rfl ?_
  refine s_gR (r := 101) E fg_X10_31 rfl rfl (by decide +kernel) (by decide +kernel) dX10_ball_100 ?_
  refine s_iload_n E dX10_ball_103 rfl rfl ?_
  refine s_iald E rfl (by decide +kernel) (vp_c (by decide)) dX10_ball_104 ?_
  refine s_top (y := 0) (by decide +kernel) ?_
  refine s_iast E rfl (by decide +kernel) (vp_c (by decide)) dX10_ball_105 ?_
  refine s_world (w2 := wb_441) rfl ?_
  refine s_iinc (v := 84) (L2 := [some (AR 95), some (AI 84)]) E dX10_ball_106 rfl (by decide) (by decide) rfl ?_
  refine s_goto (tgt := 87) E dX10_ball_109 (by decide) ?_
  refine s_iload_n E dX10_ball_87 rfl rfl ?_
  refine s_sipush (v := 134) E dX10_ball_88 (by decide) ?_
  refine s_icmp_ge (tgt := 112) E dX10_ball_91 (by decide) (fun hh => absurd hh (by decide)) (fun _ => ?_)
  refine s_aload_n E dX10_ball_94 rfl rfl ?_
  refine s_gR (r := 96) E fg_X10_9 rfl rfl (by decide +kernel) (by decide +kernel) dX10_ball_95 ?_
  refine s_iload_n E dX10_ball_98 rfl rfl ?_
  refine s_aload_n E dX10_ball_99 rfl rfl ?_
  refine s_gR (r := 101) E fg_X10_31 rfl rfl (by decide +kernel) (by decide +kernel) dX10_ball_100 ?_
  refine s_iload_n E dX10_ball_103 rfl rfl ?_
  refine s_iald E rfl (by decide +kernel) (vp_c (by decide)) dX10_ball_104 ?_
  refine s_top (y := 0) (by decide +kernel) ?_
  refine s_iast E rfl (by decide +kernel) (vp_c (by decide)) dX10_ball_105 ?_
  refine s_world (w2 := wb_442) rfl ?_
  refine s_iinc (v := 85) (L2 := [some (AR 95), some (AI 85)]) E dX10_ball_106 rfl (by decide) (by decide) rfl ?_
  refine s_goto (tgt := 87) E dX10_ball_109 (by decide) ?_
  refine s_iload_n E dX10_ball_87 rfl rfl ?_
  refine s_sipush (v := 134) E dX10_ball_88 (by decide) ?_
  refine s_icmp_ge (tgt := 112) E dX10_ball_91 (by decide) (fun hh => absurd hh (by decide)) (fun _ => ?_)
  refine s_aload_n E dX10_ball_94 rfl rfl ?_
  refine s_gR (r := 96) E fg_X10_9 rfl rfl (by decide +kernel) (by decide +kernel) dX10_ball_95 ?_
  refine s_iload_n E dX10_ball_98 rfl rfl ?_
  refine s_aload_n E dX10_ball_99 rfl rfl ?_
  refine s_gR (r := 101) E fg_X10_31 rfl rfl (by decide +kernel) (by decide +kernel) dX10_ball_100 ?_
  refine s_iload_n E dX10_ball_103 rfl rfl ?_
  refine s_iald E rfl (by decide +kernel) (vp_c (by decide)) dX10_ball_104 ?_
  refine s_top (y := 0) (by decide +kernel) ?_
  refine s_iast E rfl (by decide +kernel) (vp_c (by decide)) dX10_ball_105 ?_
  refine s_world (w2 := wb_443) rfl ?_
  refine s_iinc (v := 86) (L2 := [some (AR 95), some (AI 86)]) E dX10_ball_106 rfl (by decide) (by decide) rfl ?_
  refine s_goto (tgt := 87) E dX10_ball_109 (by decide) ?_
  refine s_iload_n E dX10_ball_87 rfl rfl ?_
  refine s_sipush (v := 134) E dX10_ball_88 (by decide) ?_
  refine s_icmp_ge (tgt := 112) E dX10_ball_91 (by decide) (fun hh => absurd hh (by decide)) (fun _ => ?_)
  refine s_aload_n E dX10_ball_94 rfl rfl ?_
  refine s_gR (r := 96) E fg_X10_9 rfl rfl (by decide +kernel) (by decide +kernel) dX10_ball_95 ?_
  refine s_iload_n E dX10_ball_98 rfl rfl ?_
  refine s_aload_n E dX10_ball_99 rfl rfl ?_
  refine s_gR (r := 101) E fg_X10_31 rfl rfl (by decide +kernel) (by decide +kernel) dX10_ball_100 ?_
  refine s_iload_n E dX10_ball_103 rfl rfl ?_
  refine s_iald E rfl (by decide +kernel) (vp_c (by decide)) dX10_ball_104 ?_
  refine s_top (y := 0) (by decide +kernel) ?_
  refine s_iast E rfl (by decide +kernel) (vp_c (by decide)) dX10_ball_105 ?_
  refine s_world (w2 := wb_444) rfl ?_
  refine s_iinc (v := 87) (L2 := [some (AR 95), some (AI 87)]) E dX10_ball_106 rfl (by decide) (by decide) rfl ?_
  refine s_goto (tgt := 87) E dX10_ball_109 (by decide) ?_
  refine s_iload_n E dX10_ball_87 rfl rfl ?_
  refine s_sipush (v := 134) E dX10_ball_88 (by decide) ?_
  refine s_icmp_ge (tgt := 112) E dX10_ball_91 (by decide) (fun hh => absurd hh (by decide)) (fun _ => ?_)
  refine s_aload_n E dX10_ball_94 rfl rfl ?_
  refine s_gR (r := 96) E fg_X10_9 rfl rfl (by decide +kernel) (by decide +kernel) dX10_ball_95 ?_
  refine s_iload_n E dX10_ball_98 rfl rfl ?_
  refine s_aload_n E dX10_ball_99 rfl rfl ?_
  refine s_gR (r := 101) E fg_X10_31 rfl rfl (by decide +kernel) (by decide +kernel) dX10_ball_100 ?_
  refine s_iload_n E dX10_ball_103 rfl rfl ?_
  refine s_iald E rfl (by decide +kernel) (vp_c (by decide)) dX10_ball_104 ?_
  refine s_top (y := 0) (by decide +kernel) ?_
  refine s_iast E rfl (by decide +kernel) (vp_c (by decide)) dX10_ball_105 ?_
  refine s_world (w2 := wb_445) rfl ?_
  refine s_iinc (v := 88) (L2 := [some (AR 95), some (AI 88)]) E dX10_ball_106 rfl (by decide) (by decide) rfl ?_
  refine s_goto (tgt := 87) E dX10_ball_109 (by decide) ?_
  refine s_iload_n E dX10_ball_87 rfl rfl ?_
  refine s_sipush (v := 134) E dX10_ball_88 (by decide) ?_
  refine s_icmp_ge (tgt := 112) E dX10_ball_91 (by decide) (fun hh => absurd hh (by decide)) (fun _ => ?_)
  refine s_aload_n E dX10_ball_94 rfl rfl ?_
  refine s_gR (r := 96) E fg_X10_9 rfl rfl (by decide +kernel) (by decide +kernel) dX10_ball_95 ?_
  refine s_iload_n E dX10_ball_98 rfl rfl ?_
  refine s_aload_n E dX10_ball_99 rfl rfl ?_
  refine s_gR (r := 101) E fg_X10_31 rfl rfl (by decide +kernel) (by decide +kernel) dX10_ball_100 ?_
  refine s_iload_n E dX10_ball_103 rfl rfl ?_
  refine s_iald E rfl (by decide +kernel) (vp_c (by decide)) dX10_ball_104 ?_
  refine s_top (y := 0) (by decide +kernel) ?_
  refine s_iast E rfl (by decide +kernel) (vp_c (by decide)) dX10_ball_105 ?_
  refine s_world (w2 := wb_446) rfl ?_
  refine s_iinc (v := 89) (L2 := [some (AR 95), some (AI 89)]) E dX10_ball_106 rfl (by decide) (by decide) rfl ?_
  refine s_goto (tgt := 87) E dX10_ball_109 (by decide) ?_
  refine s_iload_n E dX10_ball_87 rfl rfl ?_
  refine s_sipush (v := 134) E dX10_ball_88 (by decide) ?_
  refine s_icmp_ge (tgt := 112) E dX10_ball_91 (by decide) (fun hh => absurd hh (by decide)) (fun _ => ?_)
  refine s_aload_n E dX10_ball_94 rfl rfl ?_
  refine s_gR (r := 96) E fg_X10_9 rfl rfl (by decide +kernel) (by decide +kernel) dX10_ball_95 ?_
  refine s_iload_n E dX10_ball_98 rfl rfl ?_
  refine s_aload_n E dX10_ball_99 rfl rfl ?_
  refine s_gR (r := 101) E fg_X10_31 rfl rfl (by decide +kernel) (by decide +kernel) dX10_ball_100 ?_
  refine s_iload_n E dX10_ball_103 rfl rfl ?_
  refine s_iald E rfl (by decide +kernel) (vp_c (by decide)) dX10_ball_104 ?_
  refine s_top (y := 0) (by decide +kernel) ?_
  refine s_iast E rfl (by decide +kernel) (vp_c (by decide)) dX10_ball_105 ?_
  refine s_world (w2 := wb_447) rfl ?_
  refine s_iinc (v := 90) (L2 := [some (AR 95), some (AI 90)]) E dX10_ball_106 rfl (by decide) (by decide) rfl ?_
  refine s_goto (tgt := 87) E dX10_ball_109 (by decide) ?_
  refine s_iload_n E dX10_ball_87 rfl rfl ?_
  refine s_sipush (v := 134) E dX10_ball_88 (by decide) ?_
  refine s_icmp_ge (tgt := 112) E dX10_ball_91 (by decide) (fun hh => absurd hh (by decide)) (fun _ => ?_)
  refine s_aload_n E dX10_ball_94 rfl rfl ?_
  refine s_gR (r := 96) E fg_X10_9 rfl rfl (by decide +kernel) (by decide +kernel) dX10_ball_95 ?_
  refine s_iload_n E dX10_ball_98 rfl rfl ?_
  refine s_aload_n E dX10_ball_99 rfl rfl ?_
  refine s_gR (r := 101) E fg_X10_31 rfl rfl (by decide +kernel) (by decide +kernel) dX10_ball_100 ?_
  refine s_iload_n E dX10_ball_103 rfl rfl ?_
  refine s_iald E rfl (by decide +kernel) (vp_c (by decide)) dX10_ball_104 ?_
  refine s_top (y := 0) (by decide +kernel) ?_
  refine s_iast E rfl (by decide +kernel) (vp_c (by decide)) dX10_ball_105 ?_
  refine s_world (w2 := wb_448) rfl ?_
  refine s_iinc (v := 91) (L2 := [some (AR 95), some (AI 91)]) E dX10_ball_106 rfl (by decide) (by decide) rfl ?_
  refine s_goto (tgt := 87) E dX10_ball_109 (by decide) ?_
  refine s_iload_n E dX10_ball_87 rfl rfl ?_
  refine s_sipush (v := 134) E dX10_ball_88 (by decide) ?_
  refine s_icmp_ge (tgt := 112) E dX10_ball_91 (by decide) (fun hh => absurd hh (by decide)) (fun _ => ?_)
  refine s_aload_n E dX10_ball_94 rfl rfl ?_
  refine s_gR (r := 96) E fg_X10_9 rfl rfl (by decide +kernel) (by decide +kernel) dX10_ball_95 ?_
  refine s_iload_n E dX10_ball_98 rfl rfl ?_
  refine s_aload_n E dX10_ball_99 rfl rfl ?_
  refine s_gR (r := 101) E fg_X10_31 rfl rfl (by decide +kernel) (by decide +kernel) dX10_ball_100 ?_
  refine s_iload_n E dX10_ball_103 rfl rfl ?_
  refine s_iald E rfl (by decide +kernel) (vp_c (by decide)) dX10_ball_104 ?_
  refine s_top (y := 0) (by decide +kernel) ?_
  refine s_iast E rfl (by decide +kernel) (vp_c (by decide)) dX10_ball_105 ?_
  refine s_world (w2 := wb_449) rfl ?_
  refine s_iinc (v := 92) (L2 := [some (AR 95), some (AI 92)]) E dX10_ball_106 rfl (by decide) (by decide) rfl ?_
  refine s_goto (tgt := 87) E dX10_ball_109 (by decide) ?_
  refine s_iload_n E dX10_ball_87 rfl rfl ?_
  refine s_sipush (v := 134) E dX10_ball_88 (by decide) ?_
  refine s_icmp_ge (tgt := 112) E dX10_ball_91 (by decide) (fun hh => absurd hh (by decide)) (fun _ => ?_)
  refine s_aload_n E dX10_ball_94 rfl rfl ?_
  refine s_gR (r := 96) E fg_X10_9 rfl rfl (by decide +kernel) (by decide +kernel) dX10_ball_95 ?_
  refine s_iload_n E dX10_ball_98 rfl rfl ?_
  refine s_aload_n E dX10_ball_99 rfl rfl ?_
  refine s_gR (r := 101) E fg_X10_31 rfl rfl (by decide +kernel) (by decide +kernel) dX10_ball_100 ?_
  refine s_iload_n E dX10_ball_103 rfl rfl ?_
  refine s_iald E rfl (by decide +kernel) (vp_c (by decide)) dX10_ball_104 ?_
  refine s_top (y := 0) (by decide +kernel) ?_
  refine s_iast E rfl (by decide +kernel) (vp_c (by decide)) dX10_ball_105 ?_
  refine s_world (w2 := wb_450) rfl ?_
  refine s_iinc (v := 93) (L2 := [some (AR 95), some (AI 93)]) E dX10_ball_106 rfl (by decide) (by decide) rfl ?_
  refine s_goto (tgt := 87) E dX10_ball_109 (by decide) ?_
  refine s_iload_n E dX10_ball_87 rfl rfl ?_
  refine s_sipush (v := 134) E dX10_ball_88 (by decide) ?_
  refine s_icmp_ge (tgt := 112) E dX10_ball_91 (by decide) (fun hh => absurd hh (by decide)) (fun _ => ?_)
  refine s_aload_n E dX10_ball_94 rfl rfl ?_
  refine s_gR (r := 96) E fg_X10_9 rfl rfl (by decide +kernel) (by decide +kernel) dX10_ball_95 ?_
  refine s_iload_n E dX10_ball_98 rfl rfl ?_
  refine s_aload_n E dX10_ball_99 rfl rfl ?_
  refine s_gR (r := 101) E fg_X10_31 rfl rfl (by decide +kernel) (by decide +kernel) dX10_ball_100 ?_
  refine s_iload_n E dX10_ball_103 rfl rfl ?_
  refine s_iald E rfl (by decide +kernel) (vp_c (by decide)) dX10_ball_104 ?_
  refine s_top (y := 0) (by decide +kernel) ?_
  refine s_iast E rfl (by decide +kernel) (vp_c (by decide)) dX10_ball_105 ?_
  refine s_world (w2 := wb_451) rfl ?_
  refine s_iinc (v := 94) (L2 := [some (AR 95), some (AI 94)]) E dX10_ball_106 rfl (by decide) (by decide) rfl ?_
  refine s_goto (tgt := 87) E dX10_ball_109 (by decide) ?_
  refine s_iload_n E dX10_ball_87 rfl rfl ?_
  refine s_sipush (v := 134) E dX10_ball_88 (by decide) ?_
  refine s_icmp_ge (tgt := 112) E dX10_ball_91 (by decide) (fun hh => absurd hh (by decide)) (fun _ => ?_)
  refine s_aload_n E dX10_ball_94 rfl rfl ?_
  refine s_gR (r := 96) E fg_X10_9 rfl rfl (by decide +kernel) (by decide +kernel) dX10_ball_95 ?_
  refine s_iload_n E dX10_ball_98 rfl rfl ?_
  refine s_aload_n E dX10_ball_99 rfl rfl ?_
  refine s_gR (r := 101) E fg_X10_31 rfl rfl (by decide +kernel) (by decide +kernel) dX10_ball_100 ?_
  refine s_iload_n E dX10_ball_103 rfl rfl ?_
  refine s_iald E rfl (by decide +kernel) (vp_c (by decide)) dX10_ball_104 ?_
  refine s_top (y := 0) (by decide +kernel) ?_
  refine s_iast E rfl (by decide +kernel) (vp_c (by decide)) dX10_ball_105 ?_
  refine s_world (w2 := wb_452) rfl ?_
  refine s_iinc (v := 95) (L2 := [some (AR 95), some (AI 95)]) E dX10_ball_106 rfl (by decide) (by decide) rfl ?_
  refine s_goto (tgt := 87) E dX10_ball_109 (by decide) ?_
  refine s_iload_n E dX10_ball_87 rfl rfl ?_
  refine s_sipush (v := 134) E dX10_ball_88 (by decide) ?_
  refine s_icmp_ge (tgt := 112) E dX10_ball_91 (by decide) (fun hh => absurd hh (by decide)) (fun _ => ?_)
  refine s_aload_n E dX10_ball_94 rfl rfl ?_
  refine s_gR (r := 96) E fg_X10_9 rfl rfl (by decide +kernel) (by decide +kernel) dX10_ball_95 ?_
  refine s_iload_n E dX10_ball_98 rfl rfl ?_
  refine s_aload_n E dX10_ball_99 rfl rfl ?_
  refine s_gR (r := 101) E fg_X10_31 rfl rfl (by decide +kernel) (by decide +kernel) dX10_ball_100 ?_
  refine s_iload_n E dX10_ball_103 rfl rfl ?_
  refine s_iald E rfl (by decide +kernel) (vp_c (by decide)) dX10_ball_104 ?_
  refine s_top (y := 0) (by decide +kernel) ?_
  refine s_iast E rfl (by decide +kernel) (vp_c (by decide)) dX10_ball_105 ?_
  refine s_world (w2 := wb_453) rfl ?_
  refine s_iinc (v := 96) (L2 := [some (AR 95), some (AI 96)]) E dX10_ball_106 rfl (by decide) (by decide) rfl ?_
  refine s_goto (tgt := 87) E dX10_ball_109 (by decide) ?_
  refine s_iload_n E dX10_ball_87 rfl rfl ?_
  refine s_sipush (v := 134) E dX10_ball_88 (by decide) ?_
  refine s_icmp_ge (tgt := 112) E dX10_ball_91 (by decide) (fun hh => absurd hh (by decide)) (fun _ => ?_)
  refine s_aload_n E dX10_ball_94 rfl rfl ?_
  refine s_gR (r := 96) E fg_X10_9 rfl rfl (by decide +kernel) (by decide +kernel) dX10_ball_95 ?_
  refine s_iload_n E dX10_ball_98 rfl rfl ?_
  refine s_aload_n E dX10_ball_99 rfl rfl ?_
  refine s_gR (r := 101) E fg_X10_31 rfl rfl (by decide +kernel) (by decide +kernel) dX10_ball_100 ?_
  refine s_iload_n E dX10_ball_103 rfl rfl ?_
  refine s_iald E rfl (by decide +kernel) (vp_c (by decide)) dX10_ball_104 ?_
  refine s_top (y := 0) (by decide +kernel) ?_
  refine s_iast E rfl (by decide +kernel) (vp_c (by decide)) dX10_ball_105 ?_
  refine s_world (w2 := wb_454) rfl ?_
  refine s_iinc (v := 97) (L2 := [some (AR 95), some (AI 97)]) E dX10_ball_106 rfl (by decide) (by decide) rfl ?_
  refine s_goto (tgt := 87) E dX10_ball_109 (by decide) ?_
  refine s_iload_n E dX10_ball_87 rfl rfl ?_
  refine s_sipush (v := 134) E dX10_ball_88 (by decide) ?_
  refine s_icmp_ge (tgt := 112) E dX10_ball_91 (by decide) (fun hh => absurd hh (by decide)) (fun _ => ?_)
  refine s_aload_n E dX10_ball_94 rfl rfl ?_
  refine s_gR (r := 96) E fg_X10_9 rfl rfl (by decide +kernel) (by decide +kernel) dX10_ball_95 ?_
  refine s_iload_n E dX10_ball_98 rfl rfl ?_
  refine s_aload_n E dX10_ball_99 rfl rfl ?_
  refine s_gR (r := 101) E fg_X10_31 rfl rfl (by decide +kernel) (by decide +kernel) dX10_ball_100 ?_
  refine s_iload_n E dX10_ball_103 rfl rfl ?_
  refine s_iald E rfl (by decide +kernel) (vp_c (by decide)) dX10_ball_104 ?_
  refine s_top (y := 0) (by decide +kernel) ?_
  refine s_iast E rfl (by decide +kernel) (vp_c (by decide)) dX10_ball_105 ?_
  refine s_world (w2 := wb_455) rfl ?_
  refine s_iinc (v := 98) (L2 := [some (AR 95), some (AI 98)]) E dX10_ball_106 rfl (by decide) (by decide) rfl ?_
  refine s_goto (tgt := 87) E dX10_ball_109 (by decide) ?_
  refine s_iload_n E dX10_ball_87 rfl rfl ?_
  refine s_sipush (v := 134) E dX10_ball_88 (by decide) ?_
  refine s_icmp_ge (tgt := 112) E dX10_ball_91 (by decide) (fun hh => absurd hh (by decide)) (fun _ => ?_)
  refine s_aload_n E dX10_ball_94 rfl rfl ?_
  refine s_gR (r := 96) E fg_X10_9 rfl rfl (by decide +kernel) (by decide +kernel) dX10_ball_95 ?_
  refine s_iload_n E dX10_ball_98 rfl rfl ?_
  refine s_aload_n E dX10_ball_99 rfl rfl ?_
  refine s_gR (r := 101) E fg_X10_31 rfl rfl (by decide +kernel) (by decide +kernel) dX10_ball_100 ?_
  refine s_iload_n E dX10_ball_103 rfl rfl ?_
  refine s_iald E rfl (by decide +kernel) (vp_c (by decide)) dX10_ball_104 ?_
  refine s_top (y := 0) (by decide +kernel) ?_
  refine s_iast E rfl (by decide +kernel) (vp_c (by decide)) dX10_ball_105 ?_
  refine s_world (w2 := wb_456) rfl ?_
  refine s_iinc (v := 99) (L2 := [some (AR 95), some (AI 99)]) E dX10_ball_106 rfl (by decide) (by decide) rfl ?_
  refine s_goto (tgt := 87) E dX10_ball_109 (by decide) ?_
  refine s_iload_n E dX10_ball_87 rfl rfl ?_
  refine s_sipush (v := 134) E dX10_ball_88 (by decide) ?_
  refine s_icmp_ge (tgt := 112) E dX10_ball_91 (by decide) (fun hh => absurd hh (by decide)) (fun _ => ?_)
  refine s_aload_n E dX10_ball_94 rfl rfl ?_
  refine s_gR (r := 96) E fg_X10_9 rfl rfl (by decide +kernel) (by decide +kernel) dX10_ball_95 ?_
  refine s_iload_n E dX10_ball_98 rfl rfl ?_
  refine s_aload_n E dX10_ball_99 rfl rfl ?_
  refine s_gR (r := 101) E fg_X10_31 rfl rfl (by decide +kernel) (by decide +kernel) dX10_ball_100 ?_
  refine s_iload_n E dX10_ball_103 rfl rfl ?_
  refine s_iald E rfl (by decide +kernel) (vp_c (by decide)) dX10_ball_104 ?_
  refine s_top (y := 0) (by decide +kernel) ?_
  refine s_iast E rfl (by decide +kernel) (vp_c (by decide)) dX10_ball_105 ?_
  refine s_world (w2 := wb_457) rfl ?_
  refine s_iinc (v := 100) (L2 := [some (AR 95), some (AI 100)]) E dX10_ball_106 rfl (by decide) (by decide) rfl ?_
  refine s_goto (tgt := 87) E dX10_ball_109 (by decide) ?_
  refine s_iload_n E dX10_ball_87 rfl rfl ?_
  refine s_sipush (v := 134) E dX10_ball_88 (by decide) ?_
  refine s_icmp_ge (tgt := 112) E dX10_ball_91 (by decide) (fun hh => absurd hh (by decide)) (fun _ => ?_)
  refine s_aload_n E dX10_ball_94 rfl rfl ?_
  refine s_gR (r := 96) E fg_X10_9 rfl rfl (by decide +kernel) (by decide +kernel) dX10_ball_95 ?_
  refine s_iload_n E dX10_ball_98 rfl rfl ?_
  refine s_aload_n E dX10_ball_99 rfl rfl ?_
  refine s_gR (r := 101) E fg_X10_31 rfl rfl (by decide +kernel) (by decide +kernel) dX10_ball_100 ?_
  refine s_iload_n E dX10_ball_103 rfl rfl ?_
  refine s_iald E rfl (by decide +kernel) (vp_c (by decide)) dX10_ball_104 ?_
  refine s_top (y := 0) (by decide +kernel) ?_
  refine s_iast E rfl (by decide +kernel) (vp_c (by decide)) dX10_ball_105 ?_
  refine s_world (w2 := wb_458) rfl ?_
  refine s_iinc (v := 101) (L2 := [some (AR 95), some (AI 101)]) E dX10_ball_106 rfl (by decide) (by decide) rfl ?_
  refine s_goto (tgt := 87) E dX10_ball_109 (by decide) ?_
  refine s_iload_n E dX10_ball_87 rfl rfl ?_
  refine s_sipush (v := 134) E dX10_ball_88 (by decide) ?_
  refine s_icmp_ge (tgt := 112) E dX10_ball_91 (by decide) (fun hh => absurd hh (by decide)) (fun _ => ?_)
  refine s_aload_n E dX10_ball_94 rfl rfl ?_
  refine s_gR (r := 96) E fg_X10_9 rfl rfl (by decide +kernel) (by decide +kernel) dX10_ball_95 ?_
  refine s_iload_n E dX10_ball_98 rfl rfl ?_
  refine s_aload_n E dX10_ball_99 rfl rfl ?_
  refine s_gR (r := 101) E fg_X10_31 rfl rfl (by decide +kernel) (by decide +kernel) dX10_ball_100 ?_
  refine s_iload_n E dX10_ball_103 rfl rfl ?_
  refine s_iald E rfl (by decide +kernel) (vp_c (by decide)) dX10_ball_104 ?_
  refine s_top (y := 0) (by decide +kernel) ?_
  refine s_iast E rfl (by decide +kernel) (vp_c (by decide)) dX10_ball_105 ?_
  refine s_world (w2 := wb_459) rfl ?_
  refine s_iinc (v := 102) (L2 := [some (AR 95), some (AI 102)]) E dX10_ball_106 rfl (by decide) (by decide) rfl ?_
  refine s_goto (tgt := 87) E dX10_ball_109 (by decide) ?_
  refine s_iload_n E dX10_ball_87 rfl rfl ?_
  refine s_sipush (v := 134) E dX10_ball_88 (by decide) ?_
  refine s_icmp_ge (tgt := 112) E dX10_ball_91 (by decide) (fun hh => absurd hh (by decide)) (fun _ => ?_)
  refine s_aload_n E dX10_ball_94 rfl rfl ?_
  refine s_gR (r := 96) E fg_X10_9 rfl rfl (by decide +kernel) (by decide +kernel) dX10_ball_95 ?_
  refine s_iload_n E dX10_ball_98 rfl rfl ?_
  refine s_aload_n E dX10_ball_99 rfl rfl ?_
  refine s_gR (r := 101) E fg_X10_31 rfl rfl (by decide +kernel) (by decide +kernel) dX10_ball_100 ?_
  refine s_iload_n E dX10_ball_103 rfl rfl ?_
  refine s_iald E rfl (by decide +kernel) (vp_c (by decide)) dX10_ball_104 ?_
  refine s_top (y := 0) (by decide +kernel) ?_
  refine s_iast E rfl (by decide +kernel) (vp_c (by decide)) dX10_ball_105 ?_
  refine s_world (w2 := wb_460) rfl ?_
  refine s_iinc (v := 103) (L2 := [some (AR 95), some (AI 103)]) E dX10_ball_106 rfl (by decide) (by decide) rfl ?_
  refine s_goto (tgt := 87) E dX10_ball_109 (by decide) ?_
  refine s_iload_n E dX10_ball_87 rfl rfl ?_
  refine s_sipush (v := 134) E dX10_ball_88 (by decide) ?_
  refine s_icmp_ge (tgt := 112) E dX10_ball_91 (by decide) (fun hh => absurd hh (by decide)) (fun _ => ?_)
  refine s_aload_n E dX10_ball_94 rfl rfl ?_
  refine s_gR (r := 96) E fg_X10_9 rfl rfl (by decide +kernel) (by decide +kernel) dX10_ball_95 ?_
  refine s_iload_n E dX10_ball_98 rfl rfl ?_
  refine s_aload_n E dX10_ball_99 rfl rfl ?_
  refine s_gR (r := 101) E fg_X10_31 rfl rfl (by decide +kernel) (by decide +kernel) dX10_ball_100 ?_
  refine s_iload_n E dX10_ball_103 rfl rfl ?_
  refine s_iald E rfl (by decide +kernel) (vp_c (by decide)) dX10_ball_104 ?_
  refine s_top (y := 0) (by decide +kernel) ?_
  refine s_iast E rfl (by decide +kernel) (vp_c (by decide)) dX10_ball_105 ?_
  refine s_world (w2 := wb_461) rfl ?_
  refine s_iinc (v := 104) (L2 := [some (AR 95), some (AI 104)]) E dX10_ball_106 rfl (by decide) (by decide) rfl ?_
  refine s_goto (tgt := 87) E dX10_ball_109 (by decide) ?_
  refine s_iload_n E dX10_ball_87 rfl rfl ?_
  refine s_sipush (v := 134) E dX10_ball_88 (by decide) ?_
  refine s_icmp_ge (tgt := 112) E dX10_ball_91 (by decide) (fun hh => absurd hh (by decide)) (fun _ => ?_)
  refine s_aload_n E dX10_ball_94 rfl rfl ?_
  refine s_gR (r := 96) E fg_X10_9 rfl rfl (by decide +kernel) (by decide +kernel) dX10_ball_95 ?_
  refine s_iload_n E dX10_ball_98 rfl rfl ?_
  refine s_aload_n E dX10_ball_99 rfl rfl ?_
  refine s_gR (r := 101) E fg_X10_31 rfl rfl (by decide +kernel) (by decide +kernel) dX10_ball_100 ?_
  refine s_iload_n E dX10_ball_103 rfl rfl ?_
  refine s_iald E rfl (by decide +kernel) (vp_c (by decide)) dX10_ball_104 ?_
  refine s_top (y := 0) (by decide +kernel) ?_
  refine s_iast E rfl (by decide +kernel) (vp_c (by decide)) dX10_ball_105 ?_
  refine s_world (w2 := wb_462) rfl ?_
  refine s_iinc (v := 105) (L2 := [some (AR 95), some (AI 105)]) E dX10_ball_106 rfl (by decide) (by decide) rfl ?_
  refine s_goto (tgt := 87) E dX10_ball_109 (by decide) ?_
  refine s_iload_n E dX10_ball_87 rfl rfl ?_
  refine s_sipush (v := 134) E dX10_ball_88 (by decide) ?_
  refine s_icmp_ge (tgt := 112) E dX10_ball_91 (by decide) (fun hh => absurd hh (by decide)) (fun _ => ?_)
  refine s_aload_n E dX10_ball_94 rfl rfl ?_
  refine s_gR (r := 96) E fg_X10_9 rfl rfl (by decide +kernel) (by decide +kernel) dX10_ball_95 ?_
  refine s_iload_n E dX10_ball_98 rfl rfl ?_
  refine s_aload_n E dX10_ball_99 rfl rfl ?_
  refine s_gR (r := 101) E fg_X10_31 rfl rfl (by decide +kernel) (by decide +kernel) dX10_ball_100 ?_
  refine s_iload_n E dX10_ball_103 rfl rfl ?_
  refine s_iald E rfl (by decide +kernel) (vp_c (by decide)) dX10_ball_104 ?_
  refine s_top (y := 0) (by decide +kernel) ?_
  refine s_iast E rfl (by decide +kernel) (vp_c (by decide)) dX10_ball_105 ?_
  refine s_world (w2 := wb_463) rfl ?_
  refine s_iinc (v := 106) (L2 := [some (AR 95), some (AI 106)]) E dX10_ball_106 rfl (by decide) (by decide) rfl ?_
  refine s_goto (tgt := 87) E dX10_ball_109 (by decide) ?_
  refine s_iload_n E dX10_ball_87 rfl rfl ?_
  refine s_sipush (v := 134) E dX10_ball_88 (by decide) ?_
  refine s_icmp_ge (tgt := 112) E dX10_ball_91 (by decide) (fun hh => absurd hh (by decide)) (fun _ => ?_)
  refine s_aload_n E dX10_ball_94 rfl rfl ?_
  refine s_gR (r := 96) E fg_X10_9 rfl rfl (by decide +kernel) (by decide +kernel) dX10_ball_95 ?_
  refine s_iload_n E dX10_ball_98 rfl rfl ?_
  refine s_aload_n E dX10_ball_99 rfl rfl ?_
  refine s_gR (r := 101) E fg_X10_31 rfl rfl (by decide +kernel) (by decide +kernel) dX10_ball_100 ?_
  refine s_iload_n E dX10_ball_103 rfl rfl ?_
  refine s_iald E rfl (by decide +kernel) (vp_c (by decide)) dX10_ball_104 ?_
  refine s_top (y := 0) (by decide +kernel) ?_
  refine s_iast E rfl (by decide +kernel) (vp_c (by decide)) dX10_ball_105 ?_
  refine s_world (w2 := wb_464) rfl ?_
  refine s_iinc (v := 107) (L2 := [some (AR 95), some (AI 107)]) E dX10_ball_106 rfl (by decide) (by decide) rfl ?_
  refine s_goto (tgt := 87) E dX10_ball_109 (by decide) ?_
  refine s_iload_n E dX10_ball_87 rfl rfl ?_
  refine s_sipush (v := 134) E dX10_ball_88 (by decide) ?_
  refine s_icmp_ge (tgt := 112) E dX10_ball_91 (by decide) (fun hh => absurd hh (by decide)) (fun _ => ?_)
  refine s_aload_n E dX10_ball_94 rfl rfl ?_
  refine s_gR (r := 96) E fg_X10_9 rfl rfl (by decide +kernel) (by decide +kernel) dX10_ball_95 ?_
  refine s_iload_n E dX10_ball_98 rfl rfl ?_
  refine s_aload_n E dX10_ball_99 rfl rfl ?_
  refine s_gR (r := 101) E fg_X10_31 rfl rfl (by decide +kernel) (by decide +kernel) dX10_ball_100 ?_
  refine s_iload_n E dX10_ball_103 rfl rfl ?_
  refine s_iald E rfl (by decide +kernel) (vp_c (by decide)) dX10_ball_104 ?_
  refine s_top (y := 0) (by decide +kernel) ?_
  refine s_iast E rfl (by decide +kernel) (vp_c (by decide)) dX10_ball_105 ?_
  refine s_world (w2 := wb_465) rfl ?_
  refine s_iinc (v := 108) (L2 := [some (AR 95), some (AI 108)]) E dX10_ball_106 rfl (by decide) (by decide) rfl ?_
  refine s_goto (tgt := 87) E dX10_ball_109 (by decide) ?_
  refine s_iload_n E dX10_ball_87 rfl rfl ?_
  refine s_sipush (v := 134) E dX10_ball_88 (by decide) ?_
  refine s_icmp_ge (tgt := 112) E dX10_ball_91 (by decide) (fun hh => absurd hh (by decide)) (fun _ => ?_)
  refine s_aload_n E dX10_ball_94 rfl rfl ?_
  refine s_gR (r := 96) E fg_X10_9 rfl rfl (by decide +kernel) (by decide +kernel) dX10_ball_95 ?_
  refine s_iload_n E dX10_ball_98 rfl rfl ?_
  refine s_aload_n E dX10_ball_99 rfl rfl ?_
  refine s_gR (r := 101) E fg_X10_31 rfl rfl (by decide +kernel) (by decide +kernel) dX10_ball_100 ?_
  refine s_iload_n E dX10_ball_103 rfl rfl ?_
  refine s_iald E rfl (by decide +kernel) (vp_c (by decide)) dX10_ball_104 ?_
  refine s_top (y := 0) (by decide +kernel) ?_
  refine s_iast E rfl (by decide +kernel) (vp_c (by decide)) dX10_ball_105 ?_
  refine s_world (w2 := wb_466) rfl ?_
  refine s_iinc (v := 109) (L2 := [some (AR 95), some (AI 109)]) E dX10_ball_106 rfl (by decide) (by decide) rfl ?_
  refine s_goto (tgt := 87) E dX10_ball_109 (by decide) ?_
  refine s_iload_n E dX10_ball_87 rfl rfl ?_
  refine s_sipush (v := 134) E dX10_ball_88 (by decide) ?_
  refine s_icmp_ge (tgt := 112) E dX10_ball_91 (by decide) (fun hh => absurd hh (by decide)) (fun _ => ?_)
  refine s_aload_n E dX10_ball_94 rfl rfl ?_
  refine s_gR (r := 96) E fg_X10_9 rfl rfl (by decide +kernel) (by decide +kernel) dX10_ball_95 ?_
  refine s_iload_n E dX10_ball_98 rfl rfl ?_
  refine s_aload_n E dX10_ball_99 rfl rfl ?_
  refine s_gR (r := 101) E fg_X10_31 rfl rfl (by decide +kernel) (by decide +kernel) dX10_ball_100 ?_
  refine s_iload_n E dX10_ball_103 rfl rfl ?_
  refine s_iald E rfl (by decide +kernel) (vp_c (by decide)) dX10_ball_104 ?_
  refine s_top (y := 0) (by decide +kernel) ?_
  refine s_iast E rfl (by decide +kernel) (vp_c (by decide)) dX10_ball_105 ?_
  refine s_world (w2 := wb_467) rfl ?_
  refine s_iinc (v := 110) (L2 := [some (AR 95), some (AI 110)]) E dX10_ball_106 rfl (by decide) (by decide) rfl ?_
  refine s_goto (tgt := 87) E dX10_ball_109 (by decide) ?_
  refine s_iload_n E dX10_ball_87 rfl rfl ?_
  refine s_sipush (v := 134) E dX10_ball_88 (by decide) ?_
  refine s_icmp_ge (tgt := 112) E dX10_ball_91 (by decide) (fun hh => absurd hh (by decide)) (fun _ => ?_)
  refine s_aload_n E dX10_ball_94 rfl rfl ?_
  refine s_gR (r := 96) E fg_X10_9 rfl rfl (by decide +kernel) (by decide +kernel) dX10_ball_95 ?_
  refine s_iload_n E dX10_ball_98 rfl rfl ?_
  refine s_aload_n E dX10_ball_99 rfl rfl ?_
  refine s_gR (r := 101) E fg_X10_31 rfl rfl (by decide +kernel) (by decide +kernel) dX10_ball_100 ?_
  refine s_iload_n E dX10_ball_103 rfl rfl ?_
  refine s_iald E rfl (by decide +kernel) (vp_c (by decide)) dX10_ball_104 ?_
  refine s_top (y := 0) (by decide +kernel) ?_
  refine s_iast E rfl (by decide +kernel) (vp_c (by decide)) dX10_ball_105 ?_
  refine s_world (w2 := wb_468) rfl ?_
  refine s_iinc (v := 111) (L2 := [some (AR 95), some (AI 111)]) E dX10_ball_106 rfl (by decide) (by decide) rfl ?_
  refine s_goto (tgt := 87) E dX10_ball_109 (by decide) ?_
  refine s_iload_n E dX10_ball_87 rfl rfl ?_
  refine s_sipush (v := 134) E dX10_ball_88 (by decide) ?_
  refine s_icmp_ge (tgt := 112) E dX10_ball_91 (by decide) (fun hh => absurd hh (by decide)) (fun _ => ?_)
  refine s_aload_n E dX10_ball_94 rfl rfl ?_
  refine s_gR (r := 96) E fg_X10_9 rfl rfl (by decide +kernel) (by decide +kernel) dX10_ball_95 ?_
  refine s_iload_n E dX10_ball_98 rfl rfl ?_
  refine s_aload_n E dX10_ball_99 rfl rfl ?_
  refine s_gR (r := 101) E fg_X10_31 rfl rfl (by decide +kernel) (by decide +kernel) dX10_ball_100 ?_
  refine s_iload_n E dX10_ball_103 rfl rfl ?_
  refine s_iald E rfl (by decide +kernel) (vp_c (by decide)) dX10_ball_104 ?_
  refine s_top (y := 0) (by decide +kernel) ?_
  refine s_iast E rfl (by decide +kernel) (vp_c (by decide)) dX10_ball_105 ?_
  refine s_world (w2 := wb_469) rfl ?_
  refine s_iinc (v := 112) (L2 := [some (AR 95), some (AI 112)]) E dX10_ball_106 rfl (by decide) (by decide) rfl ?_
  refine s_goto (tgt := 87) E dX10_ball_109 (by decide) ?_
  refine s_iload_n E dX10_ball_87 rfl rfl ?_
  refine s_sipush (v := 134) E dX10_ball_88 (by decide) ?_
  refine s_icmp_ge (tgt := 112) E dX10_ball_91 (by decide) (fun hh => absurd hh (by decide)) (fun _ => ?_)
  refine s_aload_n E dX10_ball_94 rfl rfl ?_
  refine s_gR (r := 96) E fg_X10_9 rfl rfl (by decide +kernel) (by decide +kernel) dX10_ball_95 ?_
  refine s_iload_n E dX10_ball_98 rfl rfl ?_
  refine s_aload_n E dX10_ball_99 rfl rfl ?_
  refine s_gR (r := 101) E fg_X10_31 rfl rfl (by decide +kernel) (by decide +kernel) dX10_ball_100 ?_
  refine s_iload_n E dX10_ball_103 rfl rfl ?_
  refine s_iald E rfl (by decide +kernel) (vp_c (by decide)) dX10_ball_104 ?_
  refine s_top (y := 0) (by decide +kernel) ?_
  refine s_iast E rfl (by decide +kernel) (vp_c (by decide)) dX10_ball_105 ?_
  refine s_world (w2 := wb_470) rfl ?_
  refine s_iinc (v := 113) (L2 := [some (AR 95), some (AI 113)]) E dX10_ball_106 rfl (by decide) (by decide) rfl ?_
  refine s_goto (tgt := 87) E dX10_ball_109 (by decide) ?_
  refine s_iload_n E dX10_ball_87 rfl rfl ?_
  refine s_sipush (v := 134) E dX10_ball_88 (by decide) ?_
  refine s_icmp_ge (tgt := 112) E dX10_ball_91 (by decide) (fun hh => absurd hh (by decide)) (fun _ => ?_)
  refine s_aload_n E dX10_ball_94 rfl rfl ?_
  refine s_gR (r := 96) E fg_X10_9 rfl rfl (by decide +kernel) (by decide +kernel) dX10_ball_95 ?_
  refine s_iload_n E dX10_ball_98 rfl rfl ?_
  refine s_aload_n E dX10_ball_99 rfl rfl ?_
  refine s_gR (r := 101) E fg_X10_31 rfl rfl (by decide +kernel) (by decide +kernel) dX10_ball_100 ?_
  refine s_iload_n E dX10_ball_103 rfl rfl ?_
  refine s_iald E rfl (by decide +kernel) (vp_c (by decide)) dX10_ball_104 ?_
  refine s_top (y := 0) (by decide +kernel) ?_
  refine s_iast E rfl (by decide +kernel) (vp_c (by decide)) dX10_ball_105 ?_
  refine s_world (w2 := wb_471) rfl ?_
  refine s_iinc (v := 114) (L2 := [some (AR 95), some (AI 114)]) E dX10_ball_106 rfl (by decide) (by decide) rfl ?_
  refine s_goto (tgt := 87) E dX10_ball_109 (by decide) ?_
  refine s_iload_n E dX10_ball_87 rfl rfl ?_
  refine s_sipush (v := 134) E dX10_ball_88 (by decide) ?_
  refine s_icmp_ge (tgt := 112) E dX10_ball_91 (by decide) (fun hh => absurd hh (by decide)) (fun _ => ?_)
  refine s_aload_n E dX10_ball_94 rfl rfl ?_
  refine s_gR (r := 96) E fg_X10_9 rfl rfl (by decide +kernel) (by decide +kernel) dX10_ball_95 ?_
  refine s_iload_n E dX10_ball_98 rfl rfl ?_
  refine s_aload_n E dX10_ball_99 rfl rfl ?_
  refine s_gR (r := 101) E fg_X10_31 rfl rfl (by decide +kernel) (by decide +kernel) dX10_ball_100 ?_
  refine s_iload_n E dX10_ball_103 rfl rfl ?_
  refine s_iald E rfl (by decide +kernel) (vp_c (by decide)) dX10_ball_104 ?_
  refine s_top (y := 0) (by decide +kernel) ?_
  refine s_iast E rfl (by decide +kernel) (vp_c (by decide)) dX10_ball_105 ?_
  refine s_world (w2 := wb_472) rfl ?_
  refine s_iinc (v := 115) (L2 := [some (AR 95), some (AI 115)]) E dX10_ball_106 rfl (by decide) (by decide) rfl ?_
  refine s_goto (tgt := 87) E dX10_ball_109 (by decide) ?_
  refine s_iload_n E dX10_ball_87 rfl rfl ?_
  refine s_sipush (v := 134) E dX10_ball_88 (by decide) ?_
  refine s_icmp_ge (tgt := 112) E dX10_ball_91 (by decide) (fun hh => absurd hh (by decide)) (fun _ => ?_)
  refine s_aload_n E dX10_ball_94 rfl rfl ?_
  refine s_gR (r := 96) E fg_X10_9 rfl rfl (by decide +kernel) (by decide +kernel) dX10_ball_95 ?_
  refine s_iload_n E dX10_ball_98 rfl rfl ?_
  refine s_aload_n E dX10_ball_99 rfl rfl ?_
  refine s_gR (r := 101) E fg_X10_31 rfl rfl (by decide +kernel) (by decide +kernel) dX10_ball_100 ?_
  refine s_iload_n E dX10_ball_103 rfl rfl ?_
  refine s_iald E rfl (by decide +kernel) (vp_c (by decide)) dX10_ball_104 ?_
  refine s_top (y := 0) (by decide +kernel) ?_
  refine s_iast E rfl (by decide +kernel) (vp_c (by decide)) dX10_ball_105 ?_
  refine s_world (w2 := wb_473) rfl ?_
  refine s_iinc (v := 116) (L2 := [some (AR 95), some (AI 116)]) E dX10_ball_106 rfl (by decide) (by decide) rfl ?_
  refine s_goto (tgt := 87) E dX10_ball_109 (by decide) ?_
  refine s_iload_n E dX10_ball_87 rfl rfl ?_
  refine s_sipush (v := 134) E dX10_ball_88 (by decide) ?_
  refine s_icmp_ge (tgt := 112) E dX10_ball_91 (by decide) (fun hh => absurd hh (by decide)) (fun _ => ?_)
  refine s_aload_n E dX10_ball_94 rfl rfl ?_
  refine s_gR (r := 96) E fg_X10_9 rfl rfl (by decide +kernel) (by decide +kernel) dX10_ball_95 ?_
  refine s_iload_n E dX10_ball_98 rfl rfl ?_
  refine s_aload_n E dX10_ball_99 rfl rfl ?_
  refine s_gR (r := 101) E fg_X10_31 rfl rfl (by decide +kernel) (by decide +kernel) dX10_ball_100 ?_
  refine s_iload_n E dX10_ball_103 rfl rfl ?_
  refine s_iald E rfl (by decide +kernel) (vp_c (by decide)) dX10_ball_104 ?_
  refine s_top (y := 0) (by decide +kernel) ?_
  refine s_iast E rfl (by decide +kernel) (vp_c (by decide)) dX10_ball_105 ?_
  refine s_world (w2 := wb_474) rfl ?_
  refine s_iinc (v := 117) (L2 := [some (AR 95), some (AI 117)]) E dX10_ball_106 rfl (by decide) (by decide) rfl ?_
  refine s_goto (tgt := 87) E dX10_ball_109 (by decide) ?_
  refine s_iload_n E dX10_ball_87 rfl rfl ?_
  refine s_sipush (v := 134) E dX10_ball_88 (by decide) ?_
  refine s_icmp_ge (tgt := 112) E dX10_ball_91 (by decide) (fun hh => absurd hh (by decide)) (fun _ => ?_)
  refine s_aload_n E dX10_ball_94 rfl rfl ?_
  refine s_gR (r := 96) E fg_X10_9 rfl rfl (by decide +kernel) (by decide +kernel) dX10_ball_95 ?_
  refine s_iload_n E dX10_ball_98 rfl rfl ?_
  refine s_aload_n E dX10_ball_99 rfl rfl ?_
  refine s_gR (r := 101) E fg_X10_31 rfl rfl (by decide +kernel) (by decide +kernel) dX10_ball_100 ?_
  refine s_iload_n E dX10_ball_103 rfl rfl ?_
  refine s_iald E rfl (by decide +kernel) (vp_c (by decide)) dX10_ball_104 ?_
  refine s_top (y := 0) (by decide +kernel) ?_
  refine s_iast E rfl (by decide +kernel) (vp_c (by decide)) dX10_ball_105 ?_
  refine s_world (w2 := wb_475) rfl ?_
  refine s_iinc (v := 118) (L2 := [some (AR 95), some (AI 118)]) E dX10_ball_106 rfl (by decide) (by decide) rfl ?_
  refine s_goto (tgt := 87) E dX10_ball_109 (by decide) ?_
  refine s_iload_n E dX10_ball_87 rfl rfl ?_
  refine s_sipush (v := 134) E dX10_ball_88 (by decide) ?_
  refine s_icmp_ge (tgt := 112) E dX10_ball_91 (by decide) (fun hh => absurd hh (by decide)) (fun _ => ?_)
  refine s_aload_n E dX10_ball_94 rfl rfl ?_
  refine s_gR (r := 96) E fg_X10_9 rfl rfl (by decide +kernel) (by decide +kernel) dX10_ball_95 ?_
  refine s_iload_n E dX10_ball_98 rfl rfl ?_
  refine s_aload_n E dX10_ball_99 rfl rfl ?_
  refine s_gR (r := 101) E fg_X10_31 rfl rfl (by decide +kernel) (by decide +kernel) dX10_ball_100 ?_
  refine s_iload_n E dX10_ball_103 rfl rfl ?_
  refine s_iald E rfl (by decide +kernel) (vp_c (by decide)) dX10_ball_104 ?_
  refine s_top (y := 0) (by decide +kernel) ?_
  refine s_iast E rfl (by decide +kernel) (vp_c (by decide)) dX10_ball_105 ?_
  refine s_world (w2 := wb_476) rfl ?_
  refine s_iinc (v := 119) (L2 := [some (AR 95), some (AI 119)]) E dX10_ball_106 rfl (by decide) (by decide) rfl ?_
  refine s_goto (tgt := 87) E dX10_ball_109 (by decide) ?_
  refine s_iload_n E dX10_ball_87 rfl rfl ?_
  refine s_sipush (v := 134) E dX10_ball_88 (by decide) ?_
  refine s_icmp_ge (tgt := 112) E dX10_ball_91 (by decide) (fun hh => absurd hh (by decide)) (fun _ => ?_)
  refine s_aload_n E dX10_ball_94 rfl rfl ?_
  refine s_gR (r := 96) E fg_X10_9 rfl rfl (by decide +kernel) (by decide +kernel) dX10_ball_95 ?_
  refine s_iload_n E dX10_ball_98 rfl rfl ?_
  refine s_aload_n E dX10_ball_99 rfl rfl ?_
  refine s_gR (r := 101) E fg_X10_31 rfl rfl (by decide +kernel) (by decide +kernel) dX10_ball_100 ?_
  refine s_iload_n E dX10_ball_103 rfl rfl ?_
  refine s_iald E rfl (by decide +kernel) (vp_c (by decide)) dX10_ball_104 ?_
  refine s_top (y := 0) (by decide +kernel) ?_
  refine s_iast E rfl (by decide +kernel) (vp_c (by decide)) dX10_ball_105 ?_
  refine s_world (w2 := wb_477) rfl ?_
  refine s_iinc (v := 120) (L2 := [some (AR 95), some (AI 120)]) E dX10_ball_106 rfl (by decide) (by decide) rfl ?_
  refine s_goto (tgt := 87) E dX10_ball_109 (by decide) ?_
  refine s_iload_n E dX10_ball_87 rfl rfl ?_
  refine s_sipush (v := 134) E dX10_ball_88 (by decide) ?_
  refine s_icmp_ge (tgt := 112) E dX10_ball_91 (by decide) (fun hh => absurd hh (by decide)) (fun _ => ?_)
  refine s_aload_n E dX10_ball_94 rfl rfl ?_
  refine s_gR (r := 96) E fg_X10_9 rfl rfl (by decide +kernel) (by decide +kernel) dX10_ball_95 ?_
  refine s_iload_n E dX10_ball_98 rfl rfl ?_
  refine s_aload_n E dX10_ball_99 rfl rfl ?_
  refine s_gR (r := 101) E fg_X10_31 rfl rfl (by decide +kernel) (by decide +kernel) dX10_ball_100 ?_
  refine s_iload_n E dX10_ball_103 rfl rfl ?_
  refine s_iald E rfl (by decide +kernel) (vp_c (by decide)) dX10_ball_104 ?_
  refine s_top (y := 0) (by decide +kernel) ?_
  refine s_iast E rfl (by decide +kernel) (vp_c (by decide)) dX10_ball_105 ?_
  refine s_world (w2 := wb_478) rfl ?_
  refine s_iinc (v := 121) (L2 := [some (AR 95), some (AI 121)]) E dX10_ball_106 rfl (by decide) (by decide) rfl ?_
  refine s_goto (tgt := 87) E dX10_ball_109 (by decide) ?_
  refine s_iload_n E dX10_ball_87 rfl rfl ?_
  refine s_sipush (v := 134) E dX10_ball_88 (by decide) ?_
  refine s_icmp_ge (tgt := 112) E dX10_ball_91 (by decide) (fun hh => absurd hh (by decide)) (fun _ => ?_)
  refine s_aload_n E dX10_ball_94 rfl rfl ?_
  refine s_gR (r := 96) E fg_X10_9 rfl rfl (by decide +kernel) (by decide +kernel) dX10_ball_95 ?_
  refine s_iload_n E dX10_ball_98 rfl rfl ?_
  refine s_aload_n E dX10_ball_99 rfl rfl ?_
  refine s_gR (r := 101) E fg_X10_31 rfl rfl (by decide +kernel) (by decide +kernel) dX10_ball_100 ?_
  refine s_iload_n E dX10_ball_103 rfl rfl ?_
  refine s_iald E rfl (by decide +kernel) (vp_c (by decide)) dX10_ball_104 ?_
  refine s_top (y := 0) (by decide +kernel) ?_
  refine s_iast E rfl (by decide +kernel) (vp_c (by decide)) dX10_ball_105 ?_
  refine s_world (w2 := wb_479) rfl ?_
  refine s_iinc (v := 122) (L2 := [some (AR 95), some (AI 122)]) E dX10_ball_106 rfl (by decide) (by decide) rfl ?_
  refine s_goto (tgt := 87) E dX10_ball_109 (by decide) ?_
  refine s_iload_n E dX10_ball_87 rfl rfl ?_
  refine s_sipush (v := 134) E dX10_ball_88 (by decide) ?_
  refine s_icmp_ge (tgt := 112) E dX10_ball_91 (by decide) (fun hh => absurd hh (by decide)) (fun _ => ?_)
  refine s_aload_n E dX10_ball_94 rfl rfl ?_
  refine s_gR (r := 96) E fg_X10_9 rfl rfl (by decide +kernel) (by decide +kernel) dX10_ball_95 ?_
  refine s_iload_n E dX10_ball_98 rfl rfl ?_
  refine s_aload_n E dX10_ball_99 rfl rfl ?_
  refine s_gR (r := 101) E fg_X10_31 rfl rfl (by decide +kernel) (by decide +kernel) dX10_ball_100 ?_
  refine s_iload_n E dX10_ball_103 rfl rfl ?_
  refine s_iald E rfl (by decide +kernel) (vp_c (by decide)) dX10_ball_104 ?_
  refine s_top (y := 0) (by decide +kernel) ?_
  refine s_iast E rfl (by decide +kernel) (vp_c (by decide)) dX10_ball_105 ?_
  refine s_world (w2 := wb_480) rfl ?_
  refine s_iinc (v := 123) (L2 := [some (AR 95), some (AI 123)]) E dX10_ball_106 rfl (by decide) (by decide) rfl ?_
  refine s_goto (tgt := 87) E dX10_ball_109 (by decide) ?_
  refine s_iload_n E dX10_ball_87 rfl rfl ?_
  refine s_sipush (v := 134) E dX10_ball_88 (by decide) ?_
  refine s_icmp_ge (tgt := 112) E dX10_ball_91 (by decide) (fun hh => absurd hh (by decide)) (fun _ => ?_)
  refine s_aload_n E dX10_ball_94 rfl rfl ?_
  refine s_gR (r := 96) E fg_X10_9 rfl rfl (by decide +kernel) (by decide +kernel) dX10_ball_95 ?_
  refine s_iload_n E dX10_ball_98 rfl rfl ?_
  refine s_aload_n E dX10_ball_99 rfl rfl ?_
  refine s_gR (r := 101) E fg_X10_31 rfl rfl (by decide +kernel) (by decide +kernel) dX10_ball_100 ?_
  refine s_iload_n E dX10_ball_103 rfl rfl ?_
  refine s_iald E rfl (by decide +kernel) (vp_c (by decide)) dX10_ball_104 ?_
  refine s_top (y := 0) (by decide +kernel) ?_
  refine s_iast E rfl (by decide +kernel) (vp_c (by decide)) dX10_ball_105 ?_
  refine s_world (w2 := wb_481) rfl ?_
  refine s_iinc (v := 124) (L2 := [some (AR 95), some (AI 124)]) E dX10_ball_106 rfl (by decide) (by decide) rfl ?_
  refine s_goto (tgt := 87) E dX10_ball_109 (by decide) ?_
  refine s_iload_n E dX10_ball_87 rfl rfl ?_
  refine s_sipush (v := 134) E dX10_ball_88 (by decide) ?_
  refine s_icmp_ge (tgt := 112) E dX10_ball_91 (by decide) (fun hh => absurd hh (by decide)) (fun _ => ?_)
  refine s_aload_n E dX10_ball_94 rfl rfl ?_
  refine s_gR (r := 96) E fg_X10_9 rfl rfl (by decide +kernel) (by decide +kernel) dX10_ball_95 ?_
  refine s_iload_n E dX10_ball_98 rfl rfl ?_
  refine s_aload_n E dX10_ball_99 rfl rfl ?_
  refine s_gR (r := 101) E fg_X10_31 rfl rfl (by decide +kernel) (by decide +kernel) dX10_ball_100 ?_
  refine s_iload_n E dX10_ball_103 rfl rfl ?_
  refine s_iald E rfl (by decide +kernel) (vp_c (by decide)) dX10_ball_104 ?_
  refine s_top (y := 0) (by decide +kernel) ?_
  refine s_iast E rfl (by decide +kernel) (vp_c (by decide)) dX10_ball_105 ?_
  refine s_world (w2 := wb_482) rfl ?_
  refine s_iinc (v := 125) (L2 := [some (AR 95), some (AI 125)]) E dX10_ball_106 rfl (by decide) (by decide) rfl ?_
  refine s_goto (tgt := 87) E dX10_ball_109 (by decide) ?_
  refine s_iload_n E dX10_ball_87 rfl rfl ?_
  refine s_sipush (v := 134) E dX10_ball_88 (by decide) ?_
  refine s_icmp_ge (tgt := 112) E dX10_ball_91 (by decide) (fun hh => absurd hh (by decide)) (fun _ => ?_)
  refine s_aload_n E dX10_ball_94 rfl rfl ?_
  refine s_gR (r := 96) E fg_X10_9 rfl rfl (by decide +kernel) (by decide +kernel) dX10_ball_95 ?_
  refine s_iload_n E dX10_ball_98 rfl rfl ?_
  refine s_aload_n E dX10_ball_99 rfl rfl ?_
  refine s_gR (r := 101) E fg_X10_31 rfl rfl (by decide +kernel) (by decide +kernel) dX10_ball_100 ?_
  refine s_iload_n E dX10_ball_103 rfl rfl ?_
  refine s_iald E rfl (by decide +kernel) (vp_c (by decide)) dX10_ball_104 ?_
  refine s_top (y := 0) (by decide +kernel) ?_
  refine s_iast E rfl (by decide +kernel) (vp_c (by decide)) dX10_ball_105 ?_
  refine s_world (w2 := wb_483) rfl ?_
  refine s_iinc (v := 126) (L2 := [some (AR 95), some (AI 126)]) E dX10_ball_106 rfl (by decide) (by decide) rfl ?_
  refine s_goto (tgt := 87) E dX10_ball_109 (by decide) ?_
  refine s_iload_n E dX10_ball_87 rfl rfl ?_
  refine s_sipush (v := 134) E dX10_ball_88 (by decide) ?_
  refine s_icmp_ge (tgt := 112) E dX10_ball_91 (by decide) (fun hh => absurd hh (by decide)) (fun _ => ?_)
  refine s_aload_n E dX10_ball_94 rfl rfl ?_
  refine s_gR (r := 96) E fg_X10_9 rfl rfl (by decide +kernel) (by decide +kernel) dX10_ball_95 ?_
  refine s_iload_n E dX10_ball_98 rfl rfl ?_
  refine s_aload_n E dX10_ball_99 rfl rfl ?_
  refine s_gR (r := 101) E fg_X10_31 rfl rfl (by decide +kernel) (by decide +kernel) dX10_ball_100 ?_
  refine s_iload_n E dX10_ball_103 rfl rfl ?_
  refine s_iald E rfl (by decide +kernel) (vp_c (by decide)) dX10_ball_104 ?_
  refine s_top (y := 0) (by decide +kernel) ?_
  refine s_iast E rfl (by decide +kernel) (vp_c (by decide)) dX10_ball_105 ?_
  refine s_world (w2 := wb_484) rfl ?_
  refine s_iinc (v := 127) (L2 := [some (AR 95), some (AI 127)]) E dX10_ball_106 rfl (by decide) (by decide) rfl ?_
  refine s_goto (tgt := 87) E dX10_ball_109 (by decide) ?_
  refine s_iload_n E dX10_ball_87 rfl rfl ?_
  refine s_sipush (v := 134) E dX10_ball_88 (by decide) ?_
  refine s_icmp_ge (tgt := 112) E dX10_ball_91 (by decide) (fun hh => absurd hh (by decide)) (fun _ => ?_)
  refine s_aload_n E dX10_ball_94 rfl rfl ?_
  refine s_gR (r := 96) E fg_X10_9 rfl rfl (by decide +kernel) (by decide +kernel) dX10_ball_95 ?_
  refine s_iload_n E dX10_ball_98 rfl rfl ?_
  refine s_aload_n E dX10_ball_99 rfl rfl ?_
  refine s_gR (r := 101) E fg_X10_31 rfl rfl (by decide +kernel) (by decide +kernel) dX10_ball_100 ?_
  refine s_iload_n E dX10_ball_103 rfl rfl ?_
  refine s_iald E rfl (by decide +kernel) (vp_c (by decide)) dX10_ball_104 ?_
  refine s_top (y := 0) (by decide +kernel) ?_
  refine s_iast E rfl (by decide +kernel) (vp_c (by decide)) dX10_ball_105 ?_
  refine s_world (w2 := wb_485) rfl ?_
  refine s_iinc (v := 128) (L2 := [some (AR 95), some (AI 128)]) E dX10_ball_106 rfl (by decide) (by decide) rfl ?_
  refine s_goto (tgt := 87) E dX10_ball_109 (by decide) ?_
  refine s_iload_n E dX10_ball_87 rfl rfl ?_
  refine s_sipush (v := 134) E dX10_ball_88 (by decide) ?_
  refine s_icmp_ge (tgt := 112) E dX10_ball_91 (by decide) (fun hh => absurd hh (by decide)) (fun _ => ?_)
  refine s_aload_n E dX10_ball_94 rfl rfl ?_
  refine s_gR (r := 96) E fg_X10_9 rfl rfl (by decide +kernel) (by decide +kernel) dX10_ball_95 ?_
  refine s_iload_n E dX10_ball_98 rfl rfl ?_
  refine s_aload_n E dX10_ball_99 rfl rfl ?_
  refine s_gR (r := 101) E fg_X10_31 rfl rfl (by decide +kernel) (by decide +kernel) dX10_ball_100 ?_
  refine s_iload_n E dX10_ball_103 rfl rfl ?_
  refine s_iald E rfl (by decide +kernel) (vp_c (by decide)) dX10_ball_104 ?_
  refine s_top (y := 0) (by decide +kernel) ?_
  refine s_iast E rfl (by decide +kernel) (vp_c (by decide)) dX10_ball_105 ?_
  refine s_world (w2 := wb_486) rfl ?_
  refine s_iinc (v := 129) (L2 := [some (AR 95), some (AI 129)]) E dX10_ball_106 rfl (by decide) (by decide) rfl ?_
  refine s_goto (tgt := 87) E dX10_ball_109 (by decide) ?_
  refine s_iload_n E dX10_ball_87 rfl rfl ?_
  refine s_sipush (v := 134) E dX10_ball_88 (by decide) ?_
  refine s_icmp_ge (tgt := 112) E dX10_ball_91 (by decide) (fun hh => absurd hh (by decide)) (fun _ => ?_)
  refine s_aload_n E dX10_ball_94 rfl rfl ?_
  refine s_gR (r := 96) E fg_X10_9 rfl rfl (by decide +kernel) (by decide +kernel) dX10_ball_95 ?_
  refine s_iload_n E dX10_ball_98 rfl rfl ?_
  refine s_aload_n E dX10_ball_99 rfl rfl ?_
  refine s_gR (r := 101) E fg_X10_31 rfl rfl (by decide +kernel) (by decide +kernel) dX10_ball_100 ?_
  refine s_iload_n E dX10_ball_103 rfl rfl ?_
  refine s_iald E rfl (by decide +kernel) (vp_c (by decide)) dX10_ball_104 ?_
  refine s_top (y := 0) (by decide +kernel) ?_
  refine s_iast E rfl (by decide +kernel) (vp_c (by decide)) dX10_ball_105 ?_
  refine s_world (w2 := wb_487) rfl ?_
  refine s_iinc (v := 130) (L2 := [some (AR 95), some (AI 130)]) E dX10_ball_106 rfl (by decide) (by decide) rfl ?_
  refine s_goto (tgt := 87) E dX10_ball_109 (by decide) ?_
  refine s_iload_n E dX10_ball_87 rfl rfl ?_
  refine s_sipush (v := 134) E dX10_ball_88 (by decide) ?_
  refine s_icmp_ge (tgt := 112) E dX10_ball_91 (by decide) (fun hh => absurd hh (by decide)) (fun _ => ?_)
  refine s_aload_n E dX10_ball_94 rfl rfl ?_
  refine s_gR (r := 96) E fg_X10_9 rfl rfl (by decide +kernel) (by decide +kernel) dX10_ball_95 ?_
  refine s_iload_n E dX10_ball_98 rfl rfl ?_
  refine s_aload_n E dX10_ball_99 rfl rfl ?_
  refine s_gR (r := 101) E fg_X10_31 rfl rfl (by decide +kernel) (by decide +kernel) dX10_ball_100 ?_
  refine s_iload_n E dX10_ball_103 rfl rfl ?_
  refine s_iald E rfl (by decide +kernel) (vp_c (by decide)) dX10_ball_104 ?_
  refine s_top (y := 0) (by decide +kernel) ?_
  refine s_iast E rfl (by decide +kernel) (vp_c (by decide)) dX10_ball_105 ?_
  refine s_world (w2 := wb_488) rfl ?_
  refine s_iinc (v := 131) (L2 := [some (AR 95), some (AI 131)]) E dX10_ball_106 rfl (by decide) (by decide) rfl ?_
  refine s_goto (tgt := 87) E dX10_ball_109 (by decide) ?_
  refine s_iload_n E dX10_ball_87 rfl rfl ?_
  refine s_sipush (v := 134) E dX10_ball_88 (by decide) ?_
  refine s_icmp_ge (tgt := 112) E dX10_ball_91 (by decide) (fun hh => absurd hh (by decide)) (fun _ => ?_)
  refine s_aload_n E dX10_ball_94 rfl rfl ?_
  refine s_gR (r := 96) E fg_X10_9 rfl rfl (by decide +kernel) (by decide +kernel) dX10_ball_95 ?_
  refine s_iload_n E dX10_ball_98 rfl rfl ?_
  refine s_aload_n E dX10_ball_99 rfl rfl ?_
  refine s_gR (r := 101) E fg_X10_31 rfl rfl (by decide +kernel) (by decide +kernel) dX10_ball_100 ?_
  refine s_iload_n E dX10_ball_103 rfl rfl ?_
  refine s_iald E rfl (by decide +kernel) (vp_c (by decide)) dX10_ball_104 ?_
  refine s_top (y := 0) (by decide +kernel) ?_
  refine s_iast E rfl (by decide +kernel) (vp_c (by decide)) dX10_ball_105 ?_
  refine s_world (w2 := wb_489) rfl ?_
  refine s_iinc (v := 132) (L2 := [some (AR 95), some (AI 132)]) E dX10_ball_106 rfl (by decide) (by decide) rfl ?_
  refine s_goto (tgt := 87) E dX10_ball_109 (by decide) ?_
  refine s_iload_n E dX10_ball_87 rfl rfl ?_
  refine s_sipush (v := 134) E dX10_ball_88 (by decide) ?_
  refine s_icmp_ge (tgt := 112) E dX10_ball_91 (by decide) (fun hh => absurd hh (by decide)) (fun _ => ?_)
  refine s_aload_n E dX10_ball_94 rfl rfl ?_
  refine s_gR (r := 96) E fg_X10_9 rfl rfl (by decide +kernel) (by decide +kernel) dX10_ball_95 ?_
  refine s_iload_n E dX10_ball_98 rfl rfl ?_
  refine s_aload_n E dX10_ball_99 rfl rfl ?_
  refine s_gR (r := 101) E fg_X10_31 rfl rfl (by decide +kernel) (by decide +kernel) dX10_ball_100 ?_
  refine s_iload_n E dX10_ball_103 rfl rfl ?_
  refine s_iald E rfl (by decide +kernel) (vp_c (by decide)) dX10_ball_104 ?_
  refine s_top (y := 0) (by decide +kernel) ?_
  refine s_iast E rfl (by decide +kernel) (vp_c (by decide)) dX10_ball_105 ?_
  refine s_world (w2 := wb_490) rfl ?_
  refine s_iinc (v := 133) (L2 := [some (AR 95), some (AI 133)]) E dX10_ball_106 rfl (by decide) (by decide) rfl ?_
  refine s_goto (tgt := 87) E dX10_ball_109 (by decide) ?_
  refine s_iload_n E dX10_ball_87 rfl rfl ?_
  refine s_sipush (v := 134) E dX10_ball_88 (by decide) ?_
  refine s_icmp_ge (tgt := 112) E dX10_ball_91 (by decide) (fun hh => absurd hh (by decide)) (fun _ => ?_)
  refine s_aload_n E dX10_ball_94 rfl rfl ?_
  refine s_gR (r := 96) E fg_X10_9 rfl rfl (by decide +kernel) (by decide +kernel) dX10_ball_95 ?_
  refine s_iload_n E dX10_ball_98 rfl rfl ?_
  refine s_aload_n E dX10_ball_99 rfl rfl ?_
  refine s_gR (r := 101) E fg_X10_31 rfl rfl (by decide +kernel) (by decide +kernel) dX10_ball_100 ?_
  refine s_iload_n E dX10_ball_103 rfl rfl ?_
  refine s_iald E rfl (by decide +kernel) (vp_c (by decide)) dX10_ball_104 ?_
  refine s_top (y := 0) (by decide +kernel) ?_
  refine s_iast E rfl (by decide +kernel) (vp_c (by decide)) dX10_ball_105 ?_
  refine s_world (w2 := wb_491) rfl ?_
  refine s_iinc (v := 134) (L2 := [some (AR 95), some (AI 134)]) E dX10_ball_106 rfl (by decide) (by decide) rfl ?_
  refine s_goto (tgt := 87) E dX10_ball_109 (by decide) ?_
  refine s_iload_n E dX10_ball_87 rfl rfl ?_
  refine s_sipush (v := 134) E dX10_ball_88 (by decide) ?_
  refine s_icmp_ge (tgt := 112) E dX10_ball_91 (by decide) (fun _ => ?_) (fun hh => absurd (by decide) hh)
  refine s_aload_n E dX10_ball_112 rfl rfl ?_
  refine s_gR (r := 96) E fg_X10_9 rfl rfl (by decide +kernel) (by decide +kernel) dX10_ball_113 ?_
  refine s_bipush (v := 9) E dX10_ball_116 (by decide) ?_
  refine s_iald E rfl (by decide +kernel) (vp_c (by decide)) dX10_ball_118 ?_
  refine s_top (y := 0) (by decide +kernel) ?_
  exact r_int E dX10_ball_119 ⟨rfl, rfl⟩
