set_option maxRecDepth 20000 in
theorem KC_1 (l : Launch) (D : va_G) (aC : Nat → ClassId) (b : Nat) : CnV l D aC b M_X8_init 1 21 1 36 [AR 3, AI 12, AI 3] wv_6 (fun u => u = wv_11) := by
  refine cn_V (own := RX8) (nm := "<init>") (L0 := [some (AR 3), some (AI 12), some (AI 3)]) (by decide +kernel) rfl rfl (Nat.le_of_ble_eq_true rfl) rfl ?_
  intro p e s m args below meth c E hin
  refine s_aload_n E dX8_init_0 rfl rfl ?_
  refine s_obj E k_39 k_26 k_27 (Nat.le_of_ble_eq_true rfl) (Nat.le_of_ble_eq_true rfl) dX8_init_1 ?_
  refine s_aload_n E dX8_init_4 rfl rfl ?_
  refine s_iconst (v := 0) E dX8_init_5 (by decide) ?_
  refine s_iload_n E dX8_init_6 rfl rfl ?_
  refine s_max (v := 12) E ⟨k_40, k_41, k_4, k_42⟩ (Nat.le_of_ble_eq_true rfl) (Nat.le_of_ble_eq_true rfl) (Nat.le_of_ble_eq_true rfl) (Nat.le_of_ble_eq_true rfl) dX8_init_7 (by decide) ?_
  refine s_pIF E hin ff_X8_15 rfl rfl (by decide +kernel) dX8_init_10 ?_
  refine s_world (w2 := wv_7) rfl ?_
  refine s_aload_n E dX8_init_13 rfl rfl ?_
  refine s_iconst (v := 0) E dX8_init_14 (by decide) ?_
  refine s_iload_n E dX8_init_15 rfl rfl ?_
  refine s_max (v := 3) E ⟨k_40, k_41, k_4, k_42⟩ (Nat.le_of_ble_eq_true rfl) (Nat.le_of_ble_eq_true rfl) (Nat.le_of_ble_eq_true rfl) (Nat.le_of_ble_eq_true rfl) dX8_init_16 (by decide) ?_
  refine s_pIF E hin ff_X8_21 rfl rfl (by decide +kernel) dX8_init_19 ?_
  refine s_world (w2 := wv_8) rfl ?_
  refine s_aload_n E dX8_init_22 rfl rfl ?_
  refine s_aload_n E dX8_init_23 rfl rfl ?_
  refine s_gI E fg_X8_15 rfl rfl (by decide +kernel) dX8_init_24 ?_
  refine s_top (y := 12) (by decide +kernel) ?_
  refine s_aload_n E dX8_init_27 rfl rfl ?_
  refine s_gI E fg_X8_21 rfl rfl (by decide +kernel) dX8_init_28 ?_
  refine s_top (y := 3) (by decide +kernel) ?_
  refine s_imul E dX8_init_31 ?_
  refine s_top (y := 36) (by decide) ?_
  refine s_newa100 (N := 36) E k_63 (by decide +kernel) (by decide) (by decide) (by decide) (Nat.le_of_ble_eq_true rfl) (Nat.le_of_ble_eq_true rfl) dX8_init_32 ?_
  refine s_topR (y := 4) (by decide +kernel) ?_
  refine s_world (w2 := wv_9) rfl ?_
  refine Wv.widen (cs2 := 1) (sl2 := 36) (Nat.le_of_ble_eq_true rfl) (Nat.le_of_ble_eq_true rfl) ?_
  refine s_pRF E hin ff_X8_24 rfl rfl (by decide +kernel) dX8_init_34 ?_
  refine s_world (w2 := wv_10) rfl ?_
  refine s_aload_n E dX8_init_37 rfl rfl ?_
  refine s_iconst (v := 0) E dX8_init_38 (by decide) ?_
  refine s_pI E fp_X8_28 (Or.inl rfl) rfl (by decide +kernel) dX8_init_39 ?_
  refine s_world (w2 := wv_11) rfl ?_
  exact r_void E dX8_init_42 rfl
set_option maxRecDepth 20000 in
theorem KC_2 (l : Launch) (D : va_G) (aC : Nat → ClassId) (b : Nat) : CnV l D aC b M_X8_init 1 21 1 12 [AR 5, AI 6, AI 2] wv_13 (fun u => u = wv_18) := by
  refine cn_V (own := RX8) (nm := "<init>") (L0 := [some (AR 5), some (AI 6), some (AI 2)]) (by decide +kernel) rfl rfl (Nat.le_of_ble_eq_true rfl) rfl ?_
  intro p e s m args below meth c E hin
  refine s_aload_n E dX8_init_0 rfl rfl ?_
  refine s_obj E k_39 k_26 k_27 (Nat.le_of_ble_eq_true rfl) (Nat.le_of_ble_eq_true rfl) dX8_init_1 ?_
  refine s_aload_n E dX8_init_4 rfl rfl ?_
  refine s_iconst (v := 0) E dX8_init_5 (by decide) ?_
  refine s_iload_n E dX8_init_6 rfl rfl ?_
  refine s_max (v := 6) E ⟨k_40, k_41, k_4, k_42⟩ (Nat.le_of_ble_eq_true rfl) (Nat.le_of_ble_eq_true rfl) (Nat.le_of_ble_eq_true rfl) (Nat.le_of_ble_eq_true rfl) dX8_init_7 (by decide) ?_
  refine s_pIF E hin ff_X8_15 rfl rfl (by decide +kernel) dX8_init_10 ?_
  refine s_world (w2 := wv_14) rfl ?_
  refine s_aload_n E dX8_init_13 rfl rfl ?_
  refine s_iconst (v := 0) E dX8_init_14 (by decide) ?_
  refine s_iload_n E dX8_init_15 rfl rfl ?_
  refine s_max (v := 2) E ⟨k_40, k_41, k_4, k_42⟩ (Nat.le_of_ble_eq_true rfl) (Nat.le_of_ble_eq_true rfl) (Nat.le_of_ble_eq_true rfl) (Nat.le_of_ble_eq_true rfl) dX8_init_16 (by decide) ?_
  refine s_pIF E hin ff_X8_21 rfl rfl (by decide +kernel) dX8_init_19 ?_
  refine s_world (w2 := wv_15) rfl ?_
  refine s_aload_n E dX8_init_22 rfl rfl ?_
  refine s_aload_n E dX8_init_23 rfl rfl ?_
  refine s_gI E fg_X8_15 rfl rfl (by decide +kernel) dX8_init_24 ?_
  refine s_top (y := 6) (by decide +kernel) ?_
  refine s_aload_n E dX8_init_27 rfl rfl ?_
  refine s_gI E fg_X8_21 rfl rfl (by decide +kernel) dX8_init_28 ?_
  refine s_top (y := 2) (by decide +kernel) ?_
  refine s_imul E dX8_init_31 ?_
  refine s_top (y := 12) (by decide) ?_
  refine s_newa100 (N := 12) E k_63 (by decide +kernel) (by decide) (by decide) (by decide) (Nat.le_of_ble_eq_true rfl) (Nat.le_of_ble_eq_true rfl) dX8_init_32 ?_
  refine s_topR (y := 6) (by decide +kernel) ?_
  refine s_world (w2 := wv_16) rfl ?_
  refine Wv.widen (cs2 := 1) (sl2 := 12) (Nat.le_of_ble_eq_true rfl) (Nat.le_of_ble_eq_true rfl) ?_
  refine s_pRF E hin ff_X8_24 rfl rfl (by decide +kernel) dX8_init_34 ?_
  refine s_world (w2 := wv_17) rfl ?_
  refine s_aload_n E dX8_init_37 rfl rfl ?_
  refine s_iconst (v := 0) E dX8_init_38 (by decide) ?_
  refine s_pI E fp_X8_28 (Or.inl rfl) rfl (by decide +kernel) dX8_init_39 ?_
  refine s_world (w2 := wv_18) rfl ?_
  exact r_void E dX8_init_42 rfl
set_option maxRecDepth 20000 in
theorem KC_3 (l : Launch) (D : va_G) (aC : Nat → ClassId) (b : Nat) : CnV l D aC b M_X8_init 1 21 1 16 [AR 7, AI 8, AI 2] wv_20 (fun u => u = wv_25) := by
  refine cn_V (own := RX8) (nm := "<init>") (L0 := [some (AR 7), some (AI 8), some (AI 2)]) (by decide +kernel) rfl rfl (Nat.le_of_ble_eq_true rfl) rfl ?_
  intro p e s m args below meth c E hin
  refine s_aload_n E dX8_init_0 rfl rfl ?_
  refine s_obj E k_39 k_26 k_27 (Nat.le_of_ble_eq_true rfl) (Nat.le_of_ble_eq_true rfl) dX8_init_1 ?_
  refine s_aload_n E dX8_init_4 rfl rfl ?_
  refine s_iconst (v := 0) E dX8_init_5 (by decide) ?_
  refine s_iload_n E dX8_init_6 rfl rfl ?_
  refine s_max (v := 8) E ⟨k_40, k_41, k_4, k_42⟩ (Nat.le_of_ble_eq_true rfl) (Nat.le_of_ble_eq_true rfl) (Nat.le_of_ble_eq_true rfl) (Nat.le_of_ble_eq_true rfl) dX8_init_7 (by decide) ?_
  refine s_pIF E hin ff_X8_15 rfl rfl (by decide +kernel) dX8_init_10 ?_
  refine s_world (w2 := wv_21) rfl ?_
  refine s_aload_n E dX8_init_13 rfl rfl ?_
  refine s_iconst (v := 0) E dX8_init_14 (by decide) ?_
  refine s_iload_n E dX8_init_15 rfl rfl ?_
  refine s_max (v := 2) E ⟨k_40, k_41, k_4, k_42⟩ (Nat.le_of_ble_eq_true rfl) (Nat.le_of_ble_eq_true rfl) (Nat.le_of_ble_eq_true rfl) (Nat.le_of_ble_eq_true rfl) dX8_init_16 (by decide) ?_
  refine s_pIF E hin ff_X8_21 rfl rfl (by decide +kernel) dX8_init_19 ?_
  refine s_world (w2 := wv_22) rfl ?_
  refine s_aload_n E dX8_init_22 rfl rfl ?_
  refine s_aload_n E dX8_init_23 rfl rfl ?_
  refine s_gI E fg_X8_15 rfl rfl (by decide +kernel) dX8_init_24 ?_
  refine s_top (y := 8) (by decide +kernel) ?_
  refine s_aload_n E dX8_init_27 rfl rfl ?_
  refine s_gI E fg_X8_21 rfl rfl (by decide +kernel) dX8_init_28 ?_
  refine s_top (y := 2) (by decide +kernel) ?_
  refine s_imul E dX8_init_31 ?_
  refine s_top (y := 16) (by decide) ?_
  refine s_newa100 (N := 16) E k_63 (by decide +kernel) (by decide) (by decide) (by decide) (Nat.le_of_ble_eq_true rfl) (Nat.le_of_ble_eq_true rfl) dX8_init_32 ?_
  refine s_topR (y := 8) (by decide +kernel) ?_
  refine s_world (w2 := wv_23) rfl ?_
  refine Wv.widen (cs2 := 1) (sl2 := 16) (Nat.le_of_ble_eq_true rfl) (Nat.le_of_ble_eq_true rfl) ?_
  refine s_pRF E hin ff_X8_24 rfl rfl (by decide +kernel) dX8_init_34 ?_
  refine s_world (w2 := wv_24) rfl ?_
  refine s_aload_n E dX8_init_37 rfl rfl ?_
  refine s_iconst (v := 0) E dX8_init_38 (by decide) ?_
  refine s_pI E fp_X8_28 (Or.inl rfl) rfl (by decide +kernel) dX8_init_39 ?_
  refine s_world (w2 := wv_25) rfl ?_
  exact r_void E dX8_init_42 rfl
set_option maxRecDepth 20000 in
theorem KC_4 (l : Launch) (D : va_G) (aC : Nat → ClassId) (b : Nat) : CnV l D aC b M_X8_init 1 21 1 30 [AR 9, AI 10, AI 3] wv_27 (fun u => u = wv_32) := by
  refine cn_V (own := RX8) (nm := "<init>") (L0 := [some (AR 9), some (AI 10), some (AI 3)]) (by decide +kernel) rfl rfl (Nat.le_of_ble_eq_true rfl) rfl ?_
  intro p e s m args below meth c E hin
  refine s_aload_n E dX8_init_0 rfl rfl ?_
  refine s_obj E k_39 k_26 k_27 (Nat.le_of_ble_eq_true rfl) (Nat.le_of_ble_eq_true rfl) dX8_init_1 ?_
  refine s_aload_n E dX8_init_4 rfl rfl ?_
  refine s_iconst (v := 0) E dX8_init_5 (by decide) ?_
  refine s_iload_n E dX8_init_6 rfl rfl ?_
  refine s_max (v := 10) E ⟨k_40, k_41, k_4, k_42⟩ (Nat.le_of_ble_eq_true rfl) (Nat.le_of_ble_eq_true rfl) (Nat.le_of_ble_eq_true rfl) (Nat.le_of_ble_eq_true rfl) dX8_init_7 (by decide) ?_
  refine s_pIF E hin ff_X8_15 rfl rfl (by decide +kernel) dX8_init_10 ?_
  refine s_world (w2 := wv_28) rfl ?_
  refine s_aload_n E dX8_init_13 rfl rfl ?_
  refine s_iconst (v := 0) E dX8_init_14 (by decide) ?_
  refine s_iload_n E dX8_init_15 rfl rfl ?_
  refine s_max (v := 3) E ⟨k_40, k_41, k_4, k_42⟩ (Nat.le_of_ble_eq_true rfl) (Nat.le_of_ble_eq_true rfl) (Nat.le_of_ble_eq_true rfl) (Nat.le_of_ble_eq_true rfl) dX8_init_16 (by decide) ?_
  refine s_pIF E hin ff_X8_21 rfl rfl (by decide +kernel) dX8_init_19 ?_
  refine s_world (w2 := wv_29) rfl ?_
  refine s_aload_n E dX8_init_22 rfl rfl ?_
  refine s_aload_n E dX8_init_23 rfl rfl ?_
  refine s_gI E fg_X8_15 rfl rfl (by decide +kernel) dX8_init_24 ?_
  refine s_top (y := 10) (by decide +kernel) ?_
  refine s_aload_n E dX8_init_27 rfl rfl ?_
  refine s_gI E fg_X8_21 rfl rfl (by decide +kernel) dX8_init_28 ?_
  refine s_top (y := 3) (by decide +kernel) ?_
  refine s_imul E dX8_init_31 ?_
  refine s_top (y := 30) (by decide) ?_
  refine s_newa100 (N := 30) E k_63 (by decide +kernel) (by decide) (by decide) (by decide) (Nat.le_of_ble_eq_true rfl) (Nat.le_of_ble_eq_true rfl) dX8_init_32 ?_
  refine s_topR (y := 10) (by decide +kernel) ?_
  refine s_world (w2 := wv_30) rfl ?_
  refine Wv.widen (cs2 := 1) (sl2 := 30) (Nat.le_of_ble_eq_true rfl) (Nat.le_of_ble_eq_true rfl) ?_
  refine s_pRF E hin ff_X8_24 rfl rfl (by decide +kernel) dX8_init_34 ?_
  refine s_world (w2 := wv_31) rfl ?_
  refine s_aload_n E dX8_init_37 rfl rfl ?_
  refine s_iconst (v := 0) E dX8_init_38 (by decide) ?_
  refine s_pI E fp_X8_28 (Or.inl rfl) rfl (by decide +kernel) dX8_init_39 ?_
  refine s_world (w2 := wv_32) rfl ?_
  exact r_void E dX8_init_42 rfl
set_option maxRecDepth 20000 in
theorem KC_5 (l : Launch) (D : va_G) (aC : Nat → ClassId) (b : Nat) : CnV l D aC b M_X8_init 1 21 1 120 [AR 11, AI 30, AI 4] wv_34 (fun u => u = wv_39) := by
  refine cn_V (own := RX8) (nm := "<init>") (L0 := [some (AR 11), some (AI 30), some (AI 4)]) (by decide +kernel) rfl rfl (Nat.le_of_ble_eq_true rfl) rfl ?_
  intro p e s m args below meth c E hin
  refine s_aload_n E dX8_init_0 rfl rfl ?_
  refine s_obj E k_39 k_26 k_27 (Nat.le_of_ble_eq_true rfl) (Nat.le_of_ble_eq_true rfl) dX8_init_1 ?_
  refine s_aload_n E dX8_init_4 rfl rfl ?_
  refine s_iconst (v := 0) E dX8_init_5 (by decide) ?_
  refine s_iload_n E dX8_init_6 rfl rfl ?_
  refine s_max (v := 30) E ⟨k_40, k_41, k_4, k_42⟩ (Nat.le_of_ble_eq_true rfl) (Nat.le_of_ble_eq_true rfl) (Nat.le_of_ble_eq_true rfl) (Nat.le_of_ble_eq_true rfl) dX8_init_7 (by decide) ?_
  refine s_pIF E hin ff_X8_15 rfl rfl (by decide +kernel) dX8_init_10 ?_
  refine s_world (w2 := wv_35) rfl ?_
  refine s_aload_n E dX8_init_13 rfl rfl ?_
  refine s_iconst (v := 0) E dX8_init_14 (by decide) ?_
  refine s_iload_n E dX8_init_15 rfl rfl ?_
  refine s_max (v := 4) E ⟨k_40, k_41, k_4, k_42⟩ (Nat.le_of_ble_eq_true rfl) (Nat.le_of_ble_eq_true rfl) (Nat.le_of_ble_eq_true rfl) (Nat.le_of_ble_eq_true rfl) dX8_init_16 (by decide) ?_
  refine s_pIF E hin ff_X8_21 rfl rfl (by decide +kernel) dX8_init_19 ?_
  refine s_world (w2 := wv_36) rfl ?_
  refine s_aload_n E dX8_init_22 rfl rfl ?_
  refine s_aload_n E dX8_init_23 rfl rfl ?_
  refine s_gI E fg_X8_15 rfl rfl (by decide +kernel) dX8_init_24 ?_
  refine s_top (y := 30) (by decide +kernel) ?_
  refine s_aload_n E dX8_init_27 rfl rfl ?_
  refine s_gI E fg_X8_21 rfl rfl (by decide +kernel) dX8_init_28 ?_
  refine s_top (y := 4) (by decide +kernel) ?_
  refine s_imul E dX8_init_31 ?_
  refine s_top (y := 120) (by decide) ?_
  refine s_newa100 (N := 120) E k_63 (by decide +kernel) (by decide) (by decide) (by decide) (Nat.le_of_ble_eq_true rfl) (Nat.le_of_ble_eq_true rfl) dX8_init_32 ?_
  refine s_topR (y := 12) (by decide +kernel) ?_
  refine s_world (w2 := wv_37) rfl ?_
  refine Wv.widen (cs2 := 1) (sl2 := 120) (Nat.le_of_ble_eq_true rfl) (Nat.le_of_ble_eq_true rfl) ?_
  refine s_pRF E hin ff_X8_24 rfl rfl (by decide +kernel) dX8_init_34 ?_
  refine s_world (w2 := wv_38) rfl ?_
  refine s_aload_n E dX8_init_37 rfl rfl ?_
  refine s_iconst (v := 0) E dX8_init_38 (by decide) ?_
  refine s_pI E fp_X8_28 (Or.inl rfl) rfl (by decide +kernel) dX8_init_39 ?_
  refine s_world (w2 := wv_39) rfl ?_
  exact r_void E dX8_init_42 rfl
set_option maxRecDepth 20000 in
theorem KC_6 (l : Launch) (D : va_G) (aC : Nat → ClassId) (b : Nat) : CnV l D aC b M_X0_init 2 43 10 234 [AR 2] wv_5 (fun u => u = wv_40) := by
  refine cn_V (own := RX0) (nm := "<init>") (L0 := [some (AR 2)]) (by decide +kernel) rfl rfl (Nat.le_of_ble_eq_true rfl) rfl ?_
  intro p e s m args below meth c E hin
  refine s_aload_n E dX0_init_0 rfl rfl ?_
  refine s_obj E k_33 k_26 k_27 (Nat.le_of_ble_eq_true rfl) (Nat.le_of_ble_eq_true rfl) dX0_init_1 ?_
  refine s_aload_n E dX0_init_4 rfl rfl ?_
  refine s_new E CI8 (by decide +kernel) k_34 k_35 k_3 (by decide +kernel) (Nat.le_of_ble_eq_true rfl) (Nat.le_of_ble_eq_true rfl) dX0_init_5 ?_
  refine s_topR (y := 3) (by decide +kernel) ?_
  refine s_world (w2 := wv_6) rfl ?_
  refine Wv.widen (cs2 := 1) (sl2 := 4) (Nat.le_of_ble_eq_true rfl) (Nat.le_of_ble_eq_true rfl) ?_
  refine s_dupR E dX0_init_8 ?_
  refine s_bipush (v := 12) E dX0_init_9 (by decide) ?_
  refine s_iconst (v := 3) E dX0_init_11 (by decide) ?_
  refine s_init (As := [AI 12, AI 3]) (S := [AR 3, AR 2]) E (KC_1 l D aC b) ci_X0_11 rfl rfl (Nat.le_of_ble_eq_true rfl) (Nat.le_of_ble_eq_true rfl) ⟨(Nat.le_of_ble_eq_true rfl), (Nat.le_of_ble_eq_true rfl)⟩ (Nat.le_of_ble_eq_true rfl) dX0_init_12 (fun u hp => ?_)
  subst hp
  refine Wv.widen (cs2 := 2) (sl2 := 40) (Nat.le_of_ble_eq_true rfl) (Nat.le_of_ble_eq_true rfl) ?_
  refine s_pRF E hin ff_X0_14 rfl rfl (by decide +kernel) dX0_init_15 ?_
  refine s_world (w2 := wv_12) rfl ?_
  refine s_aload_n E dX0_init_18 rfl rfl ?_
  refine s_new E CI8 (by decide +kernel) k_34 k_35 k_3 (by decide +kernel) (Nat.le_of_ble_eq_true rfl) (Nat.le_of_ble_eq_true rfl) dX0_init_19 ?_
  refine s_topR (y := 5) (by decide +kernel) ?_
  refine s_world (w2 := wv_13) rfl ?_
  refine Wv.widen (cs2 := 3) (sl2 := 44) (Nat.le_of_ble_eq_true rfl) (Nat.le_of_ble_eq_true rfl) ?_
  refine s_dupR E dX0_init_22 ?_
  refine s_bipush (v := 6) E dX0_init_23 (by decide) ?_
  refine s_iconst (v := 2) E dX0_init_25 (by decide) ?_
  refine s_init (As := [AI 6, AI 2]) (S := [AR 5, AR 2]) E (KC_2 l D aC b) ci_X0_11 rfl rfl (Nat.le_of_ble_eq_true rfl) (Nat.le_of_ble_eq_true rfl) ⟨(Nat.le_of_ble_eq_true rfl), (Nat.le_of_ble_eq_true rfl)⟩ (Nat.le_of_ble_eq_true rfl) dX0_init_26 (fun u hp => ?_)
  subst hp
  refine Wv.widen (cs2 := 4) (sl2 := 56) (Nat.le_of_ble_eq_true rfl) (Nat.le_of_ble_eq_true rfl) ?_
  refine s_pRF E hin ff_X0_20 rfl rfl (by decide +kernel) dX0_init_29 ?_
  refine s_world (w2 := wv_19) rfl ?_
  refine s_aload_n E dX0_init_32 rfl rfl ?_
  refine s_new E CI8 (by decide +kernel) k_34 k_35 k_3 (by decide +kernel) (Nat.le_of_ble_eq_true rfl) (Nat.le_of_ble_eq_true rfl) dX0_init_33 ?_
  refine s_topR (y := 7) (by decide +kernel) ?_
  refine s_world (w2 := wv_20) rfl ?_
  refine Wv.widen (cs2 := 5) (sl2 := 60) (Nat.le_of_ble_eq_true rfl) (Nat.le_of_ble_eq_true rfl) ?_
  refine s_dupR E dX0_init_36 ?_
  refine s_bipush (v := 8) E dX0_init_37 (by decide) ?_
  refine s_iconst (v := 2) E dX0_init_39 (by decide) ?_
  refine s_init (As := [AI 8, AI 2]) (S := [AR 7, AR 2]) E (KC_3 l D aC b) ci_X0_11 rfl rfl (Nat.le_of_ble_eq_true rfl) (Nat.le_of_ble_eq_true rfl) ⟨(Nat.le_of_ble_eq_true rfl), (Nat.le_of_ble_eq_true rfl)⟩ (Nat.le_of_ble_eq_true rfl) dX0_init_40 (fun u hp => ?_)
  subst hp
  refine Wv.widen (cs2 := 6) (sl2 := 76) (Nat.le_of_ble_eq_true rfl) (Nat.le_of_ble_eq_true rfl) ?_
  refine s_pRF E hin ff_X0_23 rfl rfl (by decide +kernel) dX0_init_43 ?_
  refine s_world (w2 := wv_26) rfl ?_
  refine s_aload_n E dX0_init_46 rfl rfl ?_
  refine s_new E CI8 (by decide +kernel) k_34 k_35 k_3 (by decide +kernel) (Nat.le_of_ble_eq_true rfl) (Nat.le_of_ble_eq_true rfl) dX0_init_47 ?_
  refine s_topR (y := 9) (by decide +kernel) ?_
  refine s_world (w2 := wv_27) rfl ?_
  refine Wv.widen (cs2 := 7) (sl2 := 80) (Nat.le_of_ble_eq_true rfl) (Nat.le_of_ble_eq_true rfl) ?_
  refine s_dupR E dX0_init_50 ?_
  refine s_bipush (v := 10) E dX0_init_51 (by decide) ?_
  refine s_iconst (v := 3) E dX0_init_53 (by decide) ?_
  refine s_init (As := [AI 10, AI 3]) (S := [AR 9, AR 2]) E (KC_4 l D aC b) ci_X0_11 rfl rfl (Nat.le_of_ble_eq_true rfl) (Nat.le_of_ble_eq_true rfl) ⟨(Nat.le_of_ble_eq_true rfl), (Nat.le_of_ble_eq_true rfl)⟩ (Nat.le_of_ble_eq_true rfl) dX0_init_54 (fun u hp => ?_)
  subst hp
  refine Wv.widen (cs2 := 8) (sl2 := 110) (Nat.le_of_ble_eq_true rfl) (Nat.le_of_ble_eq_true rfl) ?_
  refine s_pRF E hin ff_X0_26 rfl rfl (by decide +kernel) dX0_init_57 ?_
  refine s_world (w2 := wv_33) rfl ?_
  refine s_aload_n E dX0_init_60 rfl rfl ?_
  refine s_new E CI8 (by decide +kernel) k_34 k_35 k_3 (by decide +kernel) (Nat.le_of_ble_eq_true rfl) (Nat.le_of_ble_eq_true rfl) dX0_init_61 ?_
  refine s_topR (y := 11) (by decide +kernel) ?_
  refine s_world (w2 := wv_34) rfl ?_
  refine Wv.widen (cs2 := 9) (sl2 := 114) (Nat.le_of_ble_eq_true rfl) (Nat.le_of_ble_eq_true rfl) ?_
  refine s_dupR E dX0_init_64 ?_
  refine s_bipush (v := 30) E dX0_init_65 (by decide) ?_
  refine s_iconst (v := 4) E dX0_init_67 (by decide) ?_
  refine s_init (As := [AI 30, AI 4]) (S := [AR 11, AR 2]) E (KC_5 l D aC b) ci_X0_11 rfl rfl (Nat.le_of_ble_eq_true rfl) (Nat.le_of_ble_eq_true rfl) ⟨(Nat.le_of_ble_eq_true rfl), (Nat.le_of_ble_eq_true rfl)⟩ (Nat.le_of_ble_eq_true rfl) dX0_init_68 (fun u hp => ?_)
  subst hp
  refine Wv.widen (cs2 := 10) (sl2 := 234) (Nat.le_of_ble_eq_true rfl) (Nat.le_of_ble_eq_true rfl) ?_
  refine s_pRF E hin ff_X0_29 rfl rfl (by decide +kernel) dX0_init_71 ?_
  refine s_world (w2 := wv_40) rfl ?_
  exact r_void E dX0_init_74 rfl
set_option maxRecDepth 20000 in
theorem KC_7 (l : Launch) (D : va_G) (aC : Nat → ClassId) (b : Nat) : CnV l D aC b M_X8_init 1 21 1 36 [AR 14, AI 12, AI 3] wv_43 (fun u => u = wv_48) := by
  refine cn_V (own := RX8) (nm := "<init>") (L0 := [some (AR 14), some (AI 12), some (AI 3)]) (by decide +kernel) rfl rfl (Nat.le_of_ble_eq_true rfl) rfl ?_
  intro p e s m args below meth c E hin
  refine s_aload_n E dX8_init_0 rfl rfl ?_
  refine s_obj E k_39 k_26 k_27 (Nat.le_of_ble_eq_true rfl) (Nat.le_of_ble_eq_true rfl) dX8_init_1 ?_
  refine s_aload_n E dX8_init_4 rfl rfl ?_
  refine s_iconst (v := 0) E dX8_init_5 (by decide) ?_
  refine s_iload_n E dX8_init_6 rfl rfl ?_
  refine s_max (v := 12) E ⟨k_40, k_41, k_4, k_42⟩ (Nat.le_of_ble_eq_true rfl) (Nat.le_of_ble_eq_true rfl) (Nat.le_of_ble_eq_true rfl) (Nat.le_of_ble_eq_true rfl) dX8_init_7 (by decide) ?_
  refine s_pIF E hin ff_X8_15 rfl rfl (by decide +kernel) dX8_init_10 ?_
  refine s_world (w2 := wv_44) rfl ?_
  refine s_aload_n E dX8_init_13 rfl rfl ?_
  refine s_iconst (v := 0) E dX8_init_14 (by decide) ?_
  refine s_iload_n E dX8_init_15 rfl rfl ?_
  refine s_max (v := 3) E ⟨k_40, k_41, k_4, k_42⟩ (Nat.le_of_ble_eq_true rfl) (Nat.le_of_ble_eq_true rfl) (Nat.le_of_ble_eq_true rfl) (Nat.le_of_ble_eq_true rfl) dX8_init_16 (by decide) ?_
  refine s_pIF E hin ff_X8_21 rfl rfl (by decide +kernel) dX8_init_19 ?_
  refine s_world (w2 := wv_45) rfl ?_
  refine s_aload_n E dX8_init_22 rfl rfl ?_
  refine s_aload_n E dX8_init_23 rfl rfl ?_
  refine s_gI E fg_X8_15 rfl rfl (by decide +kernel) dX8_init_24 ?_
  refine s_top (y := 12) (by decide +kernel) ?_
  refine s_aload_n E dX8_init_27 rfl rfl ?_
  refine s_gI E fg_X8_21 rfl rfl (by decide +kernel) dX8_init_28 ?_
  refine s_top (y := 3) (by decide +kernel) ?_
  refine s_imul E dX8_init_31 ?_
  refine s_top (y := 36) (by decide) ?_
  refine s_newa100 (N := 36) E k_63 (by decide +kernel) (by decide) (by decide) (by decide) (Nat.le_of_ble_eq_true rfl) (Nat.le_of_ble_eq_true rfl) dX8_init_32 ?_
  refine s_topR (y := 15) (by decide +kernel) ?_
  refine s_world (w2 := wv_46) rfl ?_
  refine Wv.widen (cs2 := 1) (sl2 := 36) (Nat.le_of_ble_eq_true rfl) (Nat.le_of_ble_eq_true rfl) ?_
  refine s_pRF E hin ff_X8_24 rfl rfl (by decide +kernel) dX8_init_34 ?_
  refine s_world (w2 := wv_47) rfl ?_
  refine s_aload_n E dX8_init_37 rfl rfl ?_
  refine s_iconst (v := 0) E dX8_init_38 (by decide) ?_
  refine s_pI E fp_X8_28 (Or.inl rfl) rfl (by decide +kernel) dX8_init_39 ?_
  refine s_world (w2 := wv_48) rfl ?_
  exact r_void E dX8_init_42 rfl
set_option maxRecDepth 20000 in
theorem KC_8 (l : Launch) (D : va_G) (aC : Nat → ClassId) (b : Nat) : CnV l D aC b M_X8_init 1 21 1 12 [AR 16, AI 6, AI 2] wv_50 (fun u => u = wv_55) := by
  refine cn_V (own := RX8) (nm := "<init>") (L0 := [some (AR 16), some (AI 6), some (AI 2)]) (by decide +kernel) rfl rfl (Nat.le_of_ble_eq_true rfl) rfl ?_
  intro p e s m args below meth c E hin
  refine s_aload_n E dX8_init_0 rfl rfl ?_
  refine s_obj E k_39 k_26 k_27 (Nat.le_of_ble_eq_true rfl) (Nat.le_of_ble_eq_true rfl) dX8_init_1 ?_
  refine s_aload_n E dX8_init_4 rfl rfl ?_
  refine s_iconst (v := 0) E dX8_init_5 (by decide) ?_
  refine s_iload_n E dX8_init_6 rfl rfl ?_
  refine s_max (v := 6) E ⟨k_40, k_41, k_4, k_42⟩ (Nat.le_of_ble_eq_true rfl) (Nat.le_of_ble_eq_true rfl) (Nat.le_of_ble_eq_true rfl) (Nat.le_of_ble_eq_true rfl) dX8_init_7 (by decide) ?_
  refine s_pIF E hin ff_X8_15 rfl rfl (by decide +kernel) dX8_init_10 ?_
  refine s_world (w2 := wv_51) rfl ?_
  refine s_aload_n E dX8_init_13 rfl rfl ?_
  refine s_iconst (v := 0) E dX8_init_14 (by decide) ?_
  refine s_iload_n E dX8_init_15 rfl rfl ?_
  refine s_max (v := 2) E ⟨k_40, k_41, k_4, k_42⟩ (Nat.le_of_ble_eq_true rfl) (Nat.le_of_ble_eq_true rfl) (Nat.le_of_ble_eq_true rfl) (Nat.le_of_ble_eq_true rfl) dX8_init_16 (by decide) ?_
  refine s_pIF E hin ff_X8_21 rfl rfl (by decide +kernel) dX8_init_19 ?_
  refine s_world (w2 := wv_52) rfl ?_
  refine s_aload_n E dX8_init_22 rfl rfl ?_
  refine s_aload_n E dX8_init_23 rfl rfl ?_
  refine s_gI E fg_X8_15 rfl rfl (by decide +kernel) dX8_init_24 ?_
  refine s_top (y := 6) (by decide +kernel) ?_
  refine s_aload_n E dX8_init_27 rfl rfl ?_
  refine s_gI E fg_X8_21 rfl rfl (by decide +kernel) dX8_init_28 ?_
  refine s_top (y := 2) (by decide +kernel) ?_
  refine s_imul E dX8_init_31 ?_
  refine s_top (y := 12) (by decide) ?_
  refine s_newa100 (N := 12) E k_63 (by decide +kernel) (by decide) (by decide) (by decide) (Nat.le_of_ble_eq_true rfl) (Nat.le_of_ble_eq_true rfl) dX8_init_32 ?_
  refine s_topR (y := 17) (by decide +kernel) ?_
  refine s_world (w2 := wv_53) rfl ?_
  refine Wv.widen (cs2 := 1) (sl2 := 12) (Nat.le_of_ble_eq_true rfl) (Nat.le_of_ble_eq_true rfl) ?_
  refine s_pRF E hin ff_X8_24 rfl rfl (by decide +kernel) dX8_init_34 ?_
  refine s_world (w2 := wv_54) rfl ?_
  refine s_aload_n E dX8_init_37 rfl rfl ?_
  refine s_iconst (v := 0) E dX8_init_38 (by decide) ?_
  refine s_pI E fp_X8_28 (Or.inl rfl) rfl (by decide +kernel) dX8_init_39 ?_
  refine s_world (w2 := wv_55) rfl ?_
  exact r_void E dX8_init_42 rfl
set_option maxRecDepth 20000 in
theorem KC_9 (l : Launch) (D : va_G) (aC : Nat → ClassId) (b : Nat) : CnV l D aC b M_X8_init 1 21 1 16 [AR 18, AI 8, AI 2] wv_57 (fun u => u = wv_62) := by
  refine cn_V (own := RX8) (nm := "<init>") (L0 := [some (AR 18), some (AI 8), some (AI 2)]) (by decide +kernel) rfl rfl (Nat.le_of_ble_eq_true rfl) rfl ?_
  intro p e s m args below meth c E hin
  refine s_aload_n E dX8_init_0 rfl rfl ?_
  refine s_obj E k_39 k_26 k_27 (Nat.le_of_ble_eq_true rfl) (Nat.le_of_ble_eq_true rfl) dX8_init_1 ?_
  refine s_aload_n E dX8_init_4 rfl rfl ?_
  refine s_iconst (v := 0) E dX8_init_5 (by decide) ?_
  refine s_iload_n E dX8_init_6 rfl rfl ?_
  refine s_max (v := 8) E ⟨k_40, k_41, k_4, k_42⟩ (Nat.le_of_ble_eq_true rfl) (Nat.le_of_ble_eq_true rfl) (Nat.le_of_ble_eq_true rfl) (Nat.le_of_ble_eq_true rfl) dX8_init_7 (by decide) ?_
  refine s_pIF E hin ff_X8_15 rfl rfl (by decide +kernel) dX8_init_10 ?_
  refine s_world (w2 := wv_58) rfl ?_
  refine s_aload_n E dX8_init_13 rfl rfl ?_
  refine s_iconst (v := 0) E dX8_init_14 (by decide) ?_
  refine s_iload_n E dX8_init_15 rfl rfl ?_
  refine s_max (v := 2) E ⟨k_40, k_41, k_4, k_42⟩ (Nat.le_of_ble_eq_true rfl) (Nat.le_of_ble_eq_true rfl) (Nat.le_of_ble_eq_true rfl) (Nat.le_of_ble_eq_true rfl) dX8_init_16 (by decide) ?_
  refine s_pIF E hin ff_X8_21 rfl rfl (by decide +kernel) dX8_init_19 ?_
  refine s_world (w2 := wv_59) rfl ?_
  refine s_aload_n E dX8_init_22 rfl rfl ?_
  refine s_aload_n E dX8_init_23 rfl rfl ?_
  refine s_gI E fg_X8_15 rfl rfl (by decide +kernel) dX8_init_24 ?_
  refine s_top (y := 8) (by decide +kernel) ?_
  refine s_aload_n E dX8_init_27 rfl rfl ?_
  refine s_gI E fg_X8_21 rfl rfl (by decide +kernel) dX8_init_28 ?_
  refine s_top (y := 2) (by decide +kernel) ?_
  refine s_imul E dX8_init_31 ?_
  refine s_top (y := 16) (by decide) ?_
  refine s_newa100 (N := 16) E k_63 (by decide +kernel) (by decide) (by decide) (by decide) (Nat.le_of_ble_eq_true rfl) (Nat.le_of_ble_eq_true rfl) dX8_init_32 ?_
  refine s_topR (y := 19) (by decide +kernel) ?_
  refine s_world (w2 := wv_60) rfl ?_
  refine Wv.widen (cs2 := 1) (sl2 := 16) (Nat.le_of_ble_eq_true rfl) (Nat.le_of_ble_eq_true rfl) ?_
  refine s_pRF E hin ff_X8_24 rfl rfl (by decide +kernel) dX8_init_34 ?_
  refine s_world (w2 := wv_61) rfl ?_
  refine s_aload_n E dX8_init_37 rfl rfl ?_
  refine s_iconst (v := 0) E dX8_init_38 (by decide) ?_
  refine s_pI E fp_X8_28 (Or.inl rfl) rfl (by decide +kernel) dX8_init_39 ?_
  refine s_world (w2 := wv_62) rfl ?_
  exact r_void E dX8_init_42 rfl
set_option maxRecDepth 20000 in
theorem KC_10 (l : Launch) (D : va_G) (aC : Nat → ClassId) (b : Nat) : CnV l D aC b M_X8_init 1 21 1 30 [AR 20, AI 10, AI 3] wv_64 (fun u => u = wv_69) := by
  refine cn_V (own := RX8) (nm := "<init>") (L0 := [some (AR 20), some (AI 10), some (AI 3)]) (by decide +kernel) rfl rfl (Nat.le_of_ble_eq_true rfl) rfl ?_
  intro p e s m args below meth c E hin
  refine s_aload_n E dX8_init_0 rfl rfl ?_
  refine s_obj E k_39 k_26 k_27 (Nat.le_of_ble_eq_true rfl) (Nat.le_of_ble_eq_true rfl) dX8_init_1 ?_
  refine s_aload_n E dX8_init_4 rfl rfl ?_
  refine s_iconst (v := 0) E dX8_init_5 (by decide) ?_
  refine s_iload_n E dX8_init_6 rfl rfl ?_
  refine s_max (v := 10) E ⟨k_40, k_41, k_4, k_42⟩ (Nat.le_of_ble_eq_true rfl) (Nat.le_of_ble_eq_true rfl) (Nat.le_of_ble_eq_true rfl) (Nat.le_of_ble_eq_true rfl) dX8_init_7 (by decide) ?_
  refine s_pIF E hin ff_X8_15 rfl rfl (by decide +kernel) dX8_init_10 ?_
  refine s_world (w2 := wv_65) rfl ?_
  refine s_aload_n E dX8_init_13 rfl rfl ?_
  refine s_iconst (v := 0) E dX8_init_14 (by decide) ?_
  refine s_iload_n E dX8_init_15 rfl rfl ?_
  refine s_max (v := 3) E ⟨k_40, k_41, k_4, k_42⟩ (Nat.le_of_ble_eq_true rfl) (Nat.le_of_ble_eq_true rfl) (Nat.le_of_ble_eq_true rfl) (Nat.le_of_ble_eq_true rfl) dX8_init_16 (by decide) ?_
  refine s_pIF E hin ff_X8_21 rfl rfl (by decide +kernel) dX8_init_19 ?_
  refine s_world (w2 := wv_66) rfl ?_
  refine s_aload_n E dX8_init_22 rfl rfl ?_
  refine s_aload_n E dX8_init_23 rfl rfl ?_
  refine s_gI E fg_X8_15 rfl rfl (by decide +kernel) dX8_init_24 ?_
  refine s_top (y := 10) (by decide +kernel) ?_
  refine s_aload_n E dX8_init_27 rfl rfl ?_
  refine s_gI E fg_X8_21 rfl rfl (by decide +kernel) dX8_init_28 ?_
  refine s_top (y := 3) (by decide +kernel) ?_
  refine s_imul E dX8_init_31 ?_
  refine s_top (y := 30) (by decide) ?_
  refine s_newa100 (N := 30) E k_63 (by decide +kernel) (by decide) (by decide) (by decide) (Nat.le_of_ble_eq_true rfl) (Nat.le_of_ble_eq_true rfl) dX8_init_32 ?_
  refine s_topR (y := 21) (by decide +kernel) ?_
  refine s_world (w2 := wv_67) rfl ?_
  refine Wv.widen (cs2 := 1) (sl2 := 30) (Nat.le_of_ble_eq_true rfl) (Nat.le_of_ble_eq_true rfl) ?_
  refine s_pRF E hin ff_X8_24 rfl rfl (by decide +kernel) dX8_init_34 ?_
  refine s_world (w2 := wv_68) rfl ?_
  refine s_aload_n E dX8_init_37 rfl rfl ?_
  refine s_iconst (v := 0) E dX8_init_38 (by decide) ?_
  refine s_pI E fp_X8_28 (Or.inl rfl) rfl (by decide +kernel) dX8_init_39 ?_
  refine s_world (w2 := wv_69) rfl ?_
  exact r_void E dX8_init_42 rfl
set_option maxRecDepth 20000 in
theorem KC_11 (l : Launch) (D : va_G) (aC : Nat → ClassId) (b : Nat) : CnV l D aC b M_X8_init 1 21 1 120 [AR 22, AI 30, AI 4] wv_71 (fun u => u = wv_76) := by
  refine cn_V (own := RX8) (nm := "<init>") (L0 := [some (AR 22), some (AI 30), some (AI 4)]) (by decide +kernel) rfl rfl (Nat.le_of_ble_eq_true rfl) rfl ?_
  intro p e s m args below meth c E hin
  refine s_aload_n E dX8_init_0 rfl rfl ?_
  refine s_obj E k_39 k_26 k_27 (Nat.le_of_ble_eq_true rfl) (Nat.le_of_ble_eq_true rfl) dX8_init_1 ?_
  refine s_aload_n E dX8_init_4 rfl rfl ?_
  refine s_iconst (v := 0) E dX8_init_5 (by decide) ?_
  refine s_iload_n E dX8_init_6 rfl rfl ?_
  refine s_max (v := 30) E ⟨k_40, k_41, k_4, k_42⟩ (Nat.le_of_ble_eq_true rfl) (Nat.le_of_ble_eq_true rfl) (Nat.le_of_ble_eq_true rfl) (Nat.le_of_ble_eq_true rfl) dX8_init_7 (by decide) ?_
  refine s_pIF E hin ff_X8_15 rfl rfl (by decide +kernel) dX8_init_10 ?_
  refine s_world (w2 := wv_72) rfl ?_
  refine s_aload_n E dX8_init_13 rfl rfl ?_
  refine s_iconst (v := 0) E dX8_init_14 (by decide) ?_
  refine s_iload_n E dX8_init_15 rfl rfl ?_
  refine s_max (v := 4) E ⟨k_40, k_41, k_4, k_42⟩ (Nat.le_of_ble_eq_true rfl) (Nat.le_of_ble_eq_true rfl) (Nat.le_of_ble_eq_true rfl) (Nat.le_of_ble_eq_true rfl) dX8_init_16 (by decide) ?_
  refine s_pIF E hin ff_X8_21 rfl rfl (by decide +kernel) dX8_init_19 ?_
  refine s_world (w2 := wv_73) rfl ?_
  refine s_aload_n E dX8_init_22 rfl rfl ?_
  refine s_aload_n E dX8_init_23 rfl rfl ?_
  refine s_gI E fg_X8_15 rfl rfl (by decide +kernel) dX8_init_24 ?_
  refine s_top (y := 30) (by decide +kernel) ?_
  refine s_aload_n E dX8_init_27 rfl rfl ?_
  refine s_gI E fg_X8_21 rfl rfl (by decide +kernel) dX8_init_28 ?_
  refine s_top (y := 4) (by decide +kernel) ?_
  refine s_imul E dX8_init_31 ?_
  refine s_top (y := 120) (by decide) ?_
  refine s_newa100 (N := 120) E k_63 (by decide +kernel) (by decide) (by decide) (by decide) (Nat.le_of_ble_eq_true rfl) (Nat.le_of_ble_eq_true rfl) dX8_init_32 ?_
  refine s_topR (y := 23) (by decide +kernel) ?_
  refine s_world (w2 := wv_74) rfl ?_
  refine Wv.widen (cs2 := 1) (sl2 := 120) (Nat.le_of_ble_eq_true rfl) (Nat.le_of_ble_eq_true rfl) ?_
  refine s_pRF E hin ff_X8_24 rfl rfl (by decide +kernel) dX8_init_34 ?_
  refine s_world (w2 := wv_75) rfl ?_
  refine s_aload_n E dX8_init_37 rfl rfl ?_
  refine s_iconst (v := 0) E dX8_init_38 (by decide) ?_
  refine s_pI E fp_X8_28 (Or.inl rfl) rfl (by decide +kernel) dX8_init_39 ?_
  refine s_world (w2 := wv_76) rfl ?_
  exact r_void E dX8_init_42 rfl
set_option maxRecDepth 20000 in
theorem KC_12 (l : Launch) (D : va_G) (aC : Nat → ClassId) (b : Nat) : CnV l D aC b M_X0_init 2 43 10 234 [AR 13] wv_42 (fun u => u = wv_77) := by
  refine cn_V (own := RX0) (nm := "<init>") (L0 := [some (AR 13)]) (by decide +kernel) rfl rfl (Nat.le_of_ble_eq_true rfl) rfl ?_
  intro p e s m args below meth c E hin
  refine s_aload_n E dX0_init_0 rfl rfl ?_
  refine s_obj E k_33 k_26 k_27 (Nat.le_of_ble_eq_true rfl) (Nat.le_of_ble_eq_true rfl) dX0_init_1 ?_
  refine s_aload_n E dX0_init_4 rfl rfl ?_
  refine s_new E CI8 (by decide +kernel) k_34 k_35 k_3 (by decide +kernel) (Nat.le_of_ble_eq_true rfl) (Nat.le_of_ble_eq_true rfl) dX0_init_5 ?_
  refine s_topR (y := 14) (by decide +kernel) ?_
  refine s_world (w2 := wv_43) rfl ?_
  refine Wv.widen (cs2 := 1) (sl2 := 4) (Nat.le_of_ble_eq_true rfl) (Nat.le_of_ble_eq_true rfl) ?_
  refine s_dupR E dX0_init_8 ?_
  refine s_bipush (v := 12) E dX0_init_9 (by decide) ?_
  refine s_iconst (v := 3) E dX0_init_11 (by decide) ?_
  refine s_init (As := [AI 12, AI 3]) (S := [AR 14, AR 13]) E (KC_7 l D aC b) ci_X0_11 rfl rfl (Nat.le_of_ble_eq_true rfl) (Nat.le_of_ble_eq_true rfl) ⟨(Nat.le_of_ble_eq_true rfl), (Nat.le_of_ble_eq_true rfl)⟩ (Nat.le_of_ble_eq_true rfl) dX0_init_12 (fun u hp => ?_)
  subst hp
  refine Wv.widen (cs2 := 2) (sl2 := 40) (Nat.le_of_ble_eq_true rfl) (Nat.le_of_ble_eq_true rfl) ?_
  refine s_pRF E hin ff_X0_14 rfl rfl (by decide +kernel) dX0_init_15 ?_
  refine s_world (w2 := wv_49) rfl ?_
  refine s_aload_n E dX0_init_18 rfl rfl ?_
  refine s_new E CI8 (by decide +kernel) k_34 k_35 k_3 (by decide +kernel) (Nat.le_of_ble_eq_true rfl) (Nat.le_of_ble_eq_true rfl) dX0_init_19 ?_
  refine s_topR (y := 16) (by decide +kernel) ?_
  refine s_world (w2 := wv_50) rfl ?_
  refine Wv.widen (cs2 := 3) (sl2 := 44) (Nat.le_of_ble_eq_true rfl) (Nat.le_of_ble_eq_true rfl) ?_
  refine s_dupR E dX0_init_22 ?_
  refine s_bipush (v := 6) E dX0_init_23 (by decide) ?_
  refine s_iconst (v := 2) E dX0_init_25 (by decide) ?_
  refine s_init (As := [AI 6, AI 2]) (S := [AR 16, AR 13]) E (KC_8 l D aC b) ci_X0_11 rfl rfl (Nat.le_of_ble_eq_true rfl) (Nat.le_of_ble_eq_true rfl) ⟨(Nat.le_of_ble_eq_true rfl), (Nat.le_of_ble_eq_true rfl)⟩ (Nat.le_of_ble_eq_true rfl) dX0_init_26 (fun u hp => ?_)
  subst hp
  refine Wv.widen (cs2 := 4) (sl2 := 56) (Nat.le_of_ble_eq_true rfl) (Nat.le_of_ble_eq_true rfl) ?_
  refine s_pRF E hin ff_X0_20 rfl rfl (by decide +kernel) dX0_init_29 ?_
  refine s_world (w2 := wv_56) rfl ?_
  refine s_aload_n E dX0_init_32 rfl rfl ?_
  refine s_new E CI8 (by decide +kernel) k_34 k_35 k_3 (by decide +kernel) (Nat.le_of_ble_eq_true rfl) (Nat.le_of_ble_eq_true rfl) dX0_init_33 ?_
  refine s_topR (y := 18) (by decide +kernel) ?_
  refine s_world (w2 := wv_57) rfl ?_
  refine Wv.widen (cs2 := 5) (sl2 := 60) (Nat.le_of_ble_eq_true rfl) (Nat.le_of_ble_eq_true rfl) ?_
  refine s_dupR E dX0_init_36 ?_
  refine s_bipush (v := 8) E dX0_init_37 (by decide) ?_
  refine s_iconst (v := 2) E dX0_init_39 (by decide) ?_
  refine s_init (As := [AI 8, AI 2]) (S := [AR 18, AR 13]) E (KC_9 l D aC b) ci_X0_11 rfl rfl (Nat.le_of_ble_eq_true rfl) (Nat.le_of_ble_eq_true rfl) ⟨(Nat.le_of_ble_eq_true rfl), (Nat.le_of_ble_eq_true rfl)⟩ (Nat.le_of_ble_eq_true rfl) dX0_init_40 (fun u hp => ?_)
  subst hp
  refine Wv.widen (cs2 := 6) (sl2 := 76) (Nat.le_of_ble_eq_true rfl) (Nat.le_of_ble_eq_true rfl) ?_
  refine s_pRF E hin ff_X0_23 rfl rfl (by decide +kernel) dX0_init_43 ?_
  refine s_world (w2 := wv_63) rfl ?_
  refine s_aload_n E dX0_init_46 rfl rfl ?_
  refine s_new E CI8 (by decide +kernel) k_34 k_35 k_3 (by decide +kernel) (Nat.le_of_ble_eq_true rfl) (Nat.le_of_ble_eq_true rfl) dX0_init_47 ?_
  refine s_topR (y := 20) (by decide +kernel) ?_
  refine s_world (w2 := wv_64) rfl ?_
  refine Wv.widen (cs2 := 7) (sl2 := 80) (Nat.le_of_ble_eq_true rfl) (Nat.le_of_ble_eq_true rfl) ?_
  refine s_dupR E dX0_init_50 ?_
  refine s_bipush (v := 10) E dX0_init_51 (by decide) ?_
  refine s_iconst (v := 3) E dX0_init_53 (by decide) ?_
  refine s_init (As := [AI 10, AI 3]) (S := [AR 20, AR 13]) E (KC_10 l D aC b) ci_X0_11 rfl rfl (Nat.le_of_ble_eq_true rfl) (Nat.le_of_ble_eq_true rfl) ⟨(Nat.le_of_ble_eq_true rfl), (Nat.le_of_ble_eq_true rfl)⟩ (Nat.le_of_ble_eq_true rfl) dX0_init_54 (fun u hp => ?_)
  subst hp
  refine Wv.widen (cs2 := 8) (sl2 := 110) (Nat.le_of_ble_eq_true rfl) (Nat.le_of_ble_eq_true rfl) ?_
  refine s_pRF E hin ff_X0_26 rfl rfl (by decide +kernel) dX0_init_57 ?_
  refine s_world (w2 := wv_70) rfl ?_
  refine s_aload_n E dX0_init_60 rfl rfl ?_
  refine s_new E CI8 (by decide +kernel) k_34 k_35 k_3 (by decide +kernel) (Nat.le_of_ble_eq_true rfl) (Nat.le_of_ble_eq_true rfl) dX0_init_61 ?_
  refine s_topR (y := 22) (by decide +kernel) ?_
  refine s_world (w2 := wv_71) rfl ?_
  refine Wv.widen (cs2 := 9) (sl2 := 114) (Nat.le_of_ble_eq_true rfl) (Nat.le_of_ble_eq_true rfl) ?_
  refine s_dupR E dX0_init_64 ?_
  refine s_bipush (v := 30) E dX0_init_65 (by decide) ?_
  refine s_iconst (v := 4) E dX0_init_67 (by decide) ?_
  refine s_init (As := [AI 30, AI 4]) (S := [AR 22, AR 13]) E (KC_11 l D aC b) ci_X0_11 rfl rfl (Nat.le_of_ble_eq_true rfl) (Nat.le_of_ble_eq_true rfl) ⟨(Nat.le_of_ble_eq_true rfl), (Nat.le_of_ble_eq_true rfl)⟩ (Nat.le_of_ble_eq_true rfl) dX0_init_68 (fun u hp => ?_)
  subst hp
  refine Wv.widen (cs2 := 10) (sl2 := 234) (Nat.le_of_ble_eq_true rfl) (Nat.le_of_ble_eq_true rfl) ?_
  refine s_pRF E hin ff_X0_29 rfl rfl (by decide +kernel) dX0_init_71 ?_
  refine s_world (w2 := wv_77) rfl ?_
  exact r_void E dX0_init_74 rfl
set_option maxRecDepth 20000 in
theorem KC_13 (l : Launch) (D : va_G) (aC : Nat → ClassId) (b : Nat) : CnV l D aC b M_X6_init 1 20 0 0 [AR 24, AR 1, AR 13] wv_79 (fun u => u = wv_82) := by
  refine cn_V (own := RX6) (nm := "<init>") (L0 := [some (AR 24), some (AR 1), some (AR 13)]) (by decide +kernel) rfl rfl (Nat.le_of_ble_eq_true rfl) rfl ?_
  intro p e s m args below meth c E hin
  refine s_aload_n E dX6_init_0 rfl rfl ?_
  refine s_obj E k_128 k_26 k_27 (Nat.le_of_ble_eq_true rfl) (Nat.le_of_ble_eq_true rfl) dX6_init_1 ?_
  refine s_aload_n E dX6_init_4 rfl rfl ?_
  refine s_aload_n E dX6_init_5 rfl rfl ?_
  refine s_pRF E hin ff_X6_9 rfl rfl (by decide +kernel) dX6_init_6 ?_
  refine s_world (w2 := wv_80) rfl ?_
  refine s_aload_n E dX6_init_9 rfl rfl ?_
  refine s_aload_n E dX6_init_10 rfl rfl ?_
  refine s_pRF E hin ff_X6_15 rfl rfl (by decide +kernel) dX6_init_11 ?_
  refine s_world (w2 := wv_81) rfl ?_
  refine s_aload_n E dX6_init_14 rfl rfl ?_
  refine s_iconst (v := (-1)) E dX6_init_15 (by decide) ?_
  refine s_pI E fp_X6_19 (Or.inl rfl) rfl (by decide +kernel) dX6_init_16 ?_
  refine s_world (w2 := wv_82) rfl ?_
  exact r_void E dX6_init_19 rfl
set_option maxRecDepth 20000 in
theorem KC_14 (l : Launch) (D : va_G) (aC : Nat → ClassId) (b : Nat) : CnV l D aC b M_X8_init 1 21 1 36 [AR 28, AI 12, AI 3] wv_89 (fun u => u = wv_94) := by
  refine cn_V (own := RX8) (nm := "<init>") (L0 := [some (AR 28), some (AI 12), some (AI 3)]) (by decide +kernel) rfl rfl (Nat.le_of_ble_eq_true rfl) rfl ?_
  intro p e s m args below meth c E hin
  refine s_aload_n E dX8_init_0 rfl rfl ?_
  refine s_obj E k_39 k_26 k_27 (Nat.le_of_ble_eq_true rfl) (Nat.le_of_ble_eq_true rfl) dX8_init_1 ?_
  refine s_aload_n E dX8_init_4 rfl rfl ?_
  refine s_iconst (v := 0) E dX8_init_5 (by decide) ?_
  refine s_iload_n E dX8_init_6 rfl rfl ?_
  refine s_max (v := 12) E ⟨k_40, k_41, k_4, k_42⟩ (Nat.le_of_ble_eq_true rfl) (Nat.le_of_ble_eq_true rfl) (Nat.le_of_ble_eq_true rfl) (Nat.le_of_ble_eq_true rfl) dX8_init_7 (by decide) ?_
  refine s_pIF E hin ff_X8_15 rfl rfl (by decide +kernel) dX8_init_10 ?_
  refine s_world (w2 := wv_90) rfl ?_
  refine s_aload_n E dX8_init_13 rfl rfl ?_
  refine s_iconst (v := 0) E dX8_init_14 (by decide) ?_
  refine s_iload_n E dX8_init_15 rfl rfl ?_
  refine s_max (v := 3) E ⟨k_40, k_41, k_4, k_42⟩ (Nat.le_of_ble_eq_true rfl) (Nat.le_of_ble_eq_true rfl) (Nat.le_of_ble_eq_true rfl) (Nat.le_of_ble_eq_true rfl) dX8_init_16 (by decide) ?_
  refine s_pIF E hin ff_X8_21 rfl rfl (by decide +kernel) dX8_init_19 ?_
  refine s_world (w2 := wv_91) rfl ?_
  refine s_aload_n E dX8_init_22 rfl rfl ?_
  refine s_aload_n E dX8_init_23 rfl rfl ?_
  refine s_gI E fg_X8_15 rfl rfl (by decide +kernel) dX8_init_24 ?_
  refine s_top (y := 12) (by decide +kernel) ?_
  refine s_aload_n E dX8_init_27 rfl rfl ?_
  refine s_gI E fg_X8_21 rfl rfl (by decide +kernel) dX8_init_28 ?_
  refine s_top (y := 3) (by decide +kernel) ?_
  refine s_imul E dX8_init_31 ?_
  refine s_top (y := 36) (by decide) ?_
  refine s_newa100 (N := 36) E k_63 (by decide +kernel) (by decide) (by decide) (by decide) (Nat.le_of_ble_eq_true rfl) (Nat.le_of_ble_eq_true rfl) dX8_init_32 ?_
  refine s_topR (y := 29) (by decide +kernel) ?_
  refine s_world (w2 := wv_92) rfl ?_
  refine Wv.widen (cs2 := 1) (sl2 := 36) (Nat.le_of_ble_eq_true rfl) (Nat.le_of_ble_eq_true rfl) ?_
  refine s_pRF E hin ff_X8_24 rfl rfl (by decide +kernel) dX8_init_34 ?_
  refine s_world (w2 := wv_93) rfl ?_
  refine s_aload_n E dX8_init_37 rfl rfl ?_
  refine s_iconst (v := 0) E dX8_init_38 (by decide) ?_
  refine s_pI E fp_X8_28 (Or.inl rfl) rfl (by decide +kernel) dX8_init_39 ?_
  refine s_world (w2 := wv_94) rfl ?_
  exact r_void E dX8_init_42 rfl
set_option maxRecDepth 20000 in
theorem KC_15 (l : Launch) (D : va_G) (aC : Nat → ClassId) (b : Nat) : CnV l D aC b M_X8_init 1 21 1 12 [AR 30, AI 6, AI 2] wv_96 (fun u => u = wv_101) := by
  refine cn_V (own := RX8) (nm := "<init>") (L0 := [some (AR 30), some (AI 6), some (AI 2)]) (by decide +kernel) rfl rfl (Nat.le_of_ble_eq_true rfl) rfl ?_
  intro p e s m args below meth c E hin
  refine s_aload_n E dX8_init_0 rfl rfl ?_
  refine s_obj E k_39 k_26 k_27 (Nat.le_of_ble_eq_true rfl) (Nat.le_of_ble_eq_true rfl) dX8_init_1 ?_
  refine s_aload_n E dX8_init_4 rfl rfl ?_
  refine s_iconst (v := 0) E dX8_init_5 (by decide) ?_
  refine s_iload_n E dX8_init_6 rfl rfl ?_
  refine s_max (v := 6) E ⟨k_40, k_41, k_4, k_42⟩ (Nat.le_of_ble_eq_true rfl) (Nat.le_of_ble_eq_true rfl) (Nat.le_of_ble_eq_true rfl) (Nat.le_of_ble_eq_true rfl) dX8_init_7 (by decide) ?_
  refine s_pIF E hin ff_X8_15 rfl rfl (by decide +kernel) dX8_init_10 ?_
  refine s_world (w2 := wv_97) rfl ?_
  refine s_aload_n E dX8_init_13 rfl rfl ?_
  refine s_iconst (v := 0) E dX8_init_14 (by decide) ?_
  refine s_iload_n E dX8_init_15 rfl rfl ?_
  refine s_max (v := 2) E ⟨k_40, k_41, k_4, k_42⟩ (Nat.le_of_ble_eq_true rfl) (Nat.le_of_ble_eq_true rfl) (Nat.le_of_ble_eq_true rfl) (Nat.le_of_ble_eq_true rfl) dX8_init_16 (by decide) ?_
  refine s_pIF E hin ff_X8_21 rfl rfl (by decide +kernel) dX8_init_19 ?_
  refine s_world (w2 := wv_98) rfl ?_
  refine s_aload_n E dX8_init_22 rfl rfl ?_
  refine s_aload_n E dX8_init_23 rfl rfl ?_
  refine s_gI E fg_X8_15 rfl rfl (by decide +kernel) dX8_init_24 ?_
  refine s_top (y := 6) (by decide +kernel) ?_
  refine s_aload_n E dX8_init_27 rfl rfl ?_
  refine s_gI E fg_X8_21 rfl rfl (by decide +kernel) dX8_init_28 ?_
  refine s_top (y := 2) (by decide +kernel) ?_
  refine s_imul E dX8_init_31 ?_
  refine s_top (y := 12) (by decide) ?_
  refine s_newa100 (N := 12) E k_63 (by decide +kernel) (by decide) (by decide) (by decide) (Nat.le_of_ble_eq_true rfl) (Nat.le_of_ble_eq_true rfl) dX8_init_32 ?_
  refine s_topR (y := 31) (by decide +kernel) ?_
  refine s_world (w2 := wv_99) rfl ?_
  refine Wv.widen (cs2 := 1) (sl2 := 12) (Nat.le_of_ble_eq_true rfl) (Nat.le_of_ble_eq_true rfl) ?_
  refine s_pRF E hin ff_X8_24 rfl rfl (by decide +kernel) dX8_init_34 ?_
  refine s_world (w2 := wv_100) rfl ?_
  refine s_aload_n E dX8_init_37 rfl rfl ?_
  refine s_iconst (v := 0) E dX8_init_38 (by decide) ?_
  refine s_pI E fp_X8_28 (Or.inl rfl) rfl (by decide +kernel) dX8_init_39 ?_
  refine s_world (w2 := wv_101) rfl ?_
  exact r_void E dX8_init_42 rfl
set_option maxRecDepth 20000 in
theorem KC_16 (l : Launch) (D : va_G) (aC : Nat → ClassId) (b : Nat) : CnV l D aC b M_X8_init 1 21 1 16 [AR 32, AI 8, AI 2] wv_103 (fun u => u = wv_108) := by
  refine cn_V (own := RX8) (nm := "<init>") (L0 := [some (AR 32), some (AI 8), some (AI 2)]) (by decide +kernel) rfl rfl (Nat.le_of_ble_eq_true rfl) rfl ?_
  intro p e s m args below meth c E hin
  refine s_aload_n E dX8_init_0 rfl rfl ?_
  refine s_obj E k_39 k_26 k_27 (Nat.le_of_ble_eq_true rfl) (Nat.le_of_ble_eq_true rfl) dX8_init_1 ?_
  refine s_aload_n E dX8_init_4 rfl rfl ?_
  refine s_iconst (v := 0) E dX8_init_5 (by decide) ?_
  refine s_iload_n E dX8_init_6 rfl rfl ?_
  refine s_max (v := 8) E ⟨k_40, k_41, k_4, k_42⟩ (Nat.le_of_ble_eq_true rfl) (Nat.le_of_ble_eq_true rfl) (Nat.le_of_ble_eq_true rfl) (Nat.le_of_ble_eq_true rfl) dX8_init_7 (by decide) ?_
  refine s_pIF E hin ff_X8_15 rfl rfl (by decide +kernel) dX8_init_10 ?_
  refine s_world (w2 := wv_104) rfl ?_
  refine s_aload_n E dX8_init_13 rfl rfl ?_
  refine s_iconst (v := 0) E dX8_init_14 (by decide) ?_
  refine s_iload_n E dX8_init_15 rfl rfl ?_
  refine s_max (v := 2) E ⟨k_40, k_41, k_4, k_42⟩ (Nat.le_of_ble_eq_true rfl) (Nat.le_of_ble_eq_true rfl) (Nat.le_of_ble_eq_true rfl) (Nat.le_of_ble_eq_true rfl) dX8_init_16 (by decide) ?_
  refine s_pIF E hin ff_X8_21 rfl rfl (by decide +kernel) dX8_init_19 ?_
  refine s_world (w2 := wv_105) rfl ?_
  refine s_aload_n E dX8_init_22 rfl rfl ?_
  refine s_aload_n E dX8_init_23 rfl rfl ?_
  refine s_gI E fg_X8_15 rfl rfl (by decide +kernel) dX8_init_24 ?_
  refine s_top (y := 8) (by decide +kernel) ?_
  refine s_aload_n E dX8_init_27 rfl rfl ?_
  refine s_gI E fg_X8_21 rfl rfl (by decide +kernel) dX8_init_28 ?_
  refine s_top (y := 2) (by decide +kernel) ?_
  refine s_imul E dX8_init_31 ?_
  refine s_top (y := 16) (by decide) ?_
  refine s_newa100 (N := 16) E k_63 (by decide +kernel) (by decide) (by decide) (by decide) (Nat.le_of_ble_eq_true rfl) (Nat.le_of_ble_eq_true rfl) dX8_init_32 ?_
  refine s_topR (y := 33) (by decide +kernel) ?_
  refine s_world (w2 := wv_106) rfl ?_
  refine Wv.widen (cs2 := 1) (sl2 := 16) (Nat.le_of_ble_eq_true rfl) (Nat.le_of_ble_eq_true rfl) ?_
  refine s_pRF E hin ff_X8_24 rfl rfl (by decide +kernel) dX8_init_34 ?_
  refine s_world (w2 := wv_107) rfl ?_
  refine s_aload_n E dX8_init_37 rfl rfl ?_
  refine s_iconst (v := 0) E dX8_init_38 (by decide) ?_
  refine s_pI E fp_X8_28 (Or.inl rfl) rfl (by decide +kernel) dX8_init_39 ?_
  refine s_world (w2 := wv_108) rfl ?_
  exact r_void E dX8_init_42 rfl
set_option maxRecDepth 20000 in
theorem KC_17 (l : Launch) (D : va_G) (aC : Nat → ClassId) (b : Nat) : CnV l D aC b M_X8_init 1 21 1 30 [AR 34, AI 10, AI 3] wv_110 (fun u => u = wv_115) := by
  refine cn_V (own := RX8) (nm := "<init>") (L0 := [some (AR 34), some (AI 10), some (AI 3)]) (by decide +kernel) rfl rfl (Nat.le_of_ble_eq_true rfl) rfl ?_
  intro p e s m args below meth c E hin
  refine s_aload_n E dX8_init_0 rfl rfl ?_
  refine s_obj E k_39 k_26 k_27 (Nat.le_of_ble_eq_true rfl) (Nat.le_of_ble_eq_true rfl) dX8_init_1 ?_
  refine s_aload_n E dX8_init_4 rfl rfl ?_
  refine s_iconst (v := 0) E dX8_init_5 (by decide) ?_
  refine s_iload_n E dX8_init_6 rfl rfl ?_
  refine s_max (v := 10) E ⟨k_40, k_41, k_4, k_42⟩ (Nat.le_of_ble_eq_true rfl) (Nat.le_of_ble_eq_true rfl) (Nat.le_of_ble_eq_true rfl) (Nat.le_of_ble_eq_true rfl) dX8_init_7 (by decide) ?_
  refine s_pIF E hin ff_X8_15 rfl rfl (by decide +kernel) dX8_init_10 ?_
  refine s_world (w2 := wv_111) rfl ?_
  refine s_aload_n E dX8_init_13 rfl rfl ?_
  refine s_iconst (v := 0) E dX8_init_14 (by decide) ?_
  refine s_iload_n E dX8_init_15 rfl rfl ?_
  refine s_max (v := 3) E ⟨k_40, k_41, k_4, k_42⟩ (Nat.le_of_ble_eq_true rfl) (Nat.le_of_ble_eq_true rfl) (Nat.le_of_ble_eq_true rfl) (Nat.le_of_ble_eq_true rfl) dX8_init_16 (by decide) ?_
  refine s_pIF E hin ff_X8_21 rfl rfl (by decide +kernel) dX8_init_19 ?_
  refine s_world (w2 := wv_112) rfl ?_
  refine s_aload_n E dX8_init_22 rfl rfl ?_
  refine s_aload_n E dX8_init_23 rfl rfl ?_
  refine s_gI E fg_X8_15 rfl rfl (by decide +kernel) dX8_init_24 ?_
  refine s_top (y := 10) (by decide +kernel) ?_
  refine s_aload_n E dX8_init_27 rfl rfl ?_
  refine s_gI E fg_X8_21 rfl rfl (by decide +kernel) dX8_init_28 ?_
  refine s_top (y := 3) (by decide +kernel) ?_
  refine s_imul E dX8_init_31 ?_
  refine s_top (y := 30) (by decide) ?_
  refine s_newa100 (N := 30) E k_63 (by decide +kernel) (by decide) (by decide) (by decide) (Nat.le_of_ble_eq_true rfl) (Nat.le_of_ble_eq_true rfl) dX8_init_32 ?_
  refine s_topR (y := 35) (by decide +kernel) ?_
  refine s_world (w2 := wv_113) rfl ?_
  refine Wv.widen (cs2 := 1) (sl2 := 30) (Nat.le_of_ble_eq_true rfl) (Nat.le_of_ble_eq_true rfl) ?_
  refine s_pRF E hin ff_X8_24 rfl rfl (by decide +kernel) dX8_init_34 ?_
  refine s_world (w2 := wv_114) rfl ?_
  refine s_aload_n E dX8_init_37 rfl rfl ?_
  refine s_iconst (v := 0) E dX8_init_38 (by decide) ?_
  refine s_pI E fp_X8_28 (Or.inl rfl) rfl (by decide +kernel) dX8_init_39 ?_
  refine s_world (w2 := wv_115) rfl ?_
  exact r_void E dX8_init_42 rfl
set_option maxRecDepth 20000 in
theorem KC_18 (l : Launch) (D : va_G) (aC : Nat → ClassId) (b : Nat) : CnV l D aC b M_X8_init 1 21 1 120 [AR 36, AI 30, AI 4] wv_117 (fun u => u = wv_122) := by
  refine cn_V (own := RX8) (nm := "<init>") (L0 := [some (AR 36), some (AI 30), some (AI 4)]) (by decide +kernel) rfl rfl (Nat.le_of_ble_eq_true rfl) rfl ?_
  intro p e s m args below meth c E hin
  refine s_aload_n E dX8_init_0 rfl rfl ?_
  refine s_obj E k_39 k_26 k_27 (Nat.le_of_ble_eq_true rfl) (Nat.le_of_ble_eq_true rfl) dX8_init_1 ?_
  refine s_aload_n E dX8_init_4 rfl rfl ?_
  refine s_iconst (v := 0) E dX8_init_5 (by decide) ?_
  refine s_iload_n E dX8_init_6 rfl rfl ?_
  refine s_max (v := 30) E ⟨k_40, k_41, k_4, k_42⟩ (Nat.le_of_ble_eq_true rfl) (Nat.le_of_ble_eq_true rfl) (Nat.le_of_ble_eq_true rfl) (Nat.le_of_ble_eq_true rfl) dX8_init_7 (by decide) ?_
  refine s_pIF E hin ff_X8_15 rfl rfl (by decide +kernel) dX8_init_10 ?_
  refine s_world (w2 := wv_118) rfl ?_
  refine s_aload_n E dX8_init_13 rfl rfl ?_
  refine s_iconst (v := 0) E dX8_init_14 (by decide) ?_
  refine s_iload_n E dX8_init_15 rfl rfl ?_
  refine s_max (v := 4) E ⟨k_40, k_41, k_4, k_42⟩ (Nat.le_of_ble_eq_true rfl) (Nat.le_of_ble_eq_true rfl) (Nat.le_of_ble_eq_true rfl) (Nat.le_of_ble_eq_true rfl) dX8_init_16 (by decide) ?_
  refine s_pIF E hin ff_X8_21 rfl rfl (by decide +kernel) dX8_init_19 ?_
  refine s_world (w2 := wv_119) rfl ?_
  refine s_aload_n E dX8_init_22 rfl rfl ?_
  refine s_aload_n E dX8_init_23 rfl rfl ?_
  refine s_gI E fg_X8_15 rfl rfl (by decide +kernel) dX8_init_24 ?_
  refine s_top (y := 30) (by decide +kernel) ?_
  refine s_aload_n E dX8_init_27 rfl rfl ?_
  refine s_gI E fg_X8_21 rfl rfl (by decide +kernel) dX8_init_28 ?_
  refine s_top (y := 4) (by decide +kernel) ?_
  refine s_imul E dX8_init_31 ?_
  refine s_top (y := 120) (by decide) ?_
  refine s_newa100 (N := 120) E k_63 (by decide +kernel) (by decide) (by decide) (by decide) (Nat.le_of_ble_eq_true rfl) (Nat.le_of_ble_eq_true rfl) dX8_init_32 ?_
  refine s_topR (y := 37) (by decide +kernel) ?_
  refine s_world (w2 := wv_120) rfl ?_
  refine Wv.widen (cs2 := 1) (sl2 := 120) (Nat.le_of_ble_eq_true rfl) (Nat.le_of_ble_eq_true rfl) ?_
  refine s_pRF E hin ff_X8_24 rfl rfl (by decide +kernel) dX8_init_34 ?_
  refine s_world (w2 := wv_121) rfl ?_
  refine s_aload_n E dX8_init_37 rfl rfl ?_
  refine s_iconst (v := 0) E dX8_init_38 (by decide) ?_
  refine s_pI E fp_X8_28 (Or.inl rfl) rfl (by decide +kernel) dX8_init_39 ?_
  refine s_world (w2 := wv_122) rfl ?_
  exact r_void E dX8_init_42 rfl
set_option maxRecDepth 20000 in
theorem KC_19 (l : Launch) (D : va_G) (aC : Nat → ClassId) (b : Nat) : CnV l D aC b M_X0_init 2 43 10 234 [AR 27] wv_88 (fun u => u = wv_123) := by
  refine cn_V (own := RX0) (nm := "<init>") (L0 := [some (AR 27)]) (by decide +kernel) rfl rfl (Nat.le_of_ble_eq_true rfl) rfl ?_
  intro p e s m args below meth c E hin
  refine s_aload_n E dX0_init_0 rfl rfl ?_
  refine s_obj E k_33 k_26 k_27 (Nat.le_of_ble_eq_true rfl) (Nat.le_of_ble_eq_true rfl) dX0_init_1 ?_
  refine s_aload_n E dX0_init_4 rfl rfl ?_
  refine s_new E CI8 (by decide +kernel) k_34 k_35 k_3 (by decide +kernel) (Nat.le_of_ble_eq_true rfl) (Nat.le_of_ble_eq_true rfl) dX0_init_5 ?_
  refine s_topR (y := 28) (by decide +kernel) ?_
  refine s_world (w2 := wv_89) rfl ?_
  refine Wv.widen (cs2 := 1) (sl2 := 4) (Nat.le_of_ble_eq_true rfl) (Nat.le_of_ble_eq_true rfl) ?_
  refine s_dupR E dX0_init_8 ?_
  refine s_bipush (v := 12) E dX0_init_9 (by decide) ?_
  refine s_iconst (v := 3) E dX0_init_11 (by decide) ?_
  refine s_init (As := [AI 12, AI 3]) (S := [AR 28, AR 27]) E (KC_14 l D aC b) ci_X0_11 rfl rfl (Nat.le_of_ble_eq_true rfl) (Nat.le_of_ble_eq_true rfl) ⟨(Nat.le_of_ble_eq_true rfl), (Nat.le_of_ble_eq_true rfl)⟩ (Nat.le_of_ble_eq_true rfl) dX0_init_12 (fun u hp => ?_)
  subst hp
  refine Wv.widen (cs2 := 2) (sl2 := 40) (Nat.le_of_ble_eq_true rfl) (Nat.le_of_ble_eq_true rfl) ?_
  refine s_pRF E hin ff_X0_14 rfl rfl (by decide +kernel) dX0_init_15 ?_
  refine s_world (w2 := wv_95) rfl ?_
  refine s_aload_n E dX0_init_18 rfl rfl ?_
  refine s_new E CI8 (by decide +kernel) k_34 k_35 k_3 (by decide +kernel) (Nat.le_of_ble_eq_true rfl) (Nat.le_of_ble_eq_true rfl) dX0_init_19 ?_
  refine s_topR (y := 30) (by decide +kernel) ?_
  refine s_world (w2 := wv_96) rfl ?_
  refine Wv.widen (cs2 := 3) (sl2 := 44) (Nat.le_of_ble_eq_true rfl) (Nat.le_of_ble_eq_true rfl) ?_
  refine s_dupR E dX0_init_22 ?_
  refine s_bipush (v := 6) E dX0_init_23 (by decide) ?_
  refine s_iconst (v := 2) E dX0_init_25 (by decide) ?_
  refine s_init (As := [AI 6, AI 2]) (S := [AR 30, AR 27]) E (KC_15 l D aC b) ci_X0_11 rfl rfl (Nat.le_of_ble_eq_true rfl) (Nat.le_of_ble_eq_true rfl) ⟨(Nat.le_of_ble_eq_true rfl), (Nat.le_of_ble_eq_true rfl)⟩ (Nat.le_of_ble_eq_true rfl) dX0_init_26 (fun u hp => ?_)
  subst hp
  refine Wv.widen (cs2 := 4) (sl2 := 56) (Nat.le_of_ble_eq_true rfl) (Nat.le_of_ble_eq_true rfl) ?_
  refine s_pRF E hin ff_X0_20 rfl rfl (by decide +kernel) dX0_init_29 ?_
  refine s_world (w2 := wv_102) rfl ?_
  refine s_aload_n E dX0_init_32 rfl rfl ?_
  refine s_new E CI8 (by decide +kernel) k_34 k_35 k_3 (by decide +kernel) (Nat.le_of_ble_eq_true rfl) (Nat.le_of_ble_eq_true rfl) dX0_init_33 ?_
  refine s_topR (y := 32) (by decide +kernel) ?_
  refine s_world (w2 := wv_103) rfl ?_
  refine Wv.widen (cs2 := 5) (sl2 := 60) (Nat.le_of_ble_eq_true rfl) (Nat.le_of_ble_eq_true rfl) ?_
  refine s_dupR E dX0_init_36 ?_
  refine s_bipush (v := 8) E dX0_init_37 (by decide) ?_
  refine s_iconst (v := 2) E dX0_init_39 (by decide) ?_
  refine s_init (As := [AI 8, AI 2]) (S := [AR 32, AR 27]) E (KC_16 l D aC b) ci_X0_11 rfl rfl (Nat.le_of_ble_eq_true rfl) (Nat.le_of_ble_eq_true rfl) ⟨(Nat.le_of_ble_eq_true rfl), (Nat.le_of_ble_eq_true rfl)⟩ (Nat.le_of_ble_eq_true rfl) dX0_init_40 (fun u hp => ?_)
  subst hp
  refine Wv.widen (cs2 := 6) (sl2 := 76) (Nat.le_of_ble_eq_true rfl) (Nat.le_of_ble_eq_true rfl) ?_
  refine s_pRF E hin ff_X0_23 rfl rfl (by decide +kernel) dX0_init_43 ?_
  refine s_world (w2 := wv_109) rfl ?_
  refine s_aload_n E dX0_init_46 rfl rfl ?_
  refine s_new E CI8 (by decide +kernel) k_34 k_35 k_3 (by decide +kernel) (Nat.le_of_ble_eq_true rfl) (Nat.le_of_ble_eq_true rfl) dX0_init_47 ?_
  refine s_topR (y := 34) (by decide +kernel) ?_
  refine s_world (w2 := wv_110) rfl ?_
  refine Wv.widen (cs2 := 7) (sl2 := 80) (Nat.le_of_ble_eq_true rfl) (Nat.le_of_ble_eq_true rfl) ?_
  refine s_dupR E dX0_init_50 ?_
  refine s_bipush (v := 10) E dX0_init_51 (by decide) ?_
  refine s_iconst (v := 3) E dX0_init_53 (by decide) ?_
  refine s_init (As := [AI 10, AI 3]) (S := [AR 34, AR 27]) E (KC_17 l D aC b) ci_X0_11 rfl rfl (Nat.le_of_ble_eq_true rfl) (Nat.le_of_ble_eq_true rfl) ⟨(Nat.le_of_ble_eq_true rfl), (Nat.le_of_ble_eq_true rfl)⟩ (Nat.le_of_ble_eq_true rfl) dX0_init_54 (fun u hp => ?_)
  subst hp
  refine Wv.widen (cs2 := 8) (sl2 := 110) (Nat.le_of_ble_eq_true rfl) (Nat.le_of_ble_eq_true rfl) ?_
  refine s_pRF E hin ff_X0_26 rfl rfl (by decide +kernel) dX0_init_57 ?_
  refine s_world (w2 := wv_116) rfl ?_
  refine s_aload_n E dX0_init_60 rfl rfl ?_
  refine s_new E CI8 (by decide +kernel) k_34 k_35 k_3 (by decide +kernel) (Nat.le_of_ble_eq_true rfl) (Nat.le_of_ble_eq_true rfl) dX0_init_61 ?_
  refine s_topR (y := 36) (by decide +kernel) ?_
  refine s_world (w2 := wv_117) rfl ?_
  refine Wv.widen (cs2 := 9) (sl2 := 114) (Nat.le_of_ble_eq_true rfl) (Nat.le_of_ble_eq_true rfl) ?_
  refine s_dupR E dX0_init_64 ?_
  refine s_bipush (v := 30) E dX0_init_65 (by decide) ?_
  refine s_iconst (v := 4) E dX0_init_67 (by decide) ?_
  refine s_init (As := [AI 30, AI 4]) (S := [AR 36, AR 27]) E (KC_18 l D aC b) ci_X0_11 rfl rfl (Nat.le_of_ble_eq_true rfl) (Nat.le_of_ble_eq_true rfl) ⟨(Nat.le_of_ble_eq_true rfl), (Nat.le_of_ble_eq_true rfl)⟩ (Nat.le_of_ble_eq_true rfl) dX0_init_68 (fun u hp => ?_)
  subst hp
  refine Wv.widen (cs2 := 10) (sl2 := 234) (Nat.le_of_ble_eq_true rfl) (Nat.le_of_ble_eq_true rfl) ?_
  refine s_pRF E hin ff_X0_29 rfl rfl (by decide +kernel) dX0_init_71 ?_
  refine s_world (w2 := wv_123) rfl ?_
  exact r_void E dX0_init_74 rfl
set_option maxRecDepth 20000 in
theorem KC_20 (l : Launch) (D : va_G) (aC : Nat → ClassId) (b : Nat) : CnV l D aC b M_X8_init 1 21 1 36 [AR 39, AI 12, AI 3] wv_126 (fun u => u = wv_131) := by
  refine cn_V (own := RX8) (nm := "<init>") (L0 := [some (AR 39), some (AI 12), some (AI 3)]) (by decide +kernel) rfl rfl (Nat.le_of_ble_eq_true rfl) rfl ?_
  intro p e s m args below meth c E hin
  refine s_aload_n E dX8_init_0 rfl rfl ?_
  refine s_obj E k_39 k_26 k_27 (Nat.le_of_ble_eq_true rfl) (Nat.le_of_ble_eq_true rfl) dX8_init_1 ?_
  refine s_aload_n E dX8_init_4 rfl rfl ?_
  refine s_iconst (v := 0) E dX8_init_5 (by decide) ?_
  refine s_iload_n E dX8_init_6 rfl rfl ?_
  refine s_max (v := 12) E ⟨k_40, k_41, k_4, k_42⟩ (Nat.le_of_ble_eq_true rfl) (Nat.le_of_ble_eq_true rfl) (Nat.le_of_ble_eq_true rfl) (Nat.le_of_ble_eq_true rfl) dX8_init_7 (by decide) ?_
  refine s_pIF E hin ff_X8_15 rfl rfl (by decide +kernel) dX8_init_10 ?_
  refine s_world (w2 := wv_127) rfl ?_
  refine s_aload_n E dX8_init_13 rfl rfl ?_
  refine s_iconst (v := 0) E dX8_init_14 (by decide) ?_
  refine s_iload_n E dX8_init_15 rfl rfl ?_
  refine s_max (v := 3) E ⟨k_40, k_41, k_4, k_42⟩ (Nat.le_of_ble_eq_true rfl) (Nat.le_of_ble_eq_true rfl) (Nat.le_of_ble_eq_true rfl) (Nat.le_of_ble_eq_true rfl) dX8_init_16 (by decide) ?_
  refine s_pIF E hin ff_X8_21 rfl rfl (by decide +kernel) dX8_init_19 ?_
  refine s_world (w2 := wv_128) rfl ?_
  refine s_aload_n E dX8_init_22 rfl rfl ?_
  refine s_aload_n E dX8_init_23 rfl rfl ?_
  refine s_gI E fg_X8_15 rfl rfl (by decide +kernel) dX8_init_24 ?_
  refine s_top (y := 12) (by decide +kernel) ?_
  refine s_aload_n E dX8_init_27 rfl rfl ?_
  refine s_gI E fg_X8_21 rfl rfl (by decide +kernel) dX8_init_28 ?_
  refine s_top (y := 3) (by decide +kernel) ?_
  refine s_imul E dX8_init_31 ?_
  refine s_top (y := 36) (by decide) ?_
  refine s_newa100 (N := 36) E k_63 (by decide +kernel) (by decide) (by decide) (by decide) (Nat.le_of_ble_eq_true rfl) (Nat.le_of_ble_eq_true rfl) dX8_init_32 ?_
  refine s_topR (y := 40) (by decide +kernel) ?_
  refine s_world (w2 := wv_129) rfl ?_
  refine Wv.widen (cs2 := 1) (sl2 := 36) (Nat.le_of_ble_eq_true rfl) (Nat.le_of_ble_eq_true rfl) ?_
  refine s_pRF E hin ff_X8_24 rfl rfl (by decide +kernel) dX8_init_34 ?_
  refine s_world (w2 := wv_130) rfl ?_
  refine s_aload_n E dX8_init_37 rfl rfl ?_
  refine s_iconst (v := 0) E dX8_init_38 (by decide) ?_
  refine s_pI E fp_X8_28 (Or.inl rfl) rfl (by decide +kernel) dX8_init_39 ?_
  refine s_world (w2 := wv_131) rfl ?_
  exact r_void E dX8_init_42 rfl
set_option maxRecDepth 20000 in
theorem KC_21 (l : Launch) (D : va_G) (aC : Nat → ClassId) (b : Nat) : CnV l D aC b M_X8_init 1 21 1 12 [AR 41, AI 6, AI 2] wv_133 (fun u => u = wv_138) := by
  refine cn_V (own := RX8) (nm := "<init>") (L0 := [some (AR 41), some (AI 6), some (AI 2)]) (by decide +kernel) rfl rfl (Nat.le_of_ble_eq_true rfl) rfl ?_
  intro p e s m args below meth c E hin
  refine s_aload_n E dX8_init_0 rfl rfl ?_
  refine s_obj E k_39 k_26 k_27 (Nat.le_of_ble_eq_true rfl) (Nat.le_of_ble_eq_true rfl) dX8_init_1 ?_
  refine s_aload_n E dX8_init_4 rfl rfl ?_
  refine s_iconst (v := 0) E dX8_init_5 (by decide) ?_
  refine s_iload_n E dX8_init_6 rfl rfl ?_
  refine s_max (v := 6) E ⟨k_40, k_41, k_4, k_42⟩ (Nat.le_of_ble_eq_true rfl) (Nat.le_of_ble_eq_true rfl) (Nat.le_of_ble_eq_true rfl) (Nat.le_of_ble_eq_true rfl) dX8_init_7 (by decide) ?_
  refine s_pIF E hin ff_X8_15 rfl rfl (by decide +kernel) dX8_init_10 ?_
  refine s_world (w2 := wv_134) rfl ?_
  refine s_aload_n E dX8_init_13 rfl rfl ?_
  refine s_iconst (v := 0) E dX8_init_14 (by decide) ?_
  refine s_iload_n E dX8_init_15 rfl rfl ?_
  refine s_max (v := 2) E ⟨k_40, k_41, k_4, k_42⟩ (Nat.le_of_ble_eq_true rfl) (Nat.le_of_ble_eq_true rfl) (Nat.le_of_ble_eq_true rfl) (Nat.le_of_ble_eq_true rfl) dX8_init_16 (by decide) ?_
  refine s_pIF E hin ff_X8_21 rfl rfl (by decide +kernel) dX8_init_19 ?_
  refine s_world (w2 := wv_135) rfl ?_
  refine s_aload_n E dX8_init_22 rfl rfl ?_
  refine s_aload_n E dX8_init_23 rfl rfl ?_
  refine s_gI E fg_X8_15 rfl rfl (by decide +kernel) dX8_init_24 ?_
  refine s_top (y := 6) (by decide +kernel) ?_
  refine s_aload_n E dX8_init_27 rfl rfl ?_
  refine s_gI E fg_X8_21 rfl rfl (by decide +kernel) dX8_init_28 ?_
  refine s_top (y := 2) (by decide +kernel) ?_
  refine s_imul E dX8_init_31 ?_
  refine s_top (y := 12) (by decide) ?_
  refine s_newa100 (N := 12) E k_63 (by decide +kernel) (by decide) (by decide) (by decide) (Nat.le_of_ble_eq_true rfl) (Nat.le_of_ble_eq_true rfl) dX8_init_32 ?_
  refine s_topR (y := 42) (by decide +kernel) ?_
  refine s_world (w2 := wv_136) rfl ?_
  refine Wv.widen (cs2 := 1) (sl2 := 12) (Nat.le_of_ble_eq_true rfl) (Nat.le_of_ble_eq_true rfl) ?_
  refine s_pRF E hin ff_X8_24 rfl rfl (by decide +kernel) dX8_init_34 ?_
  refine s_world (w2 := wv_137) rfl ?_
  refine s_aload_n E dX8_init_37 rfl rfl ?_
  refine s_iconst (v := 0) E dX8_init_38 (by decide) ?_
  refine s_pI E fp_X8_28 (Or.inl rfl) rfl (by decide +kernel) dX8_init_39 ?_
  refine s_world (w2 := wv_138) rfl ?_
  exact r_void E dX8_init_42 rfl
set_option maxRecDepth 20000 in
theorem KC_22 (l : Launch) (D : va_G) (aC : Nat → ClassId) (b : Nat) : CnV l D aC b M_X8_init 1 21 1 16 [AR 43, AI 8, AI 2] wv_140 (fun u => u = wv_145) := by
  refine cn_V (own := RX8) (nm := "<init>") (L0 := [some (AR 43), some (AI 8), some (AI 2)]) (by decide +kernel) rfl rfl (Nat.le_of_ble_eq_true rfl) rfl ?_
  intro p e s m args below meth c E hin
  refine s_aload_n E dX8_init_0 rfl rfl ?_
  refine s_obj E k_39 k_26 k_27 (Nat.le_of_ble_eq_true rfl) (Nat.le_of_ble_eq_true rfl) dX8_init_1 ?_
  refine s_aload_n E dX8_init_4 rfl rfl ?_
  refine s_iconst (v := 0) E dX8_init_5 (by decide) ?_
  refine s_iload_n E dX8_init_6 rfl rfl ?_
  refine s_max (v := 8) E ⟨k_40, k_41, k_4, k_42⟩ (Nat.le_of_ble_eq_true rfl) (Nat.le_of_ble_eq_true rfl) (Nat.le_of_ble_eq_true rfl) (Nat.le_of_ble_eq_true rfl) dX8_init_7 (by decide) ?_
  refine s_pIF E hin ff_X8_15 rfl rfl (by decide +kernel) dX8_init_10 ?_
  refine s_world (w2 := wv_141) rfl ?_
  refine s_aload_n E dX8_init_13 rfl rfl ?_
  refine s_iconst (v := 0) E dX8_init_14 (by decide) ?_
  refine s_iload_n E dX8_init_15 rfl rfl ?_
  refine s_max (v := 2) E ⟨k_40, k_41, k_4, k_42⟩ (Nat.le_of_ble_eq_true rfl) (Nat.le_of_ble_eq_true rfl) (Nat.le_of_ble_eq_true rfl) (Nat.le_of_ble_eq_true rfl) dX8_init_16 (by decide) ?_
  refine s_pIF E hin ff_X8_21 rfl rfl (by decide +kernel) dX8_init_19 ?_
  refine s_world (w2 := wv_142) rfl ?_
  refine s_aload_n E dX8_init_22 rfl rfl ?_
  refine s_aload_n E dX8_init_23 rfl rfl ?_
  refine s_gI E fg_X8_15 rfl rfl (by decide +kernel) dX8_init_24 ?_
  refine s_top (y := 8) (by decide +kernel) ?_
  refine s_aload_n E dX8_init_27 rfl rfl ?_
  refine s_gI E fg_X8_21 rfl rfl (by decide +kernel) dX8_init_28 ?_
  refine s_top (y := 2) (by decide +kernel) ?_
  refine s_imul E dX8_init_31 ?_
  refine s_top (y := 16) (by decide) ?_
  refine s_newa100 (N := 16) E k_63 (by decide +kernel) (by decide) (by decide) (by decide) (Nat.le_of_ble_eq_true rfl) (Nat.le_of_ble_eq_true rfl) dX8_init_32 ?_
  refine s_topR (y := 44) (by decide +kernel) ?_
  refine s_world (w2 := wv_143) rfl ?_
  refine Wv.widen (cs2 := 1) (sl2 := 16) (Nat.le_of_ble_eq_true rfl) (Nat.le_of_ble_eq_true rfl) ?_
  refine s_pRF E hin ff_X8_24 rfl rfl (by decide +kernel) dX8_init_34 ?_
  refine s_world (w2 := wv_144) rfl ?_
  refine s_aload_n E dX8_init_37 rfl rfl ?_
  refine s_iconst (v := 0) E dX8_init_38 (by decide) ?_
  refine s_pI E fp_X8_28 (Or.inl rfl) rfl (by decide +kernel) dX8_init_39 ?_
  refine s_world (w2 := wv_145) rfl ?_
  exact r_void E dX8_init_42 rfl
set_option maxRecDepth 20000 in
theorem KC_23 (l : Launch) (D : va_G) (aC : Nat → ClassId) (b : Nat) : CnV l D aC b M_X8_init 1 21 1 30 [AR 45, AI 10, AI 3] wv_147 (fun u => u = wv_152) := by
  refine cn_V (own := RX8) (nm := "<init>") (L0 := [some (AR 45), some (AI 10), some (AI 3)]) (by decide +kernel) rfl rfl (Nat.le_of_ble_eq_true rfl) rfl ?_
  intro p e s m args below meth c E hin
  refine s_aload_n E dX8_init_0 rfl rfl ?_
  refine s_obj E k_39 k_26 k_27 (Nat.le_of_ble_eq_true rfl) (Nat.le_of_ble_eq_true rfl) dX8_init_1 ?_
  refine s_aload_n E dX8_init_4 rfl rfl ?_
  refine s_iconst (v := 0) E dX8_init_5 (by decide) ?_
  refine s_iload_n E dX8_init_6 rfl rfl ?_
  refine s_max (v := 10) E ⟨k_40, k_41, k_4, k_42⟩ (Nat.le_of_ble_eq_true rfl) (Nat.le_of_ble_eq_true rfl) (Nat.le_of_ble_eq_true rfl) (Nat.le_of_ble_eq_true rfl) dX8_init_7 (by decide) ?_
  refine s_pIF E hin ff_X8_15 rfl rfl (by decide +kernel) dX8_init_10 ?_
  refine s_world (w2 := wv_148) rfl ?_
  refine s_aload_n E dX8_init_13 rfl rfl ?_
  refine s_iconst (v := 0) E dX8_init_14 (by decide) ?_
  refine s_iload_n E dX8_init_15 rfl rfl ?_
  refine s_max (v := 3) E ⟨k_40, k_41, k_4, k_42⟩ (Nat.le_of_ble_eq_true rfl) (Nat.le_of_ble_eq_true rfl) (Nat.le_of_ble_eq_true rfl) (Nat.le_of_ble_eq_true rfl) dX8_init_16 (by decide) ?_
  refine s_pIF E hin ff_X8_21 rfl rfl (by decide +kernel) dX8_init_19 ?_
  refine s_world (w2 := wv_149) rfl ?_
  refine s_aload_n E dX8_init_22 rfl rfl ?_
  refine s_aload_n E dX8_init_23 rfl rfl ?_
  refine s_gI E fg_X8_15 rfl rfl (by decide +kernel) dX8_init_24 ?_
  refine s_top (y := 10) (by decide +kernel) ?_
  refine s_aload_n E dX8_init_27 rfl rfl ?_
  refine s_gI E fg_X8_21 rfl rfl (by decide +kernel) dX8_init_28 ?_
  refine s_top (y := 3) (by decide +kernel) ?_
  refine s_imul E dX8_init_31 ?_
  refine s_top (y := 30) (by decide) ?_
  refine s_newa100 (N := 30) E k_63 (by decide +kernel) (by decide) (by decide) (by decide) (Nat.le_of_ble_eq_true rfl) (Nat.le_of_ble_eq_true rfl) dX8_init_32 ?_
  refine s_topR (y := 46) (by decide +kernel) ?_
  refine s_world (w2 := wv_150) rfl ?_
  refine Wv.widen (cs2 := 1) (sl2 := 30) (Nat.le_of_ble_eq_true rfl) (Nat.le_of_ble_eq_true rfl) ?_
  refine s_pRF E hin ff_X8_24 rfl rfl (by decide +kernel) dX8_init_34 ?_
  refine s_world (w2 := wv_151) rfl ?_
  refine s_aload_n E dX8_init_37 rfl rfl ?_
  refine s_iconst (v := 0) E dX8_init_38 (by decide) ?_
  refine s_pI E fp_X8_28 (Or.inl rfl) rfl (by decide +kernel) dX8_init_39 ?_
  refine s_world (w2 := wv_152) rfl ?_
  exact r_void E dX8_init_42 rfl
set_option maxRecDepth 20000 in
theorem KC_24 (l : Launch) (D : va_G) (aC : Nat → ClassId) (b : Nat) : CnV l D aC b M_X8_init 1 21 1 120 [AR 47, AI 30, AI 4] wv_154 (fun u => u = wv_159) := by
  refine cn_V (own := RX8) (nm := "<init>") (L0 := [some (AR 47), some (AI 30), some (AI 4)]) (by decide +kernel) rfl rfl (Nat.le_of_ble_eq_true rfl) rfl ?_
  intro p e s m args below meth c E hin
  refine s_aload_n E dX8_init_0 rfl rfl ?_
  refine s_obj E k_39 k_26 k_27 (Nat.le_of_ble_eq_true rfl) (Nat.le_of_ble_eq_true rfl) dX8_init_1 ?_
  refine s_aload_n E dX8_init_4 rfl rfl ?_
  refine s_iconst (v := 0) E dX8_init_5 (by decide) ?_
  refine s_iload_n E dX8_init_6 rfl rfl ?_
  refine s_max (v := 30) E ⟨k_40, k_41, k_4, k_42⟩ (Nat.le_of_ble_eq_true rfl) (Nat.le_of_ble_eq_true rfl) (Nat.le_of_ble_eq_true rfl) (Nat.le_of_ble_eq_true rfl) dX8_init_7 (by decide) ?_
  refine s_pIF E hin ff_X8_15 rfl rfl (by decide +kernel) dX8_init_10 ?_
  refine s_world (w2 := wv_155) rfl ?_
  refine s_aload_n E dX8_init_13 rfl rfl ?_
  refine s_iconst (v := 0) E dX8_init_14 (by decide) ?_
  refine s_iload_n E dX8_init_15 rfl rfl ?_
  refine s_max (v := 4) E ⟨k_40, k_41, k_4, k_42⟩ (Nat.le_of_ble_eq_true rfl) (Nat.le_of_ble_eq_true rfl) (Nat.le_of_ble_eq_true rfl) (Nat.le_of_ble_eq_true rfl) dX8_init_16 (by decide) ?_
  refine s_pIF E hin ff_X8_21 rfl rfl (by decide +kernel) dX8_init_19 ?_
  refine s_world (w2 := wv_156) rfl ?_
  refine s_aload_n E dX8_init_22 rfl rfl ?_
  refine s_aload_n E dX8_init_23 rfl rfl ?_
  refine s_gI E fg_X8_15 rfl rfl (by decide +kernel) dX8_init_24 ?_
  refine s_top (y := 30) (by decide +kernel) ?_
  refine s_aload_n E dX8_init_27 rfl rfl ?_
  refine s_gI E fg_X8_21 rfl rfl (by decide +kernel) dX8_init_28 ?_
  refine s_top (y := 4) (by decide +kernel) ?_
  refine s_imul E dX8_init_31 ?_
  refine s_top (y := 120) (by decide) ?_
  refine s_newa100 (N := 120) E k_63 (by decide +kernel) (by decide) (by decide) (by decide) (Nat.le_of_ble_eq_true rfl) (Nat.le_of_ble_eq_true rfl) dX8_init_32 ?_
  refine s_topR (y := 48) (by decide +kernel) ?_
  refine s_world (w2 := wv_157) rfl ?_
  refine Wv.widen (cs2 := 1) (sl2 := 120) (Nat.le_of_ble_eq_true rfl) (Nat.le_of_ble_eq_true rfl) ?_
  refine s_pRF E hin ff_X8_24 rfl rfl (by decide +kernel) dX8_init_34 ?_
  refine s_world (w2 := wv_158) rfl ?_
  refine s_aload_n E dX8_init_37 rfl rfl ?_
  refine s_iconst (v := 0) E dX8_init_38 (by decide) ?_
  refine s_pI E fp_X8_28 (Or.inl rfl) rfl (by decide +kernel) dX8_init_39 ?_
  refine s_world (w2 := wv_159) rfl ?_
  exact r_void E dX8_init_42 rfl
set_option maxRecDepth 20000 in
theorem KC_25 (l : Launch) (D : va_G) (aC : Nat → ClassId) (b : Nat) : CnV l D aC b M_X0_init 2 43 10 234 [AR 38] wv_125 (fun u => u = wv_160) := by
  refine cn_V (own := RX0) (nm := "<init>") (L0 := [some (AR 38)]) (by decide +kernel) rfl rfl (Nat.le_of_ble_eq_true rfl) rfl ?_
  intro p e s m args below meth c E hin
  refine s_aload_n E dX0_init_0 rfl rfl ?_
  refine s_obj E k_33 k_26 k_27 (Nat.le_of_ble_eq_true rfl) (Nat.le_of_ble_eq_true rfl) dX0_init_1 ?_
  refine s_aload_n E dX0_init_4 rfl rfl ?_
  refine s_new E CI8 (by decide +kernel) k_34 k_35 k_3 (by decide +kernel) (Nat.le_of_ble_eq_true rfl) (Nat.le_of_ble_eq_true rfl) dX0_init_5 ?_
  refine s_topR (y := 39) (by decide +kernel) ?_
  refine s_world (w2 := wv_126) rfl ?_
  refine Wv.widen (cs2 := 1) (sl2 := 4) (Nat.le_of_ble_eq_true rfl) (Nat.le_of_ble_eq_true rfl) ?_
  refine s_dupR E dX0_init_8 ?_
  refine s_bipush (v := 12) E dX0_init_9 (by decide) ?_
  refine s_iconst (v := 3) E dX0_init_11 (by decide) ?_
  refine s_init (As := [AI 12, AI 3]) (S := [AR 39, AR 38]) E (KC_20 l D aC b) ci_X0_11 rfl rfl (Nat.le_of_ble_eq_true rfl) (Nat.le_of_ble_eq_true rfl) ⟨(Nat.le_of_ble_eq_true rfl), (Nat.le_of_ble_eq_true rfl)⟩ (Nat.le_of_ble_eq_true rfl) dX0_init_12 (fun u hp => ?_)
  subst hp
  refine Wv.widen (cs2 := 2) (sl2 := 40) (Nat.le_of_ble_eq_true rfl) (Nat.le_of_ble_eq_true rfl) ?_
  refine s_pRF E hin ff_X0_14 rfl rfl (by decide +kernel) dX0_init_15 ?_
  refine s_world (w2 := wv_132) rfl ?_
  refine s_aload_n E dX0_init_18 rfl rfl ?_
  refine s_new E CI8 (by decide +kernel) k_34 k_35 k_3 (by decide +kernel) (Nat.le_of_ble_eq_true rfl) (Nat.le_of_ble_eq_true rfl) dX0_init_19 ?_
  refine s_topR (y := 41) (by decide +kernel) ?_
  refine s_world (w2 := wv_133) rfl ?_
  refine Wv.widen (cs2 := 3) (sl2 := 44) (Nat.le_of_ble_eq_true rfl) (Nat.le_of_ble_eq_true rfl) ?_
  refine s_dupR E dX0_init_22 ?_
  refine s_bipush (v := 6) E dX0_init_23 (by decide) ?_
  refine s_iconst (v := 2) E dX0_init_25 (by decide) ?_
  refine s_init (As := [AI 6, AI 2]) (S := [AR 41, AR 38]) E (KC_21 l D aC b) ci_X0_11 rfl rfl (Nat.le_of_ble_eq_true rfl) (Nat.le_of_ble_eq_true rfl) ⟨(Nat.le_of_ble_eq_true rfl), (Nat.le_of_ble_eq_true rfl)⟩ (Nat.le_of_ble_eq_true rfl) dX0_init_26 (fun u hp => ?_)
  subst hp
  refine Wv.widen (cs2 := 4) (sl2 := 56) (Nat.le_of_ble_eq_true rfl) (Nat.le_of_ble_eq_true rfl) ?_
  refine s_pRF E hin ff_X0_20 rfl rfl (by decide +kernel) dX0_init_29 ?_
  refine s_world (w2 := wv_139) rfl ?_
  refine s_aload_n E dX0_init_32 rfl rfl ?_
  refine s_new E CI8 (by decide +kernel) k_34 k_35 k_3 (by decide +kernel) (Nat.le_of_ble_eq_true rfl) (Nat.le_of_ble_eq_true rfl) dX0_init_33 ?_
  refine s_topR (y := 43) (by decide +kernel) ?_
  refine s_world (w2 := wv_140) rfl ?_
  refine Wv.widen (cs2 := 5) (sl2 := 60) (Nat.le_of_ble_eq_true rfl) (Nat.le_of_ble_eq_true rfl) ?_
  refine s_dupR E dX0_init_36 ?_
  refine s_bipush (v := 8) E dX0_init_37 (by decide) ?_
  refine s_iconst (v := 2) E dX0_init_39 (by decide) ?_
  refine s_init (As := [AI 8, AI 2]) (S := [AR 43, AR 38]) E (KC_22 l D aC b) ci_X0_11 rfl rfl (Nat.le_of_ble_eq_true rfl) (Nat.le_of_ble_eq_true rfl) ⟨(Nat.le_of_ble_eq_true rfl), (Nat.le_of_ble_eq_true rfl)⟩ (Nat.le_of_ble_eq_true rfl) dX0_init_40 (fun u hp => ?_)
  subst hp
  refine Wv.widen (cs2 := 6) (sl2 := 76) (Nat.le_of_ble_eq_true rfl) (Nat.le_of_ble_eq_true rfl) ?_
  refine s_pRF E hin ff_X0_23 rfl rfl (by decide +kernel) dX0_init_43 ?_
  refine s_world (w2 := wv_146) rfl ?_
  refine s_aload_n E dX0_init_46 rfl rfl ?_
  refine s_new E CI8 (by decide +kernel) k_34 k_35 k_3 (by decide +kernel) (Nat.le_of_ble_eq_true rfl) (Nat.le_of_ble_eq_true rfl) dX0_init_47 ?_
  refine s_topR (y := 45) (by decide +kernel) ?_
  refine s_world (w2 := wv_147) rfl ?_
  refine Wv.widen (cs2 := 7) (sl2 := 80) (Nat.le_of_ble_eq_true rfl) (Nat.le_of_ble_eq_true rfl) ?_
  refine s_dupR E dX0_init_50 ?_
  refine s_bipush (v := 10) E dX0_init_51 (by decide) ?_
  refine s_iconst (v := 3) E dX0_init_53 (by decide) ?_
  refine s_init (As := [AI 10, AI 3]) (S := [AR 45, AR 38]) E (KC_23 l D aC b) ci_X0_11 rfl rfl (Nat.le_of_ble_eq_true rfl) (Nat.le_of_ble_eq_true rfl) ⟨(Nat.le_of_ble_eq_true rfl), (Nat.le_of_ble_eq_true rfl)⟩ (Nat.le_of_ble_eq_true rfl) dX0_init_54 (fun u hp => ?_)
  subst hp
  refine Wv.widen (cs2 := 8) (sl2 := 110) (Nat.le_of_ble_eq_true rfl) (Nat.le_of_ble_eq_true rfl) ?_
  refine s_pRF E hin ff_X0_26 rfl rfl (by decide +kernel) dX0_init_57 ?_
  refine s_world (w2 := wv_153) rfl ?_
  refine s_aload_n E dX0_init_60 rfl rfl ?_
  refine s_new E CI8 (by decide +kernel) k_34 k_35 k_3 (by decide +kernel) (Nat.le_of_ble_eq_true rfl) (Nat.le_of_ble_eq_true rfl) dX0_init_61 ?_
  refine s_topR (y := 47) (by decide +kernel) ?_
  refine s_world (w2 := wv_154) rfl ?_
  refine Wv.widen (cs2 := 9) (sl2 := 114) (Nat.le_of_ble_eq_true rfl) (Nat.le_of_ble_eq_true rfl) ?_
  refine s_dupR E dX0_init_64 ?_
  refine s_bipush (v := 30) E dX0_init_65 (by decide) ?_
  refine s_iconst (v := 4) E dX0_init_67 (by decide) ?_
  refine s_init (As := [AI 30, AI 4]) (S := [AR 47, AR 38]) E (KC_24 l D aC b) ci_X0_11 rfl rfl (Nat.le_of_ble_eq_true rfl) (Nat.le_of_ble_eq_true rfl) ⟨(Nat.le_of_ble_eq_true rfl), (Nat.le_of_ble_eq_true rfl)⟩ (Nat.le_of_ble_eq_true rfl) dX0_init_68 (fun u hp => ?_)
  subst hp
  refine Wv.widen (cs2 := 10) (sl2 := 234) (Nat.le_of_ble_eq_true rfl) (Nat.le_of_ble_eq_true rfl) ?_
  refine s_pRF E hin ff_X0_29 rfl rfl (by decide +kernel) dX0_init_71 ?_
  refine s_world (w2 := wv_160) rfl ?_
  exact r_void E dX0_init_74 rfl
set_option maxRecDepth 20000 in
theorem KC_26 (l : Launch) (D : va_G) (aC : Nat → ClassId) (b : Nat) : CnV l D aC b M_X8_init 1 21 1 36 [AR 50, AI 12, AI 3] wv_163 (fun u => u = wv_168) := by
  refine cn_V (own := RX8) (nm := "<init>") (L0 := [some (AR 50), some (AI 12), some (AI 3)]) (by decide +kernel) rfl rfl (Nat.le_of_ble_eq_true rfl) rfl ?_
  intro p e s m args below meth c E hin
  refine s_aload_n E dX8_init_0 rfl rfl ?_
  refine s_obj E k_39 k_26 k_27 (Nat.le_of_ble_eq_true rfl) (Nat.le_of_ble_eq_true rfl) dX8_init_1 ?_
  refine s_aload_n E dX8_init_4 rfl rfl ?_
  refine s_iconst (v := 0) E dX8_init_5 (by decide) ?_
  refine s_iload_n E dX8_init_6 rfl rfl ?_
  refine s_max (v := 12) E ⟨k_40, k_41, k_4, k_42⟩ (Nat.le_of_ble_eq_true rfl) (Nat.le_of_ble_eq_true rfl) (Nat.le_of_ble_eq_true rfl) (Nat.le_of_ble_eq_true rfl) dX8_init_7 (by decide) ?_
  refine s_pIF E hin ff_X8_15 rfl rfl (by decide +kernel) dX8_init_10 ?_
  refine s_world (w2 := wv_164) rfl ?_
  refine s_aload_n E dX8_init_13 rfl rfl ?_
  refine s_iconst (v := 0) E dX8_init_14 (by decide) ?_
  refine s_iload_n E dX8_init_15 rfl rfl ?_
  refine s_max (v := 3) E ⟨k_40, k_41, k_4, k_42⟩ (Nat.le_of_ble_eq_true rfl) (Nat.le_of_ble_eq_true rfl) (Nat.le_of_ble_eq_true rfl) (Nat.le_of_ble_eq_true rfl) dX8_init_16 (by decide) ?_
  refine s_pIF E hin ff_X8_21 rfl rfl (by decide +kernel) dX8_init_19 ?_
  refine s_world (w2 := wv_165) rfl ?_
  refine s_aload_n E dX8_init_22 rfl rfl ?_
  refine s_aload_n E dX8_init_23 rfl rfl ?_
  refine s_gI E fg_X8_15 rfl rfl (by decide +kernel) dX8_init_24 ?_
  refine s_top (y := 12) (by decide +kernel) ?_
  refine s_aload_n E dX8_init_27 rfl rfl ?_
  refine s_gI E fg_X8_21 rfl rfl (by decide +kernel) dX8_init_28 ?_
  refine s_top (y := 3) (by decide +kernel) ?_
  refine s_imul E dX8_init_31 ?_
  refine s_top (y := 36) (by decide) ?_
  refine s_newa100 (N := 36) E k_63 (by decide +kernel) (by decide) (by decide) (by decide) (Nat.le_of_ble_eq_true rfl) (Nat.le_of_ble_eq_true rfl) dX8_init_32 ?_
  refine s_topR (y := 51) (by decide +kernel) ?_
  refine s_world (w2 := wv_166) rfl ?_
  refine Wv.widen (cs2 := 1) (sl2 := 36) (Nat.le_of_ble_eq_true rfl) (Nat.le_of_ble_eq_true rfl) ?_
  refine s_pRF E hin ff_X8_24 rfl rfl (by decide +kernel) dX8_init_34 ?_
  refine s_world (w2 := wv_167) rfl ?_
  refine s_aload_n E dX8_init_37 rfl rfl ?_
  refine s_iconst (v := 0) E dX8_init_38 (by decide) ?_
  refine s_pI E fp_X8_28 (Or.inl rfl) rfl (by decide +kernel) dX8_init_39 ?_
  refine s_world (w2 := wv_168) rfl ?_
  exact r_void E dX8_init_42 rfl
set_option maxRecDepth 20000 in
theorem KC_27 (l : Launch) (D : va_G) (aC : Nat → ClassId) (b : Nat) : CnV l D aC b M_X8_init 1 21 1 12 [AR 52, AI 6, AI 2] wv_170 (fun u => u = wv_175) := by
  refine cn_V (own := RX8) (nm := "<init>") (L0 := [some (AR 52), some (AI 6), some (AI 2)]) (by decide +kernel) rfl rfl (Nat.le_of_ble_eq_true rfl) rfl ?_
  intro p e s m args below meth c E hin
  refine s_aload_n E dX8_init_0 rfl rfl ?_
  refine s_obj E k_39 k_26 k_27 (Nat.le_of_ble_eq_true rfl) (Nat.le_of_ble_eq_true rfl) dX8_init_1 ?_
  refine s_aload_n E dX8_init_4 rfl rfl ?_
  refine s_iconst (v := 0) E dX8_init_5 (by decide) ?_
  refine s_iload_n E dX8_init_6 rfl rfl ?_
  refine s_max (v := 6) E ⟨k_40, k_41, k_4, k_42⟩ (Nat.le_of_ble_eq_true rfl) (Nat.le_of_ble_eq_true rfl) (Nat.le_of_ble_eq_true rfl) (Nat.le_of_ble_eq_true rfl) dX8_init_7 (by decide) ?_
  refine s_pIF E hin ff_X8_15 rfl rfl (by decide +kernel) dX8_init_10 ?_
  refine s_world (w2 := wv_171) rfl ?_
  refine s_aload_n E dX8_init_13 rfl rfl ?_
  refine s_iconst (v := 0) E dX8_init_14 (by decide) ?_
  refine s_iload_n E dX8_init_15 rfl rfl ?_
  refine s_max (v := 2) E ⟨k_40, k_41, k_4, k_42⟩ (Nat.le_of_ble_eq_true rfl) (Nat.le_of_ble_eq_true rfl) (Nat.le_of_ble_eq_true rfl) (Nat.le_of_ble_eq_true rfl) dX8_init_16 (by decide) ?_
  refine s_pIF E hin ff_X8_21 rfl rfl (by decide +kernel) dX8_init_19 ?_
  refine s_world (w2 := wv_172) rfl ?_
  refine s_aload_n E dX8_init_22 rfl rfl ?_
  refine s_aload_n E dX8_init_23 rfl rfl ?_
  refine s_gI E fg_X8_15 rfl rfl (by decide +kernel) dX8_init_24 ?_
  refine s_top (y := 6) (by decide +kernel) ?_
  refine s_aload_n E dX8_init_27 rfl rfl ?_
  refine s_gI E fg_X8_21 rfl rfl (by decide +kernel) dX8_init_28 ?_
  refine s_top (y := 2) (by decide +kernel) ?_
  refine s_imul E dX8_init_31 ?_
  refine s_top (y := 12) (by decide) ?_
  refine s_newa100 (N := 12) E k_63 (by decide +kernel) (by decide) (by decide) (by decide) (Nat.le_of_ble_eq_true rfl) (Nat.le_of_ble_eq_true rfl) dX8_init_32 ?_
  refine s_topR (y := 53) (by decide +kernel) ?_
  refine s_world (w2 := wv_173) rfl ?_
  refine Wv.widen (cs2 := 1) (sl2 := 12) (Nat.le_of_ble_eq_true rfl) (Nat.le_of_ble_eq_true rfl) ?_
  refine s_pRF E hin ff_X8_24 rfl rfl (by decide +kernel) dX8_init_34 ?_
  refine s_world (w2 := wv_174) rfl ?_
  refine s_aload_n E dX8_init_37 rfl rfl ?_
  refine s_iconst (v := 0) E dX8_init_38 (by decide) ?_
  refine s_pI E fp_X8_28 (Or.inl rfl) rfl (by decide +kernel) dX8_init_39 ?_
  refine s_world (w2 := wv_175) rfl ?_
  exact r_void E dX8_init_42 rfl
set_option maxRecDepth 20000 in
theorem KC_28 (l : Launch) (D : va_G) (aC : Nat → ClassId) (b : Nat) : CnV l D aC b M_X8_init 1 21 1 16 [AR 54, AI 8, AI 2] wv_177 (fun u => u = wv_182) := by
  refine cn_V (own := RX8) (nm := "<init>") (L0 := [some (AR 54), some (AI 8), some (AI 2)]) (by decide +kernel) rfl rfl (Nat.le_of_ble_eq_true rfl) rfl ?_
  intro p e s m args below meth c E hin
  refine s_aload_n E dX8_init_0 rfl rfl ?_
  refine s_obj E k_39 k_26 k_27 (Nat.le_of_ble_eq_true rfl) (Nat.le_of_ble_eq_true rfl) dX8_init_1 ?_
  refine s_aload_n E dX8_init_4 rfl rfl ?_
  refine s_iconst (v := 0) E dX8_init_5 (by decide) ?_
  refine s_iload_n E dX8_init_6 rfl rfl ?_
  refine s_max (v := 8) E ⟨k_40, k_41, k_4, k_42⟩ (Nat.le_of_ble_eq_true rfl) (Nat.le_of_ble_eq_true rfl) (Nat.le_of_ble_eq_true rfl) (Nat.le_of_ble_eq_true rfl) dX8_init_7 (by decide) ?_
  refine s_pIF E hin ff_X8_15 rfl rfl (by decide +kernel) dX8_init_10 ?_
  refine s_world (w2 := wv_178) rfl ?_
  refine s_aload_n E dX8_init_13 rfl rfl ?_
  refine s_iconst (v := 0) E dX8_init_14 (by decide) ?_
  refine s_iload_n E dX8_init_15 rfl rfl ?_
  refine s_max (v := 2) E ⟨k_40, k_41, k_4, k_42⟩ (Nat.le_of_ble_eq_true rfl) (Nat.le_of_ble_eq_true rfl) (Nat.le_of_ble_eq_true rfl) (Nat.le_of_ble_eq_true rfl) dX8_init_16 (by decide) ?_
  refine s_pIF E hin ff_X8_21 rfl rfl (by decide +kernel) dX8_init_19 ?_
  refine s_world (w2 := wv_179) rfl ?_
  refine s_aload_n E dX8_init_22 rfl rfl ?_
  refine s_aload_n E dX8_init_23 rfl rfl ?_
  refine s_gI E fg_X8_15 rfl rfl (by decide +kernel) dX8_init_24 ?_
  refine s_top (y := 8) (by decide +kernel) ?_
  refine s_aload_n E dX8_init_27 rfl rfl ?_
  refine s_gI E fg_X8_21 rfl rfl (by decide +kernel) dX8_init_28 ?_
  refine s_top (y := 2) (by decide +kernel) ?_
  refine s_imul E dX8_init_31 ?_
  refine s_top (y := 16) (by decide) ?_
  refine s_newa100 (N := 16) E k_63 (by decide +kernel) (by decide) (by decide) (by decide) (Nat.le_of_ble_eq_true rfl) (Nat.le_of_ble_eq_true rfl) dX8_init_32 ?_
  refine s_topR (y := 55) (by decide +kernel) ?_
  refine s_world (w2 := wv_180) rfl ?_
  refine Wv.widen (cs2 := 1) (sl2 := 16) (Nat.le_of_ble_eq_true rfl) (Nat.le_of_ble_eq_true rfl) ?_
  refine s_pRF E hin ff_X8_24 rfl rfl (by decide +kernel) dX8_init_34 ?_
  refine s_world (w2 := wv_181) rfl ?_
  refine s_aload_n E dX8_init_37 rfl rfl ?_
  refine s_iconst (v := 0) E dX8_init_38 (by decide) ?_
  refine s_pI E fp_X8_28 (Or.inl rfl) rfl (by decide +kernel) dX8_init_39 ?_
  refine s_world (w2 := wv_182) rfl ?_
  exact r_void E dX8_init_42 rfl
set_option maxRecDepth 20000 in
theorem KC_29 (l : Launch) (D : va_G) (aC : Nat → ClassId) (b : Nat) : CnV l D aC b M_X8_init 1 21 1 30 [AR 56, AI 10, AI 3] wv_184 (fun u => u = wv_189) := by
  refine cn_V (own := RX8) (nm := "<init>") (L0 := [some (AR 56), some (AI 10), some (AI 3)]) (by decide +kernel) rfl rfl (Nat.le_of_ble_eq_true rfl) rfl ?_
  intro p e s m args below meth c E hin
  refine s_aload_n E dX8_init_0 rfl rfl ?_
  refine s_obj E k_39 k_26 k_27 (Nat.le_of_ble_eq_true rfl) (Nat.le_of_ble_eq_true rfl) dX8_init_1 ?_
  refine s_aload_n E dX8_init_4 rfl rfl ?_
  refine s_iconst (v := 0) E dX8_init_5 (by decide) ?_
  refine s_iload_n E dX8_init_6 rfl rfl ?_
  refine s_max (v := 10) E ⟨k_40, k_41, k_4, k_42⟩ (Nat.le_of_ble_eq_true rfl) (Nat.le_of_ble_eq_true rfl) (Nat.le_of_ble_eq_true rfl) (Nat.le_of_ble_eq_true rfl) dX8_init_7 (by decide) ?_
  refine s_pIF E hin ff_X8_15 rfl rfl (by decide +kernel) dX8_init_10 ?_
  refine s_world (w2 := wv_185) rfl ?_
  refine s_aload_n E dX8_init_13 rfl rfl ?_
  refine s_iconst (v := 0) E dX8_init_14 (by decide) ?_
  refine s_iload_n E dX8_init_15 rfl rfl ?_
  refine s_max (v := 3) E ⟨k_40, k_41, k_4, k_42⟩ (Nat.le_of_ble_eq_true rfl) (Nat.le_of_ble_eq_true rfl) (Nat.le_of_ble_eq_true rfl) (Nat.le_of_ble_eq_true rfl) dX8_init_16 (by decide) ?_
  refine s_pIF E hin ff_X8_21 rfl rfl (by decide +kernel) dX8_init_19 ?_
  refine s_world (w2 := wv_186) rfl ?_
  refine s_aload_n E dX8_init_22 rfl rfl ?_
  refine s_aload_n E dX8_init_23 rfl rfl ?_
  refine s_gI E fg_X8_15 rfl rfl (by decide +kernel) dX8_init_24 ?_
  refine s_top (y := 10) (by decide +kernel) ?_
  refine s_aload_n E dX8_init_27 rfl rfl ?_
  refine s_gI E fg_X8_21 rfl rfl (by decide +kernel) dX8_init_28 ?_
  refine s_top (y := 3) (by decide +kernel) ?_
  refine s_imul E dX8_init_31 ?_
  refine s_top (y := 30) (by decide) ?_
  refine s_newa100 (N := 30) E k_63 (by decide +kernel) (by decide) (by decide) (by decide) (Nat.le_of_ble_eq_true rfl) (Nat.le_of_ble_eq_true rfl) dX8_init_32 ?_
  refine s_topR (y := 57) (by decide +kernel) ?_
  refine s_world (w2 := wv_187) rfl ?_
  refine Wv.widen (cs2 := 1) (sl2 := 30) (Nat.le_of_ble_eq_true rfl) (Nat.le_of_ble_eq_true rfl) ?_
  refine s_pRF E hin ff_X8_24 rfl rfl (by decide +kernel) dX8_init_34 ?_
  refine s_world (w2 := wv_188) rfl ?_
  refine s_aload_n E dX8_init_37 rfl rfl ?_
  refine s_iconst (v := 0) E dX8_init_38 (by decide) ?_
  refine s_pI E fp_X8_28 (Or.inl rfl) rfl (by decide +kernel) dX8_init_39 ?_
  refine s_world (w2 := wv_189) rfl ?_
  exact r_void E dX8_init_42 rfl
set_option maxRecDepth 20000 in
theorem KC_30 (l : Launch) (D : va_G) (aC : Nat → ClassId) (b : Nat) : CnV l D aC b M_X8_init 1 21 1 120 [AR 58, AI 30, AI 4] wv_191 (fun u => u = wv_196) := by
  refine cn_V (own := RX8) (nm := "<init>") (L0 := [some (AR 58), some (AI 30), some (AI 4)]) (by decide +kernel) rfl rfl (Nat.le_of_ble_eq_true rfl) rfl ?_
  intro p e s m args below meth c E hin
  refine s_aload_n E dX8_init_0 rfl rfl ?_
  refine s_obj E k_39 k_26 k_27 (Nat.le_of_ble_eq_true rfl) (Nat.le_of_ble_eq_true rfl) dX8_init_1 ?_
  refine s_aload_n E dX8_init_4 rfl rfl ?_
  refine s_iconst (v := 0) E dX8_init_5 (by decide) ?_
  refine s_iload_n E dX8_init_6 rfl rfl ?_
  refine s_max (v := 30) E ⟨k_40, k_41, k_4, k_42⟩ (Nat.le_of_ble_eq_true rfl) (Nat.le_of_ble_eq_true rfl) (Nat.le_of_ble_eq_true rfl) (Nat.le_of_ble_eq_true rfl) dX8_init_7 (by decide) ?_
  refine s_pIF E hin ff_X8_15 rfl rfl (by decide +kernel) dX8_init_10 ?_
  refine s_world (w2 := wv_192) rfl ?_
  refine s_aload_n E dX8_init_13 rfl rfl ?_
  refine s_iconst (v := 0) E dX8_init_14 (by decide) ?_
  refine s_iload_n E dX8_init_15 rfl rfl ?_
  refine s_max (v := 4) E ⟨k_40, k_41, k_4, k_42⟩ (Nat.le_of_ble_eq_true rfl) (Nat.le_of_ble_eq_true rfl) (Nat.le_of_ble_eq_true rfl) (Nat.le_of_ble_eq_true rfl) dX8_init_16 (by decide) ?_
  refine s_pIF E hin ff_X8_21 rfl rfl (by decide +kernel) dX8_init_19 ?_
  refine s_world (w2 := wv_193) rfl ?_
  refine s_aload_n E dX8_init_22 rfl rfl ?_
  refine s_aload_n E dX8_init_23 rfl rfl ?_
  refine s_gI E fg_X8_15 rfl rfl (by decide +kernel) dX8_init_24 ?_
  refine s_top (y := 30) (by decide +kernel) ?_
  refine s_aload_n E dX8_init_27 rfl rfl ?_
  refine s_gI E fg_X8_21 rfl rfl (by decide +kernel) dX8_init_28 ?_
  refine s_top (y := 4) (by decide +kernel) ?_
  refine s_imul E dX8_init_31 ?_
  refine s_top (y := 120) (by decide) ?_
  refine s_newa100 (N := 120) E k_63 (by decide +kernel) (by decide) (by decide) (by decide) (Nat.le_of_ble_eq_true rfl) (Nat.le_of_ble_eq_true rfl) dX8_init_32 ?_
  refine s_topR (y := 59) (by decide +kernel) ?_
  refine s_world (w2 := wv_194) rfl ?_
  refine Wv.widen (cs2 := 1) (sl2 := 120) (Nat.le_of_ble_eq_true rfl) (Nat.le_of_ble_eq_true rfl) ?_
  refine s_pRF E hin ff_X8_24 rfl rfl (by decide +kernel) dX8_init_34 ?_
  refine s_world (w2 := wv_195) rfl ?_
  refine s_aload_n E dX8_init_37 rfl rfl ?_
  refine s_iconst (v := 0) E dX8_init_38 (by decide) ?_
  refine s_pI E fp_X8_28 (Or.inl rfl) rfl (by decide +kernel) dX8_init_39 ?_
  refine s_world (w2 := wv_196) rfl ?_
  exact r_void E dX8_init_42 rfl
set_option maxRecDepth 20000 in
theorem KC_31 (l : Launch) (D : va_G) (aC : Nat → ClassId) (b : Nat) : CnV l D aC b M_X0_init 2 43 10 234 [AR 49] wv_162 (fun u => u = wv_197) := by
  refine cn_V (own := RX0) (nm := "<init>") (L0 := [some (AR 49)]) (by decide +kernel) rfl rfl (Nat.le_of_ble_eq_true rfl) rfl ?_
  intro p e s m args below meth c E hin
  refine s_aload_n E dX0_init_0 rfl rfl ?_
  refine s_obj E k_33 k_26 k_27 (Nat.le_of_ble_eq_true rfl) (Nat.le_of_ble_eq_true rfl) dX0_init_1 ?_
  refine s_aload_n E dX0_init_4 rfl rfl ?_
  refine s_new E CI8 (by decide +kernel) k_34 k_35 k_3 (by decide +kernel) (Nat.le_of_ble_eq_true rfl) (Nat.le_of_ble_eq_true rfl) dX0_init_5 ?_
  refine s_topR (y := 50) (by decide +kernel) ?_
  refine s_world (w2 := wv_163) rfl ?_
  refine Wv.widen (cs2 := 1) (sl2 := 4) (Nat.le_of_ble_eq_true rfl) (Nat.le_of_ble_eq_true rfl) ?_
  refine s_dupR E dX0_init_8 ?_
  refine s_bipush (v := 12) E dX0_init_9 (by decide) ?_
  refine s_iconst (v := 3) E dX0_init_11 (by decide) ?_
  refine s_init (As := [AI 12, AI 3]) (S := [AR 50, AR 49]) E (KC_26 l D aC b) ci_X0_11 rfl rfl (Nat.le_of_ble_eq_true rfl) (Nat.le_of_ble_eq_true rfl) ⟨(Nat.le_of_ble_eq_true rfl), (Nat.le_of_ble_eq_true rfl)⟩ (Nat.le_of_ble_eq_true rfl) dX0_init_12 (fun u hp => ?_)
  subst hp
  refine Wv.widen (cs2 := 2) (sl2 := 40) (Nat.le_of_ble_eq_true rfl) (Nat.le_of_ble_eq_true rfl) ?_
  refine s_pRF E hin ff_X0_14 rfl rfl (by decide +kernel) dX0_init_15 ?_
  refine s_world (w2 := wv_169) rfl ?_
  refine s_aload_n E dX0_init_18 rfl rfl ?_
  refine s_new E CI8 (by decide +kernel) k_34 k_35 k_3 (by decide +kernel) (Nat.le_of_ble_eq_true rfl) (Nat.le_of_ble_eq_true rfl) dX0_init_19 ?_
  refine s_topR (y := 52) (by decide +kernel) ?_
  refine s_world (w2 := wv_170) rfl ?_
  refine Wv.widen (cs2 := 3) (sl2 := 44) (Nat.le_of_ble_eq_true rfl) (Nat.le_of_ble_eq_true rfl) ?_
  refine s_dupR E dX0_init_22 ?_
  refine s_bipush (v := 6) E dX0_init_23 (by decide) ?_
  refine s_iconst (v := 2) E dX0_init_25 (by decide) ?_
  refine s_init (As := [AI 6, AI 2]) (S := [AR 52, AR 49]) E (KC_27 l D aC b) ci_X0_11 rfl rfl (Nat.le_of_ble_eq_true rfl) (Nat.le_of_ble_eq_true rfl) ⟨(Nat.le_of_ble_eq_true rfl), (Nat.le_of_ble_eq_true rfl)⟩ (Nat.le_of_ble_eq_true rfl) dX0_init_26 (fun u hp => ?_)
  subst hp
  refine Wv.widen (cs2 := 4) (sl2 := 56) (Nat.le_of_ble_eq_true rfl) (Nat.le_of_ble_eq_true rfl) ?_
  refine s_pRF E hin ff_X0_20 rfl rfl (by decide +kernel) dX0_init_29 ?_
  refine s_world (w2 := wv_176) rfl ?_
  refine s_aload_n E dX0_init_32 rfl rfl ?_
  refine s_new E CI8 (by decide +kernel) k_34 k_35 k_3 (by decide +kernel) (Nat.le_of_ble_eq_true rfl) (Nat.le_of_ble_eq_true rfl) dX0_init_33 ?_
  refine s_topR (y := 54) (by decide +kernel) ?_
  refine s_world (w2 := wv_177) rfl ?_
  refine Wv.widen (cs2 := 5) (sl2 := 60) (Nat.le_of_ble_eq_true rfl) (Nat.le_of_ble_eq_true rfl) ?_
  refine s_dupR E dX0_init_36 ?_
  refine s_bipush (v := 8) E dX0_init_37 (by decide) ?_
  refine s_iconst (v := 2) E dX0_init_39 (by decide) ?_
  refine s_init (As := [AI 8, AI 2]) (S := [AR 54, AR 49]) E (KC_28 l D aC b) ci_X0_11 rfl rfl (Nat.le_of_ble_eq_true rfl) (Nat.le_of_ble_eq_true rfl) ⟨(Nat.le_of_ble_eq_true rfl), (Nat.le_of_ble_eq_true rfl)⟩ (Nat.le_of_ble_eq_true rfl) dX0_init_40 (fun u hp => ?_)
  subst hp
  refine Wv.widen (cs2 := 6) (sl2 := 76) (Nat.le_of_ble_eq_true rfl) (Nat.le_of_ble_eq_true rfl) ?_
  refine s_pRF E hin ff_X0_23 rfl rfl (by decide +kernel) dX0_init_43 ?_
  refine s_world (w2 := wv_183) rfl ?_
  refine s_aload_n E dX0_init_46 rfl rfl ?_
  refine s_new E CI8 (by decide +kernel) k_34 k_35 k_3 (by decide +kernel) (Nat.le_of_ble_eq_true rfl) (Nat.le_of_ble_eq_true rfl) dX0_init_47 ?_
  refine s_topR (y := 56) (by decide +kernel) ?_
  refine s_world (w2 := wv_184) rfl ?_
  refine Wv.widen (cs2 := 7) (sl2 := 80) (Nat.le_of_ble_eq_true rfl) (Nat.le_of_ble_eq_true rfl) ?_
  refine s_dupR E dX0_init_50 ?_
  refine s_bipush (v := 10) E dX0_init_51 (by decide) ?_
  refine s_iconst (v := 3) E dX0_init_53 (by decide) ?_
  refine s_init (As := [AI 10, AI 3]) (S := [AR 56, AR 49]) E (KC_29 l D aC b) ci_X0_11 rfl rfl (Nat.le_of_ble_eq_true rfl) (Nat.le_of_ble_eq_true rfl) ⟨(Nat.le_of_ble_eq_true rfl), (Nat.le_of_ble_eq_true rfl)⟩ (Nat.le_of_ble_eq_true rfl) dX0_init_54 (fun u hp => ?_)
  subst hp
  refine Wv.widen (cs2 := 8) (sl2 := 110) (Nat.le_of_ble_eq_true rfl) (Nat.le_of_ble_eq_true rfl) ?_
  refine s_pRF E hin ff_X0_26 rfl rfl (by decide +kernel) dX0_init_57 ?_
  refine s_world (w2 := wv_190) rfl ?_
  refine s_aload_n E dX0_init_60 rfl rfl ?_
  refine s_new E CI8 (by decide +kernel) k_34 k_35 k_3 (by decide +kernel) (Nat.le_of_ble_eq_true rfl) (Nat.le_of_ble_eq_true rfl) dX0_init_61 ?_
  refine s_topR (y := 58) (by decide +kernel) ?_
  refine s_world (w2 := wv_191) rfl ?_
  refine Wv.widen (cs2 := 9) (sl2 := 114) (Nat.le_of_ble_eq_true rfl) (Nat.le_of_ble_eq_true rfl) ?_
  refine s_dupR E dX0_init_64 ?_
  refine s_bipush (v := 30) E dX0_init_65 (by decide) ?_
  refine s_iconst (v := 4) E dX0_init_67 (by decide) ?_
  refine s_init (As := [AI 30, AI 4]) (S := [AR 58, AR 49]) E (KC_30 l D aC b) ci_X0_11 rfl rfl (Nat.le_of_ble_eq_true rfl) (Nat.le_of_ble_eq_true rfl) ⟨(Nat.le_of_ble_eq_true rfl), (Nat.le_of_ble_eq_true rfl)⟩ (Nat.le_of_ble_eq_true rfl) dX0_init_68 (fun u hp => ?_)
  subst hp
  refine Wv.widen (cs2 := 10) (sl2 := 234) (Nat.le_of_ble_eq_true rfl) (Nat.le_of_ble_eq_true rfl) ?_
  refine s_pRF E hin ff_X0_29 rfl rfl (by decide +kernel) dX0_init_71 ?_
  refine s_world (w2 := wv_197) rfl ?_
  exact r_void E dX0_init_74 rfl
set_option maxRecDepth 20000 in
theorem KC_32 (l : Launch) (D : va_G) (aC : Nat → ClassId) (b : Nat) : CnV l D aC b M_X7_init 1 20 1 60 [AR 61] wv_201 (fun u => u = wv_204) := by
  refine cn_V (own := RX7) (nm := "<init>") (L0 := [some (AR 61)]) (by decide +kernel) rfl rfl (Nat.le_of_ble_eq_true rfl) rfl ?_
  intro p e s m args below meth c E hin
  refine s_aload_n E dX7_init_0 rfl rfl ?_
  refine s_obj E k_163 k_26 k_27 (Nat.le_of_ble_eq_true rfl) (Nat.le_of_ble_eq_true rfl) dX7_init_1 ?_
  refine s_aload_n E dX7_init_4 rfl rfl ?_
  refine s_bipush (v := 60) E dX7_init_5 (by decide) ?_
  refine s_newa101 (N := 60) E k_178 (by decide +kernel) (by decide) (by decide) (by decide) (Nat.le_of_ble_eq_true rfl) (Nat.le_of_ble_eq_true rfl) dX7_init_7 ?_
  refine s_topR (y := 62) (by decide +kernel) ?_
  refine s_world (w2 := wv_202) rfl ?_
  refine Wv.widen (cs2 := 1) (sl2 := 60) (Nat.le_of_ble_eq_true rfl) (Nat.le_of_ble_eq_true rfl) ?_
  refine s_pRF E hin ff_X7_11 rfl rfl (by decide +kernel) dX7_init_9 ?_
  refine s_world (w2 := wv_203) rfl ?_
  refine s_aload_n E dX7_init_12 rfl rfl ?_
  refine s_iconst (v := (-1)) E dX7_init_13 (by decide) ?_
  refine s_pI E fp_X7_15 (Or.inl rfl) rfl (by decide +kernel) dX7_init_14 ?_
  refine s_world (w2 := wv_204) rfl ?_
  exact r_void E dX7_init_17 rfl
set_option maxRecDepth 20000 in
theorem KC_33 (l : Launch) (D : va_G) (aC : Nat → ClassId) (b : Nat) : CnV l D aC b M_X7_init 1 20 1 60 [AR 63] wv_206 (fun u => u = wv_209) := by
  refine cn_V (own := RX7) (nm := "<init>") (L0 := [some (AR 63)]) (by decide +kernel) rfl rfl (Nat.le_of_ble_eq_true rfl) rfl ?_
  intro p e s m args below meth c E hin
  refine s_aload_n E dX7_init_0 rfl rfl ?_
  refine s_obj E k_163 k_26 k_27 (Nat.le_of_ble_eq_true rfl) (Nat.le_of_ble_eq_true rfl) dX7_init_1 ?_
  refine s_aload_n E dX7_init_4 rfl rfl ?_
  refine s_bipush (v := 60) E dX7_init_5 (by decide) ?_
  refine s_newa101 (N := 60) E k_178 (by decide +kernel) (by decide) (by decide) (by decide) (Nat.le_of_ble_eq_true rfl) (Nat.le_of_ble_eq_true rfl) dX7_init_7 ?_
  refine s_topR (y := 64) (by decide +kernel) ?_
  refine s_world (w2 := wv_207) rfl ?_
  refine Wv.widen (cs2 := 1) (sl2 := 60) (Nat.le_of_ble_eq_true rfl) (Nat.le_of_ble_eq_true rfl) ?_
  refine s_pRF E hin ff_X7_11 rfl rfl (by decide +kernel) dX7_init_9 ?_
  refine s_world (w2 := wv_208) rfl ?_
  refine s_aload_n E dX7_init_12 rfl rfl ?_
  refine s_iconst (v := (-1)) E dX7_init_13 (by decide) ?_
  refine s_pI E fp_X7_15 (Or.inl rfl) rfl (by decide +kernel) dX7_init_14 ?_
  refine s_world (w2 := wv_209) rfl ?_
  exact r_void E dX7_init_17 rfl
set_option maxRecDepth 20000 in
theorem KC_34 (l : Launch) (D : va_G) (aC : Nat → ClassId) (b : Nat) : CnV l D aC b M_X7_init 1 20 1 60 [AR 65] wv_211 (fun u => u = wv_214) := by
  refine cn_V (own := RX7) (nm := "<init>") (L0 := [some (AR 65)]) (by decide +kernel) rfl rfl (Nat.le_of_ble_eq_true rfl) rfl ?_
  intro p e s m args below meth c E hin
  refine s_aload_n E dX7_init_0 rfl rfl ?_
  refine s_obj E k_163 k_26 k_27 (Nat.le_of_ble_eq_true rfl) (Nat.le_of_ble_eq_true rfl) dX7_init_1 ?_
  refine s_aload_n E dX7_init_4 rfl rfl ?_
  refine s_bipush (v := 60) E dX7_init_5 (by decide) ?_
  refine s_newa101 (N := 60) E k_178 (by decide +kernel) (by decide) (by decide) (by decide) (Nat.le_of_ble_eq_true rfl) (Nat.le_of_ble_eq_true rfl) dX7_init_7 ?_
  refine s_topR (y := 66) (by decide +kernel) ?_
  refine s_world (w2 := wv_212) rfl ?_
  refine Wv.widen (cs2 := 1) (sl2 := 60) (Nat.le_of_ble_eq_true rfl) (Nat.le_of_ble_eq_true rfl) ?_
  refine s_pRF E hin ff_X7_11 rfl rfl (by decide +kernel) dX7_init_9 ?_
  refine s_world (w2 := wv_213) rfl ?_
  refine s_aload_n E dX7_init_12 rfl rfl ?_
  refine s_iconst (v := (-1)) E dX7_init_13 (by decide) ?_
  refine s_pI E fp_X7_15 (Or.inl rfl) rfl (by decide +kernel) dX7_init_14 ?_
  refine s_world (w2 := wv_214) rfl ?_
  exact r_void E dX7_init_17 rfl
set_option maxRecDepth 20000 in
theorem KC_35 (l : Launch) (D : va_G) (aC : Nat → ClassId) (b : Nat) : CnV l D aC b M_X7_init 1 20 1 60 [AR 67] wv_216 (fun u => u = wv_219) := by
  refine cn_V (own := RX7) (nm := "<init>") (L0 := [some (AR 67)]) (by decide +kernel) rfl rfl (Nat.le_of_ble_eq_true rfl) rfl ?_
  intro p e s m args below meth c E hin
  refine s_aload_n E dX7_init_0 rfl rfl ?_
  refine s_obj E k_163 k_26 k_27 (Nat.le_of_ble_eq_true rfl) (Nat.le_of_ble_eq_true rfl) dX7_init_1 ?_
  refine s_aload_n E dX7_init_4 rfl rfl ?_
  refine s_bipush (v := 60) E dX7_init_5 (by decide) ?_
  refine s_newa101 (N := 60) E k_178 (by decide +kernel) (by decide) (by decide) (by decide) (Nat.le_of_ble_eq_true rfl) (Nat.le_of_ble_eq_true rfl) dX7_init_7 ?_
  refine s_topR (y := 68) (by decide +kernel) ?_
  refine s_world (w2 := wv_217) rfl ?_
  refine Wv.widen (cs2 := 1) (sl2 := 60) (Nat.le_of_ble_eq_true rfl) (Nat.le_of_ble_eq_true rfl) ?_
  refine s_pRF E hin ff_X7_11 rfl rfl (by decide +kernel) dX7_init_9 ?_
  refine s_world (w2 := wv_218) rfl ?_
  refine s_aload_n E dX7_init_12 rfl rfl ?_
  refine s_iconst (v := (-1)) E dX7_init_13 (by decide) ?_
  refine s_pI E fp_X7_15 (Or.inl rfl) rfl (by decide +kernel) dX7_init_14 ?_
  refine s_world (w2 := wv_219) rfl ?_
  exact r_void E dX7_init_17 rfl
set_option maxRecDepth 20000 in
theorem KC_36 (l : Launch) (D : va_G) (aC : Nat → ClassId) (b : Nat) : CnV l D aC b M_X2_init 1 20 5 408 [AR 69] wv_221 (fun u => u = wv_231) := by
  refine cn_V (own := RX2) (nm := "<init>") (L0 := [some (AR 69)]) (by decide +kernel) rfl rfl (Nat.le_of_ble_eq_true rfl) rfl ?_
  intro p e s m args below meth c E hin
  refine s_aload_n E dX2_init_0 rfl rfl ?_
  refine s_obj E k_184 k_26 k_27 (Nat.le_of_ble_eq_true rfl) (Nat.le_of_ble_eq_true rfl) dX2_init_1 ?_
  refine s_aload_n E dX2_init_4 rfl rfl ?_
  refine s_bipush (v := 48) E dX2_init_5 (by decide) ?_
  refine s_newa100 (N := 48) E k_63 (by decide +kernel) (by decide) (by decide) (by decide) (Nat.le_of_ble_eq_true rfl) (Nat.le_of_ble_eq_true rfl) dX2_init_7 ?_
  refine s_topR (y := 70) (by decide +kernel) ?_
  refine s_world (w2 := wv_222) rfl ?_
  refine Wv.widen (cs2 := 1) (sl2 := 48) (Nat.le_of_ble_eq_true rfl) (Nat.le_of_ble_eq_true rfl) ?_
  refine s_pRF E hin ff_X2_9 rfl rfl (by decide +kernel) dX2_init_9 ?_
  refine s_world (w2 := wv_223) rfl ?_
  refine s_aload_n E dX2_init_12 rfl rfl ?_
  refine s_bipush (v := 90) E dX2_init_13 (by decide) ?_
  refine s_newa100 (N := 90) E k_63 (by decide +kernel) (by decide) (by decide) (by decide) (Nat.le_of_ble_eq_true rfl) (Nat.le_of_ble_eq_true rfl) dX2_init_15 ?_
  refine s_topR (y := 71) (by decide +kernel) ?_
  refine s_world (w2 := wv_224) rfl ?_
  refine Wv.widen (cs2 := 2) (sl2 := 138) (Nat.le_of_ble_eq_true rfl) (Nat.le_of_ble_eq_true rfl) ?_
  refine s_pRF E hin ff_X2_15 rfl rfl (by decide +kernel) dX2_init_17 ?_
  refine s_world (w2 := wv_225) rfl ?_
  refine s_aload_n E dX2_init_20 rfl rfl ?_
  refine s_bipush (v := 90) E dX2_init_21 (by decide) ?_
  refine s_newa100 (N := 90) E k_63 (by decide +kernel) (by decide) (by decide) (by decide) (Nat.le_of_ble_eq_true rfl) (Nat.le_of_ble_eq_true rfl) dX2_init_23 ?_
  refine s_topR (y := 72) (by decide +kernel) ?_
  refine s_world (w2 := wv_226) rfl ?_
  refine Wv.widen (cs2 := 3) (sl2 := 228) (Nat.le_of_ble_eq_true rfl) (Nat.le_of_ble_eq_true rfl) ?_
  refine s_pRF E hin ff_X2_18 rfl rfl (by decide +kernel) dX2_init_25 ?_
  refine s_world (w2 := wv_227) rfl ?_
  refine s_aload_n E dX2_init_28 rfl rfl ?_
  refine s_bipush (v := 90) E dX2_init_29 (by decide) ?_
  refine s_newa100 (N := 90) E k_63 (by decide +kernel) (by decide) (by decide) (by decide) (Nat.le_of_ble_eq_true rfl) (Nat.le_of_ble_eq_true rfl) dX2_init_31 ?_
  refine s_topR (y := 73) (by decide +kernel) ?_
  refine s_world (w2 := wv_228) rfl ?_
  refine Wv.widen (cs2 := 4) (sl2 := 318) (Nat.le_of_ble_eq_true rfl) (Nat.le_of_ble_eq_true rfl) ?_
  refine s_pRF E hin ff_X2_21 rfl rfl (by decide +kernel) dX2_init_33 ?_
  refine s_world (w2 := wv_229) rfl ?_
  refine s_aload_n E dX2_init_36 rfl rfl ?_
  refine s_bipush (v := 90) E dX2_init_37 (by decide) ?_
  refine s_newa100 (N := 90) E k_63 (by decide +kernel) (by decide) (by decide) (by decide) (Nat.le_of_ble_eq_true rfl) (Nat.le_of_ble_eq_true rfl) dX2_init_39 ?_
  refine s_topR (y := 74) (by decide +kernel) ?_
  refine s_world (w2 := wv_230) rfl ?_
  refine Wv.widen (cs2 := 5) (sl2 := 408) (Nat.le_of_ble_eq_true rfl) (Nat.le_of_ble_eq_true rfl) ?_
  refine s_pRF E hin ff_X2_24 rfl rfl (by decide +kernel) dX2_init_41 ?_
  refine s_world (w2 := wv_231) rfl ?_
  exact r_void E dX2_init_44 rfl
set_option maxRecDepth 20000 in
theorem KC_37 (l : Launch) (D : va_G) (aC : Nat → ClassId) (b : Nat) : CnV l D aC b M_X2_init 1 20 5 408 [AR 75] wv_233 (fun u => u = wv_243) := by
  refine cn_V (own := RX2) (nm := "<init>") (L0 := [some (AR 75)]) (by decide +kernel) rfl rfl (Nat.le_of_ble_eq_true rfl) rfl ?_
  intro p e s m args below meth c E hin
  refine s_aload_n E dX2_init_0 rfl rfl ?_
  refine s_obj E k_184 k_26 k_27 (Nat.le_of_ble_eq_true rfl) (Nat.le_of_ble_eq_true rfl) dX2_init_1 ?_
  refine s_aload_n E dX2_init_4 rfl rfl ?_
  refine s_bipush (v := 48) E dX2_init_5 (by decide) ?_
  refine s_newa100 (N := 48) E k_63 (by decide +kernel) (by decide) (by decide) (by decide) (Nat.le_of_ble_eq_true rfl) (Nat.le_of_ble_eq_true rfl) dX2_init_7 ?_
  refine s_topR (y := 76) (by decide +kernel) ?_
  refine s_world (w2 := wv_234) rfl ?_
  refine Wv.widen (cs2 := 1) (sl2 := 48) (Nat.le_of_ble_eq_true rfl) (Nat.le_of_ble_eq_true rfl) ?_
  refine s_pRF E hin ff_X2_9 rfl rfl (by decide +kernel) dX2_init_9 ?_
  refine s_world (w2 := wv_235) rfl ?_
  refine s_aload_n E dX2_init_12 rfl rfl ?_
  refine s_bipush (v := 90) E dX2_init_13 (by decide) ?_
  refine s_newa100 (N := 90) E k_63 (by decide +kernel) (by decide) (by decide) (by decide) (Nat.le_of_ble_eq_true rfl) (Nat.le_of_ble_eq_true rfl) dX2_init_15 ?_
  refine s_topR (y := 77) (by decide +kernel) ?_
  refine s_world (w2 := wv_236) rfl ?_
  refine Wv.widen (cs2 := 2) (sl2 := 138) (Nat.le_of_ble_eq_true rfl) (Nat.le_of_ble_eq_true rfl) ?_
  refine s_pRF E hin ff_X2_15 rfl rfl (by decide +kernel) dX2_init_17 ?_
  refine s_world (w2 := wv_237) rfl ?_
  refine s_aload_n E dX2_init_20 rfl rfl ?_
  refine s_bipush (v := 90) E dX2_init_21 (by decide) ?_
  refine s_newa100 (N := 90) E k_63 (by decide +kernel) (by decide) (by decide) (by decide) (Nat.le_of_ble_eq_true rfl) (Nat.le_of_ble_eq_true rfl) dX2_init_23 ?_
  refine s_topR (y := 78) (by decide +kernel) ?_
  refine s_world (w2 := wv_238) rfl ?_
  refine Wv.widen (cs2 := 3) (sl2 := 228) (Nat.le_of_ble_eq_true rfl) (Nat.le_of_ble_eq_true rfl) ?_
  refine s_pRF E hin ff_X2_18 rfl rfl (by decide +kernel) dX2_init_25 ?_
  refine s_world (w2 := wv_239) rfl ?_
  refine s_aload_n E dX2_init_28 rfl rfl ?_
  refine s_bipush (v := 90) E dX2_init_29 (by decide) ?_
  refine s_newa100 (N := 90) E k_63 (by decide +kernel) (by decide) (by decide) (by decide) (Nat.le_of_ble_eq_true rfl) (Nat.le_of_ble_eq_true rfl) dX2_init_31 ?_
  refine s_topR (y := 79) (by decide +kernel) ?_
  refine s_world (w2 := wv_240) rfl ?_
  refine Wv.widen (cs2 := 4) (sl2 := 318) (Nat.le_of_ble_eq_true rfl) (Nat.le_of_ble_eq_true rfl) ?_
  refine s_pRF E hin ff_X2_21 rfl rfl (by decide +kernel) dX2_init_33 ?_
  refine s_world (w2 := wv_241) rfl ?_
  refine s_aload_n E dX2_init_36 rfl rfl ?_
  refine s_bipush (v := 90) E dX2_init_37 (by decide) ?_
  refine s_newa100 (N := 90) E k_63 (by decide +kernel) (by decide) (by decide) (by decide) (Nat.le_of_ble_eq_true rfl) (Nat.le_of_ble_eq_true rfl) dX2_init_39 ?_
  refine s_topR (y := 80) (by decide +kernel) ?_
  refine s_world (w2 := wv_242) rfl ?_
  refine Wv.widen (cs2 := 5) (sl2 := 408) (Nat.le_of_ble_eq_true rfl) (Nat.le_of_ble_eq_true rfl) ?_
  refine s_pRF E hin ff_X2_24 rfl rfl (by decide +kernel) dX2_init_41 ?_
  refine s_world (w2 := wv_243) rfl ?_
  exact r_void E dX2_init_44 rfl
set_option maxRecDepth 20000 in
theorem KC_38 (l : Launch) (D : va_G) (aC : Nat → ClassId) (b : Nat) : CnV l D aC b M_X5_init 1 20 3 27 [AR 81] wv_245 (fun u => u = wv_251) := by
  refine cn_V (own := RX5) (nm := "<init>") (L0 := [some (AR 81)]) (by decide +kernel) rfl rfl (Nat.le_of_ble_eq_true rfl) rfl ?_
  intro p e s m args below meth c E hin
  refine s_aload_n E dX5_init_0 rfl rfl ?_
  refine s_obj E k_215 k_26 k_27 (Nat.le_of_ble_eq_true rfl) (Nat.le_of_ble_eq_true rfl) dX5_init_1 ?_
  refine s_aload_n E dX5_init_4 rfl rfl ?_
  refine s_bipush (v := 6) E dX5_init_5 (by decide) ?_
  refine s_newa100 (N := 6) E k_63 (by decide +kernel) (by decide) (by decide) (by decide) (Nat.le_of_ble_eq_true rfl) (Nat.le_of_ble_eq_true rfl) dX5_init_7 ?_
  refine s_topR (y := 82) (by decide +kernel) ?_
  refine s_world (w2 := wv_246) rfl ?_
  refine Wv.widen (cs2 := 1) (sl2 := 6) (Nat.le_of_ble_eq_true rfl) (Nat.le_of_ble_eq_true rfl) ?_
  refine s_pRF E hin ff_X5_9 rfl rfl (by decide +kernel) dX5_init_9 ?_
  refine s_world (w2 := wv_247) rfl ?_
  refine s_aload_n E dX5_init_12 rfl rfl ?_
  refine s_bipush (v := 6) E dX5_init_13 (by decide) ?_
  refine s_newa100 (N := 6) E k_63 (by decide +kernel) (by decide) (by decide) (by decide) (Nat.le_of_ble_eq_true rfl) (Nat.le_of_ble_eq_true rfl) dX5_init_15 ?_
  refine s_topR (y := 83) (by decide +kernel) ?_
  refine s_world (w2 := wv_248) rfl ?_
  refine Wv.widen (cs2 := 2) (sl2 := 12) (Nat.le_of_ble_eq_true rfl) (Nat.le_of_ble_eq_true rfl) ?_
  refine s_pRF E hin ff_X5_15 rfl rfl (by decide +kernel) dX5_init_17 ?_
  refine s_world (w2 := wv_249) rfl ?_
  refine s_aload_n E dX5_init_20 rfl rfl ?_
  refine s_bipush (v := 15) E dX5_init_21 (by decide) ?_
  refine s_newa100 (N := 15) E k_63 (by decide +kernel) (by decide) (by decide) (by decide) (Nat.le_of_ble_eq_true rfl) (Nat.le_of_ble_eq_true rfl) dX5_init_23 ?_
  refine s_topR (y := 84) (by decide +kernel) ?_
  refine s_world (w2 := wv_250) rfl ?_
  refine Wv.widen (cs2 := 3) (sl2 := 27) (Nat.le_of_ble_eq_true rfl) (Nat.le_of_ble_eq_true rfl) ?_
  refine s_pRF E hin ff_X5_18 rfl rfl (by decide +kernel) dX5_init_25 ?_
  refine s_world (w2 := wv_251) rfl ?_
  exact r_void E dX5_init_28 rfl
set_option maxRecDepth 20000 in
theorem KC_39 (l : Launch) (D : va_G) (aC : Nat → ClassId) (b : Nat) : CnV l D aC b M_X1_init 1 20 3 45 [AR 85] wv_253 (fun u => u = wv_259) := by
  refine cn_V (own := RX1) (nm := "<init>") (L0 := [some (AR 85)]) (by decide +kernel) rfl rfl (Nat.le_of_ble_eq_true rfl) rfl ?_
  intro p e s m args below meth c E hin
  refine s_aload_n E dX1_init_0 rfl rfl ?_
  refine s_obj E k_242 k_26 k_27 (Nat.le_of_ble_eq_true rfl) (Nat.le_of_ble_eq_true rfl) dX1_init_1 ?_
  refine s_aload_n E dX1_init_4 rfl rfl ?_
  refine s_bipush (v := 15) E dX1_init_5 (by decide) ?_
  refine s_newa100 (N := 15) E k_63 (by decide +kernel) (by decide) (by decide) (by decide) (Nat.le_of_ble_eq_true rfl) (Nat.le_of_ble_eq_true rfl) dX1_init_7 ?_
  refine s_topR (y := 86) (by decide +kernel) ?_
  refine s_world (w2 := wv_254) rfl ?_
  refine Wv.widen (cs2 := 1) (sl2 := 15) (Nat.le_of_ble_eq_true rfl) (Nat.le_of_ble_eq_true rfl) ?_
  refine s_pRF E hin ff_X1_9 rfl rfl (by decide +kernel) dX1_init_9 ?_
  refine s_world (w2 := wv_255) rfl ?_
  refine s_aload_n E dX1_init_12 rfl rfl ?_
  refine s_bipush (v := 15) E dX1_init_13 (by decide) ?_
  refine s_newa100 (N := 15) E k_63 (by decide +kernel) (by decide) (by decide) (by decide) (Nat.le_of_ble_eq_true rfl) (Nat.le_of_ble_eq_true rfl) dX1_init_15 ?_
  refine s_topR (y := 87) (by decide +kernel) ?_
  refine s_world (w2 := wv_256) rfl ?_
  refine Wv.widen (cs2 := 2) (sl2 := 30) (Nat.le_of_ble_eq_true rfl) (Nat.le_of_ble_eq_true rfl) ?_
  refine s_pRF E hin ff_X1_15 rfl rfl (by decide +kernel) dX1_init_17 ?_
  refine s_world (w2 := wv_257) rfl ?_
  refine s_aload_n E dX1_init_20 rfl rfl ?_
  refine s_bipush (v := 15) E dX1_init_21 (by decide) ?_
  refine s_newa100 (N := 15) E k_63 (by decide +kernel) (by decide) (by decide) (by decide) (Nat.le_of_ble_eq_true rfl) (Nat.le_of_ble_eq_true rfl) dX1_init_23 ?_
  refine s_topR (y := 88) (by decide +kernel) ?_
  refine s_world (w2 := wv_258) rfl ?_
  refine Wv.widen (cs2 := 3) (sl2 := 45) (Nat.le_of_ble_eq_true rfl) (Nat.le_of_ble_eq_true rfl) ?_
  refine s_pRF E hin ff_X1_18 rfl rfl (by decide +kernel) dX1_init_25 ?_
  refine s_world (w2 := wv_259) rfl ?_
  exact r_void E dX1_init_28 rfl
set_option maxRecDepth 20000 in
theorem KC_40 (l : Launch) (D : va_G) (aC : Nat → ClassId) (b : Nat) : CnV l D aC b M_X3_init 1 20 1 6 [AR 89] wv_261 (fun u => u = wv_263) := by
  refine cn_V (own := RX3) (nm := "<init>") (L0 := [some (AR 89)]) (by decide +kernel) rfl rfl (Nat.le_of_ble_eq_true rfl) rfl ?_
  intro p e s m args below meth c E hin
  refine s_aload_n E dX3_init_0 rfl rfl ?_
  refine s_obj E k_273 k_26 k_27 (Nat.le_of_ble_eq_true rfl) (Nat.le_of_ble_eq_true rfl) dX3_init_1 ?_
  refine s_aload_n E dX3_init_4 rfl rfl ?_
  refine s_bipush (v := 6) E dX3_init_5 (by decide) ?_
  refine s_newa100 (N := 6) E k_63 (by decide +kernel) (by decide) (by decide) (by decide) (Nat.le_of_ble_eq_true rfl) (Nat.le_of_ble_eq_true rfl) dX3_init_7 ?_
  refine s_topR (y := 90) (by decide +kernel) ?_
  refine s_world (w2 := wv_262) rfl ?_
  refine Wv.widen (cs2 := 1) (sl2 := 6) (Nat.le_of_ble_eq_true rfl) (Nat.le_of_ble_eq_true rfl) ?_
  refine s_pRF E hin ff_X3_9 rfl rfl (by decide +kernel) dX3_init_9 ?_
  refine s_world (w2 := wv_263) rfl ?_
  exact r_void E dX3_init_12 rfl
set_option maxRecDepth 20000 in
theorem KC_41 (l : Launch) (D : va_G) (aC : Nat → ClassId) (b : Nat) : CnV l D aC b M_X4_init 1 20 2 128 [AR 91] wv_265 (fun u => u = wv_269) := by
  refine cn_V (own := RX4) (nm := "<init>") (L0 := [some (AR 91)]) (by decide +kernel) rfl rfl (Nat.le_of_ble_eq_true rfl) rfl ?_
  intro p e s m args below meth c E hin
  refine s_aload_n E dX4_init_0 rfl rfl ?_
  refine s_obj E k_290 k_26 k_27 (Nat.le_of_ble_eq_true rfl) (Nat.le_of_ble_eq_true rfl) dX4_init_1 ?_
  refine s_aload_n E dX4_init_4 rfl rfl ?_
  refine s_bipush (v := 64) E dX4_init_5 (by decide) ?_
  refine s_newa101 (N := 64) E k_178 (by decide +kernel) (by decide) (by decide) (by decide) (Nat.le_of_ble_eq_true rfl) (Nat.le_of_ble_eq_true rfl) dX4_init_7 ?_
  refine s_topR (y := 92) (by decide +kernel) ?_
  refine s_world (w2 := wv_266) rfl ?_
  refine Wv.widen (cs2 := 1) (sl2 := 64) (Nat.le_of_ble_eq_true rfl) (Nat.le_of_ble_eq_true rfl) ?_
  refine s_pR E fp_X4_9 rfl rfl (by decide +kernel) dX4_init_9 ?_
  refine s_world (w2 := wv_267) rfl ?_
  refine s_aload_n E dX4_init_12 rfl rfl ?_
  refine s_bipush (v := 64) E dX4_init_13 (by decide) ?_
  refine s_newa101 (N := 64) E k_178 (by decide +kernel) (by decide) (by decide) (by decide) (Nat.le_of_ble_eq_true rfl) (Nat.le_of_ble_eq_true rfl) dX4_init_15 ?_
  refine s_topR (y := 93) (by decide +kernel) ?_
  refine s_world (w2 := wv_268) rfl ?_
  refine Wv.widen (cs2 := 2) (sl2 := 128) (Nat.le_of_ble_eq_true rfl) (Nat.le_of_ble_eq_true rfl) ?_
  refine s_pR E fp_X4_15 rfl rfl (by decide +kernel) dX4_init_17 ?_
  refine s_world (w2 := wv_269) rfl ?_
  exact r_void E dX4_init_20 rfl
set_option maxRecDepth 20000 in
theorem KC_42 (l : Launch) (D : va_G) (aC : Nat → ClassId) (b : Nat) : CnV l D aC b M_X9_init 3 63 94 3564 [AR 0] wv_1 (fun u => u = wv_272) := by
  refine cn_V (own := RX9) (nm := "<init>") (L0 := [some (AR 0), none]) (by decide +kernel) rfl rfl (Nat.le_of_ble_eq_true rfl) rfl ?_
  intro p e s m args below meth c E hin
  refine s_aload_n E dX9_init_0 rfl rfl ?_
  refine s_obj E k_25 k_26 k_27 (Nat.le_of_ble_eq_true rfl) (Nat.le_of_ble_eq_true rfl) dX9_init_1 ?_
  refine s_aload_n E dX9_init_4 rfl rfl ?_
  refine s_sipush (v := 1000) E dX9_init_5 (by decide) ?_
  refine s_newa102 (N := 1000) E k_62 (by decide +kernel) (by decide) (by decide) (by decide) (Nat.le_of_ble_eq_true rfl) (Nat.le_of_ble_eq_true rfl) dX9_init_8 ?_
  refine s_topR (y := 1) (by decide +kernel) ?_
  refine s_world (w2 := wv_2) rfl ?_
  refine Wv.widen (cs2 := 1) (sl2 := 1000) (Nat.le_of_ble_eq_true rfl) (Nat.le_of_ble_eq_true rfl) ?_
  refine s_pRF E hin ff_X9_9 rfl rfl (by decide +kernel) dX9_init_10 ?_
  refine s_world (w2 := wv_3) rfl ?_
  refine s_aload_n E dX9_init_13 rfl rfl ?_
  refine s_iconst (v := 0) E dX9_init_14 (by decide) ?_
  refine s_pI E fp_X9_13 (Or.inl rfl) rfl (by decide +kernel) dX9_init_15 ?_
  refine s_world (w2 := wv_4) rfl ?_
  refine s_aload_n E dX9_init_18 rfl rfl ?_
  refine s_new E CI0 (by decide +kernel) k_28 k_29 k_2 (by decide +kernel) (Nat.le_of_ble_eq_true rfl) (Nat.le_of_ble_eq_true rfl) dX9_init_19 ?_
  refine s_topR (y := 2) (by decide +kernel) ?_
  refine s_world (w2 := wv_5) rfl ?_
  refine Wv.widen (cs2 := 2) (sl2 := 1010) (Nat.le_of_ble_eq_true rfl) (Nat.le_of_ble_eq_true rfl) ?_
  refine s_dupR E dX9_init_22 ?_
  refine s_init (As := []) (S := [AR 2, AR 0]) E (KC_6 l D aC b) ci_X9_19 rfl rfl (Nat.le_of_ble_eq_true rfl) (Nat.le_of_ble_eq_true rfl) ⟨(Nat.le_of_ble_eq_true rfl), (Nat.le_of_ble_eq_true rfl)⟩ (Nat.le_of_ble_eq_true rfl) dX9_init_23 (fun u hp => ?_)
  subst hp
  refine Wv.widen (cs2 := 12) (sl2 := 1244) (Nat.le_of_ble_eq_true rfl) (Nat.le_of_ble_eq_true rfl) ?_
  refine s_pRF E hin ff_X9_20 rfl rfl (by decide +kernel) dX9_init_26 ?_
  refine s_world (w2 := wv_41) rfl ?_
  refine s_aload_n E dX9_init_29 rfl rfl ?_
  refine s_new E CI0 (by decide +kernel) k_28 k_29 k_2 (by decide +kernel) (Nat.le_of_ble_eq_true rfl) (Nat.le_of_ble_eq_true rfl) dX9_init_30 ?_
  refine s_topR (y := 13) (by decide +kernel) ?_
  refine s_world (w2 := wv_42) rfl ?_
  refine Wv.widen (cs2 := 13) (sl2 := 1254) (Nat.le_of_ble_eq_true rfl) (Nat.le_of_ble_eq_true rfl) ?_
  refine s_dupR E dX9_init_33 ?_
  refine s_init (As := []) (S := [AR 13, AR 0]) E (KC_12 l D aC b) ci_X9_19 rfl rfl (Nat.le_of_ble_eq_true rfl) (Nat.le_of_ble_eq_true rfl) ⟨(Nat.le_of_ble_eq_true rfl), (Nat.le_of_ble_eq_true rfl)⟩ (Nat.le_of_ble_eq_true rfl) dX9_init_34 (fun u hp => ?_)
  subst hp
  refine Wv.widen (cs2 := 23) (sl2 := 1488) (Nat.le_of_ble_eq_true rfl) (Nat.le_of_ble_eq_true rfl) ?_
  refine s_pRF E hin ff_X9_24 rfl rfl (by decide +kernel) dX9_init_37 ?_
  refine s_world (w2 := wv_78) rfl ?_
  refine s_aload_n E dX9_init_40 rfl rfl ?_
  refine s_new E CI6 (by decide +kernel) k_123 k_124 k_5 (by decide +kernel) (Nat.le_of_ble_eq_true rfl) (Nat.le_of_ble_eq_true rfl) dX9_init_41 ?_
  refine s_topR (y := 24) (by decide +kernel) ?_
  refine s_world (w2 := wv_79) rfl ?_
  refine Wv.widen (cs2 := 24) (sl2 := 1496) (Nat.le_of_ble_eq_true rfl) (Nat.le_of_ble_eq_true rfl) ?_
  refine s_dupR E dX9_init_44 ?_
  refine s_aload_n E dX9_init_45 rfl rfl ?_
  refine s_gR (r := 1) E fg_X9_9 rfl rfl (by decide +kernel) (by decide +kernel) dX9_init_46 ?_
  refine s_aload_n E dX9_init_49 rfl rfl ?_
  refine s_gR (r := 13) E fg_X9_24 rfl rfl (by decide +kernel) (by decide +kernel) dX9_init_50 ?_
  refine s_init (As := [AR 1, AR 13]) (S := [AR 24, AR 0]) E (KC_13 l D aC b) ci_X9_29 rfl rfl (Nat.le_of_ble_eq_true rfl) (Nat.le_of_ble_eq_true rfl) ⟨(Nat.le_of_ble_eq_true rfl), (Nat.le_of_ble_eq_true rfl)⟩ (Nat.le_of_ble_eq_true rfl) dX9_init_53 (fun u hp => ?_)
  subst hp
  refine s_pRF E hin ff_X9_32 rfl rfl (by decide +kernel) dX9_init_56 ?_
  refine s_world (w2 := wv_83) rfl ?_
  refine s_aload_n E dX9_init_59 rfl rfl ?_
  refine s_iconst (v := 3) E dX9_init_60 (by decide) ?_
  refine s_newr104 (N := 3) E k_28 k_156 (by decide +kernel) (by decide) (by decide) (by decide) (Nat.le_of_ble_eq_true rfl) (Nat.le_of_ble_eq_true rfl) dX9_init_61 ?_
  refine s_topR (y := 25) (by decide +kernel) ?_
  refine s_world (w2 := wv_84) rfl ?_
  refine Wv.widen (cs2 := 25) (sl2 := 1499) (Nat.le_of_ble_eq_true rfl) (Nat.le_of_ble_eq_true rfl) ?_
  refine s_pRF E hin ff_X9_36 rfl rfl (by decide +kernel) dX9_init_64 ?_
  refine s_world (w2 := wv_85) rfl ?_
  refine s_aload_n E dX9_init_67 rfl rfl ?_
  refine s_iconst (v := 3) E dX9_init_68 (by decide) ?_
  refine s_newa103 (N := 3) E k_177 (by decide +kernel) (by decide) (by decide) (by decide) (Nat.le_of_ble_eq_true rfl) (Nat.le_of_ble_eq_true rfl) dX9_init_69 ?_
  refine s_topR (y := 26) (by decide +kernel) ?_
  refine s_world (w2 := wv_86) rfl ?_
  refine Wv.widen (cs2 := 26) (sl2 := 1502) (Nat.le_of_ble_eq_true rfl) (Nat.le_of_ble_eq_true rfl) ?_
  refine s_pRF E hin ff_X9_40 rfl rfl (by decide +kernel) dX9_init_71 ?_
  refine s_world (w2 := wv_87) rfl ?_
  refine s_iconst (v := 0) E dX9_init_74 (by decide) ?_
  refine s_istore_n (L2 := [some (AR 0), some (AI 0)]) E dX9_init_75 rfl (by decide) rfl ?_
  refine s_iload_n E dX9_init_76 rfl rfl ?_
  refine s_iconst (v := 3) E dX9_init_77 (by decide) ?_
  refine s_icmp_ge (tgt := 100) E dX9_init_78 (by decide) (fun hh => absurd hh (by decide)) (fun _ => ?_)
  refine s_aload_n E dX9_init_81 rfl rfl ?_
  refine s_gR (r := 25) E fg_X9_36 rfl rfl (by decide +kernel) (by decide +kernel) dX9_init_82 ?_
  refine s_iload_n E dX9_init_85 rfl rfl ?_
  refine s_new E CI0 (by decide +kernel) k_28 k_29 k_2 (by decide +kernel) (Nat.le_of_ble_eq_true rfl) (Nat.le_of_ble_eq_true rfl) dX9_init_86 ?_
  refine s_topR (y := 27) (by decide +kernel) ?_
  refine s_world (w2 := wv_88) rfl ?_
  refine Wv.widen (cs2 := 27) (sl2 := 1512) (Nat.le_of_ble_eq_true rfl) (Nat.le_of_ble_eq_true rfl) ?_
  refine s_dupR E dX9_init_89 ?_
  refine s_init (As := []) (S := [AR 27, AI 0, AR 25]) E (KC_19 l D aC b) ci_X9_19 rfl rfl (Nat.le_of_ble_eq_true rfl) (Nat.le_of_ble_eq_true rfl) ⟨(Nat.le_of_ble_eq_true rfl), (Nat.le_of_ble_eq_true rfl)⟩ (Nat.le_of_ble_eq_true rfl) dX9_init_90 (fun u hp => ?_)
  subst hp
  refine Wv.widen (cs2 := 37) (sl2 := 1746) (Nat.le_of_ble_eq_true rfl) (Nat.le_of_ble_eq_true rfl) ?_
  refine s_aast104 E rfl (by decide +kernel) (vp_c (by decide)) rfl (by decide +kernel) dX9_init_93 ?_
  refine s_world (w2 := wv_124) rfl ?_
  refine s_iinc (v := 1) (L2 := [some (AR 0), some (AI 1)]) E dX9_init_94 rfl (by decide) (by decide) rfl ?_
  refine s_goto (tgt := 76) E dX9_init_97 (by decide) ?_
  refine s_iload_n E dX9_init_76 rfl rfl ?_
  refine s_iconst (v := 3) E dX9_init_77 (by decide) ?_
  refine s_icmp_ge (tgt := 100) E dX9_init_78 (by decide) (fun hh => absurd hh (by decide)) (fun _ => ?_)
  refine s_aload_n E dX9_init_81 rfl rfl ?_
  refine s_gR (r := 25) E fg_X9_36 rfl rfl (by decide +kernel) (by decide +kernel) dX9_init_82 ?_
  refine s_iload_n E dX9_init_85 rfl rfl ?_
  refine s_new E CI0 (by decide +kernel) k_28 k_29 k_2 (by decide +kernel) (Nat.le_of_ble_eq_true rfl) (Nat.le_of_ble_eq_true rfl) dX9_init_86 ?_
  refine s_topR (y := 38) (by decide +kernel) ?_
  refine s_world (w2 := wv_125) rfl ?_
  refine Wv.widen (cs2 := 38) (sl2 := 1756) (Nat.le_of_ble_eq_true rfl) (Nat.le_of_ble_eq_true rfl) ?_
  refine s_dupR E dX9_init_89 ?_
  refine s_init (As := []) (S := [AR 38, AI 1, AR 25]) E (KC_25 l D aC b) ci_X9_19 rfl rfl (Nat.le_of_ble_eq_true rfl) (Nat.le_of_ble_eq_true rfl) ⟨(Nat.le_of_ble_eq_true rfl), (Nat.le_of_ble_eq_true rfl)⟩ (Nat.le_of_ble_eq_true rfl) dX9_init_90 (fun u hp => ?_)
  subst hp
  refine Wv.widen (cs2 := 48) (sl2 := 1990) (Nat.le_of_ble_eq_true rfl) (Nat.le_of_ble_eq_true rfl) ?_
  refine s_aast104 E rfl (by decide +kernel) (vp_c (by decide)) rfl (by decide +kernel) dX9_init_93 ?_
  refine s_world (w2 := wv_161) rfl ?_
  refine s_iinc (v := 2) (L2 := [some (AR 0), some (AI 2)]) E dX9_init_94 rfl (by decide) (by decide) rfl ?_
  refine s_goto (tgt := 76) E dX9_init_97 (by decide) ?_
  refine s_iload_n E dX9_init_76 rfl rfl ?_
  refine s_iconst (v := 3) E dX9_init_77 (by decide) ?_
  refine s_icmp_ge (tgt := 100) E dX9_init_78 (by decide) (fun hh => absurd hh (by decide)) (fun _ => ?_)
  refine s_aload_n E dX9_init_81 rfl rfl ?_
  refine s_gR (r := 25) E fg_X9_36 rfl rfl (by decide +kernel) (by decide +kernel) dX9_init_82 ?_
  refine s_iload_n E dX9_init_85 rfl rfl ?_
  refine s_new E CI0 (by decide +kernel) k_28 k_29 k_2 (by decide +kernel) (Nat.le_of_ble_eq_true rfl) (Nat.le_of_ble_eq_true rfl) dX9_init_86 ?_
  refine s_topR (y := 49) (by decide +kernel) ?_
  refine s_world (w2 := wv_162) rfl ?_
  refine Wv.widen (cs2 := 49) (sl2 := 2000) (Nat.le_of_ble_eq_true rfl) (Nat.le_of_ble_eq_true rfl) ?_
  refine s_dupR E dX9_init_89 ?_
  refine s_init (As := []) (S := [AR 49, AI 2, AR 25]) E (KC_31 l D aC b) ci_X9_19 rfl rfl (Nat.le_of_ble_eq_true rfl) (Nat.le_of_ble_eq_true rfl) ⟨(Nat.le_of_ble_eq_true rfl), (Nat.le_of_ble_eq_true rfl)⟩ (Nat.le_of_ble_eq_true rfl) dX9_init_90 (fun u hp => ?_)
  subst hp
  refine Wv.widen (cs2 := 59) (sl2 := 2234) (Nat.le_of_ble_eq_true rfl) (Nat.le_of_ble_eq_true rfl) ?_
  refine s_aast104 E rfl (by decide +kernel) (vp_c (by decide)) rfl (by decide +kernel) dX9_init_93 ?_
  refine s_world (w2 := wv_198) rfl ?_
  refine s_iinc (v := 3) (L2 := [some (AR 0), some (AI 3)]) E dX9_init_94 rfl (by decide) (by decide) rfl ?_
  refine s_goto (tgt := 76) E dX9_init_97 (by decide) ?_
  refine s_iload_n E dX9_init_76 rfl rfl ?_
  refine s_iconst (v := 3) E dX9_init_77 (by decide) ?_
  refine s_icmp_ge (tgt := 100) E dX9_init_78 (by decide) (fun _ => ?_) (fun hh => absurd (by decide) hh)
  refine s_aload_n E dX9_init_100 rfl rfl ?_
  refine s_iconst (v := 4) E dX9_init_101 (by decide) ?_
  refine s_newr105 (N := 4) E k_157 k_158 (by decide +kernel) (by decide) (by decide) (by decide) (Nat.le_of_ble_eq_true rfl) (Nat.le_of_ble_eq_true rfl) dX9_init_102 ?_
  refine s_topR (y := 60) (by decide +kernel) ?_
  refine s_world (w2 := wv_199) rfl ?_
  refine Wv.widen (cs2 := 60) (sl2 := 2238) (Nat.le_of_ble_eq_true rfl) (Nat.le_of_ble_eq_true rfl) ?_
  refine s_pRF E hin ff_X9_46 rfl rfl (by decide +kernel) dX9_init_105 ?_
  refine s_world (w2 := wv_200) rfl ?_
  refine s_iconst (v := 0) E dX9_init_108 (by decide) ?_
  refine s_istore_n (L2 := [some (AR 0), some (AI 0)]) E dX9_init_109 rfl (by decide) rfl ?_
  refine s_iload_n E dX9_init_110 rfl rfl ?_
  refine s_iconst (v := 4) E dX9_init_111 (by decide) ?_
  refine s_icmp_ge (tgt := 134) E dX9_init_112 (by decide) (fun hh => absurd hh (by decide)) (fun _ => ?_)
  refine s_aload_n E dX9_init_115 rfl rfl ?_
  refine s_gR (r := 60) E fg_X9_46 rfl rfl (by decide +kernel) (by decide +kernel) dX9_init_116 ?_
  refine s_iload_n E dX9_init_119 rfl rfl ?_
  refine s_new E CI7 (by decide +kernel) k_157 k_159 k_6 (by decide +kernel) (Nat.le_of_ble_eq_true rfl) (Nat.le_of_ble_eq_true rfl) dX9_init_120 ?_
  refine s_topR (y := 61) (by decide +kernel) ?_
  refine s_world (w2 := wv_201) rfl ?_
  refine Wv.widen (cs2 := 61) (sl2 := 2241) (Nat.le_of_ble_eq_true rfl) (Nat.le_of_ble_eq_true rfl) ?_
  refine s_dupR E dX9_init_123 ?_
  refine s_init (As := []) (S := [AR 61, AI 0, AR 60]) E (KC_32 l D aC b) ci_X9_50 rfl rfl (Nat.le_of_ble_eq_true rfl) (Nat.le_of_ble_eq_true rfl) ⟨(Nat.le_of_ble_eq_true rfl), (Nat.le_of_ble_eq_true rfl)⟩ (Nat.le_of_ble_eq_true rfl) dX9_init_124 (fun u hp => ?_)
  subst hp
  refine Wv.widen (cs2 := 62) (sl2 := 2301) (Nat.le_of_ble_eq_true rfl) (Nat.le_of_ble_eq_true rfl) ?_
  refine s_aast105 E rfl (by decide +kernel) (vp_c (by decide)) rfl (by decide +kernel) dX9_init_127 ?_
  refine s_world (w2 := wv_205) rfl ?_
  refine s_iinc (v := 1) (L2 := [some (AR 0), some (AI 1)]) E dX9_init_128 rfl (by decide) (by decide) rfl ?_
  refine s_goto (tgt := 110) E dX9_init_131 (by decide) ?_
  refine s_iload_n E dX9_init_110 rfl rfl ?_
  refine s_iconst (v := 4) E dX9_init_111 (by decide) ?_
  refine s_icmp_ge (tgt := 134) E dX9_init_112 (by decide) (fun hh => absurd hh (by decide)) (fun _ => ?_)
  refine s_aload_n E dX9_init_115 rfl rfl ?_
  refine s_gR (r := 60) E fg_X9_46 rfl rfl (by decide +kernel) (by decide +kernel) dX9_init_116 ?_
  refine s_iload_n E dX9_init_119 rfl rfl ?_
  refine s_new E CI7 (by decide +kernel) k_157 k_159 k_6 (by decide +kernel) (Nat.le_of_ble_eq_true rfl) (Nat.le_of_ble_eq_true rfl) dX9_init_120 ?_
  refine s_topR (y := 63) (by decide +kernel) ?_
  refine s_world (w2 := wv_206) rfl ?_
  refine Wv.widen (cs2 := 63) (sl2 := 2304) (Nat.le_of_ble_eq_true rfl) (Nat.le_of_ble_eq_true rfl) ?_
  refine s_dupR E dX9_init_123 ?_
  refine s_init (As := []) (S := [AR 63, AI 1, AR 60]) E (KC_33 l D aC b) ci_X9_50 rfl rfl (Nat.le_of_ble_eq_true rfl) (Nat.le_of_ble_eq_true rfl) ⟨(Nat.le_of_ble_eq_true rfl), (Nat.le_of_ble_eq_true rfl)⟩ (Nat.le_of_ble_eq_true rfl) dX9_init_124 (fun u hp => ?_)
  subst hp
  refine Wv.widen (cs2 := 64) (sl2 := 2364) (Nat.le_of_ble_eq_true rfl) (Nat.le_of_ble_eq_true rfl) ?_
  refine s_aast105 E rfl (by decide +kernel) (vp_c (by decide)) rfl (by decide +kernel) dX9_init_127 ?_
  refine s_world (w2 := wv_210) rfl ?_
  refine s_iinc (v := 2) (L2 := [some (AR 0), some (AI 2)]) E dX9_init_128 rfl (by decide) (by decide) rfl ?_
  refine s_goto (tgt := 110) E dX9_init_131 (by decide) ?_
  refine s_iload_n E dX9_init_110 rfl rfl ?_
  refine s_iconst (v := 4) E dX9_init_111 (by decide) ?_
  refine s_icmp_ge (tgt := 134) E dX9_init_112 (by decide) (fun hh => absurd hh (by decide)) (fun _ => ?_)
  refine s_aload_n E dX9_init_115 rfl rfl ?_
  refine s_gR (r := 60) E fg_X9_46 rfl rfl (by decide +kernel) (by decide +kernel) dX9_init_116 ?_
  refine s_iload_n E dX9_init_119 rfl rfl ?_
  refine s_new E CI7 (by decide +kernel) k_157 k_159 k_6 (by decide +kernel) (Nat.le_of_ble_eq_true rfl) (Nat.le_of_ble_eq_true rfl) dX9_init_120 ?_
  refine s_topR (y := 65) (by decide +kernel) ?_
  refine s_world (w2 := wv_211) rfl ?_
  refine Wv.widen (cs2 := 65) (sl2 := 2367) (Nat.le_of_ble_eq_true rfl) (Nat.le_of_ble_eq_true rfl) ?_
  refine s_dupR E dX9_init_123 ?_
  refine s_init (As := []) (S := [AR 65, AI 2, AR 60]) E (KC_34 l D aC b) ci_X9_50 rfl rfl (Nat.le_of_ble_eq_true rfl) (Nat.le_of_ble_eq_true rfl) ⟨(Nat.le_of_ble_eq_true rfl), (Nat.le_of_ble_eq_true rfl)⟩ (Nat.le_of_ble_eq_true rfl) dX9_init_124 (fun u hp => ?_)
  subst hp
  refine Wv.widen (cs2 := 66) (sl2 := 2427) (Nat.le_of_ble_eq_true rfl) (Nat.le_of_ble_eq_true rfl) ?_
  refine s_aast105 E rfl (by decide +kernel) (vp_c (by decide)) rfl (by decide +kernel) dX9_init_127 ?_
  refine s_world (w2 := wv_215) rfl ?_
  refine s_iinc (v := 3) (L2 := [some (AR 0), some (AI 3)]) E dX9_init_128 rfl (by decide) (by decide) rfl ?_
  refine s_goto (tgt := 110) E dX9_init_131 (by decide) ?_
  refine s_iload_n E dX9_init_110 rfl rfl ?_
  refine s_iconst (v := 4) E dX9_init_111 (by decide) ?_
  refine s_icmp_ge (tgt := 134) E dX9_init_112 (by decide) (fun hh => absurd hh (by decide)) (fun _ => ?_)
  refine s_aload_n E dX9_init_115 rfl rfl ?_
  refine s_gR (r := 60) E fg_X9_46 rfl rfl (by decide +kernel) (by decide +kernel) dX9_init_116 ?_
  refine s_iload_n E dX9_init_119 rfl rfl ?_
  refine s_new E CI7 (by decide +kernel) k_157 k_159 k_6 (by decide +kernel) (Nat.le_of_ble_eq_true rfl) (Nat.le_of_ble_eq_true rfl) dX9_init_120 ?_
  refine s_topR (y := 67) (by decide +kernel) ?_
  refine s_world (w2 := wv_216) rfl ?_
  refine Wv.widen (cs2 := 67) (sl2 := 2430) (Nat.le_of_ble_eq_true rfl) (Nat.le_of_ble_eq_true rfl) ?_
  refine s_dupR E dX9_init_123 ?_
  refine s_init (As := []) (S := [AR 67, AI 3, AR 60]) E (KC_35 l D aC b) ci_X9_50 rfl rfl (Nat.le_of_ble_eq_true rfl) (Nat.le_of_ble_eq_true rfl) ⟨(Nat.le_of_ble_eq_true rfl), (Nat.le_of_ble_eq_true rfl)⟩ (Nat.le_of_ble_eq_true rfl) dX9_init_124 (fun u hp => ?_)
  subst hp
  refine Wv.widen (cs2 := 68) (sl2 := 2490) (Nat.le_of_ble_eq_true rfl) (Nat.le_of_ble_eq_true rfl) ?_
  refine s_aast105 E rfl (by decide +kernel) (vp_c (by decide)) rfl (by decide +kernel) dX9_init_127 ?_
  refine s_world (w2 := wv_220) rfl ?_
  refine s_iinc (v := 4) (L2 := [some (AR 0), some (AI 4)]) E dX9_init_128 rfl (by decide) (by decide) rfl ?_
  refine s_goto (tgt := 110) E dX9_init_131 (by decide) ?_
  refine s_iload_n E dX9_init_110 rfl rfl ?_
  refine s_iconst (v := 4) E dX9_init_111 (by decide) ?_
  refine s_icmp_ge (tgt := 134) E dX9_init_112 (by decide) (fun _ => ?_) (fun hh => absurd (by decide) hh)
  refine s_aload_n E dX9_init_134 rfl rfl ?_
  refine s_new E CI2 (by decide +kernel) k_179 k_180 k_7 (by decide +kernel) (Nat.le_of_ble_eq_true rfl) (Nat.le_of_ble_eq_true rfl) dX9_init_135 ?_
  refine s_topR (y := 69) (by decide +kernel) ?_
  refine s_world (w2 := wv_221) rfl ?_
  refine Wv.widen (cs2 := 69) (sl2 := 2498) (Nat.le_of_ble_eq_true rfl) (Nat.le_of_ble_eq_true rfl) ?_
  refine s_dupR E dX9_init_138 ?_
  refine s_init (As := []) (S := [AR 69, AR 0]) E (KC_36 l D aC b) ci_X9_53 rfl rfl (Nat.le_of_ble_eq_true rfl) (Nat.le_of_ble_eq_true rfl) ⟨(Nat.le_of_ble_eq_true rfl), (Nat.le_of_ble_eq_true rfl)⟩ (Nat.le_of_ble_eq_true rfl) dX9_init_139 (fun u hp => ?_)
  subst hp
  refine Wv.widen (cs2 := 74) (sl2 := 2906) (Nat.le_of_ble_eq_true rfl) (Nat.le_of_ble_eq_true rfl) ?_
  refine s_pRF E hin ff_X9_54 rfl rfl (by decide +kernel) dX9_init_142 ?_
  refine s_world (w2 := wv_232) rfl ?_
  refine s_aload_n E dX9_init_145 rfl rfl ?_
  refine s_new E CI2 (by decide +kernel) k_179 k_180 k_7 (by decide +kernel) (Nat.le_of_ble_eq_true rfl) (Nat.le_of_ble_eq_true rfl) dX9_init_146 ?_
  refine s_topR (y := 75) (by decide +kernel) ?_
  refine s_world (w2 := wv_233) rfl ?_
  refine Wv.widen (cs2 := 75) (sl2 := 2914) (Nat.le_of_ble_eq_true rfl) (Nat.le_of_ble_eq_true rfl) ?_
  refine s_dupR E dX9_init_149 ?_
  refine s_init (As := []) (S := [AR 75, AR 0]) E (KC_37 l D aC b) ci_X9_53 rfl rfl (Nat.le_of_ble_eq_true rfl) (Nat.le_of_ble_eq_true rfl) ⟨(Nat.le_of_ble_eq_true rfl), (Nat.le_of_ble_eq_true rfl)⟩ (Nat.le_of_ble_eq_true rfl) dX9_init_150 (fun u hp => ?_)
  subst hp
  refine Wv.widen (cs2 := 80) (sl2 := 3322) (Nat.le_of_ble_eq_true rfl) (Nat.le_of_ble_eq_true rfl) ?_
  refine s_pRF E hin ff_X9_58 rfl rfl (by decide +kernel) dX9_init_153 ?_
  refine s_world (w2 := wv_244) rfl ?_
  refine s_aload_n E dX9_init_156 rfl rfl ?_
  refine s_new E CI5 (by decide +kernel) k_210 k_211 k_8 (by decide +kernel) (Nat.le_of_ble_eq_true rfl) (Nat.le_of_ble_eq_true rfl) dX9_init_157 ?_
  refine s_topR (y := 81) (by decide +kernel) ?_
  refine s_world (w2 := wv_245) rfl ?_
  refine Wv.widen (cs2 := 81) (sl2 := 3328) (Nat.le_of_ble_eq_true rfl) (Nat.le_of_ble_eq_true rfl) ?_
  refine s_dupR E dX9_init_160 ?_
  refine s_init (As := []) (S := [AR 81, AR 0]) E (KC_38 l D aC b) ci_X9_63 rfl rfl (Nat.le_of_ble_eq_true rfl) (Nat.le_of_ble_eq_true rfl) ⟨(Nat.le_of_ble_eq_true rfl), (Nat.le_of_ble_eq_true rfl)⟩ (Nat.le_of_ble_eq_true rfl) dX9_init_161 (fun u hp => ?_)
  subst hp
  refine Wv.widen (cs2 := 84) (sl2 := 3355) (Nat.le_of_ble_eq_true rfl) (Nat.le_of_ble_eq_true rfl) ?_
  refine s_pRF E hin ff_X9_64 rfl rfl (by decide +kernel) dX9_init_164 ?_
  refine s_world (w2 := wv_252) rfl ?_
  refine s_aload_n E dX9_init_167 rfl rfl ?_
  refine s_new E CI1 (by decide +kernel) k_237 k_238 k_9 (by decide +kernel) (Nat.le_of_ble_eq_true rfl) (Nat.le_of_ble_eq_true rfl) dX9_init_168 ?_
  refine s_topR (y := 85) (by decide +kernel) ?_
  refine s_world (w2 := wv_253) rfl ?_
  refine Wv.widen (cs2 := 85) (sl2 := 3363) (Nat.le_of_ble_eq_true rfl) (Nat.le_of_ble_eq_true rfl) ?_
  refine s_dupR E dX9_init_171 ?_
  refine s_init (As := []) (S := [AR 85, AR 0]) E (KC_39 l D aC b) ci_X9_70 rfl rfl (Nat.le_of_ble_eq_true rfl) (Nat.le_of_ble_eq_true rfl) ⟨(Nat.le_of_ble_eq_true rfl), (Nat.le_of_ble_eq_true rfl)⟩ (Nat.le_of_ble_eq_true rfl) dX9_init_172 (fun u hp => ?_)
  subst hp
  refine Wv.widen (cs2 := 88) (sl2 := 3408) (Nat.le_of_ble_eq_true rfl) (Nat.le_of_ble_eq_true rfl) ?_
  refine s_pRF E hin ff_X9_71 rfl rfl (by decide +kernel) dX9_init_175 ?_
  refine s_world (w2 := wv_260) rfl ?_
  refine s_aload_n E dX9_init_178 rfl rfl ?_
  refine s_new E CI3 (by decide +kernel) k_268 k_269 k_10 (by decide +kernel) (Nat.le_of_ble_eq_true rfl) (Nat.le_of_ble_eq_true rfl) dX9_init_179 ?_
  refine s_topR (y := 89) (by decide +kernel) ?_
  refine s_world (w2 := wv_261) rfl ?_
  refine Wv.widen (cs2 := 89) (sl2 := 3411) (Nat.le_of_ble_eq_true rfl) (Nat.le_of_ble_eq_true rfl) ?_
  refine s_dupR E dX9_init_182 ?_
  refine s_init (As := []) (S := [AR 89, AR 0]) E (KC_40 l D aC b) ci_X9_77 rfl rfl (Nat.le_of_ble_eq_true rfl) (Nat.le_of_ble_eq_true rfl) ⟨(Nat.le_of_ble_eq_true rfl), (Nat.le_of_ble_eq_true rfl)⟩ (Nat.le_of_ble_eq_true rfl) dX9_init_183 (fun u hp => ?_)
  subst hp
  refine Wv.widen (cs2 := 90) (sl2 := 3417) (Nat.le_of_ble_eq_true rfl) (Nat.le_of_ble_eq_true rfl) ?_
  refine s_pRF E hin ff_X9_78 rfl rfl (by decide +kernel) dX9_init_186 ?_
  refine s_world (w2 := wv_264) rfl ?_
  refine s_aload_n E dX9_init_189 rfl rfl ?_
  refine s_new E CI4 (by decide +kernel) k_285 k_286 k_11 (by decide +kernel) (Nat.le_of_ble_eq_true rfl) (Nat.le_of_ble_eq_true rfl) dX9_init_190 ?_
  refine s_topR (y := 91) (by decide +kernel) ?_
  refine s_world (w2 := wv_265) rfl ?_
  refine Wv.widen (cs2 := 91) (sl2 := 3420) (Nat.le_of_ble_eq_true rfl) (Nat.le_of_ble_eq_true rfl) ?_
  refine s_dupR E dX9_init_193 ?_
  refine s_init (As := []) (S := [AR 91, AR 0]) E (KC_41 l D aC b) ci_X9_84 rfl rfl (Nat.le_of_ble_eq_true rfl) (Nat.le_of_ble_eq_true rfl) ⟨(Nat.le_of_ble_eq_true rfl), (Nat.le_of_ble_eq_true rfl)⟩ (Nat.le_of_ble_eq_true rfl) dX9_init_194 (fun u hp => ?_)
  subst hp
  refine Wv.widen (cs2 := 93) (sl2 := 3548) (Nat.le_of_ble_eq_true rfl) (Nat.le_of_ble_eq_true rfl) ?_
  refine s_pRF E hin ff_X9_85 rfl rfl (by decide +kernel) dX9_init_197 ?_
  refine s_world (w2 := wv_270) rfl ?_
  refine s_aload_n E dX9_init_200 rfl rfl ?_
  refine s_bipush (v := 16) E dX9_init_201 (by decide) ?_
  refine s_newa100 (N := 16) E k_63 (by decide +kernel) (by decide) (by decide) (by decide) (Nat.le_of_ble_eq_true rfl) (Nat.le_of_ble_eq_true rfl) dX9_init_203 ?_
  refine s_topR (y := 94) (by decide +kernel) ?_
  refine s_world (w2 := wv_271) rfl ?_
  refine Wv.widen (cs2 := 94) (sl2 := 3564) (Nat.le_of_ble_eq_true rfl) (Nat.le_of_ble_eq_true rfl) ?_
  refine s_pRF E hin ff_X9_89 rfl rfl (by decide +kernel) dX9_init_205 ?_
  refine s_world (w2 := wv_272) rfl ?_
  exact r_void E dX9_init_208 rfl
set_option maxRecDepth 20000 in
theorem KC_43 (l : Launch) (D : va_G) (aC : Nat → ClassId) (b : Nat) : CnV l D aC b M_X10_init 1 20 20 3064 [AR 95] wv_273 (fun u => u = wv_318) := by
  refine cn_V (own := RX10) (nm := "<init>") (L0 := [some (AR 95)]) (by decide +kernel) rfl rfl (Nat.le_of_ble_eq_true rfl) rfl ?_
  intro p e s m args below meth c E hin
  refine s_aload_n E dX10_init_0 rfl rfl ?_
  refine s_obj E k_1240 k_26 k_27 (Nat.le_of_ble_eq_true rfl) (Nat.le_of_ble_eq_true rfl) dX10_init_1 ?_
  refine s_aload_n E dX10_init_4 rfl rfl ?_
  refine s_sipush (v := 134) E dX10_init_5 (by decide) ?_
  refine s_newa100 (N := 134) E k_63 (by decide +kernel) (by decide) (by decide) (by decide) (Nat.le_of_ble_eq_true rfl) (Nat.le_of_ble_eq_true rfl) dX10_init_8 ?_
  refine s_topR (y := 96) (by decide +kernel) ?_
  refine s_world (w2 := wv_274) rfl ?_
  refine Wv.widen (cs2 := 1) (sl2 := 134) (Nat.le_of_ble_eq_true rfl) (Nat.le_of_ble_eq_true rfl) ?_
  refine s_pRF E hin ff_X10_9 rfl rfl (by decide +kernel) dX10_init_10 ?_
  refine s_world (w2 := wv_275) rfl ?_
  refine s_aload_n E dX10_init_13 rfl rfl ?_
  refine s_sipush (v := 402) E dX10_init_14 (by decide) ?_
  refine s_newa100 (N := 402) E k_63 (by decide +kernel) (by decide) (by decide) (by decide) (Nat.le_of_ble_eq_true rfl) (Nat.le_of_ble_eq_true rfl) dX10_init_17 ?_
  refine s_topR (y := 97) (by decide +kernel) ?_
  refine s_world (w2 := wv_276) rfl ?_
  refine Wv.widen (cs2 := 2) (sl2 := 536) (Nat.le_of_ble_eq_true rfl) (Nat.le_of_ble_eq_true rfl) ?_
  refine s_pRF E hin ff_X10_13 rfl rfl (by decide +kernel) dX10_init_19 ?_
  refine s_world (w2 := wv_277) rfl ?_
  refine s_aload_n E dX10_init_22 rfl rfl ?_
  refine s_iconst (v := 3) E dX10_init_23 (by decide) ?_
  refine s_newa103 (N := 3) E k_177 (by decide +kernel) (by decide) (by decide) (by decide) (Nat.le_of_ble_eq_true rfl) (Nat.le_of_ble_eq_true rfl) dX10_init_24 ?_
  refine s_topR (y := 98) (by decide +kernel) ?_
  refine s_world (w2 := wv_278) rfl ?_
  refine Wv.widen (cs2 := 3) (sl2 := 539) (Nat.le_of_ble_eq_true rfl) (Nat.le_of_ble_eq_true rfl) ?_
  refine s_pRF E hin ff_X10_16 rfl rfl (by decide +kernel) dX10_init_26 ?_
  refine s_world (w2 := wv_279) rfl ?_
  refine s_aload_n E dX10_init_29 rfl rfl ?_
  refine s_sipush (v := 1000) E dX10_init_30 (by decide) ?_
  refine s_newa102 (N := 1000) E k_62 (by decide +kernel) (by decide) (by decide) (by decide) (Nat.le_of_ble_eq_true rfl) (Nat.le_of_ble_eq_true rfl) dX10_init_33 ?_
  refine s_topR (y := 99) (by decide +kernel) ?_
  refine s_world (w2 := wv_280) rfl ?_
  refine Wv.widen (cs2 := 4) (sl2 := 1539) (Nat.le_of_ble_eq_true rfl) (Nat.le_of_ble_eq_true rfl) ?_
  refine s_pRF E hin ff_X10_20 rfl rfl (by decide +kernel) dX10_init_35 ?_
  refine s_world (w2 := wv_281) rfl ?_
  refine s_aload_n E dX10_init_38 rfl rfl ?_
  refine s_iconst (v := 5) E dX10_init_39 (by decide) ?_
  refine s_newa100 (N := 5) E k_63 (by decide +kernel) (by decide) (by decide) (by decide) (Nat.le_of_ble_eq_true rfl) (Nat.le_of_ble_eq_true rfl) dX10_init_40 ?_
  refine s_topR (y := 100) (by decide +kernel) ?_
  refine s_world (w2 := wv_282) rfl ?_
  refine Wv.widen (cs2 := 5) (sl2 := 1544) (Nat.le_of_ble_eq_true rfl) (Nat.le_of_ble_eq_true rfl) ?_
  refine s_pRF E hin ff_X10_24 rfl rfl (by decide +kernel) dX10_init_42 ?_
  refine s_world (w2 := wv_283) rfl ?_
  refine s_aload_n E dX10_init_45 rfl rfl ?_
  refine s_iconst (v := (-1)) E dX10_init_46 (by decide) ?_
  refine s_pI E fp_X10_27 (Or.inl rfl) rfl (by decide +kernel) dX10_init_47 ?_
  refine s_world (w2 := wv_284) rfl ?_
  refine s_aload_n E dX10_init_50 rfl rfl ?_
  refine s_sipush (v := 134) E dX10_init_51 (by decide) ?_
  refine s_newa100 (N := 134) E k_63 (by decide +kernel) (by decide) (by decide) (by decide) (Nat.le_of_ble_eq_true rfl) (Nat.le_of_ble_eq_true rfl) dX10_init_54 ?_
  refine s_topR (y := 101) (by decide +kernel) ?_
  refine s_world (w2 := wv_285) rfl ?_
  refine Wv.widen (cs2 := 6) (sl2 := 1678) (Nat.le_of_ble_eq_true rfl) (Nat.le_of_ble_eq_true rfl) ?_
  refine s_pRF E hin ff_X10_31 rfl rfl (by decide +kernel) dX10_init_56 ?_
  refine s_world (w2 := wv_286) rfl ?_
  refine s_aload_n E dX10_init_59 rfl rfl ?_
  refine s_sipush (v := 640) E dX10_init_60 (by decide) ?_
  refine s_newa100 (N := 640) E k_63 (by decide +kernel) (by decide) (by decide) (by decide) (Nat.le_of_ble_eq_true rfl) (Nat.le_of_ble_eq_true rfl) dX10_init_63 ?_
  refine s_topR (y := 102) (by decide +kernel) ?_
  refine s_world (w2 := wv_287) rfl ?_
  refine Wv.widen (cs2 := 7) (sl2 := 2318) (Nat.le_of_ble_eq_true rfl) (Nat.le_of_ble_eq_true rfl) ?_
  refine s_pRF E hin ff_X10_34 rfl rfl (by decide +kernel) dX10_init_65 ?_
  refine s_world (w2 := wv_288) rfl ?_
  refine s_aload_n E dX10_init_68 rfl rfl ?_
  refine s_bipush (v := 90) E dX10_init_69 (by decide) ?_
  refine s_newa100 (N := 90) E k_63 (by decide +kernel) (by decide) (by decide) (by decide) (Nat.le_of_ble_eq_true rfl) (Nat.le_of_ble_eq_true rfl) dX10_init_71 ?_
  refine s_topR (y := 103) (by decide +kernel) ?_
  refine s_world (w2 := wv_289) rfl ?_
  refine Wv.widen (cs2 := 8) (sl2 := 2408) (Nat.le_of_ble_eq_true rfl) (Nat.le_of_ble_eq_true rfl) ?_
  refine s_pRF E hin ff_X10_37 rfl rfl (by decide +kernel) dX10_init_73 ?_
  refine s_world (w2 := wv_290) rfl ?_
  refine s_aload_n E dX10_init_76 rfl rfl ?_
  refine s_bipush (v := 8) E dX10_init_77 (by decide) ?_
  refine s_newa100 (N := 8) E k_63 (by decide +kernel) (by decide) (by decide) (by decide) (Nat.le_of_ble_eq_true rfl) (Nat.le_of_ble_eq_true rfl) dX10_init_79 ?_
  refine s_topR (y := 104) (by decide +kernel) ?_
  refine s_world (w2 := wv_291) rfl ?_
  refine Wv.widen (cs2 := 9) (sl2 := 2416) (Nat.le_of_ble_eq_true rfl) (Nat.le_of_ble_eq_true rfl) ?_
  refine s_pRF E hin ff_X10_40 rfl rfl (by decide +kernel) dX10_init_81 ?_
  refine s_world (w2 := wv_292) rfl ?_
  refine s_aload_n E dX10_init_84 rfl rfl ?_
  refine s_bipush (v := 6) E dX10_init_85 (by decide) ?_
  refine s_newa100 (N := 6) E k_63 (by decide +kernel) (by decide) (by decide) (by decide) (Nat.le_of_ble_eq_true rfl) (Nat.le_of_ble_eq_true rfl) dX10_init_87 ?_
  refine s_topR (y := 105) (by decide +kernel) ?_
  refine s_world (w2 := wv_293) rfl ?_
  refine Wv.widen (cs2 := 10) (sl2 := 2422) (Nat.le_of_ble_eq_true rfl) (Nat.le_of_ble_eq_true rfl) ?_
  refine s_pRF E hin ff_X10_43 rfl rfl (by decide +kernel) dX10_init_89 ?_
  refine s_world (w2 := wv_294) rfl ?_
  refine s_aload_n E dX10_init_92 rfl rfl ?_
  refine s_bipush (v := 15) E dX10_init_93 (by decide) ?_
  refine s_newa100 (N := 15) E k_63 (by decide +kernel) (by decide) (by decide) (by decide) (Nat.le_of_ble_eq_true rfl) (Nat.le_of_ble_eq_true rfl) dX10_init_95 ?_
  refine s_topR (y := 106) (by decide +kernel) ?_
  refine s_world (w2 := wv_295) rfl ?_
  refine Wv.widen (cs2 := 11) (sl2 := 2437) (Nat.le_of_ble_eq_true rfl) (Nat.le_of_ble_eq_true rfl) ?_
  refine s_pRF E hin ff_X10_46 rfl rfl (by decide +kernel) dX10_init_97 ?_
  refine s_world (w2 := wv_296) rfl ?_
  refine s_aload_n E dX10_init_100 rfl rfl ?_
  refine s_bipush (v := 6) E dX10_init_101 (by decide) ?_
  refine s_newa100 (N := 6) E k_63 (by decide +kernel) (by decide) (by decide) (by decide) (Nat.le_of_ble_eq_true rfl) (Nat.le_of_ble_eq_true rfl) dX10_init_103 ?_
  refine s_topR (y := 107) (by decide +kernel) ?_
  refine s_world (w2 := wv_297) rfl ?_
  refine Wv.widen (cs2 := 12) (sl2 := 2443) (Nat.le_of_ble_eq_true rfl) (Nat.le_of_ble_eq_true rfl) ?_
  refine s_pRF E hin ff_X10_49 rfl rfl (by decide +kernel) dX10_init_105 ?_
  refine s_world (w2 := wv_298) rfl ?_
  refine s_aload_n E dX10_init_108 rfl rfl ?_
  refine s_bipush (v := 6) E dX10_init_109 (by decide) ?_
  refine s_newa100 (N := 6) E k_63 (by decide +kernel) (by decide) (by decide) (by decide) (Nat.le_of_ble_eq_true rfl) (Nat.le_of_ble_eq_true rfl) dX10_init_111 ?_
  refine s_topR (y := 108) (by decide +kernel) ?_
  refine s_world (w2 := wv_299) rfl ?_
  refine Wv.widen (cs2 := 13) (sl2 := 2449) (Nat.le_of_ble_eq_true rfl) (Nat.le_of_ble_eq_true rfl) ?_
  refine s_pRF E hin ff_X10_52 rfl rfl (by decide +kernel) dX10_init_113 ?_
  refine s_world (w2 := wv_300) rfl ?_
  refine s_aload_n E dX10_init_116 rfl rfl ?_
  refine s_sipush (v := 256) E dX10_init_117 (by decide) ?_
  refine s_newa103 (N := 256) E k_177 (by decide +kernel) (by decide) (by decide) (by decide) (Nat.le_of_ble_eq_true rfl) (Nat.le_of_ble_eq_true rfl) dX10_init_120 ?_
  refine s_topR (y := 109) (by decide +kernel) ?_
  refine s_world (w2 := wv_301) rfl ?_
  refine Wv.widen (cs2 := 14) (sl2 := 2705) (Nat.le_of_ble_eq_true rfl) (Nat.le_of_ble_eq_true rfl) ?_
  refine s_pRF E hin ff_X10_55 rfl rfl (by decide +kernel) dX10_init_122 ?_
  refine s_world (w2 := wv_302) rfl ?_
  refine s_aload_n E dX10_init_125 rfl rfl ?_
  refine s_bipush (v := 15) E dX10_init_126 (by decide) ?_
  refine s_newa100 (N := 15) E k_63 (by decide +kernel) (by decide) (by decide) (by decide) (Nat.le_of_ble_eq_true rfl) (Nat.le_of_ble_eq_true rfl) dX10_init_128 ?_
  refine s_topR (y := 110) (by decide +kernel) ?_
  refine s_world (w2 := wv_303) rfl ?_
  refine Wv.widen (cs2 := 15) (sl2 := 2720) (Nat.le_of_ble_eq_true rfl) (Nat.le_of_ble_eq_true rfl) ?_
  refine s_pRF E hin ff_X10_58 rfl rfl (by decide +kernel) dX10_init_130 ?_
  refine s_world (w2 := wv_304) rfl ?_
  refine s_aload_n E dX10_init_133 rfl rfl ?_
  refine s_bipush (v := 36) E dX10_init_134 (by decide) ?_
  refine s_newa100 (N := 36) E k_63 (by decide +kernel) (by decide) (by decide) (by decide) (Nat.le_of_ble_eq_true rfl) (Nat.le_of_ble_eq_true rfl) dX10_init_136 ?_
  refine s_topR (y := 111) (by decide +kernel) ?_
  refine s_world (w2 := wv_305) rfl ?_
  refine Wv.widen (cs2 := 16) (sl2 := 2756) (Nat.le_of_ble_eq_true rfl) (Nat.le_of_ble_eq_true rfl) ?_
  refine s_pRF E hin ff_X10_61 rfl rfl (by decide +kernel) dX10_init_138 ?_
  refine s_world (w2 := wv_306) rfl ?_
  refine s_aload_n E dX10_init_141 rfl rfl ?_
  refine s_iconst (v := 4) E dX10_init_142 (by decide) ?_
  refine s_newa100 (N := 4) E k_63 (by decide +kernel) (by decide) (by decide) (by decide) (Nat.le_of_ble_eq_true rfl) (Nat.le_of_ble_eq_true rfl) dX10_init_143 ?_
  refine s_topR (y := 112) (by decide +kernel) ?_
  refine s_world (w2 := wv_307) rfl ?_
  refine Wv.widen (cs2 := 17) (sl2 := 2760) (Nat.le_of_ble_eq_true rfl) (Nat.le_of_ble_eq_true rfl) ?_
  refine s_dupR E dX10_init_145 ?_
  refine s_iconst (v := 0) E dX10_init_146 (by decide) ?_
  refine s_iconst (v := (-1)) E dX10_init_147 (by decide) ?_
  refine s_iast E rfl (by decide +kernel) (vp_c (by decide)) dX10_init_148 ?_
  refine s_world (w2 := wv_308) rfl ?_
  refine s_dupR E dX10_init_149 ?_
  refine s_iconst (v := 1) E dX10_init_150 (by decide) ?_
  refine s_iconst (v := (-1)) E dX10_init_151 (by decide) ?_
  refine s_iast E rfl (by decide +kernel) (vp_c (by decide)) dX10_init_152 ?_
  refine s_world (w2 := wv_309) rfl ?_
  refine s_dupR E dX10_init_153 ?_
  refine s_iconst (v := 2) E dX10_init_154 (by decide) ?_
  refine s_iconst (v := (-1)) E dX10_init_155 (by decide) ?_
  refine s_iast E rfl (by decide +kernel) (vp_c (by decide)) dX10_init_156 ?_
  refine s_world (w2 := wv_310) rfl ?_
  refine s_dupR E dX10_init_157 ?_
  refine s_iconst (v := 3) E dX10_init_158 (by decide) ?_
  refine s_iconst (v := (-1)) E dX10_init_159 (by decide) ?_
  refine s_iast E rfl (by decide +kernel) (vp_c (by decide)) dX10_init_160 ?_
  refine s_world (w2 := wv_311) rfl ?_
  refine s_pRF E hin ff_X10_64 rfl rfl (by decide +kernel) dX10_init_161 ?_
  refine s_world (w2 := wv_312) rfl ?_
  refine s_aload_n E dX10_init_164 rfl rfl ?_
  refine s_iconst (v := 4) E dX10_init_165 (by decide) ?_
  refine s_newa100 (N := 4) E k_63 (by decide +kernel) (by decide) (by decide) (by decide) (Nat.le_of_ble_eq_true rfl) (Nat.le_of_ble_eq_true rfl) dX10_init_166 ?_
  refine s_topR (y := 113) (by decide +kernel) ?_
  refine s_world (w2 := wv_313) rfl ?_
  refine Wv.widen (cs2 := 18) (sl2 := 2764) (Nat.le_of_ble_eq_true rfl) (Nat.le_of_ble_eq_true rfl) ?_
  refine s_pRF E hin ff_X10_67 rfl rfl (by decide +kernel) dX10_init_168 ?_
  refine s_world (w2 := wv_314) rfl ?_
  refine s_aload_n E dX10_init_171 rfl rfl ?_
  refine s_sipush (v := 240) E dX10_init_172 (by decide) ?_
  refine s_newa101 (N := 240) E k_178 (by decide +kernel) (by decide) (by decide) (by decide) (Nat.le_of_ble_eq_true rfl) (Nat.le_of_ble_eq_true rfl) dX10_init_175 ?_
  refine s_topR (y := 114) (by decide +kernel) ?_
  refine s_world (w2 := wv_315) rfl ?_
  refine Wv.widen (cs2 := 19) (sl2 := 3004) (Nat.le_of_ble_eq_true rfl) (Nat.le_of_ble_eq_true rfl) ?_
  refine s_pRF E hin ff_X10_70 rfl rfl (by decide +kernel) dX10_init_177 ?_
  refine s_world (w2 := wv_316) rfl ?_
  refine s_aload_n E dX10_init_180 rfl rfl ?_
  refine s_bipush (v := 60) E dX10_init_181 (by decide) ?_
  refine s_newa101 (N := 60) E k_178 (by decide +kernel) (by decide) (by decide) (by decide) (Nat.le_of_ble_eq_true rfl) (Nat.le_of_ble_eq_true rfl) dX10_init_183 ?_
  refine s_topR (y := 115) (by decide +kernel) ?_
  refine s_world (w2 := wv_317) rfl ?_
  refine Wv.widen (cs2 := 20) (sl2 := 3064) (Nat.le_of_ble_eq_true rfl) (Nat.le_of_ble_eq_true rfl) ?_
  refine s_pRF E hin ff_X10_74 rfl rfl (by decide +kernel) dX10_init_185 ?_
  refine s_world (w2 := wv_318) rfl ?_
  exact r_void E dX10_init_188 rfl
