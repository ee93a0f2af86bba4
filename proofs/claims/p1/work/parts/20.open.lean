set_option maxRecDepth 20000 in
set_option maxHeartbeats 2000000 in
theorem K_X9_appendFour_0_CRMS (l : Launch) (D : va_G) (aC : Nat → ClassId) (b : Nat) (w : XW) (x1 : Int32) (hw0 : FrC w) (hw1 : RfC w) (hw2 : FrM w) (hw3 : RfM w) : CnV l D aC b M_X9_appendFour 0 0 0 0 [AR 0, AI x1] w (fun u => RfC u ∧ FrM u ∧ RfM u ∧ TL4 u) := by
  refine cn_V (own := RX9) (nm := "appendFour") (L0 := [some (AR 0), some (AI x1), none]) (by decide +kernel) rfl rfl (Nat.le_of_ble_eq_true rfl) rfl ?_
  intro p e s m args below meth c E hin
  refine s_bipush (v := 24) E dX9_appendFour_0 (by decide) ?_
  refine s_istore_n (L2 := [some (AR 0), some (AI x1), some (AI 24)]) E dX9_appendFour_2 rfl (by decide) rfl ?_
  refine s_iload_n E dX9_appendFour_3 rfl rfl ?_
  refine s_if_lt (tgt := 55) E dX9_appendFour_4 (by decide) (fun hh => absurd hh (by decide)) (fun _ => ?_)
  refine s_aload_n E dX9_appendFour_7 rfl rfl ?_
  refine s_gI E fg_X9_13 rfl rfl (ltn hw0.1 (by decide)) dX9_appendFour_8 ?_
  refine s_top (y := 0) (fc_i hw0 (by decide +kernel)) ?_
  refine s_if_lt (tgt := 49) E dX9_appendFour_11 (by decide) (fun hh => absurd hh (by decide)) (fun _ => ?_)
  refine s_aload_n E dX9_appendFour_14 rfl rfl ?_
  refine s_gI E fg_X9_13 rfl rfl (ltn hw0.1 (by decide)) dX9_appendFour_15 ?_
  refine s_top (y := 0) (fc_i hw0 (by decide +kernel)) ?_
  refine s_aload_n E dX9_appendFour_18 rfl rfl ?_
  refine s_gR (r := 1) E fg_X9_9 rfl rfl (ltn hw0.1 (by decide)) (fc_r hw0 (by decide +kernel)) dX9_appendFour_19 ?_
  refine s_alen (v := 1000) E rfl (by decide) (ltn hw0.1 (by decide)) (by decide) dX9_appendFour_22 ?_
  refine s_icmp_ge (tgt := 49) E dX9_appendFour_23 (by decide) (fun hh => absurd hh (by decide)) (fun _ => ?_)
  refine s_aload_n E dX9_appendFour_26 rfl rfl ?_
  refine s_gR (r := 1) E fg_X9_9 rfl rfl (ltn hw0.1 (by decide)) (fc_r hw0 (by decide +kernel)) dX9_appendFour_27 ?_
  refine s_aload_n E dX9_appendFour_30 rfl rfl ?_
  refine s_gI E fg_X9_13 rfl rfl (ltn hw0.1 (by decide)) dX9_appendFour_31 ?_
  refine s_top (y := 0) (fc_i hw0 (by decide +kernel)) ?_
  refine s_iload_n E dX9_appendFour_34 rfl rfl ?_
  refine s_iload_n E dX9_appendFour_35 rfl rfl ?_
  refine s_iushr E dX9_appendFour_36 ?_
  refine s_i2b E dX9_appendFour_37 ?_
  refine s_bast E rfl (ltn hw0.1 (by decide)) (vp_c (by decide)) dX9_appendFour_38 ?_
  refine s_aload_n E dX9_appendFour_39 rfl rfl ?_
  refine s_dupR E dX9_appendFour_40 ?_
  refine s_gI E fg_X9_13 rfl rfl (ltn hw0.1 (by decide)) dX9_appendFour_41 ?_
  refine s_top (y := 0) (fc_i hw0 (by decide +kernel)) ?_
  refine s_iconst (v := 1) E dX9_appendFour_44 (by decide) ?_
  refine s_iadd E dX9_appendFour_45 ?_
  refine s_top (y := 1) (by decide) ?_
  refine s_pI E fp_X9_13 (Or.inl rfl) rfl (ltn hw0.1 (by decide)) dX9_appendFour_46 ?_
  refine s_iinc (v := 16) (L2 := [some (AR 0), some (AI x1), some (AI 16)]) E dX9_appendFour_49 rfl (by decide) (by decide) rfl ?_
  refine s_goto (tgt := 3) E dX9_appendFour_52 (by decide) ?_
  refine s_iload_n E dX9_appendFour_3 rfl rfl ?_
  refine s_if_lt (tgt := 55) E dX9_appendFour_4 (by decide) (fun hh => absurd hh (by decide)) (fun _ => ?_)
  refine s_aload_n E dX9_appendFour_7 rfl rfl ?_
  refine s_gI E fg_X9_13 rfl rfl (ltn hw0.1 (by decide)) dX9_appendFour_8 ?_
  refine s_top (y := 1) rfl ?_
  refine s_if_lt (tgt := 49) E dX9_appendFour_11 (by decide) (fun hh => absurd hh (by decide)) (fun _ => ?_)
  refine s_aload_n E dX9_appendFour_14 rfl rfl ?_
  refine s_gI E fg_X9_13 rfl rfl (ltn hw0.1 (by decide)) dX9_appendFour_15 ?_
  refine s_top (y := 1) rfl ?_
  refine s_aload_n E dX9_appendFour_18 rfl rfl ?_
  refine s_gR (r := 1) E fg_X9_9 rfl rfl (ltn hw0.1 (by decide)) (fc_r hw0 (by decide +kernel)) dX9_appendFour_19 ?_
  refine s_alen (v := 1000) E rfl (by decide) (ltn hw0.1 (by decide)) (by decide) dX9_appendFour_22 ?_
  refine s_icmp_ge (tgt := 49) E dX9_appendFour_23 (by decide) (fun hh => absurd hh (by decide)) (fun _ => ?_)
  refine s_aload_n E dX9_appendFour_26 rfl rfl ?_
  refine s_gR (r := 1) E fg_X9_9 rfl rfl (ltn hw0.1 (by decide)) (fc_r hw0 (by decide +kernel)) dX9_appendFour_27 ?_
  refine s_aload_n E dX9_appendFour_30 rfl rfl ?_
  refine s_gI E fg_X9_13 rfl rfl (ltn hw0.1 (by decide)) dX9_appendFour_31 ?_
  refine s_top (y := 1) rfl ?_
  refine s_iload_n E dX9_appendFour_34 rfl rfl ?_
  refine s_iload_n E dX9_appendFour_35 rfl rfl ?_
  refine s_iushr E dX9_appendFour_36 ?_
  refine s_i2b E dX9_appendFour_37 ?_
  refine s_bast E rfl (ltn hw0.1 (by decide)) (vp_c (by decide)) dX9_appendFour_38 ?_
  refine s_aload_n E dX9_appendFour_39 rfl rfl ?_
  refine s_dupR E dX9_appendFour_40 ?_
  refine s_gI E fg_X9_13 rfl rfl (ltn hw0.1 (by decide)) dX9_appendFour_41 ?_
  refine s_top (y := 1) rfl ?_
  refine s_iconst (v := 1) E dX9_appendFour_44 (by decide) ?_
  refine s_iadd E dX9_appendFour_45 ?_
  refine s_top (y := 2) (by decide) ?_
  refine s_pI E fp_X9_13 (Or.inl rfl) rfl (ltn hw0.1 (by decide)) dX9_appendFour_46 ?_
  refine s_iinc (v := 8) (L2 := [some (AR 0), some (AI x1), some (AI 8)]) E dX9_appendFour_49 rfl (by decide) (by decide) rfl ?_
  refine s_goto (tgt := 3) E dX9_appendFour_52 (by decide) ?_
  refine s_iload_n E dX9_appendFour_3 rfl rfl ?_
  refine s_if_lt (tgt := 55) E dX9_appendFour_4 (by decide) (fun hh => absurd hh (by decide)) (fun _ => ?_)
  refine s_aload_n E dX9_appendFour_7 rfl rfl ?_
  refine s_gI E fg_X9_13 rfl rfl (ltn hw0.1 (by decide)) dX9_appendFour_8 ?_
  refine s_top (y := 2) rfl ?_
  refine s_if_lt (tgt := 49) E dX9_appendFour_11 (by decide) (fun hh => absurd hh (by decide)) (fun _ => ?_)
  refine s_aload_n E dX9_appendFour_14 rfl rfl ?_
  refine s_gI E fg_X9_13 rfl rfl (ltn hw0.1 (by decide)) dX9_appendFour_15 ?_
  refine s_top (y := 2) rfl ?_
  refine s_aload_n E dX9_appendFour_18 rfl rfl ?_
  refine s_gR (r := 1) E fg_X9_9 rfl rfl (ltn hw0.1 (by decide)) (fc_r hw0 (by decide +kernel)) dX9_appendFour_19 ?_
  refine s_alen (v := 1000) E rfl (by decide) (ltn hw0.1 (by decide)) (by decide) dX9_appendFour_22 ?_
  refine s_icmp_ge (tgt := 49) E dX9_appendFour_23 (by decide) (fun hh => absurd hh (by decide)) (fun _ => ?_)
  refine s_aload_n E dX9_appendFour_26 rfl rfl ?_
  refine s_gR (r := 1) E fg_X9_9 rfl rfl (ltn hw0.1 (by decide)) (fc_r hw0 (by decide +kernel)) dX9_appendFour_27 ?_
  refine s_aload_n E dX9_appendFour_30 rfl rfl ?_
  refine s_gI E fg_X9_13 rfl rfl (ltn hw0.1 (by decide)) dX9_appendFour_31 ?_
  refine s_top (y := 2) rfl ?_
  refine s_iload_n E dX9_appendFour_34 rfl rfl ?_
  refine s_iload_n E dX9_appendFour_35 rfl rfl ?_
  refine s_iushr E dX9_appendFour_36 ?_
  refine s_i2b E dX9_appendFour_37 ?_
  refine s_bast E rfl (ltn hw0.1 (by decide)) (vp_c (by decide)) dX9_appendFour_38 ?_
  refine s_aload_n E dX9_appendFour_39 rfl rfl ?_
  refine s_dupR E dX9_appendFour_40 ?_
  refine s_gI E fg_X9_13 rfl rfl (ltn hw0.1 (by decide)) dX9_appendFour_41 ?_
  refine s_top (y := 2) rfl ?_
  refine s_iconst (v := 1) E dX9_appendFour_44 (by decide) ?_
  refine s_iadd E dX9_appendFour_45 ?_
  refine s_top (y := 3) (by decide) ?_
  refine s_pI E fp_X9_13 (Or.inl rfl) rfl (ltn hw0.1 (by decide)) dX9_appendFour_46 ?_
  refine s_iinc (v := 0) (L2 := [some (AR 0), some (AI x1), some (AI 0)]) E dX9_appendFour_49 rfl (by decide) (by decide) rfl ?_
  refine s_goto (tgt := 3) E dX9_appendFour_52 (by decide) ?_
  refine s_iload_n E dX9_appendFour_3 rfl rfl ?_
  refine s_if_lt (tgt := 55) E dX9_appendFour_4 (by decide) (fun hh => absurd hh (by decide)) (fun _ => ?_)
  refine s_aload_n E dX9_appendFour_7 rfl rfl ?_
  refine s_gI E fg_X9_13 rfl rfl (ltn hw0.1 (by decide)) dX9_appendFour_8 ?_
  refine s_top (y := 3) rfl ?_
  refine s_if_lt (tgt := 49) E dX9_appendFour_11 (by decide) (fun hh => absurd hh (by decide)) (fun _ => ?_)
  refine s_aload_n E dX9_appendFour_14 rfl rfl ?_
  refine s_gI E fg_X9_13 rfl rfl (ltn hw0.1 (by decide)) dX9_appendFour_15 ?_
  refine s_top (y := 3) rfl ?_
  refine s_aload_n E dX9_appendFour_18 rfl rfl ?_
  refine s_gR (r := 1) E fg_X9_9 rfl rfl (ltn hw0.1 (by decide)) (fc_r hw0 (by decide +kernel)) dX9_appendFour_19 ?_
  refine s_alen (v := 1000) E rfl (by decide) (ltn hw0.1 (by decide)) (by decide) dX9_appendFour_22 ?_
  refine s_icmp_ge (tgt := 49) E dX9_appendFour_23 (by decide) (fun hh => absurd hh (by decide)) (fun _ => ?_)
  refine s_aload_n E dX9_appendFour_26 rfl rfl ?_
  refine s_gR (r := 1) E fg_X9_9 rfl rfl (ltn hw0.1 (by decide)) (fc_r hw0 (by decide +kernel)) dX9_appendFour_27 ?_
  refine s_aload_n E dX9_appendFour_30 rfl rfl ?_
  refine s_gI E fg_X9_13 rfl rfl (ltn hw0.1 (by decide)) dX9_appendFour_31 ?_
  refine s_top (y := 3) rfl ?_
  refine s_iload_n E dX9_appendFour_34 rfl rfl ?_
  refine s_iload_n E dX9_appendFour_35 rfl rfl ?_
  refine s_iushr E dX9_appendFour_36 ?_
  refine s_i2b E dX9_appendFour_37 ?_
  refine s_bast E rfl (ltn hw0.1 (by decide)) (vp_c (by decide)) dX9_appendFour_38 ?_
  refine s_aload_n E dX9_appendFour_39 rfl rfl ?_
  refine s_dupR E dX9_appendFour_40 ?_
  refine s_gI E fg_X9_13 rfl rfl (ltn hw0.1 (by decide)) dX9_appendFour_41 ?_
  refine s_top (y := 3) rfl ?_
  refine s_iconst (v := 1) E dX9_appendFour_44 (by decide) ?_
  refine s_iadd E dX9_appendFour_45 ?_
  refine s_top (y := 4) (by decide) ?_
  refine s_pI E fp_X9_13 (Or.inl rfl) rfl (ltn hw0.1 (by decide)) dX9_appendFour_46 ?_
  refine s_iinc (v := (-8)) (L2 := [some (AR 0), some (AI x1), some (AI (-8))]) E dX9_appendFour_49 rfl (by decide) (by decide) rfl ?_
  refine s_goto (tgt := 3) E dX9_appendFour_52 (by decide) ?_
  refine s_iload_n E dX9_appendFour_3 rfl rfl ?_
  refine s_if_lt (tgt := 55) E dX9_appendFour_4 (by decide) (fun _ => ?_) (fun hh => absurd (by decide) hh)
  exact r_void E dX9_appendFour_55 ⟨(fc_upC (fc_upC (fc_upC (fc_upC (fc_upC (fc_upC (fc_upC (fc_upC hw1 (by decide +kernel)) (by decide +kernel)) (by decide +kernel)) (by decide +kernel)) (by decide +kernel)) (by decide +kernel)) (by decide +kernel)) (by decide +kernel)), (fc_upC (fc_upC (fc_upC (fc_upC (fc_upC (fc_upC (fc_upC (fc_upC hw2 (by decide +kernel)) (by decide +kernel)) (by decide +kernel)) (by decide +kernel)) (by decide +kernel)) (by decide +kernel)) (by decide +kernel)) (by decide +kernel)), (fc_upC (fc_upC (fc_upC (fc_upC (fc_upC (fc_upC (fc_upC (fc_upC hw3 (by decide +kernel)) (by decide +kernel)) (by decide +kernel)) (by decide +kernel)) (by decide +kernel)) (by decide +kernel)) (by decide +kernel)) (by decide +kernel)), (fc_one hw0.1 rfl)⟩
set_option maxRecDepth 20000 in
set_option maxHeartbeats 2000000 in
theorem K_X9_appendFour_0_RMSTL4 (l : Launch) (D : va_G) (aC : Nat → ClassId) (b : Nat) (w : XW) (x1 : Int32) (hw0 : RfC w) (hw1 : FrM w) (hw2 : RfM w) (hw3 : TL4 w) : CnV l D aC b M_X9_appendFour 0 0 0 0 [AR 0, AI x1] w (fun u => RfC u ∧ FrM u ∧ RfM u ∧ TL8 u) := by
  refine cn_V (own := RX9) (nm := "appendFour") (L0 := [some (AR 0), some (AI x1), none]) (by decide +kernel) rfl rfl (Nat.le_of_ble_eq_true rfl) rfl ?_
  intro p e s m args below meth c E hin
  refine s_bipush (v := 24) E dX9_appendFour_0 (by decide) ?_
  refine s_istore_n (L2 := [some (AR 0), some (AI x1), some (AI 24)]) E dX9_appendFour_2 rfl (by decide) rfl ?_
  refine s_iload_n E dX9_appendFour_3 rfl rfl ?_
  refine s_if_lt (tgt := 55) E dX9_appendFour_4 (by decide) (fun hh => absurd hh (by decide)) (fun _ => ?_)
  refine s_aload_n E dX9_appendFour_7 rfl rfl ?_
  refine s_gI E fg_X9_13 rfl rfl (ltn hw0.1 (by decide)) dX9_appendFour_8 ?_
  refine s_top (y := 4) (fc_i hw3 (by decide +kernel)) ?_
  refine s_if_lt (tgt := 49) E dX9_appendFour_11 (by decide) (fun hh => absurd hh (by decide)) (fun _ => ?_)
  refine s_aload_n E dX9_appendFour_14 rfl rfl ?_
  refine s_gI E fg_X9_13 rfl rfl (ltn hw0.1 (by decide)) dX9_appendFour_15 ?_
  refine s_top (y := 4) (fc_i hw3 (by decide +kernel)) ?_
  refine s_aload_n E dX9_appendFour_18 rfl rfl ?_
  refine s_gR (r := 1) E fg_X9_9 rfl rfl (ltn hw0.1 (by decide)) (fc_r hw0 (by decide +kernel)) dX9_appendFour_19 ?_
  refine s_alen (v := 1000) E rfl (by decide) (ltn hw0.1 (by decide)) (by decide) dX9_appendFour_22 ?_
  refine s_icmp_ge (tgt := 49) E dX9_appendFour_23 (by decide) (fun hh => absurd hh (by decide)) (fun _ => ?_)
  refine s_aload_n E dX9_appendFour_26 rfl rfl ?_
  refine s_gR (r := 1) E fg_X9_9 rfl rfl (ltn hw0.1 (by decide)) (fc_r hw0 (by decide +kernel)) dX9_appendFour_27 ?_
  refine s_aload_n E dX9_appendFour_30 rfl rfl ?_
  refine s_gI E fg_X9_13 rfl rfl (ltn hw0.1 (by decide)) dX9_appendFour_31 ?_
  refine s_top (y := 4) (fc_i hw3 (by decide +kernel)) ?_
  refine s_iload_n E dX9_appendFour_34 rfl rfl ?_
  refine s_iload_n E dX9_appendFour_35 rfl rfl ?_
  refine s_iushr E dX9_appendFour_36 ?_
  refine s_i2b E dX9_appendFour_37 ?_
  refine s_bast E rfl (ltn hw0.1 (by decide)) (vp_c (by decide)) dX9_appendFour_38 ?_
  refine s_aload_n E dX9_appendFour_39 rfl rfl ?_
  refine s_dupR E dX9_appendFour_40 ?_
  refine s_gI E fg_X9_13 rfl rfl (ltn hw0.1 (by decide)) dX9_appendFour_41 ?_
  refine s_top (y := 4) (fc_i hw3 (by decide +kernel)) ?_
  refine s_iconst (v := 1) E dX9_appendFour_44 (by decide) ?_
  refine s_iadd E dX9_appendFour_45 ?_
  refine s_top (y := 5) (by decide) ?_
  refine s_pI E fp_X9_13 (Or.inl rfl) rfl (ltn hw0.1 (by decide)) dX9_appendFour_46 ?_
  refine s_iinc (v := 16) (L2 := [some (AR 0), some (AI x1), some (AI 16)]) E dX9_appendFour_49 rfl (by decide) (by decide) rfl ?_
  refine s_goto (tgt := 3) E dX9_appendFour_52 (by decide) ?_
  refine s_iload_n E dX9_appendFour_3 rfl rfl ?_
  refine s_if_lt (tgt := 55) E dX9_appendFour_4 (by decide) (fun hh => absurd hh (by decide)) (fun _ => ?_)
  refine s_aload_n E dX9_appendFour_7 rfl rfl ?_
  refine s_gI E fg_X9_13 rfl rfl (ltn hw0.1 (by decide)) dX9_appendFour_8 ?_
  refine s_top (y := 5) rfl ?_
  refine s_if_lt (tgt := 49) E dX9_appendFour_11 (by decide) (fun hh => absurd hh (by decide)) (fun _ => ?_)
  refine s_aload_n E dX9_appendFour_14 rfl rfl ?_
  refine s_gI E fg_X9_13 rfl rfl (ltn hw0.1 (by decide)) dX9_appendFour_15 ?_
  refine s_top (y := 5) rfl ?_
  refine s_aload_n E dX9_appendFour_18 rfl rfl ?_
  refine s_gR (r := 1) E fg_X9_9 rfl rfl (ltn hw0.1 (by decide)) (fc_r hw0 (by decide +kernel)) dX9_appendFour_19 ?_
  refine s_alen (v := 1000) E rfl (by decide) (ltn hw0.1 (by decide)) (by decide) dX9_appendFour_22 ?_
  refine s_icmp_ge (tgt := 49) E dX9_appendFour_23 (by decide) (fun hh => absurd hh (by decide)) (fun _ => ?_)
  refine s_aload_n E dX9_appendFour_26 rfl rfl ?_
  refine s_gR (r := 1) E fg_X9_9 rfl rfl (ltn hw0.1 (by decide)) (fc_r hw0 (by decide +kernel)) dX9_appendFour_27 ?_
  refine s_aload_n E dX9_appendFour_30 rfl rfl ?_
  refine s_gI E fg_X9_13 rfl rfl (ltn hw0.1 (by decide)) dX9_appendFour_31 ?_
  refine s_top (y := 5) rfl ?_
  refine s_iload_n E dX9_appendFour_34 rfl rfl ?_
  refine s_iload_n E dX9_appendFour_35 rfl rfl ?_
  refine s_iushr E dX9_appendFour_36 ?_
  refine s_i2b E dX9_appendFour_37 ?_
  refine s_bast E rfl (ltn hw0.1 (by decide)) (vp_c (by decide)) dX9_appendFour_38 ?_
  refine s_aload_n E dX9_appendFour_39 rfl rfl ?_
  refine s_dupR E dX9_appendFour_40 ?_
  refine s_gI E fg_X9_13 rfl rfl (ltn hw0.1 (by decide)) dX9_appendFour_41 ?_
  refine s_top (y := 5) rfl ?_
  refine s_iconst (v := 1) E dX9_appendFour_44 (by decide) ?_
  refine s_iadd E dX9_appendFour_45 ?_
  refine s_top (y := 6) (by decide) ?_
  refine s_pI E fp_X9_13 (Or.inl rfl) rfl (ltn hw0.1 (by decide)) dX9_appendFour_46 ?_
  refine s_iinc (v := 8) (L2 := [some (AR 0), some (AI x1), some (AI 8)]) E dX9_appendFour_49 rfl (by decide) (by decide) rfl ?_
  refine s_goto (tgt := 3) E dX9_appendFour_52 (by decide) ?_
  refine s_iload_n E dX9_appendFour_3 rfl rfl ?_
  refine s_if_lt (tgt := 55) E dX9_appendFour_4 (by decide) (fun hh => absurd hh (by decide)) (fun _ => ?_)
  refine s_aload_n E dX9_appendFour_7 rfl rfl ?_
  refine s_gI E fg_X9_13 rfl rfl (ltn hw0.1 (by decide)) dX9_appendFour_8 ?_
  refine s_top (y := 6) rfl ?_
  refine s_if_lt (tgt := 49) E dX9_appendFour_11 (by decide) (fun hh => absurd hh (by decide)) (fun _ => ?_)
  refine s_aload_n E dX9_appendFour_14 rfl rfl ?_
  refine s_gI E fg_X9_13 rfl rfl (ltn hw0.1 (by decide)) dX9_appendFour_15 ?_
  refine s_top (y := 6) rfl ?_
  refine s_aload_n E dX9_appendFour_18 rfl rfl ?_
  refine s_gR (r := 1) E fg_X9_9 rfl rfl (ltn hw0.1 (by decide)) (fc_r hw0 (by decide +kernel)) dX9_appendFour_19 ?_
  refine s_alen (v := 1000) E rfl (by decide) (ltn hw0.1 (by decide)) (by decide) dX9_appendFour_22 ?_
  refine s_icmp_ge (tgt := 49) E dX9_appendFour_23 (by decide) (fun hh => absurd hh (by decide)) (fun _ => ?_)
  refine s_aload_n E dX9_appendFour_26 rfl rfl ?_
  refine s_gR (r := 1) E fg_X9_9 rfl rfl (ltn hw0.1 (by decide)) (fc_r hw0 (by decide +kernel)) dX9_appendFour_27 ?_
  refine s_aload_n E dX9_appendFour_30 rfl rfl ?_
  refine s_gI E fg_X9_13 rfl rfl (ltn hw0.1 (by decide)) dX9_appendFour_31 ?_
  refine s_top (y := 6) rfl ?_
  refine s_iload_n E dX9_appendFour_34 rfl rfl ?_
  refine s_iload_n E dX9_appendFour_35 rfl rfl ?_
  refine s_iushr E dX9_appendFour_36 ?_
  refine s_i2b E dX9_appendFour_37 ?_
  refine s_bast E rfl (ltn hw0.1 (by decide)) (vp_c (by decide)) dX9_appendFour_38 ?_
  refine s_aload_n E dX9_appendFour_39 rfl rfl ?_
  refine s_dupR E dX9_appendFour_40 ?_
  refine s_gI E fg_X9_13 rfl rfl (ltn hw0.1 (by decide)) dX9_appendFour_41 ?_
  refine s_top (y := 6) rfl ?_
  refine s_iconst (v := 1) E dX9_appendFour_44 (by decide) ?_
  refine s_iadd E dX9_appendFour_45 ?_
  refine s_top (y := 7) (by decide) ?_
  refine s_pI E fp_X9_13 (Or.inl rfl) rfl (ltn hw0.1 (by decide)) dX9_appendFour_46 ?_
  refine s_iinc (v := 0) (L2 := [some (AR 0), some (AI x1), some (AI 0)]) E dX9_appendFour_49 rfl (by decide) (by decide) rfl ?_
  refine s_goto (tgt := 3) E dX9_appendFour_52 (by decide) ?_
  refine s_iload_n E dX9_appendFour_3 rfl rfl ?_
  refine s_if_lt (tgt := 55) E dX9_appendFour_4 (by decide) (fun hh => absurd hh (by decide)) (fun _ => ?_)
  refine s_aload_n E dX9_appendFour_7 rfl rfl ?_
  refine s_gI E fg_X9_13 rfl rfl (ltn hw0.1 (by decide)) dX9_appendFour_8 ?_
  refine s_top (y := 7) rfl ?_
  refine s_if_lt (tgt := 49) E dX9_appendFour_11 (by decide) (fun hh => absurd hh (by decide)) (fun _ => ?_)
  refine s_aload_n E dX9_appendFour_14 rfl rfl ?_
  refine s_gI E fg_X9_13 rfl rfl (ltn hw0.1 (by decide)) dX9_appendFour_15 ?_
  refine s_top (y := 7) rfl ?_
  refine s_aload_n E dX9_appendFour_18 rfl rfl ?_
  refine s_gR (r := 1) E fg_X9_9 rfl rfl (ltn hw0.1 (by decide)) (fc_r hw0 (by decide +kernel)) dX9_appendFour_19 ?_
  refine s_alen (v := 1000) E rfl (by decide) (ltn hw0.1 (by decide)) (by decide) dX9_appendFour_22 ?_
  refine s_icmp_ge (tgt := 49) E dX9_appendFour_23 (by decide) (fun hh => absurd hh (by decide)) (fun _ => ?_)
  refine s_aload_n E dX9_appendFour_26 rfl rfl ?_
  refine s_gR (r := 1) E fg_X9_9 rfl rfl (ltn hw0.1 (by decide)) (fc_r hw0 (by decide +kernel)) dX9_appendFour_27 ?_
  refine s_aload_n E dX9_appendFour_30 rfl rfl ?_
  refine s_gI E fg_X9_13 rfl rfl (ltn hw0.1 (by decide)) dX9_appendFour_31 ?_
  refine s_top (y := 7) rfl ?_
  refine s_iload_n E dX9_appendFour_34 rfl rfl ?_
  refine s_iload_n E dX9_appendFour_35 rfl rfl ?_
  refine s_iushr E dX9_appendFour_36 ?_
  refine s_i2b E dX9_appendFour_37 ?_
  refine s_bast E rfl (ltn hw0.1 (by decide)) (vp_c (by decide)) dX9_appendFour_38 ?_
  refine s_aload_n E dX9_appendFour_39 rfl rfl ?_
  refine s_dupR E dX9_appendFour_40 ?_
  refine s_gI E fg_X9_13 rfl rfl (ltn hw0.1 (by decide)) dX9_appendFour_41 ?_
  refine s_top (y := 7) rfl ?_
  refine s_iconst (v := 1) E dX9_appendFour_44 (by decide) ?_
  refine s_iadd E dX9_appendFour_45 ?_
  refine s_top (y := 8) (by decide) ?_
  refine s_pI E fp_X9_13 (Or.inl rfl) rfl (ltn hw0.1 (by decide)) dX9_appendFour_46 ?_
  refine s_iinc (v := (-8)) (L2 := [some (AR 0), some (AI x1), some (AI (-8))]) E dX9_appendFour_49 rfl (by decide) (by decide) rfl ?_
  refine s_goto (tgt := 3) E dX9_appendFour_52 (by decide) ?_
  refine s_iload_n E dX9_appendFour_3 rfl rfl ?_
  refine s_if_lt (tgt := 55) E dX9_appendFour_4 (by decide) (fun _ => ?_) (fun hh => absurd (by decide) hh)
  exact r_void E dX9_appendFour_55 ⟨(fc_upC (fc_upC (fc_upC (fc_upC (fc_upC (fc_upC (fc_upC (fc_upC hw0 (by decide +kernel)) (by decide +kernel)) (by decide +kernel)) (by decide +kernel)) (by decide +kernel)) (by decide +kernel)) (by decide +kernel)) (by decide +kernel)), (fc_upC (fc_upC (fc_upC (fc_upC (fc_upC (fc_upC (fc_upC (fc_upC hw1 (by decide +kernel)) (by decide +kernel)) (by decide +kernel)) (by decide +kernel)) (by decide +kernel)) (by decide +kernel)) (by decide +kernel)) (by decide +kernel)), (fc_upC (fc_upC (fc_upC (fc_upC (fc_upC (fc_upC (fc_upC (fc_upC hw2 (by decide +kernel)) (by decide +kernel)) (by decide +kernel)) (by decide +kernel)) (by decide +kernel)) (by decide +kernel)) (by decide +kernel)) (by decide +kernel)), (fc_one hw0.1 rfl)⟩
set_option maxRecDepth 20000 in
set_option maxHeartbeats 2000000 in
theorem K_X9_appendFour_0_RMSTL8 (l : Launch) (D : va_G) (aC : Nat → ClassId) (b : Nat) (w : XW) (x1 : Int32) (hw0 : RfC w) (hw1 : FrM w) (hw2 : RfM w) (hw3 : TL8 w) : CnV l D aC b M_X9_appendFour 0 0 0 0 [AR 0, AI x1] w (fun u => RfC u ∧ FrM u ∧ RfM u ∧ TL12 u) := by
  refine cn_V (own := RX9) (nm := "appendFour") (L0 := [some (AR 0), some (AI x1), none]) (by decide +kernel) rfl rfl (Nat.le_of_ble_eq_true rfl) rfl ?_
  intro p e s m args below meth c E hin
  refine s_bipush (v := 24) E dX9_appendFour_0 (by decide) ?_
  refine s_istore_n (L2 := [some (AR 0), some (AI x1), some (AI 24)]) E dX9_appendFour_2 rfl (by decide) rfl ?_
  refine s_iload_n E dX9_appendFour_3 rfl rfl ?_
  refine s_if_lt (tgt := 55) E dX9_appendFour_4 (by decide) (fun hh => absurd hh (by decide)) (fun _ => ?_)
  refine s_aload_n E dX9_appendFour_7 rfl rfl ?_
  refine s_gI E fg_X9_13 rfl rfl (ltn hw0.1 (by decide)) dX9_appendFour_8 ?_
  refine s_top (y := 8) (fc_i hw3 (by decide +kernel)) ?_
  refine s_if_lt (tgt := 49) E dX9_appendFour_11 (by decide) (fun hh => absurd hh (by decide)) (fun _ => ?_)
  refine s_aload_n E dX9_appendFour_14 rfl rfl ?_
  refine s_gI E fg_X9_13 rfl rfl (ltn hw0.1 (by decide)) dX9_appendFour_15 ?_
  refine s_top (y := 8) (fc_i hw3 (by decide +kernel)) ?_
  refine s_aload_n E dX9_appendFour_18 rfl rfl ?_
  refine s_gR (r := 1) E fg_X9_9 rfl rfl (ltn hw0.1 (by decide)) (fc_r hw0 (by decide +kernel)) dX9_appendFour_19 ?_
  refine s_alen (v := 1000) E rfl (by decide) (ltn hw0.1 (by decide)) (by decide) dX9_appendFour_22 ?_
  refine s_icmp_ge (tgt := 49) E dX9_appendFour_23 (by decide) (fun hh => absurd hh (by decide)) (fun _ => ?_)
  refine s_aload_n E dX9_appendFour_26 rfl rfl ?_
  refine s_gR (r := 1) E fg_X9_9 rfl rfl (ltn hw0.1 (by decide)) (fc_r hw0 (by decide +kernel)) dX9_appendFour_27 ?_
  refine s_aload_n E dX9_appendFour_30 rfl rfl ?_
  refine s_gI E fg_X9_13 rfl rfl (ltn hw0.1 (by decide)) dX9_appendFour_31 ?_
  refine s_top (y := 8) (fc_i hw3 (by decide +kernel)) ?_
  refine s_iload_n E dX9_appendFour_34 rfl rfl ?_
  refine s_iload_n E dX9_appendFour_35 rfl rfl ?_
  refine s_iushr E dX9_appendFour_36 ?_
  refine s_i2b E dX9_appendFour_37 ?_
  refine s_bast E rfl (ltn hw0.1 (by decide)) (vp_c (by decide)) dX9_appendFour_38 ?_
  refine s_aload_n E dX9_appendFour_39 rfl rfl ?_
  refine s_dupR E dX9_appendFour_40 ?_
  refine s_gI E fg_X9_13 rfl rfl (ltn hw0.1 (by decide)) dX9_appendFour_41 ?_
  refine s_top (y := 8) (fc_i hw3 (by decide +kernel)) ?_
  refine s_iconst (v := 1) E dX9_appendFour_44 (by decide) ?_
  refine s_iadd E dX9_appendFour_45 ?_
  refine s_top (y := 9) (by decide) ?_
  refine s_pI E fp_X9_13 (Or.inl rfl) rfl (ltn hw0.1 (by decide)) dX9_appendFour_46 ?_
  refine s_iinc (v := 16) (L2 := [some (AR 0), some (AI x1), some (AI 16)]) E dX9_appendFour_49 rfl (by decide) (by decide) rfl ?_
  refine s_goto (tgt := 3) E dX9_appendFour_52 (by decide) ?_
  refine s_iload_n E dX9_appendFour_3 rfl rfl ?_
  refine s_if_lt (tgt := 55) E dX9_appendFour_4 (by decide) (fun hh => absurd hh (by decide)) (fun _ => ?_)
  refine s_aload_n E dX9_appendFour_7 rfl rfl ?_
  refine s_gI E fg_X9_13 rfl rfl (ltn hw0.1 (by decide)) dX9_appendFour_8 ?_
  refine s_top (y := 9) rfl ?_
  refine s_if_lt (tgt := 49) E dX9_appendFour_11 (by decide) (fun hh => absurd hh (by decide)) (fun _ => ?_)
  refine s_aload_n E dX9_appendFour_14 rfl rfl ?_
  refine s_gI E fg_X9_13 rfl rfl (ltn hw0.1 (by decide)) dX9_appendFour_15 ?_
  refine s_top (y := 9) rfl ?_
  refine s_aload_n E dX9_appendFour_18 rfl rfl ?_
  refine s_gR (r := 1) E fg_X9_9 rfl rfl (ltn hw0.1 (by decide)) (fc_r hw0 (by decide +kernel)) dX9_appendFour_19 ?_
  refine s_alen (v := 1000) E rfl (by decide) (ltn hw0.1 (by decide)) (by decide) dX9_appendFour_22 ?_
  refine s_icmp_ge (tgt := 49) E dX9_appendFour_23 (by decide) (fun hh => absurd hh (by decide)) (fun _ => ?_)
  refine s_aload_n E dX9_appendFour_26 rfl rfl ?_
  refine s_gR (r := 1) E fg_X9_9 rfl rfl (ltn hw0.1 (by decide)) (fc_r hw0 (by decide +kernel)) dX9_appendFour_27 ?_
  refine s_aload_n E dX9_appendFour_30 rfl rfl ?_
  refine s_gI E fg_X9_13 rfl rfl (ltn hw0.1 (by decide)) dX9_appendFour_31 ?_
  refine s_top (y := 9) rfl ?_
  refine s_iload_n E dX9_appendFour_34 rfl rfl ?_
  refine s_iload_n E dX9_appendFour_35 rfl rfl ?_
  refine s_iushr E dX9_appendFour_36 ?_
  refine s_i2b E dX9_appendFour_37 ?_
  refine s_bast E rfl (ltn hw0.1 (by decide)) (vp_c (by decide)) dX9_appendFour_38 ?_
  refine s_aload_n E dX9_appendFour_39 rfl rfl ?_
  refine s_dupR E dX9_appendFour_40 ?_
  refine s_gI E fg_X9_13 rfl rfl (ltn hw0.1 (by decide)) dX9_appendFour_41 ?_
  refine s_top (y := 9) rfl ?_
  refine s_iconst (v := 1) E dX9_appendFour_44 (by decide) ?_
  refine s_iadd E dX9_appendFour_45 ?_
  refine s_top (y := 10) (by decide) ?_
  refine s_pI E fp_X9_13 (Or.inl rfl) rfl (ltn hw0.1 (by decide)) dX9_appendFour_46 ?_
  refine s_iinc (v := 8) (L2 := [some (AR 0), some (AI x1), some (AI 8)]) E dX9_appendFour_49 rfl (by decide) (by decide) rfl ?_
  refine s_goto (tgt := 3) E dX9_appendFour_52 (by decide) ?_
  refine s_iload_n E dX9_appendFour_3 rfl rfl ?_
  refine s_if_lt (tgt := 55) E dX9_appendFour_4 (by decide) (fun hh => absurd hh (by decide)) (fun _ => ?_)
  refine s_aload_n E dX9_appendFour_7 rfl rfl ?_
  refine s_gI E fg_X9_13 rfl rfl (ltn hw0.1 (by decide)) dX9_appendFour_8 ?_
  refine s_top (y := 10) rfl ?_
  refine s_if_lt (tgt := 49) E dX9_appendFour_11 (by decide) (fun hh => absurd hh (by decide)) (fun _ => ?_)
  refine s_aload_n E dX9_appendFour_14 rfl rfl ?_
  refine s_gI E fg_X9_13 rfl rfl (ltn hw0.1 (by decide)) dX9_appendFour_15 ?_
  refine s_top (y := 10) rfl ?_
  refine s_aload_n E dX9_appendFour_18 rfl rfl ?_
  refine s_gR (r := 1) E fg_X9_9 rfl rfl (ltn hw0.1 (by decide)) (fc_r hw0 (by decide +kernel)) dX9_appendFour_19 ?_
  refine s_alen (v := 1000) E rfl (by decide) (ltn hw0.1 (by decide)) (by decide) dX9_appendFour_22 ?_
  refine s_icmp_ge (tgt := 49) E dX9_appendFour_23 (by decide) (fun hh => absurd hh (by decide)) (fun _ => ?_)
  refine s_aload_n E dX9_appendFour_26 rfl rfl ?_
  refine s_gR (r := 1) E fg_X9_9 rfl rfl (ltn hw0.1 (by decide)) (fc_r hw0 (by decide +kernel)) dX9_appendFour_27 ?_
  refine s_aload_n E dX9_appendFour_30 rfl rfl ?_
  refine s_gI E fg_X9_13 rfl rfl (ltn hw0.1 (by decide)) dX9_appendFour_31 ?_
  refine s_top (y := 10) rfl ?_
  refine s_iload_n E dX9_appendFour_34 rfl rfl ?_
  refine s_iload_n E dX9_appendFour_35 rfl rfl ?_
  refine s_iushr E dX9_appendFour_36 ?_
  refine s_i2b E dX9_appendFour_37 ?_
  refine s_bast E rfl (ltn hw0.1 (by decide)) (vp_c (by decide)) dX9_appendFour_38 ?_
  refine s_aload_n E dX9_appendFour_39 rfl rfl ?_
  refine s_dupR E dX9_appendFour_40 ?_
  refine s_gI E fg_X9_13 rfl rfl (ltn hw0.1 (by decide)) dX9_appendFour_41 ?_
  refine s_top (y := 10) rfl ?_
  refine s_iconst (v := 1) E dX9_appendFour_44 (by decide) ?_
  refine s_iadd E dX9_appendFour_45 ?_
  refine s_top (y := 11) (by decide) ?_
  refine s_pI E fp_X9_13 (Or.inl rfl) rfl (ltn hw0.1 (by decide)) dX9_appendFour_46 ?_
  refine s_iinc (v := 0) (L2 := [some (AR 0), some (AI x1), some (AI 0)]) E dX9_appendFour_49 rfl (by decide) (by decide) rfl ?_
  refine s_goto (tgt := 3) E dX9_appendFour_52 (by decide) ?_
  refine s_iload_n E dX9_appendFour_3 rfl rfl ?_
  refine s_if_lt (tgt := 55) E dX9_appendFour_4 (by decide) (fun hh => absurd hh (by decide)) (fun _ => ?_)
  refine s_aload_n E dX9_appendFour_7 rfl rfl ?_
  refine s_gI E fg_X9_13 rfl rfl (ltn hw0.1 (by decide)) dX9_appendFour_8 ?_
  refine s_top (y := 11) rfl ?_
  refine s_if_lt (tgt := 49) E dX9_appendFour_11 (by decide) (fun hh => absurd hh (by decide)) (fun _ => ?_)
  refine s_aload_n E dX9_appendFour_14 rfl rfl ?_
  refine s_gI E fg_X9_13 rfl rfl (ltn hw0.1 (by decide)) dX9_appendFour_15 ?_
  refine s_top (y := 11) rfl ?_
  refine s_aload_n E dX9_appendFour_18 rfl rfl ?_
  refine s_gR (r := 1) E fg_X9_9 rfl rfl (ltn hw0.1 (by decide)) (fc_r hw0 (by decide +kernel)) dX9_appendFour_19 ?_
  refine s_alen (v := 1000) E rfl (by decide) (ltn hw0.1 (by decide)) (by decide) dX9_appendFour_22 ?_
  refine s_icmp_ge (tgt := 49) E dX9_appendFour_23 (by decide) (fun hh => absurd hh (by decide)) (fun _ => ?_)
  refine s_aload_n E dX9_appendFour_26 rfl rfl ?_
  refine s_gR (r := 1) E fg_X9_9 rfl rfl (ltn hw0.1 (by decide)) (fc_r hw0 (by decide +kernel)) dX9_appendFour_27 ?_
  refine s_aload_n E dX9_appendFour_30 rfl rfl ?_
  refine s_gI E fg_X9_13 rfl rfl (ltn hw0.1 (by decide)) dX9_appendFour_31 ?_
  refine s_top (y := 11) rfl ?_
  refine s_iload_n E dX9_appendFour_34 rfl rfl ?_
  refine s_iload_n E dX9_appendFour_35 rfl rfl ?_
  refine s_iushr E dX9_appendFour_36 ?_
  refine s_i2b E dX9_appendFour_37 ?_
  refine s_bast E rfl (ltn hw0.1 (by decide)) (vp_c (by decide)) dX9_appendFour_38 ?_
  refine s_aload_n E dX9_appendFour_39 rfl rfl ?_
  refine s_dupR E dX9_appendFour_40 ?_
  refine s_gI E fg_X9_13 rfl rfl (ltn hw0.1 (by decide)) dX9_appendFour_41 ?_
  refine s_top (y := 11) rfl ?_
  refine s_iconst (v := 1) E dX9_appendFour_44 (by decide) ?_
  refine s_iadd E dX9_appendFour_45 ?_
  refine s_top (y := 12) (by decide) ?_
  refine s_pI E fp_X9_13 (Or.inl rfl) rfl (ltn hw0.1 (by decide)) dX9_appendFour_46 ?_
  refine s_iinc (v := (-8)) (L2 := [some (AR 0), some (AI x1), some (AI (-8))]) E dX9_appendFour_49 rfl (by decide) (by decide) rfl ?_
  refine s_goto (tgt := 3) E dX9_appendFour_52 (by decide) ?_
  refine s_iload_n E dX9_appendFour_3 rfl rfl ?_
  refine s_if_lt (tgt := 55) E dX9_appendFour_4 (by decide) (fun _ => ?_) (fun hh => absurd (by decide) hh)
  exact r_void E dX9_appendFour_55 ⟨(fc_upC (fc_upC (fc_upC (fc_upC (fc_upC (fc_upC (fc_upC (fc_upC hw0 (by decide +kernel)) (by decide +kernel)) (by decide +kernel)) (by decide +kernel)) (by decide +kernel)) (by decide +kernel)) (by decide +kernel)) (by decide +kernel)), (fc_upC (fc_upC (fc_upC (fc_upC (fc_upC (fc_upC (fc_upC (fc_upC hw1 (by decide +kernel)) (by decide +kernel)) (by decide +kernel)) (by decide +kernel)) (by decide +kernel)) (by decide +kernel)) (by decide +kernel)) (by decide +kernel)), (fc_upC (fc_upC (fc_upC (fc_upC (fc_upC (fc_upC (fc_upC (fc_upC hw2 (by decide +kernel)) (by decide +kernel)) (by decide +kernel)) (by decide +kernel)) (by decide +kernel)) (by decide +kernel)) (by decide +kernel)) (by decide +kernel)), (fc_one hw0.1 rfl)⟩
set_option maxRecDepth 20000 in
set_option maxHeartbeats 2000000 in
theorem K_X9_appendFour_0_RMSTL12 (l : Launch) (D : va_G) (aC : Nat → ClassId) (b : Nat) (w : XW) (x1 : Int32) (hw0 : RfC w) (hw1 : FrM w) (hw2 : RfM w) (hw3 : TL12 w) : CnV l D aC b M_X9_appendFour 0 0 0 0 [AR 0, AI x1] w (fun u => RfC u ∧ FrM u ∧ RfM u ∧ TL16 u) := by
  refine cn_V (own := RX9) (nm := "appendFour") (L0 := [some (AR 0), some (AI x1), none]) (by decide +kernel) rfl rfl (Nat.le_of_ble_eq_true rfl) rfl ?_
  intro p e s m args below meth c E hin
  refine s_bipush (v := 24) E dX9_appendFour_0 (by decide) ?_
  refine s_istore_n (L2 := [some (AR 0), some (AI x1), some (AI 24)]) E dX9_appendFour_2 rfl (by decide) rfl ?_
  refine s_iload_n E dX9_appendFour_3 rfl rfl ?_
  refine s_if_lt (tgt := 55) E dX9_appendFour_4 (by decide) (fun hh => absurd hh (by decide)) (fun _ => ?_)
  refine s_aload_n E dX9_appendFour_7 rfl rfl ?_
  refine s_gI E fg_X9_13 rfl rfl (ltn hw0.1 (by decide)) dX9_appendFour_8 ?_
  refine s_top (y := 12) (fc_i hw3 (by decide +kernel)) ?_
  refine s_if_lt (tgt := 49) E dX9_appendFour_11 (by decide) (fun hh => absurd hh (by decide)) (fun _ => ?_)
  refine s_aload_n E dX9_appendFour_14 rfl rfl ?_
  refine s_gI E fg_X9_13 rfl rfl (ltn hw0.1 (by decide)) dX9_appendFour_15 ?_
  refine s_top (y := 12) (fc_i hw3 (by decide +kernel)) ?_
  refine s_aload_n E dX9_appendFour_18 rfl rfl ?_
  refine s_gR (r := 1) E fg_X9_9 rfl rfl (ltn hw0.1 (by decide)) (fc_r hw0 (by decide +kernel)) dX9_appendFour_19 ?_
  refine s_alen (v := 1000) E rfl (by decide) (ltn hw0.1 (by decide)) (by decide) dX9_appendFour_22 ?_
  refine s_icmp_ge (tgt := 49) E dX9_appendFour_23 (by decide) (fun hh => absurd hh (by decide)) (fun _ => ?_)
  refine s_aload_n E dX9_appendFour_26 rfl rfl ?_
  refine s_gR (r := 1) E fg_X9_9 rfl rfl (ltn hw0.1 (by decide)) (fc_r hw0 (by decide +kernel)) dX9_appendFour_27 ?_
  refine s_aload_n E dX9_appendFour_30 rfl rfl ?_
  refine s_gI E fg_X9_13 rfl rfl (ltn hw0.1 (by decide)) dX9_appendFour_31 ?_
  refine s_top (y := 12) (fc_i hw3 (by decide +kernel)) ?_
  refine s_iload_n E dX9_appendFour_34 rfl rfl ?_
  refine s_iload_n E dX9_appendFour_35 rfl rfl ?_
  refine s_iushr E dX9_appendFour_36 ?_
  refine s_i2b E dX9_appendFour_37 ?_
  refine s_bast E rfl (ltn hw0.1 (by decide)) (vp_c (by decide)) dX9_appendFour_38 ?_
  refine s_aload_n E dX9_appendFour_39 rfl rfl ?_
  refine s_dupR E dX9_appendFour_40 ?_
  refine s_gI E fg_X9_13 rfl rfl (ltn hw0.1 (by decide)) dX9_appendFour_41 ?_
  refine s_top (y := 12) (fc_i hw3 (by decide +kernel)) ?_
  refine s_iconst (v := 1) E dX9_appendFour_44 (by decide) ?_
  refine s_iadd E dX9_appendFour_45 ?_
  refine s_top (y := 13) (by decide) ?_
  refine s_pI E fp_X9_13 (Or.inl rfl) rfl (ltn hw0.1 (by decide)) dX9_appendFour_46 ?_
  refine s_iinc (v := 16) (L2 := [some (AR 0), some (AI x1), some (AI 16)]) E dX9_appendFour_49 rfl (by decide) (by decide) rfl ?_
  refine s_goto (tgt := 3) E dX9_appendFour_52 (by decide) ?_
  refine s_iload_n E dX9_appendFour_3 rfl rfl ?_
  refine s_if_lt (tgt := 55) E dX9_appendFour_4 (by decide) (fun hh => absurd hh (by decide)) (fun _ => ?_)
  refine s_aload_n E dX9_appendFour_7 rfl rfl ?_
  refine s_gI E fg_X9_13 rfl rfl (ltn hw0.1 (by decide)) dX9_appendFour_8 ?_
  refine s_top (y := 13) rfl ?_
  refine s_if_lt (tgt := 49) E dX9_appendFour_11 (by decide) (fun hh => absurd hh (by decide)) (fun _ => ?_)
  refine s_aload_n E dX9_appendFour_14 rfl rfl ?_
  refine s_gI E fg_X9_13 rfl rfl (ltn hw0.1 (by decide)) dX9_appendFour_15 ?_
  refine s_top (y := 13) rfl ?_
  refine s_aload_n E dX9_appendFour_18 rfl rfl ?_
  refine s_gR (r := 1) E fg_X9_9 rfl rfl (ltn hw0.1 (by decide)) (fc_r hw0 (by decide +kernel)) dX9_appendFour_19 ?_
  refine s_alen (v := 1000) E rfl (by decide) (ltn hw0.1 (by decide)) (by decide) dX9_appendFour_22 ?_
  refine s_icmp_ge (tgt := 49) E dX9_appendFour_23 (by decide) (fun hh => absurd hh (by decide)) (fun _ => ?_)
  refine s_aload_n E dX9_appendFour_26 rfl rfl ?_
  refine s_gR (r := 1) E fg_X9_9 rfl rfl (ltn hw0.1 (by decide)) (fc_r hw0 (by decide +kernel)) dX9_appendFour_27 ?_
  refine s_aload_n E dX9_appendFour_30 rfl rfl ?_
  refine s_gI E fg_X9_13 rfl rfl (ltn hw0.1 (by decide)) dX9_appendFour_31 ?_
  refine s_top (y := 13) rfl ?_
  refine s_iload_n E dX9_appendFour_34 rfl rfl ?_
  refine s_iload_n E dX9_appendFour_35 rfl rfl ?_
  refine s_iushr E dX9_appendFour_36 ?_
  refine s_i2b E dX9_appendFour_37 ?_
  refine s_bast E rfl (ltn hw0.1 (by decide)) (vp_c (by decide)) dX9_appendFour_38 ?_
  refine s_aload_n E dX9_appendFour_39 rfl rfl ?_
  refine s_dupR E dX9_appendFour_40 ?_
  refine s_gI E fg_X9_13 rfl rfl (ltn hw0.1 (by decide)) dX9_appendFour_41 ?_
  refine s_top (y := 13) rfl ?_
  refine s_iconst (v := 1) E dX9_appendFour_44 (by decide) ?_
  refine s_iadd E dX9_appendFour_45 ?_
  refine s_top (y := 14) (by decide) ?_
  refine s_pI E fp_X9_13 (Or.inl rfl) rfl (ltn hw0.1 (by decide)) dX9_appendFour_46 ?_
  refine s_iinc (v := 8) (L2 := [some (AR 0), some (AI x1), some (AI 8)]) E dX9_appendFour_49 rfl (by decide) (by decide) rfl ?_
  refine s_goto (tgt := 3) E dX9_appendFour_52 (by decide) ?_
  refine s_iload_n E dX9_appendFour_3 rfl rfl ?_
  refine s_if_lt (tgt := 55) E dX9_appendFour_4 (by decide) (fun hh => absurd hh (by decide)) (fun _ => ?_)
  refine s_aload_n E dX9_appendFour_7 rfl rfl ?_
  refine s_gI E fg_X9_13 rfl rfl (ltn hw0.1 (by decide)) dX9_appendFour_8 ?_
  refine s_top (y := 14) rfl ?_
  refine s_if_lt (tgt := 49) E dX9_appendFour_11 (by decide) (fun hh => absurd hh (by decide)) (fun _ => ?_)
  refine s_aload_n E dX9_appendFour_14 rfl rfl ?_
  refine s_gI E fg_X9_13 rfl rfl (ltn hw0.1 (by decide)) dX9_appendFour_15 ?_
  refine s_top (y := 14) rfl ?_
  refine s_aload_n E dX9_appendFour_18 rfl rfl ?_
  refine s_gR (r := 1) E fg_X9_9 rfl rfl (ltn hw0.1 (by decide)) (fc_r hw0 (by decide +kernel)) dX9_appendFour_19 ?_
  refine s_alen (v := 1000) E rfl (by decide) (ltn hw0.1 (by decide)) (by decide) dX9_appendFour_22 ?_
  refine s_icmp_ge (tgt := 49) E dX9_appendFour_23 (by decide) (fun hh => absurd hh (by decide)) (fun _ => ?_)
  refine s_aload_n E dX9_appendFour_26 rfl rfl ?_
  refine s_gR (r := 1) E fg_X9_9 rfl rfl (ltn hw0.1 (by decide)) (fc_r hw0 (by decide +kernel)) dX9_appendFour_27 ?_
  refine s_aload_n E dX9_appendFour_30 rfl rfl ?_
  refine s_gI E fg_X9_13 rfl rfl (ltn hw0.1 (by decide)) dX9_appendFour_31 ?_
  refine s_top (y := 14) rfl ?_
  refine s_iload_n E dX9_appendFour_34 rfl rfl ?_
  refine s_iload_n E dX9_appendFour_35 rfl rfl ?_
  refine s_iushr E dX9_appendFour_36 ?_
  refine s_i2b E dX9_appendFour_37 ?_
  refine s_bast E rfl (ltn hw0.1 (by decide)) (vp_c (by decide)) dX9_appendFour_38 ?_
  refine s_aload_n E dX9_appendFour_39 rfl rfl ?_
  refine s_dupR E dX9_appendFour_40 ?_
  refine s_gI E fg_X9_13 rfl rfl (ltn hw0.1 (by decide)) dX9_appendFour_41 ?_
  refine s_top (y := 14) rfl ?_
  refine s_iconst (v := 1) E dX9_appendFour_44 (by decide) ?_
  refine s_iadd E dX9_appendFour_45 ?_
  refine s_top (y := 15) (by decide) ?_
  refine s_pI E fp_X9_13 (Or.inl rfl) rfl (ltn hw0.1 (by decide)) dX9_appendFour_46 ?_
  refine s_iinc (v := 0) (L2 := [some (AR 0), some (AI x1), some (AI 0)]) E dX9_appendFour_49 rfl (by decide) (by decide) rfl ?_
  refine s_goto (tgt := 3) E dX9_appendFour_52 (by decide) ?_
  refine s_iload_n E dX9_appendFour_3 rfl rfl ?_
  refine s_if_lt (tgt := 55) E dX9_appendFour_4 (by decide) (fun hh => absurd hh (by decide)) (fun _ => ?_)
  refine s_aload_n E dX9_appendFour_7 rfl rfl ?_
  refine s_gI E fg_X9_13 rfl rfl (ltn hw0.1 (by decide)) dX9_appendFour_8 ?_
  refine s_top (y := 15) rfl ?_
  refine s_if_lt (tgt := 49) E dX9_appendFour_11 (by decide) (fun hh => absurd hh (by decide)) (fun _ => ?_)
  refine s_aload_n E dX9_appendFour_14 rfl rfl ?_
  refine s_gI E fg_X9_13 rfl rfl (ltn hw0.1 (by decide)) dX9_appendFour_15 ?_
  refine s_top (y := 15) rfl ?_
  refine s_aload_n E dX9_appendFour_18 rfl rfl ?_
  refine s_gR (r := 1) E fg_X9_9 rfl rfl (ltn hw0.1 (by decide)) (fc_r hw0 (by decide +kernel)) dX9_appendFour_19 ?_
  refine s_alen (v := 1000) E rfl (by decide) (ltn hw0.1 (by decide)) (by decide) dX9_appendFour_22 ?_
  refine s_icmp_ge (tgt := 49) E dX9_appendFour_23 (by decide) (fun hh => absurd hh (by decide)) (fun _ => ?_)
  refine s_aload_n E dX9_appendFour_26 rfl rfl ?_
  refine s_gR (r := 1) E fg_X9_9 rfl rfl (ltn hw0.1 (by decide)) (fc_r hw0 (by decide +kernel)) dX9_appendFour_27 ?_
  refine s_aload_n E dX9_appendFour_30 rfl rfl ?_
  refine s_gI E fg_X9_13 rfl rfl (ltn hw0.1 (by decide)) dX9_appendFour_31 ?_
  refine s_top (y := 15) rfl ?_
  refine s_iload_n E dX9_appendFour_34 rfl rfl ?_
  refine s_iload_n E dX9_appendFour_35 rfl rfl ?_
  refine s_iushr E dX9_appendFour_36 ?_
  refine s_i2b E dX9_appendFour_37 ?_
  refine s_bast E rfl (ltn hw0.1 (by decide)) (vp_c (by decide)) dX9_appendFour_38 ?_
  refine s_aload_n E dX9_appendFour_39 rfl rfl ?_
  refine s_dupR E dX9_appendFour_40 ?_
  refine s_gI E fg_X9_13 rfl rfl (ltn hw0.1 (by decide)) dX9_appendFour_41 ?_
  refine s_top (y := 15) rfl ?_
  refine s_iconst (v := 1) E dX9_appendFour_44 (by decide) ?_
  refine s_iadd E dX9_appendFour_45 ?_
  refine s_top (y := 16) (by decide) ?_
  refine s_pI E fp_X9_13 (Or.inl rfl) rfl (ltn hw0.1 (by decide)) dX9_appendFour_46 ?_
  refine s_iinc (v := (-8)) (L2 := [some (AR 0), some (AI x1), some (AI (-8))]) E dX9_appendFour_49 rfl (by decide) (by decide) rfl ?_
  refine s_goto (tgt := 3) E dX9_appendFour_52 (by decide) ?_
  refine s_iload_n E dX9_appendFour_3 rfl rfl ?_
  refine s_if_lt (tgt := 55) E dX9_appendFour_4 (by decide) (fun _ => ?_) (fun hh => absurd (by decide) hh)
  exact r_void E dX9_appendFour_55 ⟨(fc_upC (fc_upC (fc_upC (fc_upC (fc_upC (fc_upC (fc_upC (fc_upC hw0 (by decide +kernel)) (by decide +kernel)) (by decide +kernel)) (by decide +kernel)) (by decide +kernel)) (by decide +kernel)) (by decide +kernel)) (by decide +kernel)), (fc_upC (fc_upC (fc_upC (fc_upC (fc_upC (fc_upC (fc_upC (fc_upC hw1 (by decide +kernel)) (by decide +kernel)) (by decide +kernel)) (by decide +kernel)) (by decide +kernel)) (by decide +kernel)) (by decide +kernel)) (by decide +kernel)), (fc_upC (fc_upC (fc_upC (fc_upC (fc_upC (fc_upC (fc_upC (fc_upC hw2 (by decide +kernel)) (by decide +kernel)) (by decide +kernel)) (by decide +kernel)) (by decide +kernel)) (by decide +kernel)) (by decide +kernel)) (by decide +kernel)), (fc_one hw0.1 rfl)⟩
set_option maxRecDepth 20000 in
set_option maxHeartbeats 2000000 in
theorem K_X9_appendFour_0_RMSTL16 (l : Launch) (D : va_G) (aC : Nat → ClassId) (b : Nat) (w : XW) (x1 : Int32) (hw0 : RfC w) (hw1 : FrM w) (hw2 : RfM w) (hw3 : TL16 w) : CnV l D aC b M_X9_appendFour 0 0 0 0 [AR 0, AI x1] w (fun u => RfC u ∧ FrM u ∧ RfM u ∧ TL20 u) := by
  refine cn_V (own := RX9) (nm := "appendFour") (L0 := [some (AR 0), some (AI x1), none]) (by decide +kernel) rfl rfl (Nat.le_of_ble_eq_true rfl) rfl ?_
  intro p e s m args below meth c E hin
  refine s_bipush (v := 24) E dX9_appendFour_0 (by decide) ?_
  refine s_istore_n (L2 := [some (AR 0), some (AI x1), some (AI 24)]) E dX9_appendFour_2 rfl (by decide) rfl ?_
  refine s_iload_n E dX9_appendFour_3 rfl rfl ?_
  refine s_if_lt (tgt := 55) E dX9_appendFour_4 (by decide) (fun hh => absurd hh (by decide)) (fun _ => ?_)
  refine s_aload_n E dX9_appendFour_7 rfl rfl ?_
  refine s_gI E fg_X9_13 rfl rfl (ltn hw0.1 (by decide)) dX9_appendFour_8 ?_
  refine s_top (y := 16) (fc_i hw3 (by decide +kernel)) ?_
  refine s_if_lt (tgt := 49) E dX9_appendFour_11 (by decide) (fun hh => absurd hh (by decide)) (fun _ => ?_)
  refine s_aload_n E dX9_appendFour_14 rfl rfl ?_
  refine s_gI E fg_X9_13 rfl rfl (ltn hw0.1 (by decide)) dX9_appendFour_15 ?_
  refine s_top (y := 16) (fc_i hw3 (by decide +kernel)) ?_
  refine s_aload_n E dX9_appendFour_18 rfl rfl ?_
  refine s_gR (r := 1) E fg_X9_9 rfl rfl (ltn hw0.1 (by decide)) (fc_r hw0 (by decide +kernel)) dX9_appendFour_19 ?_
  refine s_alen (v := 1000) E rfl (by decide) (ltn hw0.1 (by decide)) (by decide) dX9_appendFour_22 ?_
  refine s_icmp_ge (tgt := 49) E dX9_appendFour_23 (by decide) (fun hh => absurd hh (by decide)) (fun _ => ?_)
  refine s_aload_n E dX9_appendFour_26 rfl rfl ?_
  refine s_gR (r := 1) E fg_X9_9 rfl rfl (ltn hw0.1 (by decide)) (fc_r hw0 (by decide +kernel)) dX9_appendFour_27 ?_
  refine s_aload_n E dX9_appendFour_30 rfl rfl ?_
  refine s_gI E fg_X9_13 rfl rfl (ltn hw0.1 (by decide)) dX9_appendFour_31 ?_
  refine s_top (y := 16) (fc_i hw3 (by decide +kernel)) ?_
  refine s_iload_n E dX9_appendFour_34 rfl rfl ?_
  refine s_iload_n E dX9_appendFour_35 rfl rfl ?_
  refine s_iushr E dX9_appendFour_36 ?_
  refine s_i2b E dX9_appendFour_37 ?_
  refine s_bast E rfl (ltn hw0.1 (by decide)) (vp_c (by decide)) dX9_appendFour_38 ?_
  refine s_aload_n E dX9_appendFour_39 rfl rfl ?_
  refine s_dupR E dX9_appendFour_40 ?_
  refine s_gI E fg_X9_13 rfl rfl (ltn hw0.1 (by decide)) dX9_appendFour_41 ?_
  refine s_top (y := 16) (fc_i hw3 (by decide +kernel)) ?_
  refine s_iconst (v := 1) E dX9_appendFour_44 (by decide) ?_
  refine s_iadd E dX9_appendFour_45 ?_
  refine s_top (y := 17) (by decide) ?_
  refine s_pI E fp_X9_13 (Or.inl rfl) rfl (ltn hw0.1 (by decide)) dX9_appendFour_46 ?_
  refine s_iinc (v := 16) (L2 := [some (AR 0), some (AI x1), some (AI 16)]) E dX9_appendFour_49 rfl (by decide) (by decide) rfl ?_
  refine s_goto (tgt := 3) E dX9_appendFour_52 (by decide) ?_
  refine s_iload_n E dX9_appendFour_3 rfl rfl ?_
  refine s_if_lt (tgt := 55) E dX9_appendFour_4 (by decide) (fun hh => absurd hh (by decide)) (fun _ => ?_)
  refine s_aload_n E dX9_appendFour_7 rfl rfl ?_
  refine s_gI E fg_X9_13 rfl rfl (ltn hw0.1 (by decide)) dX9_appendFour_8 ?_
  refine s_top (y := 17) rfl ?_
  refine s_if_lt (tgt := 49) E dX9_appendFour_11 (by decide) (fun hh => absurd hh (by decide)) (fun _ => ?_)
  refine s_aload_n E dX9_appendFour_14 rfl rfl ?_
  refine s_gI E fg_X9_13 rfl rfl (ltn hw0.1 (by decide)) dX9_appendFour_15 ?_
  refine s_top (y := 17) rfl ?_
  refine s_aload_n E dX9_appendFour_18 rfl rfl ?_
  refine s_gR (r := 1) E fg_X9_9 rfl rfl (ltn hw0.1 (by decide)) (fc_r hw0 (by decide +kernel)) dX9_appendFour_19 ?_
  refine s_alen (v := 1000) E rfl (by decide) (ltn hw0.1 (by decide)) (by decide) dX9_appendFour_22 ?_
  refine s_icmp_ge (tgt := 49) E dX9_appendFour_23 (by decide) (fun hh => absurd hh (by decide)) (fun _ => ?_)
  refine s_aload_n E dX9_appendFour_26 rfl rfl ?_
  refine s_gR (r := 1) E fg_X9_9 rfl rfl (ltn hw0.1 (by decide)) (fc_r hw0 (by decide +kernel)) dX9_appendFour_27 ?_
  refine s_aload_n E dX9_appendFour_30 rfl rfl ?_
  refine s_gI E fg_X9_13 rfl rfl (ltn hw0.1 (by decide)) dX9_appendFour_31 ?_
  refine s_top (y := 17) rfl ?_
  refine s_iload_n E dX9_appendFour_34 rfl rfl ?_
  refine s_iload_n E dX9_appendFour_35 rfl rfl ?_
  refine s_iushr E dX9_appendFour_36 ?_
  refine s_i2b E dX9_appendFour_37 ?_
  refine s_bast E rfl (ltn hw0.1 (by decide)) (vp_c (by decide)) dX9_appendFour_38 ?_
  refine s_aload_n E dX9_appendFour_39 rfl rfl ?_
  refine s_dupR E dX9_appendFour_40 ?_
  refine s_gI E fg_X9_13 rfl rfl (ltn hw0.1 (by decide)) dX9_appendFour_41 ?_
  refine s_top (y := 17) rfl ?_
  refine s_iconst (v := 1) E dX9_appendFour_44 (by decide) ?_
  refine s_iadd E dX9_appendFour_45 ?_
  refine s_top (y := 18) (by decide) ?_
  refine s_pI E fp_X9_13 (Or.inl rfl) rfl (ltn hw0.1 (by decide)) dX9_appendFour_46 ?_
  refine s_iinc (v := 8) (L2 := [some (AR 0), some (AI x1), some (AI 8)]) E dX9_appendFour_49 rfl (by decide) (by decide) rfl ?_
  refine s_goto (tgt := 3) E dX9_appendFour_52 (by decide) ?_
  refine s_iload_n E dX9_appendFour_3 rfl rfl ?_
  refine s_if_lt (tgt := 55) E dX9_appendFour_4 (by decide) (fun hh => absurd hh (by decide)) (fun _ => ?_)
  refine s_aload_n E dX9_appendFour_7 rfl rfl ?_
  refine s_gI E fg_X9_13 rfl rfl (ltn hw0.1 (by decide)) dX9_appendFour_8 ?_
  refine s_top (y := 18) rfl ?_
  refine s_if_lt (tgt := 49) E dX9_appendFour_11 (by decide) (fun hh => absurd hh (by decide)) (fun _ => ?_)
  refine s_aload_n E dX9_appendFour_14 rfl rfl ?_
  refine s_gI E fg_X9_13 rfl rfl (ltn hw0.1 (by decide)) dX9_appendFour_15 ?_
  refine s_top (y := 18) rfl ?_
  refine s_aload_n E dX9_appendFour_18 rfl rfl ?_
  refine s_gR (r := 1) E fg_X9_9 rfl rfl (ltn hw0.1 (by decide)) (fc_r hw0 (by decide +kernel)) dX9_appendFour_19 ?_
  refine s_alen (v := 1000) E rfl (by decide) (ltn hw0.1 (by decide)) (by decide) dX9_appendFour_22 ?_
  refine s_icmp_ge (tgt := 49) E dX9_appendFour_23 (by decide) (fun hh => absurd hh (by decide)) (fun _ => ?_)
  refine s_aload_n E dX9_appendFour_26 rfl rfl ?_
  refine s_gR (r := 1) E fg_X9_9 rfl rfl (ltn hw0.1 (by decide)) (fc_r hw0 (by decide +kernel)) dX9_appendFour_27 ?_
  refine s_aload_n E dX9_appendFour_30 rfl rfl ?_
  refine s_gI E fg_X9_13 rfl rfl (ltn hw0.1 (by decide)) dX9_appendFour_31 ?_
  refine s_top (y := 18) rfl ?_
  refine s_iload_n E dX9_appendFour_34 rfl rfl ?_
  refine s_iload_n E dX9_appendFour_35 rfl rfl ?_
  refine s_iushr E dX9_appendFour_36 ?_
  refine s_i2b E dX9_appendFour_37 ?_
  refine s_bast E rfl (ltn hw0.1 (by decide)) (vp_c (by decide)) dX9_appendFour_38 ?_
  refine s_aload_n E dX9_appendFour_39 rfl rfl ?_
  refine s_dupR E dX9_appendFour_40 ?_
  refine s_gI E fg_X9_13 rfl rfl (ltn hw0.1 (by decide)) dX9_appendFour_41 ?_
  refine s_top (y := 18) rfl ?_
  refine s_iconst (v := 1) E dX9_appendFour_44 (by decide) ?_
  refine s_iadd E dX9_appendFour_45 ?_
  refine s_top (y := 19) (by decide) ?_
  refine s_pI E fp_X9_13 (Or.inl rfl) rfl (ltn hw0.1 (by decide)) dX9_appendFour_46 ?_
  refine s_iinc (v := 0) (L2 := [some (AR 0), some (AI x1), some (AI 0)]) E dX9_appendFour_49 rfl (by decide) (by decide) rfl ?_
  refine s_goto (tgt := 3) E dX9_appendFour_52 (by decide) ?_
  refine s_iload_n E dX9_appendFour_3 rfl rfl ?_
  refine s_if_lt (tgt := 55) E dX9_appendFour_4 (by decide) (fun hh => absurd hh (by decide)) (fun _ => ?_)
  refine s_aload_n E dX9_appendFour_7 rfl rfl ?_
  refine s_gI E fg_X9_13 rfl rfl (ltn hw0.1 (by decide)) dX9_appendFour_8 ?_
  refine s_top (y := 19) rfl ?_
  refine s_if_lt (tgt := 49) E dX9_appendFour_11 (by decide) (fun hh => absurd hh (by decide)) (fun _ => ?_)
  refine s_aload_n E dX9_appendFour_14 rfl rfl ?_
  refine s_gI E fg_X9_13 rfl rfl (ltn hw0.1 (by decide)) dX9_appendFour_15 ?_
  refine s_top (y := 19) rfl ?_
  refine s_aload_n E dX9_appendFour_18 rfl rfl ?_
  refine s_gR (r := 1) E fg_X9_9 rfl rfl (ltn hw0.1 (by decide)) (fc_r hw0 (by decide +kernel)) dX9_appendFour_19 ?_
  refine s_alen (v := 1000) E rfl (by decide) (ltn hw0.1 (by decide)) (by decide) dX9_appendFour_22 ?_
  refine s_icmp_ge (tgt := 49) E dX9_appendFour_23 (by decide) (fun hh => absurd hh (by decide)) (fun _ => ?_)
  refine s_aload_n E dX9_appendFour_26 rfl rfl ?_
  refine s_gR (r := 1) E fg_X9_9 rfl rfl (ltn hw0.1 (by decide)) (fc_r hw0 (by decide +kernel)) dX9_appendFour_27 ?_
  refine s_aload_n E dX9_appendFour_30 rfl rfl ?_
  refine s_gI E fg_X9_13 rfl rfl (ltn hw0.1 (by decide)) dX9_appendFour_31 ?_
  refine s_top (y := 19) rfl ?_
  refine s_iload_n E dX9_appendFour_34 rfl rfl ?_
  refine s_iload_n E dX9_appendFour_35 rfl rfl ?_
  refine s_iushr E dX9_appendFour_36 ?_
  refine s_i2b E dX9_appendFour_37 ?_
  refine s_bast E rfl (ltn hw0.1 (by decide)) (vp_c (by decide)) dX9_appendFour_38 ?_
  refine s_aload_n E dX9_appendFour_39 rfl rfl ?_
  refine s_dupR E dX9_appendFour_40 ?_
  refine s_gI E fg_X9_13 rfl rfl (ltn hw0.1 (by decide)) dX9_appendFour_41 ?_
  refine s_top (y := 19) rfl ?_
  refine s_iconst (v := 1) E dX9_appendFour_44 (by decide) ?_
  refine s_iadd E dX9_appendFour_45 ?_
  refine s_top (y := 20) (by decide) ?_
  refine s_pI E fp_X9_13 (Or.inl rfl) rfl (ltn hw0.1 (by decide)) dX9_appendFour_46 ?_
  refine s_iinc (v := (-8)) (L2 := [some (AR 0), some (AI x1), some (AI (-8))]) E dX9_appendFour_49 rfl (by decide) (by decide) rfl ?_
  refine s_goto (tgt := 3) E dX9_appendFour_52 (by decide) ?_
  refine s_iload_n E dX9_appendFour_3 rfl rfl ?_
  refine s_if_lt (tgt := 55) E dX9_appendFour_4 (by decide) (fun _ => ?_) (fun hh => absurd (by decide) hh)
  exact r_void E dX9_appendFour_55 ⟨(fc_upC (fc_upC (fc_upC (fc_upC (fc_upC (fc_upC (fc_upC (fc_upC hw0 (by decide +kernel)) (by decide +kernel)) (by decide +kernel)) (by decide +kernel)) (by decide +kernel)) (by decide +kernel)) (by decide +kernel)) (by decide +kernel)), (fc_upC (fc_upC (fc_upC (fc_upC (fc_upC (fc_upC (fc_upC (fc_upC hw1 (by decide +kernel)) (by decide +kernel)) (by decide +kernel)) (by decide +kernel)) (by decide +kernel)) (by decide +kernel)) (by decide +kernel)) (by decide +kernel)), (fc_upC (fc_upC (fc_upC (fc_upC (fc_upC (fc_upC (fc_upC (fc_upC hw2 (by decide +kernel)) (by decide +kernel)) (by decide +kernel)) (by decide +kernel)) (by decide +kernel)) (by decide +kernel)) (by decide +kernel)) (by decide +kernel)), (fc_one hw0.1 rfl)⟩
set_option maxRecDepth 20000 in
set_option maxHeartbeats 2000000 in
theorem K_X9_feed_0_CRMS (l : Launch) (D : va_G) (aC : Nat → ClassId) (b : Nat) (w : XW) (x1 : Int32) (x2 : Int32) (x3 : Int32) (x4 : Int32) (x5 : Int32) (hw0 : FrC w) (hw1 : RfC w) (hw2 : FrM w) (hw3 : RfM w) : CnI l D aC b M_X9_feed 1 22 0 0 [AR 0, AI x1, AI x2, AI x3, AI x4, AI x5] w (fun r u => r = 20 ∧ RfC u ∧ FrM u ∧ RfM u ∧ TL20 u) := by
  refine cn_I (own := RX9) (nm := "feed") (L0 := [some (AR 0), some (AI x1), some (AI x2), some (AI x3), some (AI x4), some (AI x5)]) (by decide +kernel) rfl rfl (Nat.le_of_ble_eq_true rfl) rfl ?_
  intro p e s m args below meth c E hin
  refine s_aload_n E dX9_feed_0 rfl rfl ?_
  refine s_gI E fg_X9_13 rfl rfl (ltn hw0.1 (by decide)) dX9_feed_1 ?_
  refine s_top (y := 0) (fc_i hw0 (by decide +kernel)) ?_
  refine s_sipush (v := 980) E dX9_feed_4 (by decide) ?_
  refine s_icmp_le (tgt := 12) E dX9_feed_7 (by decide) (fun _ => ?_) (fun hh => absurd (by decide) hh)
  refine s_aload_n E dX9_feed_12 rfl rfl ?_
  refine s_iload_n E dX9_feed_13 rfl rfl ?_
  refine s_vV (As := [AI x1]) (S := []) E (K_X9_appendFour_0_CRMS l D aC b w x1 hw0 hw1 hw2 hw3) cv_X9_93 rfl rfl rfl (ltn hw0.1 (by decide)) (Nat.le_of_ble_eq_true rfl) (Nat.le_of_ble_eq_true rfl) ⟨(Nat.le_of_ble_eq_true rfl), (Nat.le_of_ble_eq_true rfl)⟩ (Nat.le_of_ble_eq_true rfl) dX9_feed_14 (fun u_1 hp => ?_)
  obtain ⟨hu_1, hu_2, hu_3, hu_4⟩ := hp
  refine s_aload_n E dX9_feed_17 rfl rfl ?_
  refine s_iload_n E dX9_feed_18 rfl rfl ?_
  refine s_vV (As := [AI x2]) (S := []) E (K_X9_appendFour_0_RMSTL4 l D aC b u_1 x2 hu_1 hu_2 hu_3 hu_4) cv_X9_93 rfl rfl rfl (ltn hu_1.1 (by decide)) (Nat.le_of_ble_eq_true rfl) (Nat.le_of_ble_eq_true rfl) ⟨(Nat.le_of_ble_eq_true rfl), (Nat.le_of_ble_eq_true rfl)⟩ (Nat.le_of_ble_eq_true rfl) dX9_feed_19 (fun u_2 hp => ?_)
  obtain ⟨hu_5, hu_6, hu_7, hu_8⟩ := hp
  refine s_aload_n E dX9_feed_22 rfl rfl ?_
  refine s_iload_n E dX9_feed_23 rfl rfl ?_
  refine s_vV (As := [AI x3]) (S := []) E (K_X9_appendFour_0_RMSTL8 l D aC b u_2 x3 hu_5 hu_6 hu_7 hu_8) cv_X9_93 rfl rfl rfl (ltn hu_5.1 (by decide)) (Nat.le_of_ble_eq_true rfl) (Nat.le_of_ble_eq_true rfl) ⟨(Nat.le_of_ble_eq_true rfl), (Nat.le_of_ble_eq_true rfl)⟩ (Nat.le_of_ble_eq_true rfl) dX9_feed_24 (fun u_3 hp => ?_)
  obtain ⟨hu_9, hu_10, hu_11, hu_12⟩ := hp
  refine s_aload_n E dX9_feed_27 rfl rfl ?_
  refine s_iload E dX9_feed_28 rfl ?_
  refine s_vV (As := [AI x4]) (S := []) E (K_X9_appendFour_0_RMSTL12 l D aC b u_3 x4 hu_9 hu_10 hu_11 hu_12) cv_X9_93 rfl rfl rfl (ltn hu_9.1 (by decide)) (Nat.le_of_ble_eq_true rfl) (Nat.le_of_ble_eq_true rfl) ⟨(Nat.le_of_ble_eq_true rfl), (Nat.le_of_ble_eq_true rfl)⟩ (Nat.le_of_ble_eq_true rfl) dX9_feed_30 (fun u_4 hp => ?_)
  obtain ⟨hu_13, hu_14, hu_15, hu_16⟩ := hp
  refine s_aload_n E dX9_feed_33 rfl rfl ?_
  refine s_iload E dX9_feed_34 rfl ?_
  refine s_vV (As := [AI x5]) (S := []) E (K_X9_appendFour_0_RMSTL16 l D aC b u_4 x5 hu_13 hu_14 hu_15 hu_16) cv_X9_93 rfl rfl rfl (ltn hu_13.1 (by decide)) (Nat.le_of_ble_eq_true rfl) (Nat.le_of_ble_eq_true rfl) ⟨(Nat.le_of_ble_eq_true rfl), (Nat.le_of_ble_eq_true rfl)⟩ (Nat.le_of_ble_eq_true rfl) dX9_feed_36 (fun u_5 hp => ?_)
  obtain ⟨hu_17, hu_18, hu_19, hu_20⟩ := hp
  refine s_aload_n E dX9_feed_39 rfl rfl ?_
  refine s_gI E fg_X9_13 rfl rfl (ltn hu_17.1 (by decide)) dX9_feed_40 ?_
  refine s_top (y := 20) (fc_i hu_20 (by decide +kernel)) ?_
  exact r_int E dX9_feed_43 ⟨rfl, ⟨hu_17, hu_18, hu_19, hu_20⟩⟩
set_option maxRecDepth 20000 in
set_option maxHeartbeats 2000000 in
theorem K_X9_end_0_CRMS (l : Launch) (D : va_G) (aC : Nat → ClassId) (b : Nat) (w : XW) (x1 : Int32) (hw0 : FrC w) (hw1 : RfC w) (hw2 : FrM w) (hw3 : RfM w) : CnI l D aC b M_X9_end 0 0 0 0 [AR 0, AI x1] w (fun r u => r = sp_end x1 ∧ RfC u ∧ FrM u ∧ RfM u ∧ TL0 u) := by
  refine cn_I (own := RX9) (nm := "end") (L0 := [some (AR 0), some (AI x1)]) (by decide +kernel) rfl rfl (Nat.le_of_ble_eq_true rfl) rfl ?_
  intro p e s m args below meth c E hin
  refine s_iload_n E dX9_end_0 rfl rfl ?_
  refine s_if_lt (tgt := 12) E dX9_end_1 (by decide) (fun h_1 => ?_) (fun h_1 => ?_)
  ·
    refine s_iconst (v := (-1)) E dX9_end_12 (by decide) ?_
    exact r_int E dX9_end_13 ⟨(by have q0 := h_1; (try simp only [lg_cmp_lt, lg_cmp_le, lg_cmp_ge, lg_cmp_gt] at q0); (try simp only [Int32.lt_iff_toInt_lt, Int32.le_iff_toInt_le, Int64.lt_iff_toInt_lt, Int64.le_iff_toInt_le, ← Int32.toInt_inj, ← Int64.toInt_inj, Int32.toInt_toInt64] at q0); have e0 : (0 : Int32).toInt = 0 := (by decide); have e1 : (1 : Int32).toInt = 1 := (by decide); have e2 : (2 : Int32).toInt = 2 := (by decide); have e3 : (3 : Int32).toInt = 3 := (by decide); have e4 : (4 : Int32).toInt = 4 := (by decide); have e5 : (0 : Int64).toInt = 0 := (by decide); (try simp only [e0, e1, e2, e3, e4, e5] at q0); first | decide | (unfold sp_end; (repeat' split) <;> first | rfl | (exfalso; omega))), ⟨hw1, hw2, hw3, (fc_one hw0.1 (fc_i hw0 (by decide +kernel)))⟩⟩
  ·
    refine s_iload_n E dX9_end_4 rfl rfl ?_
    refine s_aload_n E dX9_end_5 rfl rfl ?_
    refine s_gI E fg_X9_13 rfl rfl (ltn hw0.1 (by decide)) dX9_end_6 ?_
    refine s_top (y := 0) (fc_i hw0 (by decide +kernel)) ?_
    refine s_icmp_le (tgt := 14) E dX9_end_9 (by decide) (fun h_2 => ?_) (fun h_2 => ?_)
    ·
      refine s_aload_n E dX9_end_14 rfl rfl ?_
      refine s_iload_n E dX9_end_15 rfl rfl ?_
      refine s_pI E fp_X9_13 (Or.inl rfl) rfl (ltn hw0.1 (by decide)) dX9_end_16 ?_
      refine s_iload_n E dX9_end_19 rfl rfl ?_
      rcases (show x1 = 0 from (by have q0 := h_1; have q1 := h_2; (try simp only [lg_cmp_lt, lg_cmp_le, lg_cmp_ge, lg_cmp_gt] at q0 q1); (try simp only [Int32.lt_iff_toInt_lt, Int32.le_iff_toInt_le, Int64.lt_iff_toInt_lt, Int64.le_iff_toInt_le, ← Int32.toInt_inj, ← Int64.toInt_inj, Int32.toInt_toInt64] at q0 q1); have e0 : (0 : Int32).toInt = 0 := (by decide); have e1 : (0 : Int64).toInt = 0 := (by decide); (try simp only [e0, e1] at q0 q1); have z0 : (0 : Int32).toInt = 0 := (by decide); (simp only [← Int32.toInt_inj, z0]); omega)) with rfl
      exact r_int E dX9_end_20 ⟨(by have e0 : (0 : Int32).toInt = 0 := (by decide); have e1 : (1 : Int32).toInt = 1 := (by decide); have e2 : (2 : Int32).toInt = 2 := (by decide); have e3 : (3 : Int32).toInt = 3 := (by decide); have e4 : (4 : Int32).toInt = 4 := (by decide); have e5 : (0 : Int64).toInt = 0 := (by decide); first | decide | (unfold sp_end; (repeat' split) <;> first | rfl | (exfalso; omega))), ⟨(fc_upC hw1 (by decide +kernel)), (fc_upC hw2 (by decide +kernel)), (fc_upC hw3 (by decide +kernel)), (fc_one hw0.1 rfl)⟩⟩
    ·
      refine s_iconst (v := (-1)) E dX9_end_12 (by decide) ?_
      exact r_int E dX9_end_13 ⟨(by have q0 := h_1; have q1 := h_2; (try simp only [lg_cmp_lt, lg_cmp_le, lg_cmp_ge, lg_cmp_gt] at q0 q1); (try simp only [Int32.lt_iff_toInt_lt, Int32.le_iff_toInt_le, Int64.lt_iff_toInt_lt, Int64.le_iff_toInt_le, ← Int32.toInt_inj, ← Int64.toInt_inj, Int32.toInt_toInt64] at q0 q1); have e0 : (0 : Int32).toInt = 0 := (by decide); have e1 : (1 : Int32).toInt = 1 := (by decide); have e2 : (2 : Int32).toInt = 2 := (by decide); have e3 : (3 : Int32).toInt = 3 := (by decide); have e4 : (4 : Int32).toInt = 4 := (by decide); have e5 : (0 : Int64).toInt = 0 := (by decide); (try simp only [e0, e1, e2, e3, e4, e5] at q0 q1); first | decide | (unfold sp_end; (repeat' split) <;> first | rfl | (exfalso; omega))), ⟨hw1, hw2, hw3, (fc_one hw0.1 (fc_i hw0 (by decide +kernel)))⟩⟩
set_option maxRecDepth 20000 in
set_option maxHeartbeats 2000000 in
theorem K_X9_fault_0_CRMS (l : Launch) (D : va_G) (aC : Nat → ClassId) (b : Nat) (w : XW) (x1 : Int32) (hw0 : FrC w) (hw1 : RfC w) (hw2 : FrM w) (hw3 : RfM w) : CnI l D aC b M_X9_fault 0 0 0 0 [AR 0, AI x1] w (fun r u => r = sp_fault x1 ∧ w = u) := by
  refine cn_I (own := RX9) (nm := "fault") (L0 := [some (AR 0), some (AI x1)]) (by decide +kernel) rfl rfl (Nat.le_of_ble_eq_true rfl) rfl ?_
  intro p e s m args below meth c E hin
  refine s_iload_n E dX9_fault_0 rfl rfl ?_
  refine s_if_ne (tgt := 12) E dX9_fault_1 (by decide) (fun h_1 => ?_) (fun h_1 => ?_)
  ·
    refine s_iload_n E dX9_fault_12 rfl rfl ?_
    refine s_iconst (v := 1) E dX9_fault_13 (by decide) ?_
    refine s_icmp_ne (tgt := 27) E dX9_fault_14 (by decide) (fun h_2 => ?_) (fun h_2 => ?_)
    ·
      refine s_iconst (v := (-1)) E dX9_fault_27 (by decide) ?_
      exact r_int E dX9_fault_28 ⟨(by have q0 := h_1; have q1 := h_2; (try simp only [lg_cmp_lt, lg_cmp_le, lg_cmp_ge, lg_cmp_gt] at q0 q1); (try simp only [Int32.lt_iff_toInt_lt, Int32.le_iff_toInt_le, Int64.lt_iff_toInt_lt, Int64.le_iff_toInt_le, ← Int32.toInt_inj, ← Int64.toInt_inj, Int32.toInt_toInt64] at q0 q1); have e0 : (0 : Int32).toInt = 0 := (by decide); have e1 : (1 : Int32).toInt = 1 := (by decide); have e2 : (2 : Int32).toInt = 2 := (by decide); have e3 : (3 : Int32).toInt = 3 := (by decide); have e4 : (4 : Int32).toInt = 4 := (by decide); have e5 : (0 : Int64).toInt = 0 := (by decide); (try simp only [e0, e1, e2, e3, e4, e5] at q0 q1); first | decide | (unfold sp_fault; (repeat' split) <;> first | rfl | (exfalso; omega))), rfl⟩
    ·
      refine s_aload_n E dX9_fault_17 rfl rfl ?_
      refine s_gR (r := 24) E fg_X9_32 rfl rfl (ltn hw0.1 (by decide)) (fc_r hw0 (by decide +kernel)) dX9_fault_18 ?_
      refine s_gI E fg_X9_113 rfl rfl (ltn hw0.1 (by decide)) dX9_fault_21 ?_
      refine s_top (y := (-1)) (fc_i hw0 (by decide +kernel)) ?_
      refine s_goto (tgt := 28) E dX9_fault_24 (by decide) ?_
      exact r_int E dX9_fault_28 ⟨(by have q0 := h_1; have q1 := h_2; (try simp only [lg_cmp_lt, lg_cmp_le, lg_cmp_ge, lg_cmp_gt] at q0 q1); (try simp only [Int32.lt_iff_toInt_lt, Int32.le_iff_toInt_le, Int64.lt_iff_toInt_lt, Int64.le_iff_toInt_le, ← Int32.toInt_inj, ← Int64.toInt_inj, Int32.toInt_toInt64] at q0 q1); have e0 : (0 : Int32).toInt = 0 := (by decide); have e1 : (1 : Int32).toInt = 1 := (by decide); have e2 : (2 : Int32).toInt = 2 := (by decide); have e3 : (3 : Int32).toInt = 3 := (by decide); have e4 : (4 : Int32).toInt = 4 := (by decide); have e5 : (0 : Int64).toInt = 0 := (by decide); (try simp only [e0, e1, e2, e3, e4, e5] at q0 q1); first | decide | (unfold sp_fault; (repeat' split) <;> first | rfl | (exfalso; omega))), rfl⟩
  ·
    refine s_aload_n E dX9_fault_4 rfl rfl ?_
    refine s_gR (r := 24) E fg_X9_32 rfl rfl (ltn hw0.1 (by decide)) (fc_r hw0 (by decide +kernel)) dX9_fault_5 ?_
    refine s_gI E fg_X9_100 rfl rfl (ltn hw0.1 (by decide)) dX9_fault_8 ?_
    refine s_top (y := 0) (fc_i hw0 (by decide +kernel)) ?_
    exact r_int E dX9_fault_11 ⟨(by have q0 := h_1; (try simp only [lg_cmp_lt, lg_cmp_le, lg_cmp_ge, lg_cmp_gt] at q0); (try simp only [Int32.lt_iff_toInt_lt, Int32.le_iff_toInt_le, Int64.lt_iff_toInt_lt, Int64.le_iff_toInt_le, ← Int32.toInt_inj, ← Int64.toInt_inj, Int32.toInt_toInt64] at q0); have e0 : (0 : Int32).toInt = 0 := (by decide); have e1 : (1 : Int32).toInt = 1 := (by decide); have e2 : (2 : Int32).toInt = 2 := (by decide); have e3 : (3 : Int32).toInt = 3 := (by decide); have e4 : (4 : Int32).toInt = 4 := (by decide); have e5 : (0 : Int64).toInt = 0 := (by decide); (try simp only [e0, e1, e2, e3, e4, e5] at q0); first | decide | (unfold sp_fault; (repeat' split) <;> first | rfl | (exfalso; omega))), rfl⟩
set_option maxRecDepth 20000 in
set_option maxHeartbeats 2000000 in
theorem K_X8_hasCell_3_CRMS (l : Launch) (D : va_G) (aC : Nat → ClassId) (b : Nat) (w : XW) (x1 : Int32) (x2 : Int32) (hw0 : FrC w) (hw1 : RfC w) (hw2 : FrM w) (hw3 : RfM w) : CnI l D aC b M_X8_hasCell 0 0 0 0 [AR 3, AI x1, AI x2] w (fun r u => r = 0 ∧ w = u) := by
  refine cn_I (own := RX8) (nm := "hasCell") (L0 := [some (AR 3), some (AI x1), some (AI x2)]) (by decide +kernel) rfl rfl (Nat.le_of_ble_eq_true rfl) rfl ?_
  intro p e s m args below meth c E hin
  refine s_iload_n E dX8_hasCell_0 rfl rfl ?_
  refine s_if_lt (tgt := 28) E dX8_hasCell_1 (by decide) (fun h_1 => ?_) (fun h_1 => ?_)
  ·
    refine s_iconst (v := 0) E dX8_hasCell_28 (by decide) ?_
    exact r_bool E dX8_hasCell_29 (Or.inl rfl) ⟨rfl, rfl⟩
  ·
    refine s_iload_n E dX8_hasCell_4 rfl rfl ?_
    refine s_aload_n E dX8_hasCell_5 rfl rfl ?_
    refine s_gI E fg_X8_28 rfl rfl (ltn hw0.1 (by decide)) dX8_hasCell_6 ?_
    refine s_top (y := 0) (fc_i hw0 (by decide +kernel)) ?_
    refine s_icmp_ge (tgt := 28) E dX8_hasCell_9 (by decide) (fun _ => ?_) (fun hh => (by have q0 := h_1; have q1 := hh; (try simp only [lg_cmp_lt, lg_cmp_le, lg_cmp_ge, lg_cmp_gt] at q0 q1); (try simp only [Int32.lt_iff_toInt_lt, Int32.le_iff_toInt_le, Int64.lt_iff_toInt_lt, Int64.le_iff_toInt_le, ← Int32.toInt_inj, ← Int64.toInt_inj, Int32.toInt_toInt64] at q0 q1); have e0 : (0 : Int32).toInt = 0 := (by decide); have e1 : (0 : Int64).toInt = 0 := (by decide); (try simp only [e0, e1] at q0 q1); omega))
    refine s_iconst (v := 0) E dX8_hasCell_28 (by decide) ?_
    exact r_bool E dX8_hasCell_29 (Or.inl rfl) ⟨rfl, rfl⟩
set_option maxRecDepth 20000 in
set_option maxHeartbeats 2000000 in
theorem K_X9_door_0_CRMS (l : Launch) (D : va_G) (aC : Nat → ClassId) (b : Nat) (w : XW) (x1 : Int32) (x2 : Int32) (hw0 : FrC w) (hw1 : RfC w) (hw2 : FrM w) (hw3 : RfM w) : CnI l D aC b M_X9_door 1 22 0 0 [AR 0, AI x1, AI x2] w (fun r u => r = (-2) ∧ w = u) := by
  refine cn_I (own := RX9) (nm := "door") (L0 := [some (AR 0), some (AI x1), some (AI x2)]) (by decide +kernel) rfl rfl (Nat.le_of_ble_eq_true rfl) rfl ?_
  intro p e s m args below meth c E hin
  refine s_aload_n E dX9_door_0 rfl rfl ?_
  refine s_gR (r := 2) E fg_X9_20 rfl rfl (ltn hw0.1 (by decide)) (fc_r hw0 (by decide +kernel)) dX9_door_1 ?_
  refine s_gR (r := 3) E fg_X9_119 rfl rfl (ltn hw0.1 (by decide)) (fc_r hw0 (by decide +kernel)) dX9_door_4 ?_
  refine s_iload_n E dX9_door_7 rfl rfl ?_
  refine s_iload_n E dX9_door_8 rfl rfl ?_
  refine s_vI (As := [AI x1, AI x2]) (S := []) E (K_X8_hasCell_3_CRMS l D aC b w x1 x2 hw0 hw1 hw2 hw3) cv_X9_123 rfl rfl rfl (ltn hw0.1 (by decide)) (Nat.le_of_ble_eq_true rfl) (Nat.le_of_ble_eq_true rfl) ⟨(Nat.le_of_ble_eq_true rfl), (Nat.le_of_ble_eq_true rfl)⟩ (Nat.le_of_ble_eq_true rfl) dX9_door_9 (fun r u hp => ?_)
  obtain ⟨rfl, rfl⟩ := hp
  refine s_if_eq (tgt := 30) E dX9_door_12 (by decide) (fun _ => ?_) (fun hh => absurd (by decide) hh)
  refine s_bipush (v := (-2)) E dX9_door_30 (by decide) ?_
  exact r_int E dX9_door_32 ⟨rfl, rfl⟩
set_option maxRecDepth 20000 in
set_option maxHeartbeats 2000000 in
theorem K_X8_hasCell_5_CRMS (l : Launch) (D : va_G) (aC : Nat → ClassId) (b : Nat) (w : XW) (x1 : Int32) (x2 : Int32) (hw0 : FrC w) (hw1 : RfC w) (hw2 : FrM w) (hw3 : RfM w) : CnI l D aC b M_X8_hasCell 0 0 0 0 [AR 5, AI x1, AI x2] w (fun r u => r = 0 ∧ w = u) := by
  refine cn_I (own := RX8) (nm := "hasCell") (L0 := [some (AR 5), some (AI x1), some (AI x2)]) (by decide +kernel) rfl rfl (Nat.le_of_ble_eq_true rfl) rfl ?_
  intro p e s m args below meth c E hin
  refine s_iload_n E dX8_hasCell_0 rfl rfl ?_
  refine s_if_lt (tgt := 28) E dX8_hasCell_1 (by decide) (fun h_1 => ?_) (fun h_1 => ?_)
  ·
    refine s_iconst (v := 0) E dX8_hasCell_28 (by decide) ?_
    exact r_bool E dX8_hasCell_29 (Or.inl rfl) ⟨rfl, rfl⟩
  ·
    refine s_iload_n E dX8_hasCell_4 rfl rfl ?_
    refine s_aload_n E dX8_hasCell_5 rfl rfl ?_
    refine s_gI E fg_X8_28 rfl rfl (ltn hw0.1 (by decide)) dX8_hasCell_6 ?_
    refine s_top (y := 0) (fc_i hw0 (by decide +kernel)) ?_
    refine s_icmp_ge (tgt := 28) E dX8_hasCell_9 (by decide) (fun _ => ?_) (fun hh => (by have q0 := h_1; have q1 := hh; (try simp only [lg_cmp_lt, lg_cmp_le, lg_cmp_ge, lg_cmp_gt] at q0 q1); (try simp only [Int32.lt_iff_toInt_lt, Int32.le_iff_toInt_le, Int64.lt_iff_toInt_lt, Int64.le_iff_toInt_le, ← Int32.toInt_inj, ← Int64.toInt_inj, Int32.toInt_toInt64] at q0 q1); have e0 : (0 : Int32).toInt = 0 := (by decide); have e1 : (0 : Int64).toInt = 0 := (by decide); (try simp only [e0, e1] at q0 q1); omega))
    refine s_iconst (v := 0) E dX8_hasCell_28 (by decide) ?_
    exact r_bool E dX8_hasCell_29 (Or.inl rfl) ⟨rfl, rfl⟩
set_option maxRecDepth 20000 in
set_option maxHeartbeats 2000000 in
theorem K_X9_lady_0_CRMS (l : Launch) (D : va_G) (aC : Nat → ClassId) (b : Nat) (w : XW) (x1 : Int32) (x2 : Int32) (hw0 : FrC w) (hw1 : RfC w) (hw2 : FrM w) (hw3 : RfM w) : CnI l D aC b M_X9_lady 1 22 0 0 [AR 0, AI x1, AI x2] w (fun r u => r = (-2) ∧ w = u) := by
  refine cn_I (own := RX9) (nm := "lady") (L0 := [some (AR 0), some (AI x1), some (AI x2)]) (by decide +kernel) rfl rfl (Nat.le_of_ble_eq_true rfl) rfl ?_
  intro p e s m args below meth c E hin
  refine s_aload_n E dX9_lady_0 rfl rfl ?_
  refine s_gR (r := 2) E fg_X9_20 rfl rfl (ltn hw0.1 (by decide)) (fc_r hw0 (by decide +kernel)) dX9_lady_1 ?_
  refine s_gR (r := 5) E fg_X9_133 rfl rfl (ltn hw0.1 (by decide)) (fc_r hw0 (by decide +kernel)) dX9_lady_4 ?_
  refine s_iload_n E dX9_lady_7 rfl rfl ?_
  refine s_iload_n E dX9_lady_8 rfl rfl ?_
  refine s_vI (As := [AI x1, AI x2]) (S := []) E (K_X8_hasCell_5_CRMS l D aC b w x1 x2 hw0 hw1 hw2 hw3) cv_X9_123 rfl rfl rfl (ltn hw0.1 (by decide)) (Nat.le_of_ble_eq_true rfl) (Nat.le_of_ble_eq_true rfl) ⟨(Nat.le_of_ble_eq_true rfl), (Nat.le_of_ble_eq_true rfl)⟩ (Nat.le_of_ble_eq_true rfl) dX9_lady_9 (fun r u hp => ?_)
  obtain ⟨rfl, rfl⟩ := hp
  refine s_if_eq (tgt := 30) E dX9_lady_12 (by decide) (fun _ => ?_) (fun hh => absurd (by decide) hh)
  refine s_bipush (v := (-2)) E dX9_lady_30 (by decide) ?_
  exact r_int E dX9_lady_32 ⟨rfl, rfl⟩
set_option maxRecDepth 20000 in
set_option maxHeartbeats 2000000 in
theorem K_X8_hasCell_7_CRMS (l : Launch) (D : va_G) (aC : Nat → ClassId) (b : Nat) (w : XW) (x1 : Int32) (x2 : Int32) (hw0 : FrC w) (hw1 : RfC w) (hw2 : FrM w) (hw3 : RfM w) : CnI l D aC b M_X8_hasCell 0 0 0 0 [AR 7, AI x1, AI x2] w (fun r u => r = 0 ∧ w = u) := by
  refine cn_I (own := RX8) (nm := "hasCell") (L0 := [some (AR 7), some (AI x1), some (AI x2)]) (by decide +kernel) rfl rfl (Nat.le_of_ble_eq_true rfl) rfl ?_
  intro p e s m args below meth c E hin
  refine s_iload_n E dX8_hasCell_0 rfl rfl ?_
  refine s_if_lt (tgt := 28) E dX8_hasCell_1 (by decide) (fun h_1 => ?_) (fun h_1 => ?_)
  ·
    refine s_iconst (v := 0) E dX8_hasCell_28 (by decide) ?_
    exact r_bool E dX8_hasCell_29 (Or.inl rfl) ⟨rfl, rfl⟩
  ·
    refine s_iload_n E dX8_hasCell_4 rfl rfl ?_
    refine s_aload_n E dX8_hasCell_5 rfl rfl ?_
    refine s_gI E fg_X8_28 rfl rfl (ltn hw0.1 (by decide)) dX8_hasCell_6 ?_
    refine s_top (y := 0) (fc_i hw0 (by decide +kernel)) ?_
    refine s_icmp_ge (tgt := 28) E dX8_hasCell_9 (by decide) (fun _ => ?_) (fun hh => (by have q0 := h_1; have q1 := hh; (try simp only [lg_cmp_lt, lg_cmp_le, lg_cmp_ge, lg_cmp_gt] at q0 q1); (try simp only [Int32.lt_iff_toInt_lt, Int32.le_iff_toInt_le, Int64.lt_iff_toInt_lt, Int64.le_iff_toInt_le, ← Int32.toInt_inj, ← Int64.toInt_inj, Int32.toInt_toInt64] at q0 q1); have e0 : (0 : Int32).toInt = 0 := (by decide); have e1 : (0 : Int64).toInt = 0 := (by decide); (try simp only [e0, e1] at q0 q1); omega))
    refine s_iconst (v := 0) E dX8_hasCell_28 (by decide) ?_
    exact r_bool E dX8_hasCell_29 (Or.inl rfl) ⟨rfl, rfl⟩
set_option maxRecDepth 20000 in
set_option maxHeartbeats 2000000 in
theorem K_X9_minister_0_CRMS (l : Launch) (D : va_G) (aC : Nat → ClassId) (b : Nat) (w : XW) (x1 : Int32) (x2 : Int32) (hw0 : FrC w) (hw1 : RfC w) (hw2 : FrM w) (hw3 : RfM w) : CnI l D aC b M_X9_minister 1 22 0 0 [AR 0, AI x1, AI x2] w (fun r u => r = (-2) ∧ w = u) := by
  refine cn_I (own := RX9) (nm := "minister") (L0 := [some (AR 0), some (AI x1), some (AI x2)]) (by decide +kernel) rfl rfl (Nat.le_of_ble_eq_true rfl) rfl ?_
  intro p e s m args below meth c E hin
  refine s_aload_n E dX9_minister_0 rfl rfl ?_
  refine s_gR (r := 2) E fg_X9_20 rfl rfl (ltn hw0.1 (by decide)) (fc_r hw0 (by decide +kernel)) dX9_minister_1 ?_
  refine s_gR (r := 7) E fg_X9_136 rfl rfl (ltn hw0.1 (by decide)) (fc_r hw0 (by decide +kernel)) dX9_minister_4 ?_
  refine s_iload_n E dX9_minister_7 rfl rfl ?_
  refine s_iload_n E dX9_minister_8 rfl rfl ?_
  refine s_vI (As := [AI x1, AI x2]) (S := []) E (K_X8_hasCell_7_CRMS l D aC b w x1 x2 hw0 hw1 hw2 hw3) cv_X9_123 rfl rfl rfl (ltn hw0.1 (by decide)) (Nat.le_of_ble_eq_true rfl) (Nat.le_of_ble_eq_true rfl) ⟨(Nat.le_of_ble_eq_true rfl), (Nat.le_of_ble_eq_true rfl)⟩ (Nat.le_of_ble_eq_true rfl) dX9_minister_9 (fun r u hp => ?_)
  obtain ⟨rfl, rfl⟩ := hp
  refine s_if_eq (tgt := 30) E dX9_minister_12 (by decide) (fun _ => ?_) (fun hh => absurd (by decide) hh)
  refine s_bipush (v := (-2)) E dX9_minister_30 (by decide) ?_
  exact r_int E dX9_minister_32 ⟨rfl, rfl⟩
set_option maxRecDepth 20000 in
set_option maxHeartbeats 2000000 in
theorem K_X8_has_5_CRMS (l : Launch) (D : va_G) (aC : Nat → ClassId) (b : Nat) (w : XW) (x1 : Int32) (hw0 : FrC w) (hw1 : RfC w) (hw2 : FrM w) (hw3 : RfM w) : CnI l D aC b M_X8_has 0 0 0 0 [AR 5, AI x1] w (fun r u => r = 0 ∧ w = u) := by
  refine cn_I (own := RX8) (nm := "has") (L0 := [some (AR 5), some (AI x1)]) (by decide +kernel) rfl rfl (Nat.le_of_ble_eq_true rfl) rfl ?_
  intro p e s m args below meth c E hin
  refine s_iload_n E dX8_has_0 rfl rfl ?_
  refine s_if_lt (tgt := 16) E dX8_has_1 (by decide) (fun h_1 => ?_) (fun h_1 => ?_)
  ·
    refine s_iconst (v := 0) E dX8_has_16 (by decide) ?_
    exact r_bool E dX8_has_17 (Or.inl rfl) ⟨rfl, rfl⟩
  ·
    refine s_iload_n E dX8_has_4 rfl rfl ?_
    refine s_aload_n E dX8_has_5 rfl rfl ?_
    refine s_gI E fg_X8_28 rfl rfl (ltn hw0.1 (by decide)) dX8_has_6 ?_
    refine s_top (y := 0) (fc_i hw0 (by decide +kernel)) ?_
    refine s_icmp_ge (tgt := 16) E dX8_has_9 (by decide) (fun _ => ?_) (fun hh => (by have q0 := h_1; have q1 := hh; (try simp only [lg_cmp_lt, lg_cmp_le, lg_cmp_ge, lg_cmp_gt] at q0 q1); (try simp only [Int32.lt_iff_toInt_lt, Int32.le_iff_toInt_le, Int64.lt_iff_toInt_lt, Int64.le_iff_toInt_le, ← Int32.toInt_inj, ← Int64.toInt_inj, Int32.toInt_toInt64] at q0 q1); have e0 : (0 : Int32).toInt = 0 := (by decide); have e1 : (0 : Int64).toInt = 0 := (by decide); (try simp only [e0, e1] at q0 q1); omega))
    refine s_iconst (v := 0) E dX8_has_16 (by decide) ?_
    exact r_bool E dX8_has_17 (Or.inl rfl) ⟨rfl, rfl⟩
set_option maxRecDepth 20000 in
set_option maxHeartbeats 2000000 in
theorem K_X0_hasLady_2_CRMS (l : Launch) (D : va_G) (aC : Nat → ClassId) (b : Nat) (w : XW) (x1 : Int32) (hw0 : FrC w) (hw1 : RfC w) (hw2 : FrM w) (hw3 : RfM w) : CnI l D aC b M_X0_hasLady 1 21 0 0 [AR 2, AI x1] w (fun r u => r = 0 ∧ w = u) := by
  refine cn_I (own := RX0) (nm := "hasLady") (L0 := [some (AR 2), some (AI x1)]) (by decide +kernel) rfl rfl (Nat.le_of_ble_eq_true rfl) rfl ?_
  intro p e s m args below meth c E hin
  refine s_aload_n E dX0_hasLady_0 rfl rfl ?_
  refine s_gR (r := 5) E fg_X0_20 rfl rfl (ltn hw0.1 (by decide)) (fc_r hw0 (by decide +kernel)) dX0_hasLady_1 ?_
  refine s_iload_n E dX0_hasLady_4 rfl rfl ?_
  refine s_vI (As := [AI x1]) (S := []) E (K_X8_has_5_CRMS l D aC b w x1 hw0 hw1 hw2 hw3) cv_X0_55 rfl rfl rfl (ltn hw0.1 (by decide)) (Nat.le_of_ble_eq_true rfl) (Nat.le_of_ble_eq_true rfl) ⟨(Nat.le_of_ble_eq_true rfl), (Nat.le_of_ble_eq_true rfl)⟩ (Nat.le_of_ble_eq_true rfl) dX0_hasLady_5 (fun r u hp => ?_)
  obtain ⟨rfl, rfl⟩ := hp
  exact r_bool E dX0_hasLady_8 (Or.inl rfl) ⟨rfl, rfl⟩
set_option maxRecDepth 20000 in
set_option maxHeartbeats 2000000 in
theorem K_X9_way_0_CRMS (l : Launch) (D : va_G) (aC : Nat → ClassId) (b : Nat) (w : XW) (x1 : Int32) (x2 : Int32) (x3 : Int32) (hw0 : FrC w) (hw1 : RfC w) (hw2 : FrM w) (hw3 : RfM w) : CnI l D aC b M_X9_way 2 42 0 0 [AR 0, AI x1, AI x2, AI x3] w (fun r u => r = (-2) ∧ w = u) := by
  refine cn_I (own := RX9) (nm := "way") (L0 := [some (AR 0), some (AI x1), some (AI x2), some (AI x3)]) (by decide +kernel) rfl rfl (Nat.le_of_ble_eq_true rfl) rfl ?_
  intro p e s m args below meth c E hin
  refine s_aload_n E dX9_way_0 rfl rfl ?_
  refine s_gR (r := 2) E fg_X9_20 rfl rfl (ltn hw0.1 (by decide)) (fc_r hw0 (by decide +kernel)) dX9_way_1 ?_
  refine s_iload_n E dX9_way_4 rfl rfl ?_
  refine s_vI (As := [AI x1]) (S := []) E (K_X0_hasLady_2_CRMS l D aC b w x1 hw0 hw1 hw2 hw3) cv_X9_139 rfl rfl rfl (ltn hw0.1 (by decide)) (Nat.le_of_ble_eq_true rfl) (Nat.le_of_ble_eq_true rfl) ⟨(Nat.le_of_ble_eq_true rfl), (Nat.le_of_ble_eq_true rfl)⟩ (Nat.le_of_ble_eq_true rfl) dX9_way_5 (fun r u hp => ?_)
  obtain ⟨rfl, rfl⟩ := hp
  refine s_if_eq (tgt := 33) E dX9_way_8 (by decide) (fun _ => ?_) (fun hh => absurd (by decide) hh)
  refine s_bipush (v := (-2)) E dX9_way_33 (by decide) ?_
  exact r_int E dX9_way_35 ⟨rfl, rfl⟩
set_option maxRecDepth 20000 in
set_option maxHeartbeats 2000000 in
theorem K_X9_reach_0_CRMS (l : Launch) (D : va_G) (aC : Nat → ClassId) (b : Nat) (w : XW) (x1 : Int32) (x2 : Int32) (hw0 : FrC w) (hw1 : RfC w) (hw2 : FrM w) (hw3 : RfM w) : CnI l D aC b M_X9_reach 2 42 0 0 [AR 0, AI x1, AI x2] w (fun r u => r = (-2) ∧ w = u) := by
  refine cn_I (own := RX9) (nm := "reach") (L0 := [some (AR 0), some (AI x1), some (AI x2)]) (by decide +kernel) rfl rfl (Nat.le_of_ble_eq_true rfl) rfl ?_
  intro p e s m args below meth c E hin
  refine s_aload_n E dX9_reach_0 rfl rfl ?_
  refine s_gR (r := 2) E fg_X9_20 rfl rfl (ltn hw0.1 (by decide)) (fc_r hw0 (by decide +kernel)) dX9_reach_1 ?_
  refine s_iload_n E dX9_reach_4 rfl rfl ?_
  refine s_vI (As := [AI x1]) (S := []) E (K_X0_hasLady_2_CRMS l D aC b w x1 hw0 hw1 hw2 hw3) cv_X9_139 rfl rfl rfl (ltn hw0.1 (by decide)) (Nat.le_of_ble_eq_true rfl) (Nat.le_of_ble_eq_true rfl) ⟨(Nat.le_of_ble_eq_true rfl), (Nat.le_of_ble_eq_true rfl)⟩ (Nat.le_of_ble_eq_true rfl) dX9_reach_5 (fun r u hp => ?_)
  obtain ⟨rfl, rfl⟩ := hp
  refine s_if_eq (tgt := 22) E dX9_reach_8 (by decide) (fun _ => ?_) (fun hh => absurd (by decide) hh)
  refine s_bipush (v := (-2)) E dX9_reach_22 (by decide) ?_
  exact r_int E dX9_reach_24 ⟨rfl, rfl⟩
set_option maxRecDepth 20000 in
set_option maxHeartbeats 2000000 in
theorem K_X9_bidden_0_CRMS (l : Launch) (D : va_G) (aC : Nat → ClassId) (b : Nat) (w : XW) (x1 : Int32) (x2 : Int32) (hw0 : FrC w) (hw1 : RfC w) (hw2 : FrM w) (hw3 : RfM w) : CnI l D aC b M_X9_bidden 2 42 0 0 [AR 0, AI x1, AI x2] w (fun r u => r = (-2) ∧ w = u) := by
  refine cn_I (own := RX9) (nm := "bidden") (L0 := [some (AR 0), some (AI x1), some (AI x2)]) (by decide +kernel) rfl rfl (Nat.le_of_ble_eq_true rfl) rfl ?_
  intro p e s m args below meth c E hin
  refine s_aload_n E dX9_bidden_0 rfl rfl ?_
  refine s_gR (r := 2) E fg_X9_20 rfl rfl (ltn hw0.1 (by decide)) (fc_r hw0 (by decide +kernel)) dX9_bidden_1 ?_
  refine s_iload_n E dX9_bidden_4 rfl rfl ?_
  refine s_vI (As := [AI x1]) (S := []) E (K_X0_hasLady_2_CRMS l D aC b w x1 hw0 hw1 hw2 hw3) cv_X9_139 rfl rfl rfl (ltn hw0.1 (by decide)) (Nat.le_of_ble_eq_true rfl) (Nat.le_of_ble_eq_true rfl) ⟨(Nat.le_of_ble_eq_true rfl), (Nat.le_of_ble_eq_true rfl)⟩ (Nat.le_of_ble_eq_true rfl) dX9_bidden_5 (fun r u hp => ?_)
  obtain ⟨rfl, rfl⟩ := hp
  refine s_if_eq (tgt := 22) E dX9_bidden_8 (by decide) (fun _ => ?_) (fun hh => absurd (by decide) hh)
  refine s_bipush (v := (-2)) E dX9_bidden_22 (by decide) ?_
  exact r_int E dX9_bidden_24 ⟨rfl, rfl⟩
set_option maxRecDepth 20000 in
set_option maxHeartbeats 2000000 in
theorem K_X9_at_0_CRMS (l : Launch) (D : va_G) (aC : Nat → ClassId) (b : Nat) (w : XW) (x1 : Int32) (x2 : Int32) (hw0 : FrC w) (hw1 : RfC w) (hw2 : FrM w) (hw3 : RfM w) : CnI l D aC b M_X9_at 2 42 0 0 [AR 0, AI x1, AI x2] w (fun r u => r = (-2) ∧ w = u) := by
  refine cn_I (own := RX9) (nm := "at") (L0 := [some (AR 0), some (AI x1), some (AI x2)]) (by decide +kernel) rfl rfl (Nat.le_of_ble_eq_true rfl) rfl ?_
  intro p e s m args below meth c E hin
  refine s_aload_n E dX9_at_0 rfl rfl ?_
  refine s_gR (r := 2) E fg_X9_20 rfl rfl (ltn hw0.1 (by decide)) (fc_r hw0 (by decide +kernel)) dX9_at_1 ?_
  refine s_iload_n E dX9_at_4 rfl rfl ?_
  refine s_vI (As := [AI x1]) (S := []) E (K_X0_hasLady_2_CRMS l D aC b w x1 hw0 hw1 hw2 hw3) cv_X9_139 rfl rfl rfl (ltn hw0.1 (by decide)) (Nat.le_of_ble_eq_true rfl) (Nat.le_of_ble_eq_true rfl) ⟨(Nat.le_of_ble_eq_true rfl), (Nat.le_of_ble_eq_true rfl)⟩ (Nat.le_of_ble_eq_true rfl) dX9_at_5 (fun r u hp => ?_)
  obtain ⟨rfl, rfl⟩ := hp
  refine s_if_eq (tgt := 22) E dX9_at_8 (by decide) (fun _ => ?_) (fun hh => absurd (by decide) hh)
  refine s_bipush (v := (-2)) E dX9_at_22 (by decide) ?_
  exact r_int E dX9_at_24 ⟨rfl, rfl⟩
set_option maxRecDepth 20000 in
set_option maxHeartbeats 2000000 in
theorem K_X0_hasRoom_2_CRMS (l : Launch) (D : va_G) (aC : Nat → ClassId) (b : Nat) (w : XW) (x1 : Int32) (hw0 : FrC w) (hw1 : RfC w) (hw2 : FrM w) (hw3 : RfM w) : CnI l D aC b M_X0_hasRoom 0 0 0 0 [AR 2, AI x1] w (fun r u => r = 0 ∧ w = u) := by
  refine cn_I (own := RX0) (nm := "hasRoom") (L0 := [some (AR 2), some (AI x1)]) (by decide +kernel) rfl rfl (Nat.le_of_ble_eq_true rfl) rfl ?_
  intro p e s m args below meth c E hin
  refine s_iload_n E dX0_hasRoom_0 rfl rfl ?_
  refine s_if_lt (tgt := 16) E dX0_hasRoom_1 (by decide) (fun h_1 => ?_) (fun h_1 => ?_)
  ·
    refine s_iconst (v := 0) E dX0_hasRoom_16 (by decide) ?_
    exact r_bool E dX0_hasRoom_17 (Or.inl rfl) ⟨rfl, rfl⟩
  ·
    refine s_iload_n E dX0_hasRoom_4 rfl rfl ?_
    refine s_aload_n E dX0_hasRoom_5 rfl rfl ?_
    refine s_gI E fg_X0_36 rfl rfl (ltn hw0.1 (by decide)) dX0_hasRoom_6 ?_
    refine s_top (y := 0) (fc_i hw0 (by decide +kernel)) ?_
    refine s_icmp_ge (tgt := 16) E dX0_hasRoom_9 (by decide) (fun _ => ?_) (fun hh => (by have q0 := h_1; have q1 := hh; (try simp only [lg_cmp_lt, lg_cmp_le, lg_cmp_ge, lg_cmp_gt] at q0 q1); (try simp only [Int32.lt_iff_toInt_lt, Int32.le_iff_toInt_le, Int64.lt_iff_toInt_lt, Int64.le_iff_toInt_le, ← Int32.toInt_inj, ← Int64.toInt_inj, Int32.toInt_toInt64] at q0 q1); have e0 : (0 : Int32).toInt = 0 := (by decide); have e1 : (0 : Int64).toInt = 0 := (by decide); (try simp only [e0, e1] at q0 q1); omega))
    refine s_iconst (v := 0) E dX0_hasRoom_16 (by decide) ?_
    exact r_bool E dX0_hasRoom_17 (Or.inl rfl) ⟨rfl, rfl⟩
set_option maxRecDepth 20000 in
set_option maxHeartbeats 2000000 in
theorem K_X9_within_0_CRMS (l : Launch) (D : va_G) (aC : Nat → ClassId) (b : Nat) (w : XW) (x1 : Int32) (x2 : Int32) (hw0 : FrC w) (hw1 : RfC w) (hw2 : FrM w) (hw3 : RfM w) : CnI l D aC b M_X9_within 1 21 0 0 [AR 0, AI x1, AI x2] w (fun r u => r = (-2) ∧ w = u) := by
  refine cn_I (own := RX9) (nm := "within") (L0 := [some (AR 0), some (AI x1), some (AI x2)]) (by decide +kernel) rfl rfl (Nat.le_of_ble_eq_true rfl) rfl ?_
  intro p e s m args below meth c E hin
  refine s_aload_n E dX9_within_0 rfl rfl ?_
  refine s_gR (r := 2) E fg_X9_20 rfl rfl (ltn hw0.1 (by decide)) (fc_r hw0 (by decide +kernel)) dX9_within_1 ?_
  refine s_iload_n E dX9_within_4 rfl rfl ?_
  refine s_vI (As := [AI x1]) (S := []) E (K_X0_hasRoom_2_CRMS l D aC b w x1 hw0 hw1 hw2 hw3) cv_X9_143 rfl rfl rfl (ltn hw0.1 (by decide)) (Nat.le_of_ble_eq_true rfl) (Nat.le_of_ble_eq_true rfl) ⟨(Nat.le_of_ble_eq_true rfl), (Nat.le_of_ble_eq_true rfl)⟩ (Nat.le_of_ble_eq_true rfl) dX9_within_5 (fun r u hp => ?_)
  obtain ⟨rfl, rfl⟩ := hp
  refine s_if_eq (tgt := 22) E dX9_within_8 (by decide) (fun _ => ?_) (fun hh => absurd (by decide) hh)
  refine s_bipush (v := (-2)) E dX9_within_22 (by decide) ?_
  exact r_int E dX9_within_24 ⟨rfl, rfl⟩
set_option maxRecDepth 20000 in
set_option maxHeartbeats 2000000 in
theorem K_X9_steps_0_CRMS (l : Launch) (D : va_G) (aC : Nat → ClassId) (b : Nat) (w : XW) (x1 : Int32) (hw0 : FrC w) (hw1 : RfC w) (hw2 : FrM w) (hw3 : RfM w) : CnI l D aC b M_X9_steps 2 42 0 0 [AR 0, AI x1] w (fun r u => r = (-2) ∧ w = u) := by
  refine cn_I (own := RX9) (nm := "steps") (L0 := [some (AR 0), some (AI x1)]) (by decide +kernel) rfl rfl (Nat.le_of_ble_eq_true rfl) rfl ?_
  intro p e s m args below meth c E hin
  refine s_aload_n E dX9_steps_0 rfl rfl ?_
  refine s_gR (r := 2) E fg_X9_20 rfl rfl (ltn hw0.1 (by decide)) (fc_r hw0 (by decide +kernel)) dX9_steps_1 ?_
  refine s_iload_n E dX9_steps_4 rfl rfl ?_
  refine s_vI (As := [AI x1]) (S := []) E (K_X0_hasLady_2_CRMS l D aC b w x1 hw0 hw1 hw2 hw3) cv_X9_139 rfl rfl rfl (ltn hw0.1 (by decide)) (Nat.le_of_ble_eq_true rfl) (Nat.le_of_ble_eq_true rfl) ⟨(Nat.le_of_ble_eq_true rfl), (Nat.le_of_ble_eq_true rfl)⟩ (Nat.le_of_ble_eq_true rfl) dX9_steps_5 (fun r u hp => ?_)
  obtain ⟨rfl, rfl⟩ := hp
  refine s_if_eq (tgt := 22) E dX9_steps_8 (by decide) (fun _ => ?_) (fun hh => absurd (by decide) hh)
  refine s_bipush (v := (-2)) E dX9_steps_22 (by decide) ?_
  exact r_int E dX9_steps_24 ⟨rfl, rfl⟩
set_option maxRecDepth 20000 in
set_option maxHeartbeats 2000000 in
theorem K_X9_sees_0_CRMS (l : Launch) (D : va_G) (aC : Nat → ClassId) (b : Nat) (w : XW) (x1 : Int32) (hw0 : FrC w) (hw1 : RfC w) (hw2 : FrM w) (hw3 : RfM w) : CnI l D aC b M_X9_sees 2 42 0 0 [AR 0, AI x1] w (fun r u => r = (-2) ∧ w = u) := by
  refine cn_I (own := RX9) (nm := "sees") (L0 := [some (AR 0), some (AI x1), none, none]) (by decide +kernel) rfl rfl (Nat.le_of_ble_eq_true rfl) rfl ?_
  intro p e s m args below meth c E hin
  refine s_aload_n E dX9_sees_0 rfl rfl ?_
  refine s_gR (r := 2) E fg_X9_20 rfl rfl (ltn hw0.1 (by decide)) (fc_r hw0 (by decide +kernel)) dX9_sees_1 ?_
  refine s_iload_n E dX9_sees_4 rfl rfl ?_
  refine s_vI (As := [AI x1]) (S := []) E (K_X0_hasLady_2_CRMS l D aC b w x1 hw0 hw1 hw2 hw3) cv_X9_139 rfl rfl rfl (ltn hw0.1 (by decide)) (Nat.le_of_ble_eq_true rfl) (Nat.le_of_ble_eq_true rfl) ⟨(Nat.le_of_ble_eq_true rfl), (Nat.le_of_ble_eq_true rfl)⟩ (Nat.le_of_ble_eq_true rfl) dX9_sees_5 (fun r u hp => ?_)
  obtain ⟨rfl, rfl⟩ := hp
  refine s_if_ne (tgt := 14) E dX9_sees_8 (by decide) (fun hh => absurd (by decide) hh) (fun _ => ?_)
  refine s_bipush (v := (-2)) E dX9_sees_11 (by decide) ?_
  exact r_int E dX9_sees_13 ⟨rfl, rfl⟩
set_option maxRecDepth 20000 in
set_option maxHeartbeats 2000000 in
theorem K_X9_meets_0_CRMS (l : Launch) (D : va_G) (aC : Nat → ClassId) (b : Nat) (w : XW) (x1 : Int32) (x2 : Int32) (hw0 : FrC w) (hw1 : RfC w) (hw2 : FrM w) (hw3 : RfM w) : CnI l D aC b M_X9_meets 2 42 0 0 [AR 0, AI x1, AI x2] w (fun r u => r = (-2) ∧ w = u) := by
  refine cn_I (own := RX9) (nm := "meets") (L0 := [some (AR 0), some (AI x1), some (AI x2), none]) (by decide +kernel) rfl rfl (Nat.le_of_ble_eq_true rfl) rfl ?_
  intro p e s m args below meth c E hin
  refine s_aload_n E dX9_meets_0 rfl rfl ?_
  refine s_gR (r := 2) E fg_X9_20 rfl rfl (ltn hw0.1 (by decide)) (fc_r hw0 (by decide +kernel)) dX9_meets_1 ?_
  refine s_iload_n E dX9_meets_4 rfl rfl ?_
  refine s_vI (As := [AI x1]) (S := []) E (K_X0_hasLady_2_CRMS l D aC b w x1 hw0 hw1 hw2 hw3) cv_X9_139 rfl rfl rfl (ltn hw0.1 (by decide)) (Nat.le_of_ble_eq_true rfl) (Nat.le_of_ble_eq_true rfl) ⟨(Nat.le_of_ble_eq_true rfl), (Nat.le_of_ble_eq_true rfl)⟩ (Nat.le_of_ble_eq_true rfl) dX9_meets_5 (fun r u hp => ?_)
  obtain ⟨rfl, rfl⟩ := hp
  refine s_if_eq (tgt := 22) E dX9_meets_8 (by decide) (fun _ => ?_) (fun hh => absurd (by decide) hh)
  refine s_bipush (v := (-2)) E dX9_meets_22 (by decide) ?_
  exact r_int E dX9_meets_24 ⟨rfl, rfl⟩
set_option maxRecDepth 20000 in
set_option maxHeartbeats 2000000 in
theorem K_X9_often_0_CRMS (l : Launch) (D : va_G) (aC : Nat → ClassId) (b : Nat) (w : XW) (x1 : Int32) (x2 : Int32) (hw0 : FrC w) (hw1 : RfC w) (hw2 : FrM w) (hw3 : RfM w) : CnI l D aC b M_X9_often 2 42 0 0 [AR 0, AI x1, AI x2] w (fun r u => r = (-2) ∧ w = u) := by
  refine cn_I (own := RX9) (nm := "often") (L0 := [some (AR 0), some (AI x1), some (AI x2)]) (by decide +kernel) rfl rfl (Nat.le_of_ble_eq_true rfl) rfl ?_
  intro p e s m args below meth c E hin
  refine s_aload_n E dX9_often_0 rfl rfl ?_
  refine s_gR (r := 2) E fg_X9_20 rfl rfl (ltn hw0.1 (by decide)) (fc_r hw0 (by decide +kernel)) dX9_often_1 ?_
  refine s_iload_n E dX9_often_4 rfl rfl ?_
  refine s_vI (As := [AI x1]) (S := []) E (K_X0_hasLady_2_CRMS l D aC b w x1 hw0 hw1 hw2 hw3) cv_X9_139 rfl rfl rfl (ltn hw0.1 (by decide)) (Nat.le_of_ble_eq_true rfl) (Nat.le_of_ble_eq_true rfl) ⟨(Nat.le_of_ble_eq_true rfl), (Nat.le_of_ble_eq_true rfl)⟩ (Nat.le_of_ble_eq_true rfl) dX9_often_5 (fun r u hp => ?_)
  obtain ⟨rfl, rfl⟩ := hp
  refine s_if_eq (tgt := 22) E dX9_often_8 (by decide) (fun _ => ?_) (fun hh => absurd (by decide) hh)
  refine s_bipush (v := (-2)) E dX9_often_22 (by decide) ?_
  exact r_int E dX9_often_24 ⟨rfl, rfl⟩
set_option maxRecDepth 20000 in
set_option maxHeartbeats 2000000 in
theorem K_X9_friends_0_CRMS (l : Launch) (D : va_G) (aC : Nat → ClassId) (b : Nat) (w : XW) (x1 : Int32) (hw0 : FrC w) (hw1 : RfC w) (hw2 : FrM w) (hw3 : RfM w) : CnI l D aC b M_X9_friends 2 42 0 0 [AR 0, AI x1] w (fun r u => r = (-2) ∧ w = u) := by
  refine cn_I (own := RX9) (nm := "friends") (L0 := [some (AR 0), some (AI x1)]) (by decide +kernel) rfl rfl (Nat.le_of_ble_eq_true rfl) rfl ?_
  intro p e s m args below meth c E hin
  refine s_aload_n E dX9_friends_0 rfl rfl ?_
  refine s_gR (r := 2) E fg_X9_20 rfl rfl (ltn hw0.1 (by decide)) (fc_r hw0 (by decide +kernel)) dX9_friends_1 ?_
  refine s_iload_n E dX9_friends_4 rfl rfl ?_
  refine s_vI (As := [AI x1]) (S := []) E (K_X0_hasLady_2_CRMS l D aC b w x1 hw0 hw1 hw2 hw3) cv_X9_139 rfl rfl rfl (ltn hw0.1 (by decide)) (Nat.le_of_ble_eq_true rfl) (Nat.le_of_ble_eq_true rfl) ⟨(Nat.le_of_ble_eq_true rfl), (Nat.le_of_ble_eq_true rfl)⟩ (Nat.le_of_ble_eq_true rfl) dX9_friends_5 (fun r u hp => ?_)
  obtain ⟨rfl, rfl⟩ := hp
  refine s_if_eq (tgt := 22) E dX9_friends_8 (by decide) (fun _ => ?_) (fun hh => absurd (by decide) hh)
  refine s_bipush (v := (-2)) E dX9_friends_22 (by decide) ?_
  exact r_int E dX9_friends_24 ⟨rfl, rfl⟩
set_option maxRecDepth 20000 in
set_option maxHeartbeats 2000000 in
theorem K_X0_isTold_2_CRMS (l : Launch) (D : va_G) (aC : Nat → ClassId) (b : Nat) (w : XW)  (hw0 : FrC w) (hw1 : RfC w) (hw2 : FrM w) (hw3 : RfM w) : CnI l D aC b M_X0_isTold 0 0 0 0 [AR 2] w (fun r u => r = 0 ∧ w = u) := by
  refine cn_I (own := RX0) (nm := "isTold") (L0 := [some (AR 2)]) (by decide +kernel) rfl rfl (Nat.le_of_ble_eq_true rfl) rfl ?_
  intro p e s m args below meth c E hin
  refine s_aload_n E dX0_isTold_0 rfl rfl ?_
  refine s_gI E fg_X0_32 rfl rfl (ltn hw0.1 (by decide)) dX0_isTold_1 ?_
  refine s_top (y := 0) (fc_i hw0 (by decide +kernel)) ?_
  refine s_if_le (tgt := 11) E dX0_isTold_4 (by decide) (fun _ => ?_) (fun hh => absurd (by decide) hh)
  refine s_iconst (v := 0) E dX0_isTold_11 (by decide) ?_
  exact r_bool E dX0_isTold_12 (Or.inl rfl) ⟨rfl, rfl⟩
set_option maxRecDepth 20000 in
set_option maxHeartbeats 2000000 in
theorem K_X9_crush_0_CRMS (l : Launch) (D : va_G) (aC : Nat → ClassId) (b : Nat) (w : XW)  (hw0 : FrC w) (hw1 : RfC w) (hw2 : FrM w) (hw3 : RfM w) : CnI l D aC b M_X9_crush 1 20 0 0 [AR 0] w (fun r u => r = (-2) ∧ w = u) := by
  refine cn_I (own := RX9) (nm := "crush") (L0 := [some (AR 0), none, none]) (by decide +kernel) rfl rfl (Nat.le_of_ble_eq_true rfl) rfl ?_
  intro p e s m args below meth c E hin
  refine s_aload_n E dX9_crush_0 rfl rfl ?_
  refine s_gR (r := 2) E fg_X9_20 rfl rfl (ltn hw0.1 (by decide)) (fc_r hw0 (by decide +kernel)) dX9_crush_1 ?_
  refine s_vI (As := []) (S := []) E (K_X0_isTold_2_CRMS l D aC b w  hw0 hw1 hw2 hw3) cv_X9_184 rfl rfl rfl (ltn hw0.1 (by decide)) (Nat.le_of_ble_eq_true rfl) (Nat.le_of_ble_eq_true rfl) ⟨(Nat.le_of_ble_eq_true rfl), (Nat.le_of_ble_eq_true rfl)⟩ (Nat.le_of_ble_eq_true rfl) dX9_crush_4 (fun r u hp => ?_)
  obtain ⟨rfl, rfl⟩ := hp
  refine s_if_ne (tgt := 13) E dX9_crush_7 (by decide) (fun hh => absurd (by decide) hh) (fun _ => ?_)
  refine s_bipush (v := (-2)) E dX9_crush_10 (by decide) ?_
  exact r_int E dX9_crush_12 ⟨rfl, rfl⟩
set_option maxRecDepth 20000 in
set_option maxHeartbeats 2000000 in
theorem K_X9_crushed_0_CRMS (l : Launch) (D : va_G) (aC : Nat → ClassId) (b : Nat) (w : XW)  (hw0 : FrC w) (hw1 : RfC w) (hw2 : FrM w) (hw3 : RfM w) : CnI l D aC b M_X9_crushed 2 42 0 0 [AR 0] w (fun r u => r = (-2) ∧ w = u) := by
  refine cn_I (own := RX9) (nm := "crushed") (L0 := [some (AR 0), none, none]) (by decide +kernel) rfl rfl (Nat.le_of_ble_eq_true rfl) rfl ?_
  intro p e s m args below meth c E hin
  refine s_aload_n E dX9_crushed_0 rfl rfl ?_
  refine s_vI (As := []) (S := []) E (K_X9_crush_0_CRMS l D aC b w  hw0 hw1 hw2 hw3) cv_X9_196 rfl rfl rfl (ltn hw0.1 (by decide)) (Nat.le_of_ble_eq_true rfl) (Nat.le_of_ble_eq_true rfl) ⟨(Nat.le_of_ble_eq_true rfl), (Nat.le_of_ble_eq_true rfl)⟩ (Nat.le_of_ble_eq_true rfl) dX9_crushed_1 (fun r u hp => ?_)
  obtain ⟨rfl, rfl⟩ := hp
  refine s_istore_n (L2 := [some (AR 0), some (AI (-2)), none]) E dX9_crushed_4 rfl (by decide) rfl ?_
  refine s_iload_n E dX9_crushed_5 rfl rfl ?_
  refine s_if_ge (tgt := 12) E dX9_crushed_6 (by decide) (fun hh => absurd hh (by decide)) (fun _ => ?_)
  refine s_bipush (v := (-2)) E dX9_crushed_9 (by decide) ?_
  exact r_int E dX9_crushed_11 ⟨rfl, rfl⟩
set_option maxRecDepth 20000 in
set_option maxHeartbeats 2000000 in
theorem K_X9_likes_0_CRMS (l : Launch) (D : va_G) (aC : Nat → ClassId) (b : Nat) (w : XW) (x1 : Int32) (hw0 : FrC w) (hw1 : RfC w) (hw2 : FrM w) (hw3 : RfM w) : CnI l D aC b M_X9_likes 2 42 0 0 [AR 0, AI x1] w (fun r u => r = (-2) ∧ w = u) := by
  refine cn_I (own := RX9) (nm := "likes") (L0 := [some (AR 0), some (AI x1), none, none, none, none]) (by decide +kernel) rfl rfl (Nat.le_of_ble_eq_true rfl) rfl ?_
  intro p e s m args below meth c E hin
  refine s_aload_n E dX9_likes_0 rfl rfl ?_
  refine s_gR (r := 2) E fg_X9_20 rfl rfl (ltn hw0.1 (by decide)) (fc_r hw0 (by decide +kernel)) dX9_likes_1 ?_
  refine s_iload_n E dX9_likes_4 rfl rfl ?_
  refine s_vI (As := [AI x1]) (S := []) E (K_X0_hasLady_2_CRMS l D aC b w x1 hw0 hw1 hw2 hw3) cv_X9_139 rfl rfl rfl (ltn hw0.1 (by decide)) (Nat.le_of_ble_eq_true rfl) (Nat.le_of_ble_eq_true rfl) ⟨(Nat.le_of_ble_eq_true rfl), (Nat.le_of_ble_eq_true rfl)⟩ (Nat.le_of_ble_eq_true rfl) dX9_likes_5 (fun r u hp => ?_)
  obtain ⟨rfl, rfl⟩ := hp
  refine s_if_ne (tgt := 14) E dX9_likes_8 (by decide) (fun hh => absurd (by decide) hh) (fun _ => ?_)
  refine s_bipush (v := (-2)) E dX9_likes_11 (by decide) ?_
  exact r_int E dX9_likes_13 ⟨rfl, rfl⟩
set_option maxRecDepth 20000 in
set_option maxHeartbeats 2000000 in
theorem K_X9_apart_0_CRMS (l : Launch) (D : va_G) (aC : Nat → ClassId) (b : Nat) (w : XW) (x1 : Int32) (x2 : Int32) (x3 : Int32) (hw0 : FrC w) (hw1 : RfC w) (hw2 : FrM w) (hw3 : RfM w) : CnI l D aC b M_X9_apart 2 42 0 0 [AR 0, AI x1, AI x2, AI x3] w (fun r u => r = (-2) ∧ w = u) := by
  refine cn_I (own := RX9) (nm := "apart") (L0 := [some (AR 0), some (AI x1), some (AI x2), some (AI x3)]) (by decide +kernel) rfl rfl (Nat.le_of_ble_eq_true rfl) rfl ?_
  intro p e s m args below meth c E hin
  refine s_aload_n E dX9_apart_0 rfl rfl ?_
  refine s_gR (r := 2) E fg_X9_20 rfl rfl (ltn hw0.1 (by decide)) (fc_r hw0 (by decide +kernel)) dX9_apart_1 ?_
  refine s_iload_n E dX9_apart_4 rfl rfl ?_
  refine s_vI (As := [AI x1]) (S := []) E (K_X0_hasLady_2_CRMS l D aC b w x1 hw0 hw1 hw2 hw3) cv_X9_139 rfl rfl rfl (ltn hw0.1 (by decide)) (Nat.le_of_ble_eq_true rfl) (Nat.le_of_ble_eq_true rfl) ⟨(Nat.le_of_ble_eq_true rfl), (Nat.le_of_ble_eq_true rfl)⟩ (Nat.le_of_ble_eq_true rfl) dX9_apart_5 (fun r u hp => ?_)
  obtain ⟨rfl, rfl⟩ := hp
  refine s_if_eq (tgt := 33) E dX9_apart_8 (by decide) (fun _ => ?_) (fun hh => absurd (by decide) hh)
  refine s_bipush (v := (-2)) E dX9_apart_33 (by decide) ?_
  exact r_int E dX9_apart_35 ⟨rfl, rfl⟩
set_option maxRecDepth 20000 in
set_option maxHeartbeats 2000000 in
theorem K_X0_hasDance_2_CRMS (l : Launch) (D : va_G) (aC : Nat → ClassId) (b : Nat) (w : XW) (x1 : Int32) (hw0 : FrC w) (hw1 : RfC w) (hw2 : FrM w) (hw3 : RfM w) : CnI l D aC b M_X0_hasDance 1 20 0 0 [AR 2, AI x1] w (fun r u => r = 0 ∧ w = u) := by
  refine cn_I (own := RX0) (nm := "hasDance") (L0 := [some (AR 2), some (AI x1)]) (by decide +kernel) rfl rfl (Nat.le_of_ble_eq_true rfl) rfl ?_
  intro p e s m args below meth c E hin
  refine s_aload_n E dX0_hasDance_0 rfl rfl ?_
  refine s_vI (As := []) (S := []) E (K_X0_isTold_2_CRMS l D aC b w  hw0 hw1 hw2 hw3) cv_X0_59 rfl rfl rfl (ltn hw0.1 (by decide)) (Nat.le_of_ble_eq_true rfl) (Nat.le_of_ble_eq_true rfl) ⟨(Nat.le_of_ble_eq_true rfl), (Nat.le_of_ble_eq_true rfl)⟩ (Nat.le_of_ble_eq_true rfl) dX0_hasDance_1 (fun r u hp => ?_)
  obtain ⟨rfl, rfl⟩ := hp
  refine s_if_eq (tgt := 23) E dX0_hasDance_4 (by decide) (fun _ => ?_) (fun hh => absurd (by decide) hh)
  refine s_iconst (v := 0) E dX0_hasDance_23 (by decide) ?_
  exact r_bool E dX0_hasDance_24 (Or.inl rfl) ⟨rfl, rfl⟩
set_option maxRecDepth 20000 in
set_option maxHeartbeats 2000000 in
theorem K_X9_alone_0_CRMS (l : Launch) (D : va_G) (aC : Nat → ClassId) (b : Nat) (w : XW) (x1 : Int32) (hw0 : FrC w) (hw1 : RfC w) (hw2 : FrM w) (hw3 : RfM w) : CnI l D aC b M_X9_alone 2 41 0 0 [AR 0, AI x1] w (fun r u => r = (-2) ∧ w = u) := by
  refine cn_I (own := RX9) (nm := "alone") (L0 := [some (AR 0), some (AI x1), none, none]) (by decide +kernel) rfl rfl (Nat.le_of_ble_eq_true rfl) rfl ?_
  intro p e s m args below meth c E hin
  refine s_aload_n E dX9_alone_0 rfl rfl ?_
  refine s_gR (r := 2) E fg_X9_20 rfl rfl (ltn hw0.1 (by decide)) (fc_r hw0 (by decide +kernel)) dX9_alone_1 ?_
  refine s_iload_n E dX9_alone_4 rfl rfl ?_
  refine s_vI (As := [AI x1]) (S := []) E (K_X0_hasDance_2_CRMS l D aC b w x1 hw0 hw1 hw2 hw3) cv_X9_153 rfl rfl rfl (ltn hw0.1 (by decide)) (Nat.le_of_ble_eq_true rfl) (Nat.le_of_ble_eq_true rfl) ⟨(Nat.le_of_ble_eq_true rfl), (Nat.le_of_ble_eq_true rfl)⟩ (Nat.le_of_ble_eq_true rfl) dX9_alone_5 (fun r u hp => ?_)
  obtain ⟨rfl, rfl⟩ := hp
  refine s_if_ne (tgt := 14) E dX9_alone_8 (by decide) (fun hh => absurd (by decide) hh) (fun _ => ?_)
  refine s_bipush (v := (-2)) E dX9_alone_11 (by decide) ?_
  exact r_int E dX9_alone_13 ⟨rfl, rfl⟩
set_option maxRecDepth 20000 in
set_option maxHeartbeats 2000000 in
theorem K_X9_empty_0_CRMS (l : Launch) (D : va_G) (aC : Nat → ClassId) (b : Nat) (w : XW) (x1 : Int32) (hw0 : FrC w) (hw1 : RfC w) (hw2 : FrM w) (hw3 : RfM w) : CnI l D aC b M_X9_empty 2 41 0 0 [AR 0, AI x1] w (fun r u => r = (-2) ∧ w = u) := by
  refine cn_I (own := RX9) (nm := "empty") (L0 := [some (AR 0), some (AI x1), none, none]) (by decide +kernel) rfl rfl (Nat.le_of_ble_eq_true rfl) rfl ?_
  intro p e s m args below meth c E hin
  refine s_aload_n E dX9_empty_0 rfl rfl ?_
  refine s_gR (r := 2) E fg_X9_20 rfl rfl (ltn hw0.1 (by decide)) (fc_r hw0 (by decide +kernel)) dX9_empty_1 ?_
  refine s_iload_n E dX9_empty_4 rfl rfl ?_
  refine s_vI (As := [AI x1]) (S := []) E (K_X0_hasDance_2_CRMS l D aC b w x1 hw0 hw1 hw2 hw3) cv_X9_153 rfl rfl rfl (ltn hw0.1 (by decide)) (Nat.le_of_ble_eq_true rfl) (Nat.le_of_ble_eq_true rfl) ⟨(Nat.le_of_ble_eq_true rfl), (Nat.le_of_ble_eq_true rfl)⟩ (Nat.le_of_ble_eq_true rfl) dX9_empty_5 (fun r u hp => ?_)
  obtain ⟨rfl, rfl⟩ := hp
  refine s_if_ne (tgt := 14) E dX9_empty_8 (by decide) (fun hh => absurd (by decide) hh) (fun _ => ?_)
  refine s_bipush (v := (-2)) E dX9_empty_11 (by decide) ?_
  exact r_int E dX9_empty_13 ⟨rfl, rfl⟩
set_option maxRecDepth 20000 in
set_option maxHeartbeats 2000000 in
theorem K_X9_late_0_CRMS (l : Launch) (D : va_G) (aC : Nat → ClassId) (b : Nat) (w : XW) (x1 : Int32) (hw0 : FrC w) (hw1 : RfC w) (hw2 : FrM w) (hw3 : RfM w) : CnI l D aC b M_X9_late 2 42 0 0 [AR 0, AI x1] w (fun r u => r = (-2) ∧ w = u) := by
  refine cn_I (own := RX9) (nm := "late") (L0 := [some (AR 0), some (AI x1), none]) (by decide +kernel) rfl rfl (Nat.le_of_ble_eq_true rfl) rfl ?_
  intro p e s m args below meth c E hin
  refine s_aload_n E dX9_late_0 rfl rfl ?_
  refine s_gR (r := 2) E fg_X9_20 rfl rfl (ltn hw0.1 (by decide)) (fc_r hw0 (by decide +kernel)) dX9_late_1 ?_
  refine s_iload_n E dX9_late_4 rfl rfl ?_
  refine s_vI (As := [AI x1]) (S := []) E (K_X0_hasLady_2_CRMS l D aC b w x1 hw0 hw1 hw2 hw3) cv_X9_139 rfl rfl rfl (ltn hw0.1 (by decide)) (Nat.le_of_ble_eq_true rfl) (Nat.le_of_ble_eq_true rfl) ⟨(Nat.le_of_ble_eq_true rfl), (Nat.le_of_ble_eq_true rfl)⟩ (Nat.le_of_ble_eq_true rfl) dX9_late_5 (fun r u hp => ?_)
  obtain ⟨rfl, rfl⟩ := hp
  refine s_if_ne (tgt := 14) E dX9_late_8 (by decide) (fun hh => absurd (by decide) hh) (fun _ => ?_)
  refine s_bipush (v := (-2)) E dX9_late_11 (by decide) ?_
  exact r_int E dX9_late_13 ⟨rfl, rfl⟩
set_option maxRecDepth 20000 in
set_option maxHeartbeats 2000000 in
theorem K_X9_waits_0_CRMS (l : Launch) (D : va_G) (aC : Nat → ClassId) (b : Nat) (w : XW) (x1 : Int32) (hw0 : FrC w) (hw1 : RfC w) (hw2 : FrM w) (hw3 : RfM w) : CnI l D aC b M_X9_waits 2 42 0 0 [AR 0, AI x1] w (fun r u => r = (-2) ∧ w = u) := by
  refine cn_I (own := RX9) (nm := "waits") (L0 := [some (AR 0), some (AI x1), none, none, none, none]) (by decide +kernel) rfl rfl (Nat.le_of_ble_eq_true rfl) rfl ?_
  intro p e s m args below meth c E hin
  refine s_aload_n E dX9_waits_0 rfl rfl ?_
  refine s_gR (r := 2) E fg_X9_20 rfl rfl (ltn hw0.1 (by decide)) (fc_r hw0 (by decide +kernel)) dX9_waits_1 ?_
  refine s_iload_n E dX9_waits_4 rfl rfl ?_
  refine s_vI (As := [AI x1]) (S := []) E (K_X0_hasLady_2_CRMS l D aC b w x1 hw0 hw1 hw2 hw3) cv_X9_139 rfl rfl rfl (ltn hw0.1 (by decide)) (Nat.le_of_ble_eq_true rfl) (Nat.le_of_ble_eq_true rfl) ⟨(Nat.le_of_ble_eq_true rfl), (Nat.le_of_ble_eq_true rfl)⟩ (Nat.le_of_ble_eq_true rfl) dX9_waits_5 (fun r u hp => ?_)
  obtain ⟨rfl, rfl⟩ := hp
  refine s_if_ne (tgt := 14) E dX9_waits_8 (by decide) (fun hh => absurd (by decide) hh) (fun _ => ?_)
  refine s_bipush (v := (-2)) E dX9_waits_11 (by decide) ?_
  exact r_int E dX9_waits_13 ⟨rfl, rfl⟩
set_option maxRecDepth 20000 in
set_option maxHeartbeats 2000000 in
theorem K_X9_mate_0_CRMS (l : Launch) (D : va_G) (aC : Nat → ClassId) (b : Nat) (w : XW) (x1 : Int32) (hw0 : FrC w) (hw1 : RfC w) (hw2 : FrM w) (hw3 : RfM w) : CnI l D aC b M_X9_mate 2 42 0 0 [AR 0, AI x1] w (fun r u => r = (-2) ∧ w = u) := by
  refine cn_I (own := RX9) (nm := "mate") (L0 := [some (AR 0), some (AI x1), none, none, none, none]) (by decide +kernel) rfl rfl (Nat.le_of_ble_eq_true rfl) rfl ?_
  intro p e s m args below meth c E hin
  refine s_aload_n E dX9_mate_0 rfl rfl ?_
  refine s_gR (r := 2) E fg_X9_20 rfl rfl (ltn hw0.1 (by decide)) (fc_r hw0 (by decide +kernel)) dX9_mate_1 ?_
  refine s_iload_n E dX9_mate_4 rfl rfl ?_
  refine s_vI (As := [AI x1]) (S := []) E (K_X0_hasLady_2_CRMS l D aC b w x1 hw0 hw1 hw2 hw3) cv_X9_139 rfl rfl rfl (ltn hw0.1 (by decide)) (Nat.le_of_ble_eq_true rfl) (Nat.le_of_ble_eq_true rfl) ⟨(Nat.le_of_ble_eq_true rfl), (Nat.le_of_ble_eq_true rfl)⟩ (Nat.le_of_ble_eq_true rfl) dX9_mate_5 (fun r u hp => ?_)
  obtain ⟨rfl, rfl⟩ := hp
  refine s_if_ne (tgt := 14) E dX9_mate_8 (by decide) (fun hh => absurd (by decide) hh) (fun _ => ?_)
  refine s_bipush (v := (-2)) E dX9_mate_11 (by decide) ?_
  exact r_int E dX9_mate_13 ⟨rfl, rfl⟩
set_option maxRecDepth 20000 in
set_option maxHeartbeats 2000000 in
theorem K_X9_hears_0_CRMS (l : Launch) (D : va_G) (aC : Nat → ClassId) (b : Nat) (w : XW) (x1 : Int32) (hw0 : FrC w) (hw1 : RfC w) (hw2 : FrM w) (hw3 : RfM w) : CnI l D aC b M_X9_hears 2 42 0 0 [AR 0, AI x1] w (fun r u => r = (-2) ∧ w = u) := by
  refine cn_I (own := RX9) (nm := "hears") (L0 := [some (AR 0), some (AI x1), none, none]) (by decide +kernel) rfl rfl (Nat.le_of_ble_eq_true rfl) rfl ?_
  intro p e s m args below meth c E hin
  refine s_aload_n E dX9_hears_0 rfl rfl ?_
  refine s_gR (r := 2) E fg_X9_20 rfl rfl (ltn hw0.1 (by decide)) (fc_r hw0 (by decide +kernel)) dX9_hears_1 ?_
  refine s_iload_n E dX9_hears_4 rfl rfl ?_
  refine s_vI (As := [AI x1]) (S := []) E (K_X0_hasLady_2_CRMS l D aC b w x1 hw0 hw1 hw2 hw3) cv_X9_139 rfl rfl rfl (ltn hw0.1 (by decide)) (Nat.le_of_ble_eq_true rfl) (Nat.le_of_ble_eq_true rfl) ⟨(Nat.le_of_ble_eq_true rfl), (Nat.le_of_ble_eq_true rfl)⟩ (Nat.le_of_ble_eq_true rfl) dX9_hears_5 (fun r u hp => ?_)
  obtain ⟨rfl, rfl⟩ := hp
  refine s_if_ne (tgt := 14) E dX9_hears_8 (by decide) (fun hh => absurd (by decide) hh) (fun _ => ?_)
  refine s_bipush (v := (-2)) E dX9_hears_11 (by decide) ?_
  exact r_int E dX9_hears_13 ⟨rfl, rfl⟩
set_option maxRecDepth 20000 in
set_option maxHeartbeats 2000000 in
theorem K_X9_hands_0_CRMS (l : Launch) (D : va_G) (aC : Nat → ClassId) (b : Nat) (w : XW) (x1 : Int32) (x2 : Int32) (hw0 : FrC w) (hw1 : RfC w) (hw2 : FrM w) (hw3 : RfM w) : CnI l D aC b M_X9_hands 2 42 0 0 [AR 0, AI x1, AI x2] w (fun r u => r = (-2) ∧ w = u) := by
  refine cn_I (own := RX9) (nm := "hands") (L0 := [some (AR 0), some (AI x1), some (AI x2), none, none]) (by decide +kernel) rfl rfl (Nat.le_of_ble_eq_true rfl) rfl ?_
  intro p e s m args below meth c E hin
  refine s_aload_n E dX9_hands_0 rfl rfl ?_
  refine s_gR (r := 2) E fg_X9_20 rfl rfl (ltn hw0.1 (by decide)) (fc_r hw0 (by decide +kernel)) dX9_hands_1 ?_
  refine s_iload_n E dX9_hands_4 rfl rfl ?_
  refine s_vI (As := [AI x1]) (S := []) E (K_X0_hasLady_2_CRMS l D aC b w x1 hw0 hw1 hw2 hw3) cv_X9_139 rfl rfl rfl (ltn hw0.1 (by decide)) (Nat.le_of_ble_eq_true rfl) (Nat.le_of_ble_eq_true rfl) ⟨(Nat.le_of_ble_eq_true rfl), (Nat.le_of_ble_eq_true rfl)⟩ (Nat.le_of_ble_eq_true rfl) dX9_hands_5 (fun r u hp => ?_)
  obtain ⟨rfl, rfl⟩ := hp
  refine s_if_eq (tgt := 22) E dX9_hands_8 (by decide) (fun _ => ?_) (fun hh => absurd (by decide) hh)
  refine s_bipush (v := (-2)) E dX9_hands_22 (by decide) ?_
  exact r_int E dX9_hands_24 ⟨rfl, rfl⟩
set_option maxRecDepth 20000 in
set_option maxHeartbeats 2000000 in
theorem K_X9_dummies_0_CRMS (l : Launch) (D : va_G) (aC : Nat → ClassId) (b : Nat) (w : XW)  (hw0 : FrC w) (hw1 : RfC w) (hw2 : FrM w) (hw3 : RfM w) : CnI l D aC b M_X9_dummies 1 20 0 0 [AR 0] w (fun r u => r = (-2) ∧ w = u) := by
  refine cn_I (own := RX9) (nm := "dummies") (L0 := [some (AR 0), none, none]) (by decide +kernel) rfl rfl (Nat.le_of_ble_eq_true rfl) rfl ?_
  intro p e s m args below meth c E hin
  refine s_aload_n E dX9_dummies_0 rfl rfl ?_
  refine s_gR (r := 2) E fg_X9_20 rfl rfl (ltn hw0.1 (by decide)) (fc_r hw0 (by decide +kernel)) dX9_dummies_1 ?_
  refine s_vI (As := []) (S := []) E (K_X0_isTold_2_CRMS l D aC b w  hw0 hw1 hw2 hw3) cv_X9_184 rfl rfl rfl (ltn hw0.1 (by decide)) (Nat.le_of_ble_eq_true rfl) (Nat.le_of_ble_eq_true rfl) ⟨(Nat.le_of_ble_eq_true rfl), (Nat.le_of_ble_eq_true rfl)⟩ (Nat.le_of_ble_eq_true rfl) dX9_dummies_4 (fun r u hp => ?_)
  obtain ⟨rfl, rfl⟩ := hp
  refine s_if_ne (tgt := 13) E dX9_dummies_7 (by decide) (fun hh => absurd (by decide) hh) (fun _ => ?_)
  refine s_bipush (v := (-2)) E dX9_dummies_10 (by decide) ?_
  exact r_int E dX9_dummies_12 ⟨rfl, rfl⟩
set_option maxRecDepth 20000 in
set_option maxHeartbeats 2000000 in
theorem K_X0_hasSet_2_CRMS (l : Launch) (D : va_G) (aC : Nat → ClassId) (b : Nat) (w : XW) (x1 : Int32) (hw0 : FrC w) (hw1 : RfC w) (hw2 : FrM w) (hw3 : RfM w) : CnI l D aC b M_X0_hasSet 1 20 0 0 [AR 2, AI x1] w (fun r u => r = 0 ∧ w = u) := by
  refine cn_I (own := RX0) (nm := "hasSet") (L0 := [some (AR 2), some (AI x1)]) (by decide +kernel) rfl rfl (Nat.le_of_ble_eq_true rfl) rfl ?_
  intro p e s m args below meth c E hin
  refine s_aload_n E dX0_hasSet_0 rfl rfl ?_
  refine s_vI (As := []) (S := []) E (K_X0_isTold_2_CRMS l D aC b w  hw0 hw1 hw2 hw3) cv_X0_59 rfl rfl rfl (ltn hw0.1 (by decide)) (Nat.le_of_ble_eq_true rfl) (Nat.le_of_ble_eq_true rfl) ⟨(Nat.le_of_ble_eq_true rfl), (Nat.le_of_ble_eq_true rfl)⟩ (Nat.le_of_ble_eq_true rfl) dX0_hasSet_1 (fun r u hp => ?_)
  obtain ⟨rfl, rfl⟩ := hp
  refine s_if_eq (tgt := 23) E dX0_hasSet_4 (by decide) (fun _ => ?_) (fun hh => absurd (by decide) hh)
  refine s_iconst (v := 0) E dX0_hasSet_23 (by decide) ?_
  exact r_bool E dX0_hasSet_24 (Or.inl rfl) ⟨rfl, rfl⟩
set_option maxRecDepth 20000 in
set_option maxHeartbeats 2000000 in
theorem K_X9_blocks_0_CRMS (l : Launch) (D : va_G) (aC : Nat → ClassId) (b : Nat) (w : XW) (x1 : Int32) (hw0 : FrC w) (hw1 : RfC w) (hw2 : FrM w) (hw3 : RfM w) : CnI l D aC b M_X9_blocks 2 41 0 0 [AR 0, AI x1] w (fun r u => r = (-2) ∧ w = u) := by
  refine cn_I (own := RX9) (nm := "blocks") (L0 := [some (AR 0), some (AI x1)]) (by decide +kernel) rfl rfl (Nat.le_of_ble_eq_true rfl) rfl ?_
  intro p e s m args below meth c E hin
  refine s_aload_n E dX9_blocks_0 rfl rfl ?_
  refine s_gR (r := 2) E fg_X9_20 rfl rfl (ltn hw0.1 (by decide)) (fc_r hw0 (by decide +kernel)) dX9_blocks_1 ?_
  refine s_iload_n E dX9_blocks_4 rfl rfl ?_
  refine s_vI (As := [AI x1]) (S := []) E (K_X0_hasSet_2_CRMS l D aC b w x1 hw0 hw1 hw2 hw3) cv_X9_308 rfl rfl rfl (ltn hw0.1 (by decide)) (Nat.le_of_ble_eq_true rfl) (Nat.le_of_ble_eq_true rfl) ⟨(Nat.le_of_ble_eq_true rfl), (Nat.le_of_ble_eq_true rfl)⟩ (Nat.le_of_ble_eq_true rfl) dX9_blocks_5 (fun r u hp => ?_)
  obtain ⟨rfl, rfl⟩ := hp
  refine s_if_ne (tgt := 14) E dX9_blocks_8 (by decide) (fun hh => absurd (by decide) hh) (fun _ => ?_)
  refine s_bipush (v := (-2)) E dX9_blocks_11 (by decide) ?_
  exact r_int E dX9_blocks_13 ⟨rfl, rfl⟩
set_option maxRecDepth 20000 in
set_option maxHeartbeats 2000000 in
theorem K_X9_strongest_0_CRMS (l : Launch) (D : va_G) (aC : Nat → ClassId) (b : Nat) (w : XW)  (hw0 : FrC w) (hw1 : RfC w) (hw2 : FrM w) (hw3 : RfM w) : CnI l D aC b M_X9_strongest 1 20 0 0 [AR 0] w (fun r u => r = (-2) ∧ w = u) := by
  refine cn_I (own := RX9) (nm := "strongest") (L0 := [some (AR 0), none, none, none, none]) (by decide +kernel) rfl rfl (Nat.le_of_ble_eq_true rfl) rfl ?_
  intro p e s m args below meth c E hin
  refine s_aload_n E dX9_strongest_0 rfl rfl ?_
  refine s_gR (r := 2) E fg_X9_20 rfl rfl (ltn hw0.1 (by decide)) (fc_r hw0 (by decide +kernel)) dX9_strongest_1 ?_
  refine s_vI (As := []) (S := []) E (K_X0_isTold_2_CRMS l D aC b w  hw0 hw1 hw2 hw3) cv_X9_184 rfl rfl rfl (ltn hw0.1 (by decide)) (Nat.le_of_ble_eq_true rfl) (Nat.le_of_ble_eq_true rfl) ⟨(Nat.le_of_ble_eq_true rfl), (Nat.le_of_ble_eq_true rfl)⟩ (Nat.le_of_ble_eq_true rfl) dX9_strongest_4 (fun r u hp => ?_)
  obtain ⟨rfl, rfl⟩ := hp
  refine s_if_ne (tgt := 13) E dX9_strongest_7 (by decide) (fun hh => absurd (by decide) hh) (fun _ => ?_)
  refine s_bipush (v := (-2)) E dX9_strongest_10 (by decide) ?_
  exact r_int E dX9_strongest_12 ⟨rfl, rfl⟩
set_option maxRecDepth 20000 in
set_option maxHeartbeats 2000000 in
theorem K_X9_have_0_CRMS (l : Launch) (D : va_G) (aC : Nat → ClassId) (b : Nat) (w : XW) (x1 : Int32) (x2 : Int32) (hw0 : FrC w) (hw1 : RfC w) (hw2 : FrM w) (hw3 : RfM w) : CnI l D aC b M_X9_have 2 42 0 0 [AR 0, AI x1, AI x2] w (fun r u => r = (-2) ∧ w = u) := by
  refine cn_I (own := RX9) (nm := "have") (L0 := [some (AR 0), some (AI x1), some (AI x2)]) (by decide +kernel) rfl rfl (Nat.le_of_ble_eq_true rfl) rfl ?_
  intro p e s m args below meth c E hin
  refine s_aload_n E dX9_have_0 rfl rfl ?_
  refine s_gR (r := 2) E fg_X9_20 rfl rfl (ltn hw0.1 (by decide)) (fc_r hw0 (by decide +kernel)) dX9_have_1 ?_
  refine s_iload_n E dX9_have_4 rfl rfl ?_
  refine s_vI (As := [AI x1]) (S := []) E (K_X0_hasLady_2_CRMS l D aC b w x1 hw0 hw1 hw2 hw3) cv_X9_139 rfl rfl rfl (ltn hw0.1 (by decide)) (Nat.le_of_ble_eq_true rfl) (Nat.le_of_ble_eq_true rfl) ⟨(Nat.le_of_ble_eq_true rfl), (Nat.le_of_ble_eq_true rfl)⟩ (Nat.le_of_ble_eq_true rfl) dX9_have_5 (fun r u hp => ?_)
  obtain ⟨rfl, rfl⟩ := hp
  refine s_if_eq (tgt := 22) E dX9_have_8 (by decide) (fun _ => ?_) (fun hh => absurd (by decide) hh)
  refine s_bipush (v := (-2)) E dX9_have_22 (by decide) ?_
  exact r_int E dX9_have_24 ⟨rfl, rfl⟩
