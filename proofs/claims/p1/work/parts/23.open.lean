set_option maxRecDepth 20000 in
set_option maxHeartbeats 2000000 in
theorem K_X10_minister_95_MS (l : Launch) (D : va_G) (aC : Nat → ClassId) (b : Nat) (w : XW) (x1 : Int32) (x2 : Int32) (hw0 : FrM w) (hw1 : RfM w) : CnI l D aC b M_X10_minister 3 69 0 0 [AR 95, AI x1, AI x2] w (fun r u => r = (-2) ∧ FrM u ∧ RfM u) := by
  refine cn_I (own := RX10) (nm := "minister") (L0 := [some (AR 95), some (AI x1), some (AI x2)]) (by decide +kernel) rfl rfl (Nat.le_of_ble_eq_true rfl) rfl ?_
  intro p e s m args below meth c E hin
  refine s_aload_n E dX10_minister_0 rfl rfl ?_
  refine s_vV (As := []) (S := []) E (K_X10_asItIs_95_MS l D aC b w  hw0 hw1) cv_X10_279 rfl rfl rfl (ltn hw0.1 (by decide)) (Nat.le_of_ble_eq_true rfl) (Nat.le_of_ble_eq_true rfl) ⟨(Nat.le_of_ble_eq_true rfl), (Nat.le_of_ble_eq_true rfl)⟩ (Nat.le_of_ble_eq_true rfl) dX10_minister_1 (fun u_1 hp => ?_)
  obtain ⟨hu_1, hu_2⟩ := hp
  refine s_aload_n E dX10_minister_4 rfl rfl ?_
  refine s_iload_n E dX10_minister_5 rfl rfl ?_
  refine s_vI (As := [AI x1]) (S := []) E (K_X10_isMinister_95_MS l D aC b u_1 x1 hu_1 hu_2) cv_X10_285 rfl rfl rfl (ltn hu_1.1 (by decide)) (Nat.le_of_ble_eq_true rfl) (Nat.le_of_ble_eq_true rfl) ⟨(Nat.le_of_ble_eq_true rfl), (Nat.le_of_ble_eq_true rfl)⟩ (Nat.le_of_ble_eq_true rfl) dX10_minister_6 (fun r u hp => ?_)
  obtain ⟨rfl, rfl⟩ := hp
  refine s_if_eq (tgt := 22) E dX10_minister_9 (by decide) (fun _ => ?_) (fun hh => absurd (by decide) hh)
  refine s_bipush (v := (-2)) E dX10_minister_22 (by decide) ?_
  exact r_int E dX10_minister_24 ⟨rfl, ⟨hu_1, hu_2⟩⟩
set_option maxRecDepth 20000 in
set_option maxHeartbeats 2000000 in
theorem K_X10_asksLady_95_MS (l : Launch) (D : va_G) (aC : Nat → ClassId) (b : Nat) (w : XW) (x1 : Int32) (hw0 : FrM w) (hw1 : RfM w) : CnI l D aC b M_X10_asksLady 3 69 0 0 [AR 95, AI x1] w (fun r u => r = 0 ∧ FrM u ∧ RfM u) := by
  refine cn_I (own := RX10) (nm := "asksLady") (L0 := [some (AR 95), some (AI x1)]) (by decide +kernel) rfl rfl (Nat.le_of_ble_eq_true rfl) rfl ?_
  intro p e s m args below meth c E hin
  refine s_aload_n E dX10_asksLady_0 rfl rfl ?_
  refine s_vV (As := []) (S := []) E (K_X10_asItIs_95_MS l D aC b w  hw0 hw1) cv_X10_279 rfl rfl rfl (ltn hw0.1 (by decide)) (Nat.le_of_ble_eq_true rfl) (Nat.le_of_ble_eq_true rfl) ⟨(Nat.le_of_ble_eq_true rfl), (Nat.le_of_ble_eq_true rfl)⟩ (Nat.le_of_ble_eq_true rfl) dX10_asksLady_1 (fun u_1 hp => ?_)
  obtain ⟨hu_1, hu_2⟩ := hp
  refine s_aload_n E dX10_asksLady_4 rfl rfl ?_
  refine s_iload_n E dX10_asksLady_5 rfl rfl ?_
  refine s_i2l E dX10_asksLady_6 ?_
  refine s_vI (As := [AL ((x1 : Int32).toInt64)]) (S := []) E (K_X10_isLady_95_MS l D aC b u_1 (((x1 : Int32).toInt64)) hu_1 hu_2) cv_X10_222 rfl rfl rfl (ltn hu_1.1 (by decide)) (Nat.le_of_ble_eq_true rfl) (Nat.le_of_ble_eq_true rfl) ⟨(Nat.le_of_ble_eq_true rfl), (Nat.le_of_ble_eq_true rfl)⟩ (Nat.le_of_ble_eq_true rfl) dX10_asksLady_7 (fun r u hp => ?_)
  obtain ⟨rfl, rfl⟩ := hp
  exact r_bool E dX10_asksLady_10 (Or.inl rfl) ⟨rfl, ⟨hu_1, hu_2⟩⟩
set_option maxRecDepth 20000 in
set_option maxHeartbeats 2000000 in
theorem K_X10_way_95_MS (l : Launch) (D : va_G) (aC : Nat → ClassId) (b : Nat) (w : XW) (x1 : Int32) (x2 : Int32) (x3 : Int32) (hw0 : FrM w) (hw1 : RfM w) : CnI l D aC b M_X10_way 4 90 0 0 [AR 95, AI x1, AI x2, AI x3] w (fun r u => r = (-2) ∧ FrM u ∧ RfM u) := by
  refine cn_I (own := RX10) (nm := "way") (L0 := [some (AR 95), some (AI x1), some (AI x2), some (AI x3), none]) (by decide +kernel) rfl rfl (Nat.le_of_ble_eq_true rfl) rfl ?_
  intro p e s m args below meth c E hin
  refine s_aload_n E dX10_way_0 rfl rfl ?_
  refine s_iload_n E dX10_way_1 rfl rfl ?_
  refine s_vI (As := [AI x1]) (S := []) E (K_X10_asksLady_95_MS l D aC b w x1 hw0 hw1) cv_X10_288 rfl rfl rfl (ltn hw0.1 (by decide)) (Nat.le_of_ble_eq_true rfl) (Nat.le_of_ble_eq_true rfl) ⟨(Nat.le_of_ble_eq_true rfl), (Nat.le_of_ble_eq_true rfl)⟩ (Nat.le_of_ble_eq_true rfl) dX10_way_2 (fun r u_1 hp => ?_)
  obtain ⟨rfl, hu_1, hu_2⟩ := hp
  refine s_if_eq (tgt := 24) E dX10_way_5 (by decide) (fun _ => ?_) (fun hh => absurd (by decide) hh)
  refine s_bipush (v := (-2)) E dX10_way_24 (by decide) ?_
  exact r_int E dX10_way_26 ⟨rfl, ⟨hu_1, hu_2⟩⟩
set_option maxRecDepth 20000 in
set_option maxHeartbeats 2000000 in
theorem K_X10_reach_95_MS (l : Launch) (D : va_G) (aC : Nat → ClassId) (b : Nat) (w : XW) (x1 : Int32) (x2 : Int32) (hw0 : FrM w) (hw1 : RfM w) : CnI l D aC b M_X10_reach 4 90 0 0 [AR 95, AI x1, AI x2] w (fun r u => r = (-2) ∧ FrM u ∧ RfM u) := by
  refine cn_I (own := RX10) (nm := "reach") (L0 := [some (AR 95), some (AI x1), some (AI x2), none, none]) (by decide +kernel) rfl rfl (Nat.le_of_ble_eq_true rfl) rfl ?_
  intro p e s m args below meth c E hin
  refine s_aload_n E dX10_reach_0 rfl rfl ?_
  refine s_iload_n E dX10_reach_1 rfl rfl ?_
  refine s_vI (As := [AI x1]) (S := []) E (K_X10_asksLady_95_MS l D aC b w x1 hw0 hw1) cv_X10_288 rfl rfl rfl (ltn hw0.1 (by decide)) (Nat.le_of_ble_eq_true rfl) (Nat.le_of_ble_eq_true rfl) ⟨(Nat.le_of_ble_eq_true rfl), (Nat.le_of_ble_eq_true rfl)⟩ (Nat.le_of_ble_eq_true rfl) dX10_reach_2 (fun r u_1 hp => ?_)
  obtain ⟨rfl, hu_1, hu_2⟩ := hp
  refine s_if_eq (tgt := 16) E dX10_reach_5 (by decide) (fun _ => ?_) (fun hh => absurd (by decide) hh)
  refine s_bipush (v := (-2)) E dX10_reach_16 (by decide) ?_
  exact r_int E dX10_reach_18 ⟨rfl, ⟨hu_1, hu_2⟩⟩
set_option maxRecDepth 20000 in
set_option maxHeartbeats 2000000 in
theorem K_X10_bidden_95_MS (l : Launch) (D : va_G) (aC : Nat → ClassId) (b : Nat) (w : XW) (x1 : Int32) (x2 : Int32) (hw0 : FrM w) (hw1 : RfM w) : CnI l D aC b M_X10_bidden 2 47 0 0 [AR 95, AI x1, AI x2] w (fun r u => r = (-2) ∧ w = u) := by
  refine cn_I (own := RX10) (nm := "bidden") (L0 := [some (AR 95), some (AI x1), some (AI x2)]) (by decide +kernel) rfl rfl (Nat.le_of_ble_eq_true rfl) rfl ?_
  intro p e s m args below meth c E hin
  refine s_aload_n E dX10_bidden_0 rfl rfl ?_
  refine s_iload_n E dX10_bidden_1 rfl rfl ?_
  refine s_i2l E dX10_bidden_2 ?_
  refine s_vI (As := [AL ((x1 : Int32).toInt64)]) (S := []) E (K_X10_isLady_95_MS l D aC b w (((x1 : Int32).toInt64)) hw0 hw1) cv_X10_222 rfl rfl rfl (ltn hw0.1 (by decide)) (Nat.le_of_ble_eq_true rfl) (Nat.le_of_ble_eq_true rfl) ⟨(Nat.le_of_ble_eq_true rfl), (Nat.le_of_ble_eq_true rfl)⟩ (Nat.le_of_ble_eq_true rfl) dX10_bidden_3 (fun r u hp => ?_)
  obtain ⟨rfl, rfl⟩ := hp
  refine s_if_eq (tgt := 27) E dX10_bidden_6 (by decide) (fun _ => ?_) (fun hh => absurd (by decide) hh)
  refine s_bipush (v := (-2)) E dX10_bidden_27 (by decide) ?_
  exact r_int E dX10_bidden_29 ⟨rfl, rfl⟩
set_option maxRecDepth 20000 in
set_option maxHeartbeats 2000000 in
theorem K_X10_isBall_95_MS (l : Launch) (D : va_G) (aC : Nat → ClassId) (b : Nat) (w : XW)  (hw0 : FrM w) (hw1 : RfM w) : CnI l D aC b M_X10_isBall 0 0 0 0 [AR 95] w (fun r u => r = 0 ∧ w = u) := by
  refine cn_I (own := RX10) (nm := "isBall") (L0 := [some (AR 95)]) (by decide +kernel) rfl rfl (Nat.le_of_ble_eq_true rfl) rfl ?_
  intro p e s m args below meth c E hin
  refine s_aload_n E dX10_isBall_0 rfl rfl ?_
  refine s_gR (r := 96) E fg_X10_9 rfl rfl (ltn hw0.1 (by decide)) (fc_r hw0 (by decide +kernel)) dX10_isBall_1 ?_
  refine s_bipush (v := 9) E dX10_isBall_4 (by decide) ?_
  refine s_iald E rfl (ltn hw0.1 (by decide)) (vp_c (by decide)) dX10_isBall_6 ?_
  refine s_top (y := 0) (fc_z hw0 (q := (96, 134)) (by decide +kernel) (by decide)) ?_
  refine s_if_le (tgt := 14) E dX10_isBall_7 (by decide) (fun _ => ?_) (fun hh => absurd (by decide) hh)
  refine s_iconst (v := 0) E dX10_isBall_14 (by decide) ?_
  exact r_bool E dX10_isBall_15 (Or.inl rfl) ⟨rfl, rfl⟩
set_option maxRecDepth 20000 in
set_option maxHeartbeats 2000000 in
theorem K_X10_isDance_95_MS (l : Launch) (D : va_G) (aC : Nat → ClassId) (b : Nat) (w : XW) (x1 : Int64) (hw0 : FrM w) (hw1 : RfM w) : CnI l D aC b M_X10_isDance 1 20 0 0 [AR 95, AL x1] w (fun r u => r = 0 ∧ w = u) := by
  refine cn_I (own := RX10) (nm := "isDance") (L0 := [some (AR 95), some (AL x1), none]) (by decide +kernel) rfl rfl (Nat.le_of_ble_eq_true rfl) rfl ?_
  intro p e s m args below meth c E hin
  refine s_aload_n E dX10_isDance_0 rfl rfl ?_
  refine s_vI (As := []) (S := []) E (K_X10_isBall_95_MS l D aC b w  hw0 hw1) cv_X10_86 rfl rfl rfl (ltn hw0.1 (by decide)) (Nat.le_of_ble_eq_true rfl) (Nat.le_of_ble_eq_true rfl) ⟨(Nat.le_of_ble_eq_true rfl), (Nat.le_of_ble_eq_true rfl)⟩ (Nat.le_of_ble_eq_true rfl) dX10_isDance_1 (fun r u hp => ?_)
  obtain ⟨rfl, rfl⟩ := hp
  refine s_if_eq (tgt := 26) E dX10_isDance_4 (by decide) (fun _ => ?_) (fun hh => absurd (by decide) hh)
  refine s_iconst (v := 0) E dX10_isDance_26 (by decide) ?_
  exact r_bool E dX10_isDance_27 (Or.inl rfl) ⟨rfl, rfl⟩
set_option maxRecDepth 20000 in
set_option maxHeartbeats 2000000 in
theorem K_X10_asksDance_95_MS (l : Launch) (D : va_G) (aC : Nat → ClassId) (b : Nat) (w : XW) (x1 : Int32) (hw0 : FrM w) (hw1 : RfM w) : CnI l D aC b M_X10_asksDance 3 69 0 0 [AR 95, AI x1] w (fun r u => r = 0 ∧ FrM u ∧ RfM u) := by
  refine cn_I (own := RX10) (nm := "asksDance") (L0 := [some (AR 95), some (AI x1)]) (by decide +kernel) rfl rfl (Nat.le_of_ble_eq_true rfl) rfl ?_
  intro p e s m args below meth c E hin
  refine s_aload_n E dX10_asksDance_0 rfl rfl ?_
  refine s_vV (As := []) (S := []) E (K_X10_asItIs_95_MS l D aC b w  hw0 hw1) cv_X10_279 rfl rfl rfl (ltn hw0.1 (by decide)) (Nat.le_of_ble_eq_true rfl) (Nat.le_of_ble_eq_true rfl) ⟨(Nat.le_of_ble_eq_true rfl), (Nat.le_of_ble_eq_true rfl)⟩ (Nat.le_of_ble_eq_true rfl) dX10_asksDance_1 (fun u_1 hp => ?_)
  obtain ⟨hu_1, hu_2⟩ := hp
  refine s_aload_n E dX10_asksDance_4 rfl rfl ?_
  refine s_iload_n E dX10_asksDance_5 rfl rfl ?_
  refine s_i2l E dX10_asksDance_6 ?_
  refine s_vI (As := [AL ((x1 : Int32).toInt64)]) (S := []) E (K_X10_isDance_95_MS l D aC b u_1 (((x1 : Int32).toInt64)) hu_1 hu_2) cv_X10_282 rfl rfl rfl (ltn hu_1.1 (by decide)) (Nat.le_of_ble_eq_true rfl) (Nat.le_of_ble_eq_true rfl) ⟨(Nat.le_of_ble_eq_true rfl), (Nat.le_of_ble_eq_true rfl)⟩ (Nat.le_of_ble_eq_true rfl) dX10_asksDance_7 (fun r u hp => ?_)
  obtain ⟨rfl, rfl⟩ := hp
  exact r_bool E dX10_asksDance_10 (Or.inl rfl) ⟨rfl, ⟨hu_1, hu_2⟩⟩
set_option maxRecDepth 20000 in
set_option maxHeartbeats 2000000 in
theorem K_X10_at_95_MS (l : Launch) (D : va_G) (aC : Nat → ClassId) (b : Nat) (w : XW) (x1 : Int32) (x2 : Int32) (hw0 : FrM w) (hw1 : RfM w) : CnI l D aC b M_X10_at 4 90 0 0 [AR 95, AI x1, AI x2] w (fun r u => r = (-2) ∧ FrM u ∧ RfM u) := by
  refine cn_I (own := RX10) (nm := "at") (L0 := [some (AR 95), some (AI x1), some (AI x2)]) (by decide +kernel) rfl rfl (Nat.le_of_ble_eq_true rfl) rfl ?_
  intro p e s m args below meth c E hin
  refine s_aload_n E dX10_at_0 rfl rfl ?_
  refine s_iload_n E dX10_at_1 rfl rfl ?_
  refine s_vI (As := [AI x2]) (S := []) E (K_X10_asksDance_95_MS l D aC b w x2 hw0 hw1) cv_X10_294 rfl rfl rfl (ltn hw0.1 (by decide)) (Nat.le_of_ble_eq_true rfl) (Nat.le_of_ble_eq_true rfl) ⟨(Nat.le_of_ble_eq_true rfl), (Nat.le_of_ble_eq_true rfl)⟩ (Nat.le_of_ble_eq_true rfl) dX10_at_2 (fun r u_1 hp => ?_)
  obtain ⟨rfl, hu_1, hu_2⟩ := hp
  refine s_if_eq (tgt := 26) E dX10_at_5 (by decide) (fun _ => ?_) (fun hh => absurd (by decide) hh)
  refine s_bipush (v := (-2)) E dX10_at_26 (by decide) ?_
  exact r_int E dX10_at_28 ⟨rfl, ⟨hu_1, hu_2⟩⟩
set_option maxRecDepth 20000 in
set_option maxHeartbeats 2000000 in
theorem K_X10_within_95_MS (l : Launch) (D : va_G) (aC : Nat → ClassId) (b : Nat) (w : XW) (x1 : Int32) (x2 : Int32) (hw0 : FrM w) (hw1 : RfM w) : CnI l D aC b M_X10_within 4 90 0 0 [AR 95, AI x1, AI x2] w (fun r u => r = (-2) ∧ FrM u ∧ RfM u) := by
  refine cn_I (own := RX10) (nm := "within") (L0 := [some (AR 95), some (AI x1), some (AI x2)]) (by decide +kernel) rfl rfl (Nat.le_of_ble_eq_true rfl) rfl ?_
  intro p e s m args below meth c E hin
  refine s_aload_n E dX10_within_0 rfl rfl ?_
  refine s_iload_n E dX10_within_1 rfl rfl ?_
  refine s_vI (As := [AI x2]) (S := []) E (K_X10_asksDance_95_MS l D aC b w x2 hw0 hw1) cv_X10_294 rfl rfl rfl (ltn hw0.1 (by decide)) (Nat.le_of_ble_eq_true rfl) (Nat.le_of_ble_eq_true rfl) ⟨(Nat.le_of_ble_eq_true rfl), (Nat.le_of_ble_eq_true rfl)⟩ (Nat.le_of_ble_eq_true rfl) dX10_within_2 (fun r u_1 hp => ?_)
  obtain ⟨rfl, hu_1, hu_2⟩ := hp
  refine s_if_eq (tgt := 25) E dX10_within_5 (by decide) (fun _ => ?_) (fun hh => absurd (by decide) hh)
  refine s_bipush (v := (-2)) E dX10_within_25 (by decide) ?_
  exact r_int E dX10_within_27 ⟨rfl, ⟨hu_1, hu_2⟩⟩
set_option maxRecDepth 20000 in
set_option maxHeartbeats 2000000 in
theorem K_X10_steps_95_MS (l : Launch) (D : va_G) (aC : Nat → ClassId) (b : Nat) (w : XW) (x1 : Int32) (hw0 : FrM w) (hw1 : RfM w) : CnI l D aC b M_X10_steps 4 90 0 0 [AR 95, AI x1] w (fun r u => r = (-2) ∧ FrM u ∧ RfM u) := by
  refine cn_I (own := RX10) (nm := "steps") (L0 := [some (AR 95), some (AI x1)]) (by decide +kernel) rfl rfl (Nat.le_of_ble_eq_true rfl) rfl ?_
  intro p e s m args below meth c E hin
  refine s_aload_n E dX10_steps_0 rfl rfl ?_
  refine s_iload_n E dX10_steps_1 rfl rfl ?_
  refine s_vI (As := [AI x1]) (S := []) E (K_X10_asksLady_95_MS l D aC b w x1 hw0 hw1) cv_X10_288 rfl rfl rfl (ltn hw0.1 (by decide)) (Nat.le_of_ble_eq_true rfl) (Nat.le_of_ble_eq_true rfl) ⟨(Nat.le_of_ble_eq_true rfl), (Nat.le_of_ble_eq_true rfl)⟩ (Nat.le_of_ble_eq_true rfl) dX10_steps_2 (fun r u_1 hp => ?_)
  obtain ⟨rfl, hu_1, hu_2⟩ := hp
  refine s_if_eq (tgt := 16) E dX10_steps_5 (by decide) (fun _ => ?_) (fun hh => absurd (by decide) hh)
  refine s_bipush (v := (-2)) E dX10_steps_16 (by decide) ?_
  exact r_int E dX10_steps_18 ⟨rfl, ⟨hu_1, hu_2⟩⟩
set_option maxRecDepth 20000 in
set_option maxHeartbeats 2000000 in
theorem K_X10_sees_95_MS (l : Launch) (D : va_G) (aC : Nat → ClassId) (b : Nat) (w : XW) (x1 : Int32) (hw0 : FrM w) (hw1 : RfM w) : CnI l D aC b M_X10_sees 4 90 0 0 [AR 95, AI x1] w (fun r u => r = (-2) ∧ FrM u ∧ RfM u) := by
  refine cn_I (own := RX10) (nm := "sees") (L0 := [some (AR 95), some (AI x1), none, none]) (by decide +kernel) rfl rfl (Nat.le_of_ble_eq_true rfl) rfl ?_
  intro p e s m args below meth c E hin
  refine s_aload_n E dX10_sees_0 rfl rfl ?_
  refine s_iload_n E dX10_sees_1 rfl rfl ?_
  refine s_vI (As := [AI x1]) (S := []) E (K_X10_asksLady_95_MS l D aC b w x1 hw0 hw1) cv_X10_288 rfl rfl rfl (ltn hw0.1 (by decide)) (Nat.le_of_ble_eq_true rfl) (Nat.le_of_ble_eq_true rfl) ⟨(Nat.le_of_ble_eq_true rfl), (Nat.le_of_ble_eq_true rfl)⟩ (Nat.le_of_ble_eq_true rfl) dX10_sees_2 (fun r u_1 hp => ?_)
  obtain ⟨rfl, hu_1, hu_2⟩ := hp
  refine s_if_ne (tgt := 11) E dX10_sees_5 (by decide) (fun hh => absurd (by decide) hh) (fun _ => ?_)
  refine s_bipush (v := (-2)) E dX10_sees_8 (by decide) ?_
  exact r_int E dX10_sees_10 ⟨rfl, ⟨hu_1, hu_2⟩⟩
set_option maxRecDepth 20000 in
set_option maxHeartbeats 2000000 in
theorem K_X10_meets_95_MS (l : Launch) (D : va_G) (aC : Nat → ClassId) (b : Nat) (w : XW) (x1 : Int32) (x2 : Int32) (hw0 : FrM w) (hw1 : RfM w) : CnI l D aC b M_X10_meets 4 90 0 0 [AR 95, AI x1, AI x2] w (fun r u => r = (-2) ∧ FrM u ∧ RfM u) := by
  refine cn_I (own := RX10) (nm := "meets") (L0 := [some (AR 95), some (AI x1), some (AI x2)]) (by decide +kernel) rfl rfl (Nat.le_of_ble_eq_true rfl) rfl ?_
  intro p e s m args below meth c E hin
  refine s_aload_n E dX10_meets_0 rfl rfl ?_
  refine s_iload_n E dX10_meets_1 rfl rfl ?_
  refine s_vI (As := [AI x1]) (S := []) E (K_X10_asksLady_95_MS l D aC b w x1 hw0 hw1) cv_X10_288 rfl rfl rfl (ltn hw0.1 (by decide)) (Nat.le_of_ble_eq_true rfl) (Nat.le_of_ble_eq_true rfl) ⟨(Nat.le_of_ble_eq_true rfl), (Nat.le_of_ble_eq_true rfl)⟩ (Nat.le_of_ble_eq_true rfl) dX10_meets_2 (fun r u_1 hp => ?_)
  obtain ⟨rfl, hu_1, hu_2⟩ := hp
  refine s_if_eq (tgt := 26) E dX10_meets_5 (by decide) (fun _ => ?_) (fun hh => absurd (by decide) hh)
  refine s_bipush (v := (-2)) E dX10_meets_26 (by decide) ?_
  exact r_int E dX10_meets_28 ⟨rfl, ⟨hu_1, hu_2⟩⟩
set_option maxRecDepth 20000 in
set_option maxHeartbeats 2000000 in
theorem K_X10_often_95_MS (l : Launch) (D : va_G) (aC : Nat → ClassId) (b : Nat) (w : XW) (x1 : Int32) (x2 : Int32) (hw0 : FrM w) (hw1 : RfM w) : CnI l D aC b M_X10_often 4 90 0 0 [AR 95, AI x1, AI x2] w (fun r u => r = (-2) ∧ FrM u ∧ RfM u) := by
  refine cn_I (own := RX10) (nm := "often") (L0 := [some (AR 95), some (AI x1), some (AI x2)]) (by decide +kernel) rfl rfl (Nat.le_of_ble_eq_true rfl) rfl ?_
  intro p e s m args below meth c E hin
  refine s_aload_n E dX10_often_0 rfl rfl ?_
  refine s_iload_n E dX10_often_1 rfl rfl ?_
  refine s_vI (As := [AI x1]) (S := []) E (K_X10_asksLady_95_MS l D aC b w x1 hw0 hw1) cv_X10_288 rfl rfl rfl (ltn hw0.1 (by decide)) (Nat.le_of_ble_eq_true rfl) (Nat.le_of_ble_eq_true rfl) ⟨(Nat.le_of_ble_eq_true rfl), (Nat.le_of_ble_eq_true rfl)⟩ (Nat.le_of_ble_eq_true rfl) dX10_often_2 (fun r u_1 hp => ?_)
  obtain ⟨rfl, hu_1, hu_2⟩ := hp
  refine s_if_eq (tgt := 26) E dX10_often_5 (by decide) (fun _ => ?_) (fun hh => absurd (by decide) hh)
  refine s_bipush (v := (-2)) E dX10_often_26 (by decide) ?_
  exact r_int E dX10_often_28 ⟨rfl, ⟨hu_1, hu_2⟩⟩
set_option maxRecDepth 20000 in
set_option maxHeartbeats 2000000 in
theorem K_X10_friends_95_MS (l : Launch) (D : va_G) (aC : Nat → ClassId) (b : Nat) (w : XW) (x1 : Int32) (hw0 : FrM w) (hw1 : RfM w) : CnI l D aC b M_X10_friends 4 90 0 0 [AR 95, AI x1] w (fun r u => r = (-2) ∧ FrM u ∧ RfM u) := by
  refine cn_I (own := RX10) (nm := "friends") (L0 := [some (AR 95), some (AI x1)]) (by decide +kernel) rfl rfl (Nat.le_of_ble_eq_true rfl) rfl ?_
  intro p e s m args below meth c E hin
  refine s_aload_n E dX10_friends_0 rfl rfl ?_
  refine s_iload_n E dX10_friends_1 rfl rfl ?_
  refine s_vI (As := [AI x1]) (S := []) E (K_X10_asksLady_95_MS l D aC b w x1 hw0 hw1) cv_X10_288 rfl rfl rfl (ltn hw0.1 (by decide)) (Nat.le_of_ble_eq_true rfl) (Nat.le_of_ble_eq_true rfl) ⟨(Nat.le_of_ble_eq_true rfl), (Nat.le_of_ble_eq_true rfl)⟩ (Nat.le_of_ble_eq_true rfl) dX10_friends_2 (fun r u_1 hp => ?_)
  obtain ⟨rfl, hu_1, hu_2⟩ := hp
  refine s_if_eq (tgt := 16) E dX10_friends_5 (by decide) (fun _ => ?_) (fun hh => absurd (by decide) hh)
  refine s_bipush (v := (-2)) E dX10_friends_16 (by decide) ?_
  exact r_int E dX10_friends_18 ⟨rfl, ⟨hu_1, hu_2⟩⟩
set_option maxRecDepth 20000 in
set_option maxHeartbeats 2000000 in
theorem K_X10_asksBall_95_MS (l : Launch) (D : va_G) (aC : Nat → ClassId) (b : Nat) (w : XW)  (hw0 : FrM w) (hw1 : RfM w) : CnI l D aC b M_X10_asksBall 3 69 0 0 [AR 95] w (fun r u => r = 0 ∧ FrM u ∧ RfM u) := by
  refine cn_I (own := RX10) (nm := "asksBall") (L0 := [some (AR 95)]) (by decide +kernel) rfl rfl (Nat.le_of_ble_eq_true rfl) rfl ?_
  intro p e s m args below meth c E hin
  refine s_aload_n E dX10_asksBall_0 rfl rfl ?_
  refine s_vV (As := []) (S := []) E (K_X10_asItIs_95_MS l D aC b w  hw0 hw1) cv_X10_279 rfl rfl rfl (ltn hw0.1 (by decide)) (Nat.le_of_ble_eq_true rfl) (Nat.le_of_ble_eq_true rfl) ⟨(Nat.le_of_ble_eq_true rfl), (Nat.le_of_ble_eq_true rfl)⟩ (Nat.le_of_ble_eq_true rfl) dX10_asksBall_1 (fun u_1 hp => ?_)
  obtain ⟨hu_1, hu_2⟩ := hp
  refine s_aload_n E dX10_asksBall_4 rfl rfl ?_
  refine s_vI (As := []) (S := []) E (K_X10_isBall_95_MS l D aC b u_1  hu_1 hu_2) cv_X10_86 rfl rfl rfl (ltn hu_1.1 (by decide)) (Nat.le_of_ble_eq_true rfl) (Nat.le_of_ble_eq_true rfl) ⟨(Nat.le_of_ble_eq_true rfl), (Nat.le_of_ble_eq_true rfl)⟩ (Nat.le_of_ble_eq_true rfl) dX10_asksBall_5 (fun r u hp => ?_)
  obtain ⟨rfl, rfl⟩ := hp
  exact r_bool E dX10_asksBall_8 (Or.inl rfl) ⟨rfl, ⟨hu_1, hu_2⟩⟩
set_option maxRecDepth 20000 in
set_option maxHeartbeats 2000000 in
theorem K_X10_crush_95_MS (l : Launch) (D : va_G) (aC : Nat → ClassId) (b : Nat) (w : XW)  (hw0 : FrM w) (hw1 : RfM w) : CnI l D aC b M_X10_crush 4 89 0 0 [AR 95] w (fun r u => r = (-2) ∧ FrM u ∧ RfM u) := by
  refine cn_I (own := RX10) (nm := "crush") (L0 := [some (AR 95)]) (by decide +kernel) rfl rfl (Nat.le_of_ble_eq_true rfl) rfl ?_
  intro p e s m args below meth c E hin
  refine s_aload_n E dX10_crush_0 rfl rfl ?_
  refine s_vI (As := []) (S := []) E (K_X10_asksBall_95_MS l D aC b w  hw0 hw1) cv_X10_322 rfl rfl rfl (ltn hw0.1 (by decide)) (Nat.le_of_ble_eq_true rfl) (Nat.le_of_ble_eq_true rfl) ⟨(Nat.le_of_ble_eq_true rfl), (Nat.le_of_ble_eq_true rfl)⟩ (Nat.le_of_ble_eq_true rfl) dX10_crush_1 (fun r u_1 hp => ?_)
  obtain ⟨rfl, hu_1, hu_2⟩ := hp
  refine s_if_ne (tgt := 10) E dX10_crush_4 (by decide) (fun hh => absurd (by decide) hh) (fun _ => ?_)
  refine s_bipush (v := (-2)) E dX10_crush_7 (by decide) ?_
  exact r_int E dX10_crush_9 ⟨rfl, ⟨hu_1, hu_2⟩⟩
set_option maxRecDepth 20000 in
set_option maxHeartbeats 2000000 in
theorem K_X10_crushed_95_MS (l : Launch) (D : va_G) (aC : Nat → ClassId) (b : Nat) (w : XW)  (hw0 : FrM w) (hw1 : RfM w) : CnI l D aC b M_X10_crushed 4 89 0 0 [AR 95] w (fun r u => r = (-2) ∧ FrM u ∧ RfM u) := by
  refine cn_I (own := RX10) (nm := "crushed") (L0 := [some (AR 95)]) (by decide +kernel) rfl rfl (Nat.le_of_ble_eq_true rfl) rfl ?_
  intro p e s m args below meth c E hin
  refine s_aload_n E dX10_crushed_0 rfl rfl ?_
  refine s_vI (As := []) (S := []) E (K_X10_asksBall_95_MS l D aC b w  hw0 hw1) cv_X10_322 rfl rfl rfl (ltn hw0.1 (by decide)) (Nat.le_of_ble_eq_true rfl) (Nat.le_of_ble_eq_true rfl) ⟨(Nat.le_of_ble_eq_true rfl), (Nat.le_of_ble_eq_true rfl)⟩ (Nat.le_of_ble_eq_true rfl) dX10_crushed_1 (fun r u_1 hp => ?_)
  obtain ⟨rfl, hu_1, hu_2⟩ := hp
  refine s_if_eq (tgt := 14) E dX10_crushed_4 (by decide) (fun _ => ?_) (fun hh => absurd (by decide) hh)
  refine s_bipush (v := (-2)) E dX10_crushed_14 (by decide) ?_
  exact r_int E dX10_crushed_16 ⟨rfl, ⟨hu_1, hu_2⟩⟩
set_option maxRecDepth 20000 in
set_option maxHeartbeats 2000000 in
theorem K_X10_likes_95_MS (l : Launch) (D : va_G) (aC : Nat → ClassId) (b : Nat) (w : XW) (x1 : Int32) (hw0 : FrM w) (hw1 : RfM w) : CnI l D aC b M_X10_likes 4 90 0 0 [AR 95, AI x1] w (fun r u => r = (-2) ∧ FrM u ∧ RfM u) := by
  refine cn_I (own := RX10) (nm := "likes") (L0 := [some (AR 95), some (AI x1), none, none, none, none, none]) (by decide +kernel) rfl rfl (Nat.le_of_ble_eq_true rfl) rfl ?_
  intro p e s m args below meth c E hin
  refine s_aload_n E dX10_likes_0 rfl rfl ?_
  refine s_iload_n E dX10_likes_1 rfl rfl ?_
  refine s_vI (As := [AI x1]) (S := []) E (K_X10_asksLady_95_MS l D aC b w x1 hw0 hw1) cv_X10_288 rfl rfl rfl (ltn hw0.1 (by decide)) (Nat.le_of_ble_eq_true rfl) (Nat.le_of_ble_eq_true rfl) ⟨(Nat.le_of_ble_eq_true rfl), (Nat.le_of_ble_eq_true rfl)⟩ (Nat.le_of_ble_eq_true rfl) dX10_likes_2 (fun r u_1 hp => ?_)
  obtain ⟨rfl, hu_1, hu_2⟩ := hp
  refine s_if_ne (tgt := 11) E dX10_likes_5 (by decide) (fun hh => absurd (by decide) hh) (fun _ => ?_)
  refine s_bipush (v := (-2)) E dX10_likes_8 (by decide) ?_
  exact r_int E dX10_likes_10 ⟨rfl, ⟨hu_1, hu_2⟩⟩
set_option maxRecDepth 20000 in
set_option maxHeartbeats 2000000 in
theorem K_X10_apart_95_MS (l : Launch) (D : va_G) (aC : Nat → ClassId) (b : Nat) (w : XW) (x1 : Int32) (x2 : Int32) (x3 : Int32) (hw0 : FrM w) (hw1 : RfM w) : CnI l D aC b M_X10_apart 4 90 0 0 [AR 95, AI x1, AI x2, AI x3] w (fun r u => r = (-2) ∧ FrM u ∧ RfM u) := by
  refine cn_I (own := RX10) (nm := "apart") (L0 := [some (AR 95), some (AI x1), some (AI x2), some (AI x3), none]) (by decide +kernel) rfl rfl (Nat.le_of_ble_eq_true rfl) rfl ?_
  intro p e s m args below meth c E hin
  refine s_aload_n E dX10_apart_0 rfl rfl ?_
  refine s_iload_n E dX10_apart_1 rfl rfl ?_
  refine s_vI (As := [AI x3]) (S := []) E (K_X10_asksDance_95_MS l D aC b w x3 hw0 hw1) cv_X10_294 rfl rfl rfl (ltn hw0.1 (by decide)) (Nat.le_of_ble_eq_true rfl) (Nat.le_of_ble_eq_true rfl) ⟨(Nat.le_of_ble_eq_true rfl), (Nat.le_of_ble_eq_true rfl)⟩ (Nat.le_of_ble_eq_true rfl) dX10_apart_2 (fun r u_1 hp => ?_)
  obtain ⟨rfl, hu_1, hu_2⟩ := hp
  refine s_if_eq (tgt := 26) E dX10_apart_5 (by decide) (fun _ => ?_) (fun hh => absurd (by decide) hh)
  refine s_bipush (v := (-2)) E dX10_apart_26 (by decide) ?_
  exact r_int E dX10_apart_28 ⟨rfl, ⟨hu_1, hu_2⟩⟩
set_option maxRecDepth 20000 in
set_option maxHeartbeats 2000000 in
theorem K_X10_alone_95_MS (l : Launch) (D : va_G) (aC : Nat → ClassId) (b : Nat) (w : XW) (x1 : Int32) (hw0 : FrM w) (hw1 : RfM w) : CnI l D aC b M_X10_alone 4 90 0 0 [AR 95, AI x1] w (fun r u => r = (-2) ∧ FrM u ∧ RfM u) := by
  refine cn_I (own := RX10) (nm := "alone") (L0 := [some (AR 95), some (AI x1), none, none]) (by decide +kernel) rfl rfl (Nat.le_of_ble_eq_true rfl) rfl ?_
  intro p e s m args below meth c E hin
  refine s_aload_n E dX10_alone_0 rfl rfl ?_
  refine s_iload_n E dX10_alone_1 rfl rfl ?_
  refine s_vI (As := [AI x1]) (S := []) E (K_X10_asksDance_95_MS l D aC b w x1 hw0 hw1) cv_X10_294 rfl rfl rfl (ltn hw0.1 (by decide)) (Nat.le_of_ble_eq_true rfl) (Nat.le_of_ble_eq_true rfl) ⟨(Nat.le_of_ble_eq_true rfl), (Nat.le_of_ble_eq_true rfl)⟩ (Nat.le_of_ble_eq_true rfl) dX10_alone_2 (fun r u_1 hp => ?_)
  obtain ⟨rfl, hu_1, hu_2⟩ := hp
  refine s_if_ne (tgt := 11) E dX10_alone_5 (by decide) (fun hh => absurd (by decide) hh) (fun _ => ?_)
  refine s_bipush (v := (-2)) E dX10_alone_8 (by decide) ?_
  exact r_int E dX10_alone_10 ⟨rfl, ⟨hu_1, hu_2⟩⟩
set_option maxRecDepth 20000 in
set_option maxHeartbeats 2000000 in
theorem K_X10_empty_95_MS (l : Launch) (D : va_G) (aC : Nat → ClassId) (b : Nat) (w : XW) (x1 : Int32) (hw0 : FrM w) (hw1 : RfM w) : CnI l D aC b M_X10_empty 4 90 0 0 [AR 95, AI x1] w (fun r u => r = (-2) ∧ FrM u ∧ RfM u) := by
  refine cn_I (own := RX10) (nm := "empty") (L0 := [some (AR 95), some (AI x1), none, none]) (by decide +kernel) rfl rfl (Nat.le_of_ble_eq_true rfl) rfl ?_
  intro p e s m args below meth c E hin
  refine s_aload_n E dX10_empty_0 rfl rfl ?_
  refine s_iload_n E dX10_empty_1 rfl rfl ?_
  refine s_vI (As := [AI x1]) (S := []) E (K_X10_asksDance_95_MS l D aC b w x1 hw0 hw1) cv_X10_294 rfl rfl rfl (ltn hw0.1 (by decide)) (Nat.le_of_ble_eq_true rfl) (Nat.le_of_ble_eq_true rfl) ⟨(Nat.le_of_ble_eq_true rfl), (Nat.le_of_ble_eq_true rfl)⟩ (Nat.le_of_ble_eq_true rfl) dX10_empty_2 (fun r u_1 hp => ?_)
  obtain ⟨rfl, hu_1, hu_2⟩ := hp
  refine s_if_ne (tgt := 11) E dX10_empty_5 (by decide) (fun hh => absurd (by decide) hh) (fun _ => ?_)
  refine s_bipush (v := (-2)) E dX10_empty_8 (by decide) ?_
  exact r_int E dX10_empty_10 ⟨rfl, ⟨hu_1, hu_2⟩⟩
set_option maxRecDepth 20000 in
set_option maxHeartbeats 2000000 in
theorem K_X10_late_95_MS (l : Launch) (D : va_G) (aC : Nat → ClassId) (b : Nat) (w : XW) (x1 : Int32) (hw0 : FrM w) (hw1 : RfM w) : CnI l D aC b M_X10_late 4 90 0 0 [AR 95, AI x1] w (fun r u => r = (-2) ∧ FrM u ∧ RfM u) := by
  refine cn_I (own := RX10) (nm := "late") (L0 := [some (AR 95), some (AI x1), none, none]) (by decide +kernel) rfl rfl (Nat.le_of_ble_eq_true rfl) rfl ?_
  intro p e s m args below meth c E hin
  refine s_aload_n E dX10_late_0 rfl rfl ?_
  refine s_iload_n E dX10_late_1 rfl rfl ?_
  refine s_vI (As := [AI x1]) (S := []) E (K_X10_asksLady_95_MS l D aC b w x1 hw0 hw1) cv_X10_288 rfl rfl rfl (ltn hw0.1 (by decide)) (Nat.le_of_ble_eq_true rfl) (Nat.le_of_ble_eq_true rfl) ⟨(Nat.le_of_ble_eq_true rfl), (Nat.le_of_ble_eq_true rfl)⟩ (Nat.le_of_ble_eq_true rfl) dX10_late_2 (fun r u_1 hp => ?_)
  obtain ⟨rfl, hu_1, hu_2⟩ := hp
  refine s_if_ne (tgt := 11) E dX10_late_5 (by decide) (fun hh => absurd (by decide) hh) (fun _ => ?_)
  refine s_bipush (v := (-2)) E dX10_late_8 (by decide) ?_
  exact r_int E dX10_late_10 ⟨rfl, ⟨hu_1, hu_2⟩⟩
set_option maxRecDepth 20000 in
set_option maxHeartbeats 2000000 in
theorem K_X10_waits_95_MS (l : Launch) (D : va_G) (aC : Nat → ClassId) (b : Nat) (w : XW) (x1 : Int32) (hw0 : FrM w) (hw1 : RfM w) : CnI l D aC b M_X10_waits 4 90 0 0 [AR 95, AI x1] w (fun r u => r = (-2) ∧ FrM u ∧ RfM u) := by
  refine cn_I (own := RX10) (nm := "waits") (L0 := [some (AR 95), some (AI x1), none, none]) (by decide +kernel) rfl rfl (Nat.le_of_ble_eq_true rfl) rfl ?_
  intro p e s m args below meth c E hin
  refine s_aload_n E dX10_waits_0 rfl rfl ?_
  refine s_iload_n E dX10_waits_1 rfl rfl ?_
  refine s_vI (As := [AI x1]) (S := []) E (K_X10_asksLady_95_MS l D aC b w x1 hw0 hw1) cv_X10_288 rfl rfl rfl (ltn hw0.1 (by decide)) (Nat.le_of_ble_eq_true rfl) (Nat.le_of_ble_eq_true rfl) ⟨(Nat.le_of_ble_eq_true rfl), (Nat.le_of_ble_eq_true rfl)⟩ (Nat.le_of_ble_eq_true rfl) dX10_waits_2 (fun r u_1 hp => ?_)
  obtain ⟨rfl, hu_1, hu_2⟩ := hp
  refine s_if_ne (tgt := 11) E dX10_waits_5 (by decide) (fun hh => absurd (by decide) hh) (fun _ => ?_)
  refine s_bipush (v := (-2)) E dX10_waits_8 (by decide) ?_
  exact r_int E dX10_waits_10 ⟨rfl, ⟨hu_1, hu_2⟩⟩
set_option maxRecDepth 20000 in
set_option maxHeartbeats 2000000 in
theorem K_X10_mate_95_MS (l : Launch) (D : va_G) (aC : Nat → ClassId) (b : Nat) (w : XW) (x1 : Int32) (hw0 : FrM w) (hw1 : RfM w) : CnI l D aC b M_X10_mate 4 90 0 0 [AR 95, AI x1] w (fun r u => r = (-2) ∧ FrM u ∧ RfM u) := by
  refine cn_I (own := RX10) (nm := "mate") (L0 := [some (AR 95), some (AI x1), none, none, none]) (by decide +kernel) rfl rfl (Nat.le_of_ble_eq_true rfl) rfl ?_
  intro p e s m args below meth c E hin
  refine s_aload_n E dX10_mate_0 rfl rfl ?_
  refine s_iload_n E dX10_mate_1 rfl rfl ?_
  refine s_vI (As := [AI x1]) (S := []) E (K_X10_asksLady_95_MS l D aC b w x1 hw0 hw1) cv_X10_288 rfl rfl rfl (ltn hw0.1 (by decide)) (Nat.le_of_ble_eq_true rfl) (Nat.le_of_ble_eq_true rfl) ⟨(Nat.le_of_ble_eq_true rfl), (Nat.le_of_ble_eq_true rfl)⟩ (Nat.le_of_ble_eq_true rfl) dX10_mate_2 (fun r u_1 hp => ?_)
  obtain ⟨rfl, hu_1, hu_2⟩ := hp
  refine s_if_ne (tgt := 11) E dX10_mate_5 (by decide) (fun hh => absurd (by decide) hh) (fun _ => ?_)
  refine s_bipush (v := (-2)) E dX10_mate_8 (by decide) ?_
  exact r_int E dX10_mate_10 ⟨rfl, ⟨hu_1, hu_2⟩⟩
set_option maxRecDepth 20000 in
set_option maxHeartbeats 2000000 in
theorem K_X10_hears_95_MS (l : Launch) (D : va_G) (aC : Nat → ClassId) (b : Nat) (w : XW) (x1 : Int32) (hw0 : FrM w) (hw1 : RfM w) : CnI l D aC b M_X10_hears 4 90 0 0 [AR 95, AI x1] w (fun r u => r = (-2) ∧ FrM u ∧ RfM u) := by
  refine cn_I (own := RX10) (nm := "hears") (L0 := [some (AR 95), some (AI x1), none, none]) (by decide +kernel) rfl rfl (Nat.le_of_ble_eq_true rfl) rfl ?_
  intro p e s m args below meth c E hin
  refine s_aload_n E dX10_hears_0 rfl rfl ?_
  refine s_iload_n E dX10_hears_1 rfl rfl ?_
  refine s_vI (As := [AI x1]) (S := []) E (K_X10_asksLady_95_MS l D aC b w x1 hw0 hw1) cv_X10_288 rfl rfl rfl (ltn hw0.1 (by decide)) (Nat.le_of_ble_eq_true rfl) (Nat.le_of_ble_eq_true rfl) ⟨(Nat.le_of_ble_eq_true rfl), (Nat.le_of_ble_eq_true rfl)⟩ (Nat.le_of_ble_eq_true rfl) dX10_hears_2 (fun r u_1 hp => ?_)
  obtain ⟨rfl, hu_1, hu_2⟩ := hp
  refine s_if_ne (tgt := 11) E dX10_hears_5 (by decide) (fun hh => absurd (by decide) hh) (fun _ => ?_)
  refine s_bipush (v := (-2)) E dX10_hears_8 (by decide) ?_
  exact r_int E dX10_hears_10 ⟨rfl, ⟨hu_1, hu_2⟩⟩
set_option maxRecDepth 20000 in
set_option maxHeartbeats 2000000 in
theorem K_X10_asksNote_95_MS (l : Launch) (D : va_G) (aC : Nat → ClassId) (b : Nat) (w : XW) (x1 : Int32) (x2 : Int32) (hw0 : FrM w) (hw1 : RfM w) : CnI l D aC b M_X10_asksNote 4 90 0 0 [AR 95, AI x1, AI x2] w (fun r u => r = 0 ∧ FrM u ∧ RfM u) := by
  refine cn_I (own := RX10) (nm := "asksNote") (L0 := [some (AR 95), some (AI x1), some (AI x2)]) (by decide +kernel) rfl rfl (Nat.le_of_ble_eq_true rfl) rfl ?_
  intro p e s m args below meth c E hin
  refine s_aload_n E dX10_asksNote_0 rfl rfl ?_
  refine s_iload_n E dX10_asksNote_1 rfl rfl ?_
  refine s_vI (As := [AI x1]) (S := []) E (K_X10_asksLady_95_MS l D aC b w x1 hw0 hw1) cv_X10_288 rfl rfl rfl (ltn hw0.1 (by decide)) (Nat.le_of_ble_eq_true rfl) (Nat.le_of_ble_eq_true rfl) ⟨(Nat.le_of_ble_eq_true rfl), (Nat.le_of_ble_eq_true rfl)⟩ (Nat.le_of_ble_eq_true rfl) dX10_asksNote_2 (fun r u_1 hp => ?_)
  obtain ⟨rfl, hu_1, hu_2⟩ := hp
  refine s_if_eq (tgt := 17) E dX10_asksNote_5 (by decide) (fun _ => ?_) (fun hh => absurd (by decide) hh)
  refine s_iconst (v := 0) E dX10_asksNote_17 (by decide) ?_
  exact r_bool E dX10_asksNote_18 (Or.inl rfl) ⟨rfl, ⟨hu_1, hu_2⟩⟩
set_option maxRecDepth 20000 in
set_option maxHeartbeats 2000000 in
theorem K_X10_hands_95_MS (l : Launch) (D : va_G) (aC : Nat → ClassId) (b : Nat) (w : XW) (x1 : Int32) (x2 : Int32) (hw0 : FrM w) (hw1 : RfM w) : CnI l D aC b M_X10_hands 5 112 0 0 [AR 95, AI x1, AI x2] w (fun r u => r = (-2) ∧ FrM u ∧ RfM u) := by
  refine cn_I (own := RX10) (nm := "hands") (L0 := [some (AR 95), some (AI x1), some (AI x2), none, none]) (by decide +kernel) rfl rfl (Nat.le_of_ble_eq_true rfl) rfl ?_
  intro p e s m args below meth c E hin
  refine s_aload_n E dX10_hands_0 rfl rfl ?_
  refine s_iload_n E dX10_hands_1 rfl rfl ?_
  refine s_iload_n E dX10_hands_2 rfl rfl ?_
  refine s_vI (As := [AI x1, AI x2]) (S := []) E (K_X10_asksNote_95_MS l D aC b w x1 x2 hw0 hw1) cv_X10_340 rfl rfl rfl (ltn hw0.1 (by decide)) (Nat.le_of_ble_eq_true rfl) (Nat.le_of_ble_eq_true rfl) ⟨(Nat.le_of_ble_eq_true rfl), (Nat.le_of_ble_eq_true rfl)⟩ (Nat.le_of_ble_eq_true rfl) dX10_hands_3 (fun r u_1 hp => ?_)
  obtain ⟨rfl, hu_1, hu_2⟩ := hp
  refine s_if_ne (tgt := 12) E dX10_hands_6 (by decide) (fun hh => absurd (by decide) hh) (fun _ => ?_)
  refine s_bipush (v := (-2)) E dX10_hands_9 (by decide) ?_
  exact r_int E dX10_hands_11 ⟨rfl, ⟨hu_1, hu_2⟩⟩
set_option maxRecDepth 20000 in
set_option maxHeartbeats 2000000 in
theorem K_X10_dummies_95_MS (l : Launch) (D : va_G) (aC : Nat → ClassId) (b : Nat) (w : XW)  (hw0 : FrM w) (hw1 : RfM w) : CnI l D aC b M_X10_dummies 4 89 0 0 [AR 95] w (fun r u => r = (-2) ∧ FrM u ∧ RfM u) := by
  refine cn_I (own := RX10) (nm := "dummies") (L0 := [some (AR 95), none, none]) (by decide +kernel) rfl rfl (Nat.le_of_ble_eq_true rfl) rfl ?_
  intro p e s m args below meth c E hin
  refine s_aload_n E dX10_dummies_0 rfl rfl ?_
  refine s_vI (As := []) (S := []) E (K_X10_asksBall_95_MS l D aC b w  hw0 hw1) cv_X10_322 rfl rfl rfl (ltn hw0.1 (by decide)) (Nat.le_of_ble_eq_true rfl) (Nat.le_of_ble_eq_true rfl) ⟨(Nat.le_of_ble_eq_true rfl), (Nat.le_of_ble_eq_true rfl)⟩ (Nat.le_of_ble_eq_true rfl) dX10_dummies_1 (fun r u_1 hp => ?_)
  obtain ⟨rfl, hu_1, hu_2⟩ := hp
  refine s_if_ne (tgt := 10) E dX10_dummies_4 (by decide) (fun hh => absurd (by decide) hh) (fun _ => ?_)
  refine s_bipush (v := (-2)) E dX10_dummies_7 (by decide) ?_
  exact r_int E dX10_dummies_9 ⟨rfl, ⟨hu_1, hu_2⟩⟩
set_option maxRecDepth 20000 in
set_option maxHeartbeats 2000000 in
theorem K_X10_isSet_95_MS (l : Launch) (D : va_G) (aC : Nat → ClassId) (b : Nat) (w : XW) (x1 : Int32) (hw0 : FrM w) (hw1 : RfM w) : CnI l D aC b M_X10_isSet 1 20 0 0 [AR 95, AI x1] w (fun r u => r = 0 ∧ w = u) := by
  refine cn_I (own := RX10) (nm := "isSet") (L0 := [some (AR 95), some (AI x1)]) (by decide +kernel) rfl rfl (Nat.le_of_ble_eq_true rfl) rfl ?_
  intro p e s m args below meth c E hin
  refine s_aload_n E dX10_isSet_0 rfl rfl ?_
  refine s_vI (As := []) (S := []) E (K_X10_isBall_95_MS l D aC b w  hw0 hw1) cv_X10_86 rfl rfl rfl (ltn hw0.1 (by decide)) (Nat.le_of_ble_eq_true rfl) (Nat.le_of_ble_eq_true rfl) ⟨(Nat.le_of_ble_eq_true rfl), (Nat.le_of_ble_eq_true rfl)⟩ (Nat.le_of_ble_eq_true rfl) dX10_isSet_1 (fun r u hp => ?_)
  obtain ⟨rfl, rfl⟩ := hp
  refine s_if_eq (tgt := 31) E dX10_isSet_4 (by decide) (fun _ => ?_) (fun hh => absurd (by decide) hh)
  refine s_iconst (v := 0) E dX10_isSet_31 (by decide) ?_
  exact r_bool E dX10_isSet_32 (Or.inl rfl) ⟨rfl, rfl⟩
set_option maxRecDepth 20000 in
set_option maxHeartbeats 2000000 in
theorem K_X10_blocks_95_MS (l : Launch) (D : va_G) (aC : Nat → ClassId) (b : Nat) (w : XW) (x1 : Int32) (hw0 : FrM w) (hw1 : RfM w) : CnI l D aC b M_X10_blocks 3 69 0 0 [AR 95, AI x1] w (fun r u => r = (-2) ∧ FrM u ∧ RfM u) := by
  refine cn_I (own := RX10) (nm := "blocks") (L0 := [some (AR 95), some (AI x1)]) (by decide +kernel) rfl rfl (Nat.le_of_ble_eq_true rfl) rfl ?_
  intro p e s m args below meth c E hin
  refine s_aload_n E dX10_blocks_0 rfl rfl ?_
  refine s_vV (As := []) (S := []) E (K_X10_asItIs_95_MS l D aC b w  hw0 hw1) cv_X10_279 rfl rfl rfl (ltn hw0.1 (by decide)) (Nat.le_of_ble_eq_true rfl) (Nat.le_of_ble_eq_true rfl) ⟨(Nat.le_of_ble_eq_true rfl), (Nat.le_of_ble_eq_true rfl)⟩ (Nat.le_of_ble_eq_true rfl) dX10_blocks_1 (fun u_1 hp => ?_)
  obtain ⟨hu_1, hu_2⟩ := hp
  refine s_aload_n E dX10_blocks_4 rfl rfl ?_
  refine s_iload_n E dX10_blocks_5 rfl rfl ?_
  refine s_vI (As := [AI x1]) (S := []) E (K_X10_isSet_95_MS l D aC b u_1 x1 hu_1 hu_2) cv_X10_399 rfl rfl rfl (ltn hu_1.1 (by decide)) (Nat.le_of_ble_eq_true rfl) (Nat.le_of_ble_eq_true rfl) ⟨(Nat.le_of_ble_eq_true rfl), (Nat.le_of_ble_eq_true rfl)⟩ (Nat.le_of_ble_eq_true rfl) dX10_blocks_6 (fun r u hp => ?_)
  obtain ⟨rfl, rfl⟩ := hp
  refine s_if_eq (tgt := 35) E dX10_blocks_9 (by decide) (fun _ => ?_) (fun hh => absurd (by decide) hh)
  refine s_bipush (v := (-2)) E dX10_blocks_35 (by decide) ?_
  exact r_int E dX10_blocks_37 ⟨rfl, ⟨hu_1, hu_2⟩⟩
set_option maxRecDepth 20000 in
set_option maxHeartbeats 2000000 in
theorem K_X10_strongest_95_MS (l : Launch) (D : va_G) (aC : Nat → ClassId) (b : Nat) (w : XW)  (hw0 : FrM w) (hw1 : RfM w) : CnI l D aC b M_X10_strongest 4 89 0 0 [AR 95] w (fun r u => r = (-2) ∧ FrM u ∧ RfM u) := by
  refine cn_I (own := RX10) (nm := "strongest") (L0 := [some (AR 95), none, none, none]) (by decide +kernel) rfl rfl (Nat.le_of_ble_eq_true rfl) rfl ?_
  intro p e s m args below meth c E hin
  refine s_aload_n E dX10_strongest_0 rfl rfl ?_
  refine s_vI (As := []) (S := []) E (K_X10_asksBall_95_MS l D aC b w  hw0 hw1) cv_X10_322 rfl rfl rfl (ltn hw0.1 (by decide)) (Nat.le_of_ble_eq_true rfl) (Nat.le_of_ble_eq_true rfl) ⟨(Nat.le_of_ble_eq_true rfl), (Nat.le_of_ble_eq_true rfl)⟩ (Nat.le_of_ble_eq_true rfl) dX10_strongest_1 (fun r u_1 hp => ?_)
  obtain ⟨rfl, hu_1, hu_2⟩ := hp
  refine s_if_ne (tgt := 10) E dX10_strongest_4 (by decide) (fun hh => absurd (by decide) hh) (fun _ => ?_)
  refine s_bipush (v := (-2)) E dX10_strongest_7 (by decide) ?_
  exact r_int E dX10_strongest_9 ⟨rfl, ⟨hu_1, hu_2⟩⟩
set_option maxRecDepth 20000 in
set_option maxHeartbeats 2000000 in
theorem K_X10_have_95_MS (l : Launch) (D : va_G) (aC : Nat → ClassId) (b : Nat) (w : XW) (x1 : Int32) (x2 : Int32) (hw0 : FrM w) (hw1 : RfM w) : CnI l D aC b M_X10_have 4 90 0 0 [AR 95, AI x1, AI x2] w (fun r u => r = (-2) ∧ FrM u ∧ RfM u) := by
  refine cn_I (own := RX10) (nm := "have") (L0 := [some (AR 95), some (AI x1), some (AI x2)]) (by decide +kernel) rfl rfl (Nat.le_of_ble_eq_true rfl) rfl ?_
  intro p e s m args below meth c E hin
  refine s_aload_n E dX10_have_0 rfl rfl ?_
  refine s_iload_n E dX10_have_1 rfl rfl ?_
  refine s_vI (As := [AI x2]) (S := []) E (K_X10_asksDance_95_MS l D aC b w x2 hw0 hw1) cv_X10_294 rfl rfl rfl (ltn hw0.1 (by decide)) (Nat.le_of_ble_eq_true rfl) (Nat.le_of_ble_eq_true rfl) ⟨(Nat.le_of_ble_eq_true rfl), (Nat.le_of_ble_eq_true rfl)⟩ (Nat.le_of_ble_eq_true rfl) dX10_have_2 (fun r u_1 hp => ?_)
  obtain ⟨rfl, hu_1, hu_2⟩ := hp
  refine s_if_eq (tgt := 26) E dX10_have_5 (by decide) (fun _ => ?_) (fun hh => absurd (by decide) hh)
  refine s_bipush (v := (-2)) E dX10_have_26 (by decide) ?_
  exact r_int E dX10_have_28 ⟨rfl, ⟨hu_1, hu_2⟩⟩
set_option maxRecDepth 20000 in
set_option maxHeartbeats 2000000 in
theorem K_X10_gets_95_MS (l : Launch) (D : va_G) (aC : Nat → ClassId) (b : Nat) (w : XW) (x1 : Int32) (x2 : Int32) (hw0 : FrM w) (hw1 : RfM w) : CnI l D aC b M_X10_gets 5 112 0 0 [AR 95, AI x1, AI x2] w (fun r u => r = (-2) ∧ FrM u ∧ RfM u) := by
  refine cn_I (own := RX10) (nm := "gets") (L0 := [some (AR 95), some (AI x1), some (AI x2)]) (by decide +kernel) rfl rfl (Nat.le_of_ble_eq_true rfl) rfl ?_
  intro p e s m args below meth c E hin
  refine s_aload_n E dX10_gets_0 rfl rfl ?_
  refine s_iload_n E dX10_gets_1 rfl rfl ?_
  refine s_iload_n E dX10_gets_2 rfl rfl ?_
  refine s_vI (As := [AI x1, AI x2]) (S := []) E (K_X10_asksNote_95_MS l D aC b w x1 x2 hw0 hw1) cv_X10_340 rfl rfl rfl (ltn hw0.1 (by decide)) (Nat.le_of_ble_eq_true rfl) (Nat.le_of_ble_eq_true rfl) ⟨(Nat.le_of_ble_eq_true rfl), (Nat.le_of_ble_eq_true rfl)⟩ (Nat.le_of_ble_eq_true rfl) dX10_gets_3 (fun r u_1 hp => ?_)
  obtain ⟨rfl, hu_1, hu_2⟩ := hp
  refine s_if_eq (tgt := 18) E dX10_gets_6 (by decide) (fun _ => ?_) (fun hh => absurd (by decide) hh)
  refine s_bipush (v := (-2)) E dX10_gets_18 (by decide) ?_
  exact r_int E dX10_gets_20 ⟨rfl, ⟨hu_1, hu_2⟩⟩
set_option maxRecDepth 20000 in
set_option maxHeartbeats 2000000 in
theorem K_X10_from_95_MS (l : Launch) (D : va_G) (aC : Nat → ClassId) (b : Nat) (w : XW) (x1 : Int32) (x2 : Int32) (hw0 : FrM w) (hw1 : RfM w) : CnI l D aC b M_X10_from 5 112 0 0 [AR 95, AI x1, AI x2] w (fun r u => r = (-2) ∧ FrM u ∧ RfM u) := by
  refine cn_I (own := RX10) (nm := "from") (L0 := [some (AR 95), some (AI x1), some (AI x2)]) (by decide +kernel) rfl rfl (Nat.le_of_ble_eq_true rfl) rfl ?_
  intro p e s m args below meth c E hin
  refine s_aload_n E dX10_from_0 rfl rfl ?_
  refine s_iload_n E dX10_from_1 rfl rfl ?_
  refine s_iload_n E dX10_from_2 rfl rfl ?_
  refine s_vI (As := [AI x1, AI x2]) (S := []) E (K_X10_asksNote_95_MS l D aC b w x1 x2 hw0 hw1) cv_X10_340 rfl rfl rfl (ltn hw0.1 (by decide)) (Nat.le_of_ble_eq_true rfl) (Nat.le_of_ble_eq_true rfl) ⟨(Nat.le_of_ble_eq_true rfl), (Nat.le_of_ble_eq_true rfl)⟩ (Nat.le_of_ble_eq_true rfl) dX10_from_3 (fun r u_1 hp => ?_)
  obtain ⟨rfl, hu_1, hu_2⟩ := hp
  refine s_if_eq (tgt := 18) E dX10_from_6 (by decide) (fun _ => ?_) (fun hh => absurd (by decide) hh)
  refine s_bipush (v := (-2)) E dX10_from_18 (by decide) ?_
  exact r_int E dX10_from_20 ⟨rfl, ⟨hu_1, hu_2⟩⟩
set_option maxRecDepth 20000 in
set_option maxHeartbeats 2000000 in
theorem K_X10_all_95_MS (l : Launch) (D : va_G) (aC : Nat → ClassId) (b : Nat) (w : XW) (x1 : Int32) (hw0 : FrM w) (hw1 : RfM w) : CnI l D aC b M_X10_all 4 90 0 0 [AR 95, AI x1] w (fun r u => r = (-2) ∧ FrM u ∧ RfM u) := by
  refine cn_I (own := RX10) (nm := "all") (L0 := [some (AR 95), some (AI x1), none]) (by decide +kernel) rfl rfl (Nat.le_of_ble_eq_true rfl) rfl ?_
  intro p e s m args below meth c E hin
  refine s_aload_n E dX10_all_0 rfl rfl ?_
  refine s_iload_n E dX10_all_1 rfl rfl ?_
  refine s_vI (As := [AI x1]) (S := []) E (K_X10_asksLady_95_MS l D aC b w x1 hw0 hw1) cv_X10_288 rfl rfl rfl (ltn hw0.1 (by decide)) (Nat.le_of_ble_eq_true rfl) (Nat.le_of_ble_eq_true rfl) ⟨(Nat.le_of_ble_eq_true rfl), (Nat.le_of_ble_eq_true rfl)⟩ (Nat.le_of_ble_eq_true rfl) dX10_all_2 (fun r u_1 hp => ?_)
  obtain ⟨rfl, hu_1, hu_2⟩ := hp
  refine s_if_ne (tgt := 11) E dX10_all_5 (by decide) (fun hh => absurd (by decide) hh) (fun _ => ?_)
  refine s_bipush (v := (-2)) E dX10_all_8 (by decide) ?_
  exact r_int E dX10_all_10 ⟨rfl, ⟨hu_1, hu_2⟩⟩
set_option maxRecDepth 20000 in
set_option maxHeartbeats 2000000 in
theorem K_X10_best_95_MS (l : Launch) (D : va_G) (aC : Nat → ClassId) (b : Nat) (w : XW)  (hw0 : FrM w) (hw1 : RfM w) : CnI l D aC b M_X10_best 4 89 0 0 [AR 95] w (fun r u => r = (-2) ∧ FrM u ∧ RfM u) := by
  refine cn_I (own := RX10) (nm := "best") (L0 := [some (AR 95), none, none, none, none]) (by decide +kernel) rfl rfl (Nat.le_of_ble_eq_true rfl) rfl ?_
  intro p e s m args below meth c E hin
  refine s_aload_n E dX10_best_0 rfl rfl ?_
  refine s_vI (As := []) (S := []) E (K_X10_asksBall_95_MS l D aC b w  hw0 hw1) cv_X10_322 rfl rfl rfl (ltn hw0.1 (by decide)) (Nat.le_of_ble_eq_true rfl) (Nat.le_of_ble_eq_true rfl) ⟨(Nat.le_of_ble_eq_true rfl), (Nat.le_of_ble_eq_true rfl)⟩ (Nat.le_of_ble_eq_true rfl) dX10_best_1 (fun r u_1 hp => ?_)
  obtain ⟨rfl, hu_1, hu_2⟩ := hp
  refine s_if_ne (tgt := 10) E dX10_best_4 (by decide) (fun hh => absurd (by decide) hh) (fun _ => ?_)
  refine s_bipush (v := (-2)) E dX10_best_7 (by decide) ?_
  exact r_int E dX10_best_9 ⟨rfl, ⟨hu_1, hu_2⟩⟩
set_option maxRecDepth 20000 in
set_option maxHeartbeats 2000000 in
theorem K_X10_lasts_95_MS (l : Launch) (D : va_G) (aC : Nat → ClassId) (b : Nat) (w : XW) (x1 : Int32) (hw0 : FrM w) (hw1 : RfM w) : CnI l D aC b M_X10_lasts 4 90 0 0 [AR 95, AI x1] w (fun r u => r = (-2) ∧ FrM u ∧ RfM u) := by
  refine cn_I (own := RX10) (nm := "lasts") (L0 := [some (AR 95), some (AI x1), none, none]) (by decide +kernel) rfl rfl (Nat.le_of_ble_eq_true rfl) rfl ?_
  intro p e s m args below meth c E hin
  refine s_aload_n E dX10_lasts_0 rfl rfl ?_
  refine s_iload_n E dX10_lasts_1 rfl rfl ?_
  refine s_vI (As := [AI x1]) (S := []) E (K_X10_asksLady_95_MS l D aC b w x1 hw0 hw1) cv_X10_288 rfl rfl rfl (ltn hw0.1 (by decide)) (Nat.le_of_ble_eq_true rfl) (Nat.le_of_ble_eq_true rfl) ⟨(Nat.le_of_ble_eq_true rfl), (Nat.le_of_ble_eq_true rfl)⟩ (Nat.le_of_ble_eq_true rfl) dX10_lasts_2 (fun r u_1 hp => ?_)
  obtain ⟨rfl, hu_1, hu_2⟩ := hp
  refine s_if_ne (tgt := 11) E dX10_lasts_5 (by decide) (fun hh => absurd (by decide) hh) (fun _ => ?_)
  refine s_bipush (v := (-2)) E dX10_lasts_8 (by decide) ?_
  exact r_int E dX10_lasts_10 ⟨rfl, ⟨hu_1, hu_2⟩⟩
set_option maxRecDepth 20000 in
set_option maxHeartbeats 2000000 in
theorem K_X10_needed_95_MS (l : Launch) (D : va_G) (aC : Nat → ClassId) (b : Nat) (w : XW) (x1 : Int32) (hw0 : FrM w) (hw1 : RfM w) : CnI l D aC b M_X10_needed 4 90 0 0 [AR 95, AI x1] w (fun r u => r = (-2) ∧ FrM u ∧ RfM u) := by
  refine cn_I (own := RX10) (nm := "needed") (L0 := [some (AR 95), some (AI x1), none, none, none]) (by decide +kernel) rfl rfl (Nat.le_of_ble_eq_true rfl) rfl ?_
  intro p e s m args below meth c E hin
  refine s_aload_n E dX10_needed_0 rfl rfl ?_
  refine s_iload_n E dX10_needed_1 rfl rfl ?_
  refine s_vI (As := [AI x1]) (S := []) E (K_X10_asksLady_95_MS l D aC b w x1 hw0 hw1) cv_X10_288 rfl rfl rfl (ltn hw0.1 (by decide)) (Nat.le_of_ble_eq_true rfl) (Nat.le_of_ble_eq_true rfl) ⟨(Nat.le_of_ble_eq_true rfl), (Nat.le_of_ble_eq_true rfl)⟩ (Nat.le_of_ble_eq_true rfl) dX10_needed_2 (fun r u_1 hp => ?_)
  obtain ⟨rfl, hu_1, hu_2⟩ := hp
  refine s_if_ne (tgt := 11) E dX10_needed_5 (by decide) (fun hh => absurd (by decide) hh) (fun _ => ?_)
  refine s_bipush (v := (-2)) E dX10_needed_8 (by decide) ?_
  exact r_int E dX10_needed_10 ⟨rfl, ⟨hu_1, hu_2⟩⟩
set_option maxRecDepth 20000 in
set_option maxHeartbeats 2000000 in
theorem K_X10_by_95_MS (l : Launch) (D : va_G) (aC : Nat → ClassId) (b : Nat) (w : XW) (x1 : Int32) (x2 : Int32) (hw0 : FrM w) (hw1 : RfM w) : CnI l D aC b M_X10_by 4 90 0 0 [AR 95, AI x1, AI x2] w (fun r u => r = (-2) ∧ FrM u ∧ RfM u) := by
  refine cn_I (own := RX10) (nm := "by") (L0 := [some (AR 95), some (AI x1), some (AI x2)]) (by decide +kernel) rfl rfl (Nat.le_of_ble_eq_true rfl) rfl ?_
  intro p e s m args below meth c E hin
  refine s_aload_n E dX10_by_0 rfl rfl ?_
  refine s_iload_n E dX10_by_1 rfl rfl ?_
  refine s_vI (As := [AI x1]) (S := []) E (K_X10_asksLady_95_MS l D aC b w x1 hw0 hw1) cv_X10_288 rfl rfl rfl (ltn hw0.1 (by decide)) (Nat.le_of_ble_eq_true rfl) (Nat.le_of_ble_eq_true rfl) ⟨(Nat.le_of_ble_eq_true rfl), (Nat.le_of_ble_eq_true rfl)⟩ (Nat.le_of_ble_eq_true rfl) dX10_by_2 (fun r u_1 hp => ?_)
  obtain ⟨rfl, hu_1, hu_2⟩ := hp
  refine s_if_eq (tgt := 20) E dX10_by_5 (by decide) (fun _ => ?_) (fun hh => absurd (by decide) hh)
  refine s_bipush (v := (-2)) E dX10_by_20 (by decide) ?_
  exact r_int E dX10_by_22 ⟨rfl, ⟨hu_1, hu_2⟩⟩
set_option maxRecDepth 20000 in
set_option maxHeartbeats 2000000 in
theorem K_X10_asksCarry_95_MS (l : Launch) (D : va_G) (aC : Nat → ClassId) (b : Nat) (w : XW) (x1 : Int32) (x2 : Int32) (x3 : Int32) (hw0 : FrM w) (hw1 : RfM w) : CnI l D aC b M_X10_asksCarry 4 90 0 0 [AR 95, AI x1, AI x2, AI x3] w (fun r u => r = 0 ∧ FrM u ∧ RfM u) := by
  refine cn_I (own := RX10) (nm := "asksCarry") (L0 := [some (AR 95), some (AI x1), some (AI x2), some (AI x3)]) (by decide +kernel) rfl rfl (Nat.le_of_ble_eq_true rfl) rfl ?_
  intro p e s m args below meth c E hin
  refine s_aload_n E dX10_asksCarry_0 rfl rfl ?_
  refine s_iload_n E dX10_asksCarry_1 rfl rfl ?_
  refine s_vI (As := [AI x1]) (S := []) E (K_X10_asksLady_95_MS l D aC b w x1 hw0 hw1) cv_X10_288 rfl rfl rfl (ltn hw0.1 (by decide)) (Nat.le_of_ble_eq_true rfl) (Nat.le_of_ble_eq_true rfl) ⟨(Nat.le_of_ble_eq_true rfl), (Nat.le_of_ble_eq_true rfl)⟩ (Nat.le_of_ble_eq_true rfl) dX10_asksCarry_2 (fun r u_1 hp => ?_)
  obtain ⟨rfl, hu_1, hu_2⟩ := hp
  refine s_if_eq (tgt := 35) E dX10_asksCarry_5 (by decide) (fun _ => ?_) (fun hh => absurd (by decide) hh)
  refine s_iconst (v := 0) E dX10_asksCarry_35 (by decide) ?_
  exact r_bool E dX10_asksCarry_36 (Or.inl rfl) ⟨rfl, ⟨hu_1, hu_2⟩⟩
set_option maxRecDepth 20000 in
set_option maxHeartbeats 2000000 in
theorem K_X10_carry_95_MS (l : Launch) (D : va_G) (aC : Nat → ClassId) (b : Nat) (w : XW) (x1 : Int32) (x2 : Int32) (x3 : Int32) (hw0 : FrM w) (hw1 : RfM w) : CnI l D aC b M_X10_carry 5 113 0 0 [AR 95, AI x1, AI x2, AI x3] w (fun r u => r = (-2) ∧ FrM u ∧ RfM u) := by
  refine cn_I (own := RX10) (nm := "carry") (L0 := [some (AR 95), some (AI x1), some (AI x2), some (AI x3)]) (by decide +kernel) rfl rfl (Nat.le_of_ble_eq_true rfl) rfl ?_
  intro p e s m args below meth c E hin
  refine s_aload_n E dX10_carry_0 rfl rfl ?_
  refine s_iload_n E dX10_carry_1 rfl rfl ?_
  refine s_iload_n E dX10_carry_2 rfl rfl ?_
  refine s_iload_n E dX10_carry_3 rfl rfl ?_
  refine s_vI (As := [AI x1, AI x2, AI x3]) (S := []) E (K_X10_asksCarry_95_MS l D aC b w x1 x2 x3 hw0 hw1) cv_X10_362 rfl rfl rfl (ltn hw0.1 (by decide)) (Nat.le_of_ble_eq_true rfl) (Nat.le_of_ble_eq_true rfl) ⟨(Nat.le_of_ble_eq_true rfl), (Nat.le_of_ble_eq_true rfl)⟩ (Nat.le_of_ble_eq_true rfl) dX10_carry_4 (fun r u_1 hp => ?_)
  obtain ⟨rfl, hu_1, hu_2⟩ := hp
  refine s_if_eq (tgt := 20) E dX10_carry_7 (by decide) (fun _ => ?_) (fun hh => absurd (by decide) hh)
  refine s_bipush (v := (-2)) E dX10_carry_20 (by decide) ?_
  exact r_int E dX10_carry_22 ⟨rfl, ⟨hu_1, hu_2⟩⟩
set_option maxRecDepth 20000 in
set_option maxHeartbeats 2000000 in
theorem K_X10_walk_95_MS (l : Launch) (D : va_G) (aC : Nat → ClassId) (b : Nat) (w : XW) (x1 : Int32) (x2 : Int32) (x3 : Int32) (x4 : Int32) (hw0 : FrM w) (hw1 : RfM w) : CnI l D aC b M_X10_walk 5 113 0 0 [AR 95, AI x1, AI x2, AI x3, AI x4] w (fun r u => r = (-2) ∧ FrM u ∧ RfM u) := by
  refine cn_I (own := RX10) (nm := "walk") (L0 := [some (AR 95), some (AI x1), some (AI x2), some (AI x3), some (AI x4)]) (by decide +kernel) rfl rfl (Nat.le_of_ble_eq_true rfl) rfl ?_
  intro p e s m args below meth c E hin
  refine s_aload_n E dX10_walk_0 rfl rfl ?_
  refine s_iload_n E dX10_walk_1 rfl rfl ?_
  refine s_iload_n E dX10_walk_2 rfl rfl ?_
  refine s_iload_n E dX10_walk_3 rfl rfl ?_
  refine s_vI (As := [AI x1, AI x2, AI x3]) (S := []) E (K_X10_asksCarry_95_MS l D aC b w x1 x2 x3 hw0 hw1) cv_X10_362 rfl rfl rfl (ltn hw0.1 (by decide)) (Nat.le_of_ble_eq_true rfl) (Nat.le_of_ble_eq_true rfl) ⟨(Nat.le_of_ble_eq_true rfl), (Nat.le_of_ble_eq_true rfl)⟩ (Nat.le_of_ble_eq_true rfl) dX10_walk_4 (fun r u_1 hp => ?_)
  obtain ⟨rfl, hu_1, hu_2⟩ := hp
  refine s_if_eq (tgt := 20) E dX10_walk_7 (by decide) (fun _ => ?_) (fun hh => absurd (by decide) hh)
  refine s_bipush (v := (-2)) E dX10_walk_20 (by decide) ?_
  exact r_int E dX10_walk_22 ⟨rfl, ⟨hu_1, hu_2⟩⟩
set_option maxRecDepth 20000 in
set_option maxHeartbeats 2000000 in
theorem K_X10_widen_95_MS (l : Launch) (D : va_G) (aC : Nat → ClassId) (b : Nat) (w : XW) (x1 : Int32) (x2 : Int32) (hw0 : FrM w) (hw1 : RfM w) : CnI l D aC b M_X10_widen 4 90 0 0 [AR 95, AI x1, AI x2] w (fun r u => r = (-2) ∧ FrM u ∧ RfM u) := by
  refine cn_I (own := RX10) (nm := "widen") (L0 := [some (AR 95), some (AI x1), some (AI x2), none, none, none, none]) (by decide +kernel) rfl rfl (Nat.le_of_ble_eq_true rfl) rfl ?_
  intro p e s m args below meth c E hin
  refine s_aload_n E dX10_widen_0 rfl rfl ?_
  refine s_iload_n E dX10_widen_1 rfl rfl ?_
  refine s_vI (As := [AI x1]) (S := []) E (K_X10_asksLady_95_MS l D aC b w x1 hw0 hw1) cv_X10_288 rfl rfl rfl (ltn hw0.1 (by decide)) (Nat.le_of_ble_eq_true rfl) (Nat.le_of_ble_eq_true rfl) ⟨(Nat.le_of_ble_eq_true rfl), (Nat.le_of_ble_eq_true rfl)⟩ (Nat.le_of_ble_eq_true rfl) dX10_widen_2 (fun r u_1 hp => ?_)
  obtain ⟨rfl, hu_1, hu_2⟩ := hp
  refine s_if_eq (tgt := 16) E dX10_widen_5 (by decide) (fun _ => ?_) (fun hh => absurd (by decide) hh)
  refine s_bipush (v := (-2)) E dX10_widen_16 (by decide) ?_
  exact r_int E dX10_widen_18 ⟨rfl, ⟨hu_1, hu_2⟩⟩
set_option maxRecDepth 20000 in
set_option maxHeartbeats 2000000 in
theorem K_X10_shut_95_MS (l : Launch) (D : va_G) (aC : Nat → ClassId) (b : Nat) (w : XW) (x1 : Int32) (x2 : Int32) (hw0 : FrM w) (hw1 : RfM w) : CnI l D aC b M_X10_shut 4 90 0 0 [AR 95, AI x1, AI x2] w (fun r u => r = (-2) ∧ FrM u ∧ RfM u) := by
  refine cn_I (own := RX10) (nm := "shut") (L0 := [some (AR 95), some (AI x1), some (AI x2)]) (by decide +kernel) rfl rfl (Nat.le_of_ble_eq_true rfl) rfl ?_
  intro p e s m args below meth c E hin
  refine s_aload_n E dX10_shut_0 rfl rfl ?_
  refine s_iload_n E dX10_shut_1 rfl rfl ?_
  refine s_vI (As := [AI x1]) (S := []) E (K_X10_asksLady_95_MS l D aC b w x1 hw0 hw1) cv_X10_288 rfl rfl rfl (ltn hw0.1 (by decide)) (Nat.le_of_ble_eq_true rfl) (Nat.le_of_ble_eq_true rfl) ⟨(Nat.le_of_ble_eq_true rfl), (Nat.le_of_ble_eq_true rfl)⟩ (Nat.le_of_ble_eq_true rfl) dX10_shut_2 (fun r u_1 hp => ?_)
  obtain ⟨rfl, hu_1, hu_2⟩ := hp
  refine s_if_eq (tgt := 26) E dX10_shut_5 (by decide) (fun _ => ?_) (fun hh => absurd (by decide) hh)
  refine s_bipush (v := (-2)) E dX10_shut_26 (by decide) ?_
  exact r_int E dX10_shut_28 ⟨rfl, ⟨hu_1, hu_2⟩⟩
