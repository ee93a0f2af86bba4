set_option maxRecDepth 20000 in
set_option maxHeartbeats 2000000 in
theorem K_X9_gets_0_CRMS (l : Launch) (D : va_G) (aC : Nat → ClassId) (b : Nat) (w : XW) (x1 : Int32) (x2 : Int32) (hw0 : FrC w) (hw1 : RfC w) (hw2 : FrM w) (hw3 : RfM w) : CnI l D aC b M_X9_gets 2 42 0 0 [AR 0, AI x1, AI x2] w (fun r u => r = (-2) ∧ w = u) := by
  refine cn_I (own := RX9) (nm := "gets") (L0 := [some (AR 0), some (AI x1), some (AI x2)]) (by decide +kernel) rfl rfl (Nat.le_of_ble_eq_true rfl) rfl ?_
  intro p e s m args below meth c E hin
  refine s_aload_n E dX9_gets_0 rfl rfl ?_
  refine s_gR (r := 2) E fg_X9_20 rfl rfl (ltn hw0.1 (by decide)) (fc_r hw0 (by decide +kernel)) dX9_gets_1 ?_
  refine s_iload_n E dX9_gets_4 rfl rfl ?_
  refine s_vI (As := [AI x1]) (S := []) E (K_X0_hasLady_2_CRMS l D aC b w x1 hw0 hw1 hw2 hw3) cv_X9_139 rfl rfl rfl (ltn hw0.1 (by decide)) (Nat.le_of_ble_eq_true rfl) (Nat.le_of_ble_eq_true rfl) ⟨(Nat.le_of_ble_eq_true rfl), (Nat.le_of_ble_eq_true rfl)⟩ (Nat.le_of_ble_eq_true rfl) dX9_gets_5 (fun r u hp => ?_)
  obtain ⟨rfl, rfl⟩ := hp
  refine s_if_eq (tgt := 22) E dX9_gets_8 (by decide) (fun _ => ?_) (fun hh => absurd (by decide) hh)
  refine s_bipush (v := (-2)) E dX9_gets_22 (by decide) ?_
  exact r_int E dX9_gets_24 ⟨rfl, rfl⟩
set_option maxRecDepth 20000 in
set_option maxHeartbeats 2000000 in
theorem K_X9_from_0_CRMS (l : Launch) (D : va_G) (aC : Nat → ClassId) (b : Nat) (w : XW) (x1 : Int32) (x2 : Int32) (hw0 : FrC w) (hw1 : RfC w) (hw2 : FrM w) (hw3 : RfM w) : CnI l D aC b M_X9_from 2 42 0 0 [AR 0, AI x1, AI x2] w (fun r u => r = (-2) ∧ w = u) := by
  refine cn_I (own := RX9) (nm := "from") (L0 := [some (AR 0), some (AI x1), some (AI x2)]) (by decide +kernel) rfl rfl (Nat.le_of_ble_eq_true rfl) rfl ?_
  intro p e s m args below meth c E hin
  refine s_aload_n E dX9_from_0 rfl rfl ?_
  refine s_gR (r := 2) E fg_X9_20 rfl rfl (ltn hw0.1 (by decide)) (fc_r hw0 (by decide +kernel)) dX9_from_1 ?_
  refine s_iload_n E dX9_from_4 rfl rfl ?_
  refine s_vI (As := [AI x1]) (S := []) E (K_X0_hasLady_2_CRMS l D aC b w x1 hw0 hw1 hw2 hw3) cv_X9_139 rfl rfl rfl (ltn hw0.1 (by decide)) (Nat.le_of_ble_eq_true rfl) (Nat.le_of_ble_eq_true rfl) ⟨(Nat.le_of_ble_eq_true rfl), (Nat.le_of_ble_eq_true rfl)⟩ (Nat.le_of_ble_eq_true rfl) dX9_from_5 (fun r u hp => ?_)
  obtain ⟨rfl, rfl⟩ := hp
  refine s_if_eq (tgt := 22) E dX9_from_8 (by decide) (fun _ => ?_) (fun hh => absurd (by decide) hh)
  refine s_bipush (v := (-2)) E dX9_from_22 (by decide) ?_
  exact r_int E dX9_from_24 ⟨rfl, rfl⟩
set_option maxRecDepth 20000 in
set_option maxHeartbeats 2000000 in
theorem K_X9_all_0_CRMS (l : Launch) (D : va_G) (aC : Nat → ClassId) (b : Nat) (w : XW) (x1 : Int32) (hw0 : FrC w) (hw1 : RfC w) (hw2 : FrM w) (hw3 : RfM w) : CnI l D aC b M_X9_all 2 42 0 0 [AR 0, AI x1] w (fun r u => r = (-2) ∧ w = u) := by
  refine cn_I (own := RX9) (nm := "all") (L0 := [some (AR 0), some (AI x1), none, none]) (by decide +kernel) rfl rfl (Nat.le_of_ble_eq_true rfl) rfl ?_
  intro p e s m args below meth c E hin
  refine s_aload_n E dX9_all_0 rfl rfl ?_
  refine s_gR (r := 2) E fg_X9_20 rfl rfl (ltn hw0.1 (by decide)) (fc_r hw0 (by decide +kernel)) dX9_all_1 ?_
  refine s_iload_n E dX9_all_4 rfl rfl ?_
  refine s_vI (As := [AI x1]) (S := []) E (K_X0_hasLady_2_CRMS l D aC b w x1 hw0 hw1 hw2 hw3) cv_X9_139 rfl rfl rfl (ltn hw0.1 (by decide)) (Nat.le_of_ble_eq_true rfl) (Nat.le_of_ble_eq_true rfl) ⟨(Nat.le_of_ble_eq_true rfl), (Nat.le_of_ble_eq_true rfl)⟩ (Nat.le_of_ble_eq_true rfl) dX9_all_5 (fun r u hp => ?_)
  obtain ⟨rfl, rfl⟩ := hp
  refine s_if_ne (tgt := 14) E dX9_all_8 (by decide) (fun hh => absurd (by decide) hh) (fun _ => ?_)
  refine s_bipush (v := (-2)) E dX9_all_11 (by decide) ?_
  exact r_int E dX9_all_13 ⟨rfl, rfl⟩
set_option maxRecDepth 20000 in
set_option maxHeartbeats 2000000 in
theorem K_X9_best_0_CRMS (l : Launch) (D : va_G) (aC : Nat → ClassId) (b : Nat) (w : XW)  (hw0 : FrC w) (hw1 : RfC w) (hw2 : FrM w) (hw3 : RfM w) : CnI l D aC b M_X9_best 1 20 0 0 [AR 0] w (fun r u => r = (-2) ∧ w = u) := by
  refine cn_I (own := RX9) (nm := "best") (L0 := [some (AR 0), none, none, none, none]) (by decide +kernel) rfl rfl (Nat.le_of_ble_eq_true rfl) rfl ?_
  intro p e s m args below meth c E hin
  refine s_aload_n E dX9_best_0 rfl rfl ?_
  refine s_gR (r := 2) E fg_X9_20 rfl rfl (ltn hw0.1 (by decide)) (fc_r hw0 (by decide +kernel)) dX9_best_1 ?_
  refine s_vI (As := []) (S := []) E (K_X0_isTold_2_CRMS l D aC b w  hw0 hw1 hw2 hw3) cv_X9_184 rfl rfl rfl (ltn hw0.1 (by decide)) (Nat.le_of_ble_eq_true rfl) (Nat.le_of_ble_eq_true rfl) ⟨(Nat.le_of_ble_eq_true rfl), (Nat.le_of_ble_eq_true rfl)⟩ (Nat.le_of_ble_eq_true rfl) dX9_best_4 (fun r u hp => ?_)
  obtain ⟨rfl, rfl⟩ := hp
  refine s_if_ne (tgt := 13) E dX9_best_7 (by decide) (fun hh => absurd (by decide) hh) (fun _ => ?_)
  refine s_bipush (v := (-2)) E dX9_best_10 (by decide) ?_
  exact r_int E dX9_best_12 ⟨rfl, rfl⟩
set_option maxRecDepth 20000 in
set_option maxHeartbeats 2000000 in
theorem K_X9_lasts_0_CRMS (l : Launch) (D : va_G) (aC : Nat → ClassId) (b : Nat) (w : XW) (x1 : Int32) (hw0 : FrC w) (hw1 : RfC w) (hw2 : FrM w) (hw3 : RfM w) : CnI l D aC b M_X9_lasts 2 42 0 0 [AR 0, AI x1] w (fun r u => r = (-2) ∧ w = u) := by
  refine cn_I (own := RX9) (nm := "lasts") (L0 := [some (AR 0), some (AI x1), none, none]) (by decide +kernel) rfl rfl (Nat.le_of_ble_eq_true rfl) rfl ?_
  intro p e s m args below meth c E hin
  refine s_aload_n E dX9_lasts_0 rfl rfl ?_
  refine s_gR (r := 2) E fg_X9_20 rfl rfl (ltn hw0.1 (by decide)) (fc_r hw0 (by decide +kernel)) dX9_lasts_1 ?_
  refine s_iload_n E dX9_lasts_4 rfl rfl ?_
  refine s_vI (As := [AI x1]) (S := []) E (K_X0_hasLady_2_CRMS l D aC b w x1 hw0 hw1 hw2 hw3) cv_X9_139 rfl rfl rfl (ltn hw0.1 (by decide)) (Nat.le_of_ble_eq_true rfl) (Nat.le_of_ble_eq_true rfl) ⟨(Nat.le_of_ble_eq_true rfl), (Nat.le_of_ble_eq_true rfl)⟩ (Nat.le_of_ble_eq_true rfl) dX9_lasts_5 (fun r u hp => ?_)
  obtain ⟨rfl, rfl⟩ := hp
  refine s_if_ne (tgt := 14) E dX9_lasts_8 (by decide) (fun hh => absurd (by decide) hh) (fun _ => ?_)
  refine s_bipush (v := (-2)) E dX9_lasts_11 (by decide) ?_
  exact r_int E dX9_lasts_13 ⟨rfl, rfl⟩
set_option maxRecDepth 20000 in
set_option maxHeartbeats 2000000 in
theorem K_X9_needed_0_CRMS (l : Launch) (D : va_G) (aC : Nat → ClassId) (b : Nat) (w : XW) (x1 : Int32) (hw0 : FrC w) (hw1 : RfC w) (hw2 : FrM w) (hw3 : RfM w) : CnI l D aC b M_X9_needed 2 42 0 0 [AR 0, AI x1] w (fun r u => r = (-2) ∧ w = u) := by
  refine cn_I (own := RX9) (nm := "needed") (L0 := [some (AR 0), some (AI x1), none, none, none, none]) (by decide +kernel) rfl rfl (Nat.le_of_ble_eq_true rfl) rfl ?_
  intro p e s m args below meth c E hin
  refine s_aload_n E dX9_needed_0 rfl rfl ?_
  refine s_gR (r := 2) E fg_X9_20 rfl rfl (ltn hw0.1 (by decide)) (fc_r hw0 (by decide +kernel)) dX9_needed_1 ?_
  refine s_iload_n E dX9_needed_4 rfl rfl ?_
  refine s_vI (As := [AI x1]) (S := []) E (K_X0_hasLady_2_CRMS l D aC b w x1 hw0 hw1 hw2 hw3) cv_X9_139 rfl rfl rfl (ltn hw0.1 (by decide)) (Nat.le_of_ble_eq_true rfl) (Nat.le_of_ble_eq_true rfl) ⟨(Nat.le_of_ble_eq_true rfl), (Nat.le_of_ble_eq_true rfl)⟩ (Nat.le_of_ble_eq_true rfl) dX9_needed_5 (fun r u hp => ?_)
  obtain ⟨rfl, rfl⟩ := hp
  refine s_if_ne (tgt := 14) E dX9_needed_8 (by decide) (fun hh => absurd (by decide) hh) (fun _ => ?_)
  refine s_bipush (v := (-2)) E dX9_needed_11 (by decide) ?_
  exact r_int E dX9_needed_13 ⟨rfl, rfl⟩
set_option maxRecDepth 20000 in
set_option maxHeartbeats 2000000 in
theorem K_X9_by_0_CRMS (l : Launch) (D : va_G) (aC : Nat → ClassId) (b : Nat) (w : XW) (x1 : Int32) (x2 : Int32) (hw0 : FrC w) (hw1 : RfC w) (hw2 : FrM w) (hw3 : RfM w) : CnI l D aC b M_X9_by 2 42 0 0 [AR 0, AI x1, AI x2] w (fun r u => r = (-2) ∧ w = u) := by
  refine cn_I (own := RX9) (nm := "by") (L0 := [some (AR 0), some (AI x1), some (AI x2)]) (by decide +kernel) rfl rfl (Nat.le_of_ble_eq_true rfl) rfl ?_
  intro p e s m args below meth c E hin
  refine s_aload_n E dX9_by_0 rfl rfl ?_
  refine s_gR (r := 2) E fg_X9_20 rfl rfl (ltn hw0.1 (by decide)) (fc_r hw0 (by decide +kernel)) dX9_by_1 ?_
  refine s_iload_n E dX9_by_4 rfl rfl ?_
  refine s_vI (As := [AI x1]) (S := []) E (K_X0_hasLady_2_CRMS l D aC b w x1 hw0 hw1 hw2 hw3) cv_X9_139 rfl rfl rfl (ltn hw0.1 (by decide)) (Nat.le_of_ble_eq_true rfl) (Nat.le_of_ble_eq_true rfl) ⟨(Nat.le_of_ble_eq_true rfl), (Nat.le_of_ble_eq_true rfl)⟩ (Nat.le_of_ble_eq_true rfl) dX9_by_5 (fun r u hp => ?_)
  obtain ⟨rfl, rfl⟩ := hp
  refine s_if_eq (tgt := 20) E dX9_by_8 (by decide) (fun _ => ?_) (fun hh => absurd (by decide) hh)
  refine s_bipush (v := (-2)) E dX9_by_20 (by decide) ?_
  exact r_int E dX9_by_22 ⟨rfl, rfl⟩
set_option maxRecDepth 20000 in
set_option maxHeartbeats 2000000 in
theorem K_X9_carry_0_CRMS (l : Launch) (D : va_G) (aC : Nat → ClassId) (b : Nat) (w : XW) (x1 : Int32) (x2 : Int32) (x3 : Int32) (hw0 : FrC w) (hw1 : RfC w) (hw2 : FrM w) (hw3 : RfM w) : CnI l D aC b M_X9_carry 2 42 0 0 [AR 0, AI x1, AI x2, AI x3] w (fun r u => r = (-2) ∧ w = u) := by
  refine cn_I (own := RX9) (nm := "carry") (L0 := [some (AR 0), some (AI x1), some (AI x2), some (AI x3)]) (by decide +kernel) rfl rfl (Nat.le_of_ble_eq_true rfl) rfl ?_
  intro p e s m args below meth c E hin
  refine s_aload_n E dX9_carry_0 rfl rfl ?_
  refine s_gR (r := 2) E fg_X9_20 rfl rfl (ltn hw0.1 (by decide)) (fc_r hw0 (by decide +kernel)) dX9_carry_1 ?_
  refine s_iload_n E dX9_carry_4 rfl rfl ?_
  refine s_vI (As := [AI x1]) (S := []) E (K_X0_hasLady_2_CRMS l D aC b w x1 hw0 hw1 hw2 hw3) cv_X9_139 rfl rfl rfl (ltn hw0.1 (by decide)) (Nat.le_of_ble_eq_true rfl) (Nat.le_of_ble_eq_true rfl) ⟨(Nat.le_of_ble_eq_true rfl), (Nat.le_of_ble_eq_true rfl)⟩ (Nat.le_of_ble_eq_true rfl) dX9_carry_5 (fun r u hp => ?_)
  obtain ⟨rfl, rfl⟩ := hp
  refine s_if_eq (tgt := 38) E dX9_carry_8 (by decide) (fun _ => ?_) (fun hh => absurd (by decide) hh)
  refine s_bipush (v := (-2)) E dX9_carry_38 (by decide) ?_
  exact r_int E dX9_carry_40 ⟨rfl, rfl⟩
set_option maxRecDepth 20000 in
set_option maxHeartbeats 2000000 in
theorem K_X9_walk_0_CRMS (l : Launch) (D : va_G) (aC : Nat → ClassId) (b : Nat) (w : XW) (x1 : Int32) (x2 : Int32) (x3 : Int32) (x4 : Int32) (hw0 : FrC w) (hw1 : RfC w) (hw2 : FrM w) (hw3 : RfM w) : CnI l D aC b M_X9_walk 2 41 0 0 [AR 0, AI x1, AI x2, AI x3, AI x4] w (fun r u => r = (-2) ∧ w = u) := by
  refine cn_I (own := RX9) (nm := "walk") (L0 := [some (AR 0), some (AI x1), some (AI x2), some (AI x3), some (AI x4), none]) (by decide +kernel) rfl rfl (Nat.le_of_ble_eq_true rfl) rfl ?_
  intro p e s m args below meth c E hin
  refine s_aload_n E dX9_walk_0 rfl rfl ?_
  refine s_gR (r := 2) E fg_X9_20 rfl rfl (ltn hw0.1 (by decide)) (fc_r hw0 (by decide +kernel)) dX9_walk_1 ?_
  refine s_iload E dX9_walk_4 rfl ?_
  refine s_vI (As := [AI x4]) (S := []) E (K_X0_hasDance_2_CRMS l D aC b w x4 hw0 hw1 hw2 hw3) cv_X9_153 rfl rfl rfl (ltn hw0.1 (by decide)) (Nat.le_of_ble_eq_true rfl) (Nat.le_of_ble_eq_true rfl) ⟨(Nat.le_of_ble_eq_true rfl), (Nat.le_of_ble_eq_true rfl)⟩ (Nat.le_of_ble_eq_true rfl) dX9_walk_6 (fun r u hp => ?_)
  obtain ⟨rfl, rfl⟩ := hp
  refine s_if_ne (tgt := 15) E dX9_walk_9 (by decide) (fun hh => absurd (by decide) hh) (fun _ => ?_)
  refine s_bipush (v := (-2)) E dX9_walk_12 (by decide) ?_
  exact r_int E dX9_walk_14 ⟨rfl, rfl⟩
set_option maxRecDepth 20000 in
set_option maxHeartbeats 2000000 in
theorem K_X9_widen_0_CRMS (l : Launch) (D : va_G) (aC : Nat → ClassId) (b : Nat) (w : XW) (x1 : Int32) (x2 : Int32) (hw0 : FrC w) (hw1 : RfC w) (hw2 : FrM w) (hw3 : RfM w) : CnI l D aC b M_X9_widen 2 42 0 0 [AR 0, AI x1, AI x2] w (fun r u => r = (-2) ∧ w = u) := by
  refine cn_I (own := RX9) (nm := "widen") (L0 := [some (AR 0), some (AI x1), some (AI x2), none, none, none, none]) (by decide +kernel) rfl rfl (Nat.le_of_ble_eq_true rfl) rfl ?_
  intro p e s m args below meth c E hin
  refine s_aload_n E dX9_widen_0 rfl rfl ?_
  refine s_gR (r := 2) E fg_X9_20 rfl rfl (ltn hw0.1 (by decide)) (fc_r hw0 (by decide +kernel)) dX9_widen_1 ?_
  refine s_iload_n E dX9_widen_4 rfl rfl ?_
  refine s_vI (As := [AI x1]) (S := []) E (K_X0_hasLady_2_CRMS l D aC b w x1 hw0 hw1 hw2 hw3) cv_X9_139 rfl rfl rfl (ltn hw0.1 (by decide)) (Nat.le_of_ble_eq_true rfl) (Nat.le_of_ble_eq_true rfl) ⟨(Nat.le_of_ble_eq_true rfl), (Nat.le_of_ble_eq_true rfl)⟩ (Nat.le_of_ble_eq_true rfl) dX9_widen_5 (fun r u hp => ?_)
  obtain ⟨rfl, rfl⟩ := hp
  refine s_if_eq (tgt := 25) E dX9_widen_8 (by decide) (fun _ => ?_) (fun hh => absurd (by decide) hh)
  refine s_bipush (v := (-2)) E dX9_widen_25 (by decide) ?_
  exact r_int E dX9_widen_27 ⟨rfl, rfl⟩
set_option maxRecDepth 20000 in
set_option maxHeartbeats 2000000 in
theorem K_X9_shut_0_CRMS (l : Launch) (D : va_G) (aC : Nat → ClassId) (b : Nat) (w : XW) (x1 : Int32) (x2 : Int32) (hw0 : FrC w) (hw1 : RfC w) (hw2 : FrM w) (hw3 : RfM w) : CnI l D aC b M_X9_shut 2 42 0 0 [AR 0, AI x1, AI x2] w (fun r u => r = (-2) ∧ w = u) := by
  refine cn_I (own := RX9) (nm := "shut") (L0 := [some (AR 0), some (AI x1), some (AI x2)]) (by decide +kernel) rfl rfl (Nat.le_of_ble_eq_true rfl) rfl ?_
  intro p e s m args below meth c E hin
  refine s_aload_n E dX9_shut_0 rfl rfl ?_
  refine s_gR (r := 2) E fg_X9_20 rfl rfl (ltn hw0.1 (by decide)) (fc_r hw0 (by decide +kernel)) dX9_shut_1 ?_
  refine s_iload_n E dX9_shut_4 rfl rfl ?_
  refine s_vI (As := [AI x1]) (S := []) E (K_X0_hasLady_2_CRMS l D aC b w x1 hw0 hw1 hw2 hw3) cv_X9_139 rfl rfl rfl (ltn hw0.1 (by decide)) (Nat.le_of_ble_eq_true rfl) (Nat.le_of_ble_eq_true rfl) ⟨(Nat.le_of_ble_eq_true rfl), (Nat.le_of_ble_eq_true rfl)⟩ (Nat.le_of_ble_eq_true rfl) dX9_shut_5 (fun r u hp => ?_)
  obtain ⟨rfl, rfl⟩ := hp
  refine s_if_eq (tgt := 25) E dX9_shut_8 (by decide) (fun _ => ?_) (fun hh => absurd (by decide) hh)
  refine s_bipush (v := (-2)) E dX9_shut_25 (by decide) ?_
  exact r_int E dX9_shut_27 ⟨rfl, rfl⟩
set_option maxRecDepth 20000 in
set_option maxHeartbeats 2000000 in
theorem K_X9_bars_0_CRMS (l : Launch) (D : va_G) (aC : Nat → ClassId) (b : Nat) (w : XW) (x1 : Int32) (x2 : Int32) (x3 : Int32) (hw0 : FrC w) (hw1 : RfC w) (hw2 : FrM w) (hw3 : RfM w) : CnI l D aC b M_X9_bars 2 42 0 0 [AR 0, AI x1, AI x2, AI x3] w (fun r u => r = (-2) ∧ w = u) := by
  refine cn_I (own := RX9) (nm := "bars") (L0 := [some (AR 0), some (AI x1), some (AI x2), some (AI x3), none]) (by decide +kernel) rfl rfl (Nat.le_of_ble_eq_true rfl) rfl ?_
  intro p e s m args below meth c E hin
  refine s_aload_n E dX9_bars_0 rfl rfl ?_
  refine s_gR (r := 2) E fg_X9_20 rfl rfl (ltn hw0.1 (by decide)) (fc_r hw0 (by decide +kernel)) dX9_bars_1 ?_
  refine s_iload_n E dX9_bars_4 rfl rfl ?_
  refine s_vI (As := [AI x1]) (S := []) E (K_X0_hasLady_2_CRMS l D aC b w x1 hw0 hw1 hw2 hw3) cv_X9_139 rfl rfl rfl (ltn hw0.1 (by decide)) (Nat.le_of_ble_eq_true rfl) (Nat.le_of_ble_eq_true rfl) ⟨(Nat.le_of_ble_eq_true rfl), (Nat.le_of_ble_eq_true rfl)⟩ (Nat.le_of_ble_eq_true rfl) dX9_bars_5 (fun r u hp => ?_)
  obtain ⟨rfl, rfl⟩ := hp
  refine s_if_eq (tgt := 33) E dX9_bars_8 (by decide) (fun _ => ?_) (fun hh => absurd (by decide) hh)
  refine s_bipush (v := (-2)) E dX9_bars_33 (by decide) ?_
  exact r_int E dX9_bars_35 ⟨rfl, rfl⟩
set_option maxRecDepth 20000 in
set_option maxHeartbeats 2000000 in
theorem K_X9_isSlot_CRMS (l : Launch) (D : va_G) (aC : Nat → ClassId) (b : Nat) (w : XW) (x1 : Int32) (hw0 : FrC w) (hw1 : RfC w) (hw2 : FrM w) (hw3 : RfM w) : CnI l D aC b M_X9_isSlot 0 0 0 0 [AI x1] w (fun r u => (r = 1 ∧ 0 ≤ x1.toInt ∧ x1.toInt ≤ 3 ∧ w = u) ∨ (r = 0 ∧ (x1.toInt < 0 ∨ 3 < x1.toInt) ∧ w = u)) := by
  refine cn_I (own := RX9) (nm := "isSlot") (L0 := [some (AI x1)]) (by decide +kernel) rfl rfl (Nat.le_of_ble_eq_true rfl) rfl ?_
  intro p e s m args below meth c E hin
  refine s_iload_n E dX9_isSlot_0 rfl rfl ?_
  refine s_if_lt (tgt := 13) E dX9_isSlot_1 (by decide) (fun h_1 => ?_) (fun h_1 => ?_)
  ·
    refine s_iconst (v := 0) E dX9_isSlot_13 (by decide) ?_
    exact r_bool E dX9_isSlot_14 (Or.inl rfl) (by have q0 := h_1; (try simp only [lg_cmp_lt, lg_cmp_le, lg_cmp_ge, lg_cmp_gt] at q0); (try simp only [Int32.lt_iff_toInt_lt, Int32.le_iff_toInt_le, Int64.lt_iff_toInt_lt, Int64.le_iff_toInt_le, ← Int32.toInt_inj, ← Int64.toInt_inj, Int32.toInt_toInt64] at q0); have e0 : (0 : Int32).toInt = 0 := (by decide); have e1 : (0 : Int64).toInt = 0 := (by decide); (try simp only [e0, e1] at q0); exact Or.inr ⟨rfl, by omega, rfl⟩)
  ·
    refine s_iload_n E dX9_isSlot_4 rfl rfl ?_
    refine s_iconst (v := 4) E dX9_isSlot_5 (by decide) ?_
    refine s_icmp_ge (tgt := 13) E dX9_isSlot_6 (by decide) (fun h_2 => ?_) (fun h_2 => ?_)
    ·
      refine s_iconst (v := 0) E dX9_isSlot_13 (by decide) ?_
      exact r_bool E dX9_isSlot_14 (Or.inl rfl) (by have q0 := h_1; have q1 := h_2; (try simp only [lg_cmp_lt, lg_cmp_le, lg_cmp_ge, lg_cmp_gt] at q0 q1); (try simp only [Int32.lt_iff_toInt_lt, Int32.le_iff_toInt_le, Int64.lt_iff_toInt_lt, Int64.le_iff_toInt_le, ← Int32.toInt_inj, ← Int64.toInt_inj, Int32.toInt_toInt64] at q0 q1); have e0 : (0 : Int32).toInt = 0 := (by decide); have e1 : (4 : Int32).toInt = 4 := (by decide); have e2 : (0 : Int64).toInt = 0 := (by decide); (try simp only [e0, e1, e2] at q0 q1); exact Or.inr ⟨rfl, by omega, rfl⟩)
    ·
      refine s_iconst (v := 1) E dX9_isSlot_9 (by decide) ?_
      refine s_goto (tgt := 14) E dX9_isSlot_10 (by decide) ?_
      exact r_bool E dX9_isSlot_14 (Or.inr rfl) (by have q0 := h_1; have q1 := h_2; (try simp only [lg_cmp_lt, lg_cmp_le, lg_cmp_ge, lg_cmp_gt] at q0 q1); (try simp only [Int32.lt_iff_toInt_lt, Int32.le_iff_toInt_le, Int64.lt_iff_toInt_lt, Int64.le_iff_toInt_le, ← Int32.toInt_inj, ← Int64.toInt_inj, Int32.toInt_toInt64] at q0 q1); have e0 : (0 : Int32).toInt = 0 := (by decide); have e1 : (4 : Int32).toInt = 4 := (by decide); have e2 : (0 : Int64).toInt = 0 := (by decide); (try simp only [e0, e1, e2] at q0 q1); exact Or.inl ⟨rfl, by omega, by omega, rfl⟩)
set_option maxRecDepth 20000 in
set_option maxHeartbeats 2000000 in
theorem K_X9_seenFault_0_CRMS (l : Launch) (D : va_G) (aC : Nat → ClassId) (b : Nat) (w : XW) (x1 : Int32) (hw0 : FrC w) (hw1 : RfC w) (hw2 : FrM w) (hw3 : RfM w) : CnI l D aC b M_X9_seenFault 1 20 0 0 [AR 0, AI x1] w (fun r u => r = (-2) ∧ w = u) := by
  refine cn_I (own := RX9) (nm := "seenFault") (L0 := [some (AR 0), some (AI x1), none, none]) (by decide +kernel) rfl rfl (Nat.le_of_ble_eq_true rfl) rfl ?_
  intro p e s m args below meth c E hin
  refine s_iload_n E dX9_seenFault_0 rfl rfl ?_
  refine s_sI (As := [AI x1]) (S := []) E (K_X9_isSlot_CRMS l D aC b w x1 hw0 hw1 hw2 hw3) cs_X9_276 rfl rfl (Nat.le_of_ble_eq_true rfl) (Nat.le_of_ble_eq_true rfl) ⟨(Nat.le_of_ble_eq_true rfl), (Nat.le_of_ble_eq_true rfl)⟩ (Nat.le_of_ble_eq_true rfl) dX9_seenFault_1 (fun r u hp => ?_)
  rcases hp with ⟨rfl, h_1, h_2, rfl⟩ | ⟨rfl, h_3, rfl⟩
  ·
    refine s_if_eq (tgt := 17) E dX9_seenFault_4 (by decide) (fun hh => absurd hh (by decide)) (fun _ => ?_)
    refine s_aload_n E dX9_seenFault_7 rfl rfl ?_
    refine s_gR (r := 2) E fg_X9_20 rfl rfl (ltn hw0.1 (by decide)) (fc_r hw0 (by decide +kernel)) dX9_seenFault_8 ?_
    refine s_vI (As := []) (S := []) E (K_X0_isTold_2_CRMS l D aC b w  hw0 hw1 hw2 hw3) cv_X9_184 rfl rfl rfl (ltn hw0.1 (by decide)) (Nat.le_of_ble_eq_true rfl) (Nat.le_of_ble_eq_true rfl) ⟨(Nat.le_of_ble_eq_true rfl), (Nat.le_of_ble_eq_true rfl)⟩ (Nat.le_of_ble_eq_true rfl) dX9_seenFault_11 (fun r u hp => ?_)
    obtain ⟨rfl, rfl⟩ := hp
    refine s_if_ne (tgt := 20) E dX9_seenFault_14 (by decide) (fun hh => absurd (by decide) hh) (fun _ => ?_)
    refine s_bipush (v := (-2)) E dX9_seenFault_17 (by decide) ?_
    exact r_int E dX9_seenFault_19 ⟨rfl, rfl⟩
  ·
    refine s_if_eq (tgt := 17) E dX9_seenFault_4 (by decide) (fun _ => ?_) (fun hh => absurd (by decide) hh)
    refine s_bipush (v := (-2)) E dX9_seenFault_17 (by decide) ?_
    exact r_int E dX9_seenFault_19 ⟨rfl, rfl⟩
set_option maxRecDepth 20000 in
set_option maxHeartbeats 2000000 in
theorem K_X9_firsts_0_CRMS (l : Launch) (D : va_G) (aC : Nat → ClassId) (b : Nat) (w : XW) (x1 : Int32) (hw0 : FrC w) (hw1 : RfC w) (hw2 : FrM w) (hw3 : RfM w) : CnI l D aC b M_X9_firsts 2 43 0 0 [AR 0, AI x1] w (fun r u => r = (-2) ∧ w = u) := by
  refine cn_I (own := RX9) (nm := "firsts") (L0 := [some (AR 0), some (AI x1), none]) (by decide +kernel) rfl rfl (Nat.le_of_ble_eq_true rfl) rfl ?_
  intro p e s m args below meth c E hin
  refine s_aload_n E dX9_firsts_0 rfl rfl ?_
  refine s_iload_n E dX9_firsts_1 rfl rfl ?_
  refine s_vI (As := [AI x1]) (S := []) E (K_X9_seenFault_0_CRMS l D aC b w x1 hw0 hw1 hw2 hw3) cv_X9_263 rfl rfl rfl (ltn hw0.1 (by decide)) (Nat.le_of_ble_eq_true rfl) (Nat.le_of_ble_eq_true rfl) ⟨(Nat.le_of_ble_eq_true rfl), (Nat.le_of_ble_eq_true rfl)⟩ (Nat.le_of_ble_eq_true rfl) dX9_firsts_2 (fun r u hp => ?_)
  obtain ⟨rfl, rfl⟩ := hp
  refine s_istore_n (L2 := [some (AR 0), some (AI x1), some (AI (-2))]) E dX9_firsts_5 rfl (by decide) rfl ?_
  refine s_iload_n E dX9_firsts_6 rfl rfl ?_
  refine s_if_eq (tgt := 14) E dX9_firsts_7 (by decide) (fun hh => absurd hh (by decide)) (fun _ => ?_)
  refine s_iload_n E dX9_firsts_10 rfl rfl ?_
  refine s_goto (tgt := 24) E dX9_firsts_11 (by decide) ?_
  exact r_int E dX9_firsts_24 ⟨rfl, rfl⟩
set_option maxRecDepth 20000 in
set_option maxHeartbeats 2000000 in
theorem K_X9_ask_0_CRMS (l : Launch) (D : va_G) (aC : Nat → ClassId) (b : Nat) (w : XW) (x1 : Int32) (hw0 : FrC w) (hw1 : RfC w) (hw2 : FrM w) (hw3 : RfM w) : CnI l D aC b M_X9_ask 2 43 0 0 [AR 0, AI x1] w (fun r u => r = (-2) ∧ w = u) := by
  refine cn_I (own := RX9) (nm := "ask") (L0 := [some (AR 0), some (AI x1), none]) (by decide +kernel) rfl rfl (Nat.le_of_ble_eq_true rfl) rfl ?_
  intro p e s m args below meth c E hin
  refine s_aload_n E dX9_ask_0 rfl rfl ?_
  refine s_iload_n E dX9_ask_1 rfl rfl ?_
  refine s_vI (As := [AI x1]) (S := []) E (K_X9_seenFault_0_CRMS l D aC b w x1 hw0 hw1 hw2 hw3) cv_X9_263 rfl rfl rfl (ltn hw0.1 (by decide)) (Nat.le_of_ble_eq_true rfl) (Nat.le_of_ble_eq_true rfl) ⟨(Nat.le_of_ble_eq_true rfl), (Nat.le_of_ble_eq_true rfl)⟩ (Nat.le_of_ble_eq_true rfl) dX9_ask_2 (fun r u hp => ?_)
  obtain ⟨rfl, rfl⟩ := hp
  refine s_istore_n (L2 := [some (AR 0), some (AI x1), some (AI (-2))]) E dX9_ask_5 rfl (by decide) rfl ?_
  refine s_iload_n E dX9_ask_6 rfl rfl ?_
  refine s_if_eq (tgt := 14) E dX9_ask_7 (by decide) (fun hh => absurd hh (by decide)) (fun _ => ?_)
  refine s_iload_n E dX9_ask_10 rfl rfl ?_
  refine s_goto (tgt := 28) E dX9_ask_11 (by decide) ?_
  exact r_int E dX9_ask_28 ⟨rfl, rfl⟩
set_option maxRecDepth 20000 in
set_option maxHeartbeats 2000000 in
theorem K_X9_leaves_0_CRMS (l : Launch) (D : va_G) (aC : Nat → ClassId) (b : Nat) (w : XW) (x1 : Int32) (hw0 : FrC w) (hw1 : RfC w) (hw2 : FrM w) (hw3 : RfM w) : CnI l D aC b M_X9_leaves 2 43 0 0 [AR 0, AI x1] w (fun r u => r = (-2) ∧ w = u) := by
  refine cn_I (own := RX9) (nm := "leaves") (L0 := [some (AR 0), some (AI x1), none, none, none]) (by decide +kernel) rfl rfl (Nat.le_of_ble_eq_true rfl) rfl ?_
  intro p e s m args below meth c E hin
  refine s_aload_n E dX9_leaves_0 rfl rfl ?_
  refine s_iload_n E dX9_leaves_1 rfl rfl ?_
  refine s_vI (As := [AI x1]) (S := []) E (K_X9_seenFault_0_CRMS l D aC b w x1 hw0 hw1 hw2 hw3) cv_X9_263 rfl rfl rfl (ltn hw0.1 (by decide)) (Nat.le_of_ble_eq_true rfl) (Nat.le_of_ble_eq_true rfl) ⟨(Nat.le_of_ble_eq_true rfl), (Nat.le_of_ble_eq_true rfl)⟩ (Nat.le_of_ble_eq_true rfl) dX9_leaves_2 (fun r u hp => ?_)
  obtain ⟨rfl, rfl⟩ := hp
  refine s_istore_n (L2 := [some (AR 0), some (AI x1), some (AI (-2)), none, none]) E dX9_leaves_5 rfl (by decide) rfl ?_
  refine s_iload_n E dX9_leaves_6 rfl rfl ?_
  refine s_if_eq (tgt := 12) E dX9_leaves_7 (by decide) (fun hh => absurd hh (by decide)) (fun _ => ?_)
  refine s_iload_n E dX9_leaves_10 rfl rfl ?_
  exact r_int E dX9_leaves_11 ⟨rfl, rfl⟩
set_option maxRecDepth 20000 in
set_option maxHeartbeats 2000000 in
theorem K_X9_seats_0_CRMS (l : Launch) (D : va_G) (aC : Nat → ClassId) (b : Nat) (w : XW) (x1 : Int32) (hw0 : FrC w) (hw1 : RfC w) (hw2 : FrM w) (hw3 : RfM w) : CnI l D aC b M_X9_seats 2 42 0 0 [AR 0, AI x1] w (fun r u => r = (-2) ∧ w = u) := by
  refine cn_I (own := RX9) (nm := "seats") (L0 := [some (AR 0), some (AI x1)]) (by decide +kernel) rfl rfl (Nat.le_of_ble_eq_true rfl) rfl ?_
  intro p e s m args below meth c E hin
  refine s_aload_n E dX9_seats_0 rfl rfl ?_
  refine s_gR (r := 2) E fg_X9_20 rfl rfl (ltn hw0.1 (by decide)) (fc_r hw0 (by decide +kernel)) dX9_seats_1 ?_
  refine s_iload_n E dX9_seats_4 rfl rfl ?_
  refine s_vI (As := [AI x1]) (S := []) E (K_X0_hasLady_2_CRMS l D aC b w x1 hw0 hw1 hw2 hw3) cv_X9_139 rfl rfl rfl (ltn hw0.1 (by decide)) (Nat.le_of_ble_eq_true rfl) (Nat.le_of_ble_eq_true rfl) ⟨(Nat.le_of_ble_eq_true rfl), (Nat.le_of_ble_eq_true rfl)⟩ (Nat.le_of_ble_eq_true rfl) dX9_seats_5 (fun r u hp => ?_)
  obtain ⟨rfl, rfl⟩ := hp
  refine s_if_eq (tgt := 22) E dX9_seats_8 (by decide) (fun _ => ?_) (fun hh => absurd (by decide) hh)
  refine s_bipush (v := (-2)) E dX9_seats_22 (by decide) ?_
  exact r_int E dX9_seats_24 ⟨rfl, rfl⟩
set_option maxRecDepth 20000 in
set_option maxHeartbeats 2000000 in
theorem K_X9_under_0_CRMS (l : Launch) (D : va_G) (aC : Nat → ClassId) (b : Nat) (w : XW) (x1 : Int32) (hw0 : FrC w) (hw1 : RfC w) (hw2 : FrM w) (hw3 : RfM w) : CnI l D aC b M_X9_under 2 42 0 0 [AR 0, AI x1] w (fun r u => r = (-2) ∧ w = u) := by
  refine cn_I (own := RX9) (nm := "under") (L0 := [some (AR 0), some (AI x1)]) (by decide +kernel) rfl rfl (Nat.le_of_ble_eq_true rfl) rfl ?_
  intro p e s m args below meth c E hin
  refine s_aload_n E dX9_under_0 rfl rfl ?_
  refine s_gR (r := 2) E fg_X9_20 rfl rfl (ltn hw0.1 (by decide)) (fc_r hw0 (by decide +kernel)) dX9_under_1 ?_
  refine s_iload_n E dX9_under_4 rfl rfl ?_
  refine s_vI (As := [AI x1]) (S := []) E (K_X0_hasLady_2_CRMS l D aC b w x1 hw0 hw1 hw2 hw3) cv_X9_139 rfl rfl rfl (ltn hw0.1 (by decide)) (Nat.le_of_ble_eq_true rfl) (Nat.le_of_ble_eq_true rfl) ⟨(Nat.le_of_ble_eq_true rfl), (Nat.le_of_ble_eq_true rfl)⟩ (Nat.le_of_ble_eq_true rfl) dX9_under_5 (fun r u hp => ?_)
  obtain ⟨rfl, rfl⟩ := hp
  refine s_if_eq (tgt := 22) E dX9_under_8 (by decide) (fun _ => ?_) (fun hh => absurd (by decide) hh)
  refine s_bipush (v := (-2)) E dX9_under_22 (by decide) ?_
  exact r_int E dX9_under_24 ⟨rfl, rfl⟩
set_option maxRecDepth 20000 in
set_option maxHeartbeats 2000000 in
theorem K_X9_holds_0_CRMS (l : Launch) (D : va_G) (aC : Nat → ClassId) (b : Nat) (w : XW) (x1 : Int32) (hw0 : FrC w) (hw1 : RfC w) (hw2 : FrM w) (hw3 : RfM w) : CnI l D aC b M_X9_holds 2 41 0 0 [AR 0, AI x1] w (fun r u => r = (-2) ∧ w = u) := by
  refine cn_I (own := RX9) (nm := "holds") (L0 := [some (AR 0), some (AI x1)]) (by decide +kernel) rfl rfl (Nat.le_of_ble_eq_true rfl) rfl ?_
  intro p e s m args below meth c E hin
  refine s_aload_n E dX9_holds_0 rfl rfl ?_
  refine s_gR (r := 2) E fg_X9_20 rfl rfl (ltn hw0.1 (by decide)) (fc_r hw0 (by decide +kernel)) dX9_holds_1 ?_
  refine s_iload_n E dX9_holds_4 rfl rfl ?_
  refine s_vI (As := [AI x1]) (S := []) E (K_X0_hasSet_2_CRMS l D aC b w x1 hw0 hw1 hw2 hw3) cv_X9_308 rfl rfl rfl (ltn hw0.1 (by decide)) (Nat.le_of_ble_eq_true rfl) (Nat.le_of_ble_eq_true rfl) ⟨(Nat.le_of_ble_eq_true rfl), (Nat.le_of_ble_eq_true rfl)⟩ (Nat.le_of_ble_eq_true rfl) dX9_holds_5 (fun r u hp => ?_)
  obtain ⟨rfl, rfl⟩ := hp
  refine s_if_ne (tgt := 14) E dX9_holds_8 (by decide) (fun hh => absurd (by decide) hh) (fun _ => ?_)
  refine s_bipush (v := (-2)) E dX9_holds_11 (by decide) ?_
  exact r_int E dX9_holds_13 ⟨rfl, rfl⟩
set_option maxRecDepth 20000 in
set_option maxHeartbeats 2000000 in
theorem K_X9_power_0_CRMS (l : Launch) (D : va_G) (aC : Nat → ClassId) (b : Nat) (w : XW) (x1 : Int32) (hw0 : FrC w) (hw1 : RfC w) (hw2 : FrM w) (hw3 : RfM w) : CnI l D aC b M_X9_power 2 42 0 0 [AR 0, AI x1] w (fun r u => r = (-2) ∧ w = u) := by
  refine cn_I (own := RX9) (nm := "power") (L0 := [some (AR 0), some (AI x1)]) (by decide +kernel) rfl rfl (Nat.le_of_ble_eq_true rfl) rfl ?_
  intro p e s m args below meth c E hin
  refine s_aload_n E dX9_power_0 rfl rfl ?_
  refine s_gR (r := 2) E fg_X9_20 rfl rfl (ltn hw0.1 (by decide)) (fc_r hw0 (by decide +kernel)) dX9_power_1 ?_
  refine s_iload_n E dX9_power_4 rfl rfl ?_
  refine s_vI (As := [AI x1]) (S := []) E (K_X0_hasLady_2_CRMS l D aC b w x1 hw0 hw1 hw2 hw3) cv_X9_139 rfl rfl rfl (ltn hw0.1 (by decide)) (Nat.le_of_ble_eq_true rfl) (Nat.le_of_ble_eq_true rfl) ⟨(Nat.le_of_ble_eq_true rfl), (Nat.le_of_ble_eq_true rfl)⟩ (Nat.le_of_ble_eq_true rfl) dX9_power_5 (fun r u hp => ?_)
  obtain ⟨rfl, rfl⟩ := hp
  refine s_if_ne (tgt := 14) E dX9_power_8 (by decide) (fun hh => absurd (by decide) hh) (fun _ => ?_)
  refine s_bipush (v := (-2)) E dX9_power_11 (by decide) ?_
  exact r_int E dX9_power_13 ⟨rfl, rfl⟩
set_option maxRecDepth 20000 in
set_option maxHeartbeats 2000000 in
theorem K_X9_part_0_CRMS (l : Launch) (D : va_G) (aC : Nat → ClassId) (b : Nat) (w : XW) (x1 : Int32) (x2 : Int32) (hw0 : FrC w) (hw1 : RfC w) (hw2 : FrM w) (hw3 : RfM w) : CnI l D aC b M_X9_part 2 42 0 0 [AR 0, AI x1, AI x2] w (fun r u => r = (-2) ∧ w = u) := by
  refine cn_I (own := RX9) (nm := "part") (L0 := [some (AR 0), some (AI x1), some (AI x2)]) (by decide +kernel) rfl rfl (Nat.le_of_ble_eq_true rfl) rfl ?_
  intro p e s m args below meth c E hin
  refine s_aload_n E dX9_part_0 rfl rfl ?_
  refine s_gR (r := 2) E fg_X9_20 rfl rfl (ltn hw0.1 (by decide)) (fc_r hw0 (by decide +kernel)) dX9_part_1 ?_
  refine s_iload_n E dX9_part_4 rfl rfl ?_
  refine s_vI (As := [AI x1]) (S := []) E (K_X0_hasLady_2_CRMS l D aC b w x1 hw0 hw1 hw2 hw3) cv_X9_139 rfl rfl rfl (ltn hw0.1 (by decide)) (Nat.le_of_ble_eq_true rfl) (Nat.le_of_ble_eq_true rfl) ⟨(Nat.le_of_ble_eq_true rfl), (Nat.le_of_ble_eq_true rfl)⟩ (Nat.le_of_ble_eq_true rfl) dX9_part_5 (fun r u hp => ?_)
  obtain ⟨rfl, rfl⟩ := hp
  refine s_if_eq (tgt := 18) E dX9_part_8 (by decide) (fun _ => ?_) (fun hh => absurd (by decide) hh)
  refine s_bipush (v := (-2)) E dX9_part_18 (by decide) ?_
  exact r_int E dX9_part_20 ⟨rfl, rfl⟩
set_option maxRecDepth 20000 in
set_option maxHeartbeats 2000000 in
theorem K_X9_cabinet_0_CRMS (l : Launch) (D : va_G) (aC : Nat → ClassId) (b : Nat) (w : XW)  (hw0 : FrC w) (hw1 : RfC w) (hw2 : FrM w) (hw3 : RfM w) : CnI l D aC b M_X9_cabinet 1 20 0 0 [AR 0] w (fun r u => r = (-2) ∧ w = u) := by
  refine cn_I (own := RX9) (nm := "cabinet") (L0 := [some (AR 0), none, none, none]) (by decide +kernel) rfl rfl (Nat.le_of_ble_eq_true rfl) rfl ?_
  intro p e s m args below meth c E hin
  refine s_aload_n E dX9_cabinet_0 rfl rfl ?_
  refine s_gR (r := 2) E fg_X9_20 rfl rfl (ltn hw0.1 (by decide)) (fc_r hw0 (by decide +kernel)) dX9_cabinet_1 ?_
  refine s_vI (As := []) (S := []) E (K_X0_isTold_2_CRMS l D aC b w  hw0 hw1 hw2 hw3) cv_X9_184 rfl rfl rfl (ltn hw0.1 (by decide)) (Nat.le_of_ble_eq_true rfl) (Nat.le_of_ble_eq_true rfl) ⟨(Nat.le_of_ble_eq_true rfl), (Nat.le_of_ble_eq_true rfl)⟩ (Nat.le_of_ble_eq_true rfl) dX9_cabinet_4 (fun r u hp => ?_)
  obtain ⟨rfl, rfl⟩ := hp
  refine s_if_ne (tgt := 13) E dX9_cabinet_7 (by decide) (fun hh => absurd (by decide) hh) (fun _ => ?_)
  refine s_bipush (v := (-2)) E dX9_cabinet_10 (by decide) ?_
  exact r_int E dX9_cabinet_12 ⟨rfl, rfl⟩
set_option maxRecDepth 20000 in
set_option maxHeartbeats 2000000 in
theorem K_X9_cabinets_0_CRMS (l : Launch) (D : va_G) (aC : Nat → ClassId) (b : Nat) (w : XW)  (hw0 : FrC w) (hw1 : RfC w) (hw2 : FrM w) (hw3 : RfM w) : CnI l D aC b M_X9_cabinets 1 20 0 0 [AR 0] w (fun r u => r = (-2) ∧ w = u) := by
  refine cn_I (own := RX9) (nm := "cabinets") (L0 := [some (AR 0), none, none]) (by decide +kernel) rfl rfl (Nat.le_of_ble_eq_true rfl) rfl ?_
  intro p e s m args below meth c E hin
  refine s_aload_n E dX9_cabinets_0 rfl rfl ?_
  refine s_gR (r := 2) E fg_X9_20 rfl rfl (ltn hw0.1 (by decide)) (fc_r hw0 (by decide +kernel)) dX9_cabinets_1 ?_
  refine s_vI (As := []) (S := []) E (K_X0_isTold_2_CRMS l D aC b w  hw0 hw1 hw2 hw3) cv_X9_184 rfl rfl rfl (ltn hw0.1 (by decide)) (Nat.le_of_ble_eq_true rfl) (Nat.le_of_ble_eq_true rfl) ⟨(Nat.le_of_ble_eq_true rfl), (Nat.le_of_ble_eq_true rfl)⟩ (Nat.le_of_ble_eq_true rfl) dX9_cabinets_4 (fun r u hp => ?_)
  obtain ⟨rfl, rfl⟩ := hp
  refine s_if_ne (tgt := 13) E dX9_cabinets_7 (by decide) (fun hh => absurd (by decide) hh) (fun _ => ?_)
  refine s_bipush (v := (-2)) E dX9_cabinets_10 (by decide) ?_
  exact r_int E dX9_cabinets_12 ⟨rfl, rfl⟩
set_option maxRecDepth 20000 in
set_option maxHeartbeats 2000000 in
theorem K_X9_kingmaker_0_CRMS (l : Launch) (D : va_G) (aC : Nat → ClassId) (b : Nat) (w : XW)  (hw0 : FrC w) (hw1 : RfC w) (hw2 : FrM w) (hw3 : RfM w) : CnI l D aC b M_X9_kingmaker 1 20 0 0 [AR 0] w (fun r u => r = (-2) ∧ w = u) := by
  refine cn_I (own := RX9) (nm := "kingmaker") (L0 := [some (AR 0), none]) (by decide +kernel) rfl rfl (Nat.le_of_ble_eq_true rfl) rfl ?_
  intro p e s m args below meth c E hin
  refine s_aload_n E dX9_kingmaker_0 rfl rfl ?_
  refine s_gR (r := 2) E fg_X9_20 rfl rfl (ltn hw0.1 (by decide)) (fc_r hw0 (by decide +kernel)) dX9_kingmaker_1 ?_
  refine s_vI (As := []) (S := []) E (K_X0_isTold_2_CRMS l D aC b w  hw0 hw1 hw2 hw3) cv_X9_184 rfl rfl rfl (ltn hw0.1 (by decide)) (Nat.le_of_ble_eq_true rfl) (Nat.le_of_ble_eq_true rfl) ⟨(Nat.le_of_ble_eq_true rfl), (Nat.le_of_ble_eq_true rfl)⟩ (Nat.le_of_ble_eq_true rfl) dX9_kingmaker_4 (fun r u hp => ?_)
  obtain ⟨rfl, rfl⟩ := hp
  refine s_if_ne (tgt := 13) E dX9_kingmaker_7 (by decide) (fun hh => absurd (by decide) hh) (fun _ => ?_)
  refine s_bipush (v := (-2)) E dX9_kingmaker_10 (by decide) ?_
  exact r_int E dX9_kingmaker_12 ⟨rfl, rfl⟩
set_option maxRecDepth 20000 in
set_option maxHeartbeats 2000000 in
theorem K_X9_rests_0_CRMS (l : Launch) (D : va_G) (aC : Nat → ClassId) (b : Nat) (w : XW) (x1 : Int32) (x2 : Int32) (hw0 : FrC w) (hw1 : RfC w) (hw2 : FrM w) (hw3 : RfM w) : CnI l D aC b M_X9_rests 2 42 0 0 [AR 0, AI x1, AI x2] w (fun r u => r = (-2) ∧ w = u) := by
  refine cn_I (own := RX9) (nm := "rests") (L0 := [some (AR 0), some (AI x1), some (AI x2), none, none, none, none]) (by decide +kernel) rfl rfl (Nat.le_of_ble_eq_true rfl) rfl ?_
  intro p e s m args below meth c E hin
  refine s_aload_n E dX9_rests_0 rfl rfl ?_
  refine s_gR (r := 2) E fg_X9_20 rfl rfl (ltn hw0.1 (by decide)) (fc_r hw0 (by decide +kernel)) dX9_rests_1 ?_
  refine s_iload_n E dX9_rests_4 rfl rfl ?_
  refine s_vI (As := [AI x1]) (S := []) E (K_X0_hasLady_2_CRMS l D aC b w x1 hw0 hw1 hw2 hw3) cv_X9_139 rfl rfl rfl (ltn hw0.1 (by decide)) (Nat.le_of_ble_eq_true rfl) (Nat.le_of_ble_eq_true rfl) ⟨(Nat.le_of_ble_eq_true rfl), (Nat.le_of_ble_eq_true rfl)⟩ (Nat.le_of_ble_eq_true rfl) dX9_rests_5 (fun r u hp => ?_)
  obtain ⟨rfl, rfl⟩ := hp
  refine s_if_eq (tgt := 27) E dX9_rests_8 (by decide) (fun _ => ?_) (fun hh => absurd (by decide) hh)
  refine s_bipush (v := (-2)) E dX9_rests_27 (by decide) ?_
  exact r_int E dX9_rests_29 ⟨rfl, rfl⟩
set_option maxRecDepth 20000 in
set_option maxHeartbeats 2000000 in
theorem K_X9_gains_0_CRMS (l : Launch) (D : va_G) (aC : Nat → ClassId) (b : Nat) (w : XW) (x1 : Int32) (x2 : Int32) (x3 : Int32) (x4 : Int32) (hw0 : FrC w) (hw1 : RfC w) (hw2 : FrM w) (hw3 : RfM w) : CnI l D aC b M_X9_gains 2 42 0 0 [AR 0, AI x1, AI x2, AI x3, AI x4] w (fun r u => r = (-1000) ∧ w = u) := by
  refine cn_I (own := RX9) (nm := "gains") (L0 := [some (AR 0), some (AI x1), some (AI x2), some (AI x3), some (AI x4)]) (by decide +kernel) rfl rfl (Nat.le_of_ble_eq_true rfl) rfl ?_
  intro p e s m args below meth c E hin
  refine s_aload_n E dX9_gains_0 rfl rfl ?_
  refine s_gR (r := 2) E fg_X9_20 rfl rfl (ltn hw0.1 (by decide)) (fc_r hw0 (by decide +kernel)) dX9_gains_1 ?_
  refine s_iload_n E dX9_gains_4 rfl rfl ?_
  refine s_vI (As := [AI x1]) (S := []) E (K_X0_hasLady_2_CRMS l D aC b w x1 hw0 hw1 hw2 hw3) cv_X9_139 rfl rfl rfl (ltn hw0.1 (by decide)) (Nat.le_of_ble_eq_true rfl) (Nat.le_of_ble_eq_true rfl) ⟨(Nat.le_of_ble_eq_true rfl), (Nat.le_of_ble_eq_true rfl)⟩ (Nat.le_of_ble_eq_true rfl) dX9_gains_5 (fun r u hp => ?_)
  obtain ⟨rfl, rfl⟩ := hp
  refine s_if_eq (tgt := 42) E dX9_gains_8 (by decide) (fun _ => ?_) (fun hh => absurd (by decide) hh)
  refine s_sipush (v := (-1000)) E dX9_gains_42 (by decide) ?_
  exact r_int E dX9_gains_45 ⟨rfl, rfl⟩
set_option maxRecDepth 20000 in
set_option maxHeartbeats 2000000 in
theorem K_X9_chance_0_CRMS (l : Launch) (D : va_G) (aC : Nat → ClassId) (b : Nat) (w : XW) (x1 : Int32) (x2 : Int32) (x3 : Int32) (x4 : Int32) (hw0 : FrC w) (hw1 : RfC w) (hw2 : FrM w) (hw3 : RfM w) : CnL l D aC b M_X9_chance 2 42 0 0 [AR 0, AI x1, AI x2, AI x3, AI x4] w (fun r u => r = (-2) ∧ w = u) := by
  refine cn_L (own := RX9) (nm := "chance") (L0 := [some (AR 0), some (AI x1), some (AI x2), some (AI x3), some (AI x4)]) (by decide +kernel) rfl rfl (Nat.le_of_ble_eq_true rfl) rfl ?_
  intro p e s m args below meth c E hin
  refine s_aload_n E dX9_chance_0 rfl rfl ?_
  refine s_gR (r := 2) E fg_X9_20 rfl rfl (ltn hw0.1 (by decide)) (fc_r hw0 (by decide +kernel)) dX9_chance_1 ?_
  refine s_iload_n E dX9_chance_4 rfl rfl ?_
  refine s_vI (As := [AI x1]) (S := []) E (K_X0_hasLady_2_CRMS l D aC b w x1 hw0 hw1 hw2 hw3) cv_X9_139 rfl rfl rfl (ltn hw0.1 (by decide)) (Nat.le_of_ble_eq_true rfl) (Nat.le_of_ble_eq_true rfl) ⟨(Nat.le_of_ble_eq_true rfl), (Nat.le_of_ble_eq_true rfl)⟩ (Nat.le_of_ble_eq_true rfl) dX9_chance_5 (fun r u hp => ?_)
  obtain ⟨rfl, rfl⟩ := hp
  refine s_if_eq (tgt := 38) E dX9_chance_8 (by decide) (fun _ => ?_) (fun hh => absurd (by decide) hh)
  refine s_ldc2 E k_1095 rfl dX9_chance_38 ?_
  exact r_long E dX9_chance_41 ⟨rfl, rfl⟩
set_option maxRecDepth 20000 in
set_option maxHeartbeats 2000000 in
theorem K_X9_mean_0_CRMS (l : Launch) (D : va_G) (aC : Nat → ClassId) (b : Nat) (w : XW) (x1 : Int32) (x2 : Int32) (x3 : Int32) (hw0 : FrC w) (hw1 : RfC w) (hw2 : FrM w) (hw3 : RfM w) : CnL l D aC b M_X9_mean 2 42 0 0 [AR 0, AI x1, AI x2, AI x3] w (fun r u => r = (-2) ∧ w = u) := by
  refine cn_L (own := RX9) (nm := "mean") (L0 := [some (AR 0), some (AI x1), some (AI x2), some (AI x3)]) (by decide +kernel) rfl rfl (Nat.le_of_ble_eq_true rfl) rfl ?_
  intro p e s m args below meth c E hin
  refine s_aload_n E dX9_mean_0 rfl rfl ?_
  refine s_gR (r := 2) E fg_X9_20 rfl rfl (ltn hw0.1 (by decide)) (fc_r hw0 (by decide +kernel)) dX9_mean_1 ?_
  refine s_iload_n E dX9_mean_4 rfl rfl ?_
  refine s_vI (As := [AI x1]) (S := []) E (K_X0_hasLady_2_CRMS l D aC b w x1 hw0 hw1 hw2 hw3) cv_X9_139 rfl rfl rfl (ltn hw0.1 (by decide)) (Nat.le_of_ble_eq_true rfl) (Nat.le_of_ble_eq_true rfl) ⟨(Nat.le_of_ble_eq_true rfl), (Nat.le_of_ble_eq_true rfl)⟩ (Nat.le_of_ble_eq_true rfl) dX9_mean_5 (fun r u hp => ?_)
  obtain ⟨rfl, rfl⟩ := hp
  refine s_if_eq (tgt := 26) E dX9_mean_8 (by decide) (fun _ => ?_) (fun hh => absurd (by decide) hh)
  refine s_ldc2 E k_1095 rfl dX9_mean_26 ?_
  exact r_long E dX9_mean_29 ⟨rfl, rfl⟩
set_option maxRecDepth 20000 in
set_option maxHeartbeats 2000000 in
theorem K_X9_bid_0_CRMS (l : Launch) (D : va_G) (aC : Nat → ClassId) (b : Nat) (w : XW) (x1 : Int32) (x2 : Int32) (x3 : Int32) (hw0 : FrC w) (hw1 : RfC w) (hw2 : FrM w) (hw3 : RfM w) : CnI l D aC b M_X9_bid 2 42 0 0 [AR 0, AI x1, AI x2, AI x3] w (fun r u => r = (-2) ∧ w = u) := by
  refine cn_I (own := RX9) (nm := "bid") (L0 := [some (AR 0), some (AI x1), some (AI x2), some (AI x3)]) (by decide +kernel) rfl rfl (Nat.le_of_ble_eq_true rfl) rfl ?_
  intro p e s m args below meth c E hin
  refine s_aload_n E dX9_bid_0 rfl rfl ?_
  refine s_gR (r := 2) E fg_X9_20 rfl rfl (ltn hw0.1 (by decide)) (fc_r hw0 (by decide +kernel)) dX9_bid_1 ?_
  refine s_iload_n E dX9_bid_4 rfl rfl ?_
  refine s_vI (As := [AI x1]) (S := []) E (K_X0_hasLady_2_CRMS l D aC b w x1 hw0 hw1 hw2 hw3) cv_X9_139 rfl rfl rfl (ltn hw0.1 (by decide)) (Nat.le_of_ble_eq_true rfl) (Nat.le_of_ble_eq_true rfl) ⟨(Nat.le_of_ble_eq_true rfl), (Nat.le_of_ble_eq_true rfl)⟩ (Nat.le_of_ble_eq_true rfl) dX9_bid_5 (fun r u hp => ?_)
  obtain ⟨rfl, rfl⟩ := hp
  refine s_if_eq (tgt := 32) E dX9_bid_8 (by decide) (fun _ => ?_) (fun hh => absurd (by decide) hh)
  refine s_bipush (v := (-2)) E dX9_bid_32 (by decide) ?_
  exact r_int E dX9_bid_34 ⟨rfl, rfl⟩
set_option maxRecDepth 20000 in
set_option maxHeartbeats 2000000 in
theorem K_X8_has_7_CRMS (l : Launch) (D : va_G) (aC : Nat → ClassId) (b : Nat) (w : XW) (x1 : Int32) (hw0 : FrC w) (hw1 : RfC w) (hw2 : FrM w) (hw3 : RfM w) : CnI l D aC b M_X8_has 0 0 0 0 [AR 7, AI x1] w (fun r u => r = 0 ∧ w = u) := by
  refine cn_I (own := RX8) (nm := "has") (L0 := [some (AR 7), some (AI x1)]) (by decide +kernel) rfl rfl (Nat.le_of_ble_eq_true rfl) rfl ?_
  intro p e s m args below meth c E hin
  refine s_iload_n E dX8_has_0 rfl rfl ?_
  refine s_if_lt (tgt := 16) E dX8_has_1 (by decide) (fun h_1 => ?_) (fun h_1 => ?_)
  ·
    refine s_iconst (v := 0) E dX8_has_16 (by decide) ?_
    exact r_bool E dX8_has_17 (Or.inl rfl) ⟨rfl, rfl⟩
  ·
    refine s_iload_n E dX8_has_4 rfl rfl ?_
    refine s_aload_n E dX8_has_5 rfl rfl ?_
    refine s_gI E fg_X8_28 rfl rfl (ltn hw0.1 (by decide)) dX8_has_6 ?_
    refine s_top (y := 0) (fc_i hw0 (by decide +kernel)) ?_
    refine s_icmp_ge (tgt := 16) E dX8_has_9 (by decide) (fun _ => ?_) (fun hh => (by have q0 := h_1; have q1 := hh; (try simp only [lg_cmp_lt, lg_cmp_le, lg_cmp_ge, lg_cmp_gt] at q0 q1); (try simp only [Int32.lt_iff_toInt_lt, Int32.le_iff_toInt_le, Int64.lt_iff_toInt_lt, Int64.le_iff_toInt_le, ← Int32.toInt_inj, ← Int64.toInt_inj, Int32.toInt_toInt64] at q0 q1); have e0 : (0 : Int32).toInt = 0 := (by decide); have e1 : (0 : Int64).toInt = 0 := (by decide); (try simp only [e0, e1] at q0 q1); omega))
    refine s_iconst (v := 0) E dX8_has_16 (by decide) ?_
    exact r_bool E dX8_has_17 (Or.inl rfl) ⟨rfl, rfl⟩
set_option maxRecDepth 20000 in
set_option maxHeartbeats 2000000 in
theorem K_X9_move_0_CRMS (l : Launch) (D : va_G) (aC : Nat → ClassId) (b : Nat) (w : XW) (x1 : Int32) (x2 : Int32) (hw0 : FrC w) (hw1 : RfC w) (hw2 : FrM w) (hw3 : RfM w) : CnI l D aC b M_X9_move 1 21 0 0 [AR 0, AI x1, AI x2] w (fun r u => r = (-2) ∧ w = u) := by
  refine cn_I (own := RX9) (nm := "move") (L0 := [some (AR 0), some (AI x1), some (AI x2), none]) (by decide +kernel) rfl rfl (Nat.le_of_ble_eq_true rfl) rfl ?_
  intro p e s m args below meth c E hin
  refine s_aload_n E dX9_move_0 rfl rfl ?_
  refine s_gR (r := 2) E fg_X9_20 rfl rfl (ltn hw0.1 (by decide)) (fc_r hw0 (by decide +kernel)) dX9_move_1 ?_
  refine s_gR (r := 7) E fg_X9_136 rfl rfl (ltn hw0.1 (by decide)) (fc_r hw0 (by decide +kernel)) dX9_move_4 ?_
  refine s_iload_n E dX9_move_7 rfl rfl ?_
  refine s_vI (As := [AI x1]) (S := []) E (K_X8_has_7_CRMS l D aC b w x1 hw0 hw1 hw2 hw3) cv_X9_257 rfl rfl rfl (ltn hw0.1 (by decide)) (Nat.le_of_ble_eq_true rfl) (Nat.le_of_ble_eq_true rfl) ⟨(Nat.le_of_ble_eq_true rfl), (Nat.le_of_ble_eq_true rfl)⟩ (Nat.le_of_ble_eq_true rfl) dX9_move_8 (fun r u hp => ?_)
  obtain ⟨rfl, rfl⟩ := hp
  refine s_if_eq (tgt := 25) E dX9_move_11 (by decide) (fun _ => ?_) (fun hh => absurd (by decide) hh)
  refine s_bipush (v := (-2)) E dX9_move_25 (by decide) ?_
  exact r_int E dX9_move_27 ⟨rfl, rfl⟩
set_option maxRecDepth 20000 in
set_option maxHeartbeats 2000000 in
theorem K_X9_undo_0_CRMS (l : Launch) (D : va_G) (aC : Nat → ClassId) (b : Nat) (w : XW)  (hw0 : FrC w) (hw1 : RfC w) (hw2 : FrM w) (hw3 : RfM w) : CnI l D aC b M_X9_undo 1 20 0 0 [AR 0] w (fun r u => r = (-2) ∧ w = u) := by
  refine cn_I (own := RX9) (nm := "undo") (L0 := [some (AR 0)]) (by decide +kernel) rfl rfl (Nat.le_of_ble_eq_true rfl) rfl ?_
  intro p e s m args below meth c E hin
  refine s_aload_n E dX9_undo_0 rfl rfl ?_
  refine s_gR (r := 2) E fg_X9_20 rfl rfl (ltn hw0.1 (by decide)) (fc_r hw0 (by decide +kernel)) dX9_undo_1 ?_
  refine s_vI (As := []) (S := []) E (K_X0_isTold_2_CRMS l D aC b w  hw0 hw1 hw2 hw3) cv_X9_184 rfl rfl rfl (ltn hw0.1 (by decide)) (Nat.le_of_ble_eq_true rfl) (Nat.le_of_ble_eq_true rfl) ⟨(Nat.le_of_ble_eq_true rfl), (Nat.le_of_ble_eq_true rfl)⟩ (Nat.le_of_ble_eq_true rfl) dX9_undo_4 (fun r u hp => ?_)
  obtain ⟨rfl, rfl⟩ := hp
  refine s_if_ne (tgt := 13) E dX9_undo_7 (by decide) (fun hh => absurd (by decide) hh) (fun _ => ?_)
  refine s_bipush (v := (-2)) E dX9_undo_10 (by decide) ?_
  exact r_int E dX9_undo_12 ⟨rfl, rfl⟩
set_option maxRecDepth 20000 in
set_option maxHeartbeats 2000000 in
theorem K_X9_anew_0_CRMS (l : Launch) (D : va_G) (aC : Nat → ClassId) (b : Nat) (w : XW)  (hw0 : FrC w) (hw1 : RfC w) (hw2 : FrM w) (hw3 : RfM w) : CnI l D aC b M_X9_anew 1 20 0 0 [AR 0] w (fun r u => r = (-2) ∧ w = u) := by
  refine cn_I (own := RX9) (nm := "anew") (L0 := [some (AR 0), none, none]) (by decide +kernel) rfl rfl (Nat.le_of_ble_eq_true rfl) rfl ?_
  intro p e s m args below meth c E hin
  refine s_aload_n E dX9_anew_0 rfl rfl ?_
  refine s_gR (r := 2) E fg_X9_20 rfl rfl (ltn hw0.1 (by decide)) (fc_r hw0 (by decide +kernel)) dX9_anew_1 ?_
  refine s_vI (As := []) (S := []) E (K_X0_isTold_2_CRMS l D aC b w  hw0 hw1 hw2 hw3) cv_X9_184 rfl rfl rfl (ltn hw0.1 (by decide)) (Nat.le_of_ble_eq_true rfl) (Nat.le_of_ble_eq_true rfl) ⟨(Nat.le_of_ble_eq_true rfl), (Nat.le_of_ble_eq_true rfl)⟩ (Nat.le_of_ble_eq_true rfl) dX9_anew_4 (fun r u hp => ?_)
  obtain ⟨rfl, rfl⟩ := hp
  refine s_if_ne (tgt := 13) E dX9_anew_7 (by decide) (fun hh => absurd (by decide) hh) (fun _ => ?_)
  refine s_bipush (v := (-2)) E dX9_anew_10 (by decide) ?_
  exact r_int E dX9_anew_12 ⟨rfl, rfl⟩
set_option maxRecDepth 20000 in
set_option maxHeartbeats 2000000 in
theorem K_X9_isSeed_CRMS (l : Launch) (D : va_G) (aC : Nat → ClassId) (b : Nat) (w : XW) (x1 : Int32) (hw0 : FrC w) (hw1 : RfC w) (hw2 : FrM w) (hw3 : RfM w) : CnI l D aC b M_X9_isSeed 0 0 0 0 [AI x1] w (fun r u => (r = 0 ∨ r = 1) ∧ w = u) := by
  refine cn_I (own := RX9) (nm := "isSeed") (L0 := [some (AI x1)]) (by decide +kernel) rfl rfl (Nat.le_of_ble_eq_true rfl) rfl ?_
  intro p e s m args below meth c E hin
  refine s_iload_n E dX9_isSeed_0 rfl rfl ?_
  refine s_if_lt (tgt := 15) E dX9_isSeed_1 (by decide) (fun h_1 => ?_) (fun h_1 => ?_)
  ·
    refine s_iconst (v := 0) E dX9_isSeed_15 (by decide) ?_
    exact r_bool E dX9_isSeed_16 (Or.inl rfl) ⟨Or.inl rfl, rfl⟩
  ·
    refine s_iload_n E dX9_isSeed_4 rfl rfl ?_
    refine s_ldcw E k_1130 rfl dX9_isSeed_5 ?_
    refine s_icmp_gt (tgt := 15) E dX9_isSeed_8 (by decide) (fun h_2 => ?_) (fun h_2 => ?_)
    ·
      refine s_iconst (v := 0) E dX9_isSeed_15 (by decide) ?_
      exact r_bool E dX9_isSeed_16 (Or.inl rfl) ⟨Or.inl rfl, rfl⟩
    ·
      refine s_iconst (v := 1) E dX9_isSeed_11 (by decide) ?_
      refine s_goto (tgt := 16) E dX9_isSeed_12 (by decide) ?_
      exact r_bool E dX9_isSeed_16 (Or.inr rfl) ⟨Or.inr rfl, rfl⟩
set_option maxRecDepth 20000 in
set_option maxHeartbeats 2000000 in
theorem K_X9_drawn_0_CRMS (l : Launch) (D : va_G) (aC : Nat → ClassId) (b : Nat) (w : XW) (x1 : Int32) (x2 : Int32) (x3 : Int32) (hw0 : FrC w) (hw1 : RfC w) (hw2 : FrM w) (hw3 : RfM w) : CnI l D aC b M_X9_drawn 2 42 0 0 [AR 0, AI x1, AI x2, AI x3] w (fun r u => r = (-2) ∧ w = u) := by
  refine cn_I (own := RX9) (nm := "drawn") (L0 := [some (AR 0), some (AI x1), some (AI x2), some (AI x3), none]) (by decide +kernel) rfl rfl (Nat.le_of_ble_eq_true rfl) rfl ?_
  intro p e s m args below meth c E hin
  refine s_iload_n E dX9_drawn_0 rfl rfl ?_
  refine s_sI (As := [AI x1]) (S := []) E (K_X9_isSeed_CRMS l D aC b w x1 hw0 hw1 hw2 hw3) cs_X9_381 rfl rfl (Nat.le_of_ble_eq_true rfl) (Nat.le_of_ble_eq_true rfl) ⟨(Nat.le_of_ble_eq_true rfl), (Nat.le_of_ble_eq_true rfl)⟩ (Nat.le_of_ble_eq_true rfl) dX9_drawn_1 (fun r u hp => ?_)
  obtain ⟨rfl | rfl, rfl⟩ := hp
  ·
    refine s_if_eq (tgt := 25) E dX9_drawn_4 (by decide) (fun _ => ?_) (fun hh => absurd (by decide) hh)
    refine s_bipush (v := (-2)) E dX9_drawn_25 (by decide) ?_
    exact r_int E dX9_drawn_27 ⟨rfl, rfl⟩
  ·
    refine s_if_eq (tgt := 25) E dX9_drawn_4 (by decide) (fun hh => absurd hh (by decide)) (fun _ => ?_)
    refine s_aload_n E dX9_drawn_7 rfl rfl ?_
    refine s_gR (r := 2) E fg_X9_20 rfl rfl (ltn hw0.1 (by decide)) (fc_r hw0 (by decide +kernel)) dX9_drawn_8 ?_
    refine s_iload_n E dX9_drawn_11 rfl rfl ?_
    refine s_vI (As := [AI x2]) (S := []) E (K_X0_hasLady_2_CRMS l D aC b w x2 hw0 hw1 hw2 hw3) cv_X9_139 rfl rfl rfl (ltn hw0.1 (by decide)) (Nat.le_of_ble_eq_true rfl) (Nat.le_of_ble_eq_true rfl) ⟨(Nat.le_of_ble_eq_true rfl), (Nat.le_of_ble_eq_true rfl)⟩ (Nat.le_of_ble_eq_true rfl) dX9_drawn_12 (fun r u hp => ?_)
    obtain ⟨rfl, rfl⟩ := hp
    refine s_if_eq (tgt := 25) E dX9_drawn_15 (by decide) (fun _ => ?_) (fun hh => absurd (by decide) hh)
    refine s_bipush (v := (-2)) E dX9_drawn_25 (by decide) ?_
    exact r_int E dX9_drawn_27 ⟨rfl, rfl⟩
set_option maxRecDepth 20000 in
set_option maxHeartbeats 2000000 in
theorem K_X9_luck_0_CRMS (l : Launch) (D : va_G) (aC : Nat → ClassId) (b : Nat) (w : XW) (x1 : Int32) (x2 : Int32) (x3 : Int32) (x4 : Int32) (hw0 : FrC w) (hw1 : RfC w) (hw2 : FrM w) (hw3 : RfM w) : CnI l D aC b M_X9_luck 2 42 0 0 [AR 0, AI x1, AI x2, AI x3, AI x4] w (fun r u => r = (-2) ∧ w = u) := by
  refine cn_I (own := RX9) (nm := "luck") (L0 := [some (AR 0), some (AI x1), some (AI x2), some (AI x3), some (AI x4), none, none]) (by decide +kernel) rfl rfl (Nat.le_of_ble_eq_true rfl) rfl ?_
  intro p e s m args below meth c E hin
  refine s_iload_n E dX9_luck_0 rfl rfl ?_
  refine s_sI (As := [AI x1]) (S := []) E (K_X9_isSeed_CRMS l D aC b w x1 hw0 hw1 hw2 hw3) cs_X9_381 rfl rfl (Nat.le_of_ble_eq_true rfl) (Nat.le_of_ble_eq_true rfl) ⟨(Nat.le_of_ble_eq_true rfl), (Nat.le_of_ble_eq_true rfl)⟩ (Nat.le_of_ble_eq_true rfl) dX9_luck_1 (fun r u hp => ?_)
  obtain ⟨rfl | rfl, rfl⟩ := hp
  ·
    refine s_if_eq (tgt := 41) E dX9_luck_4 (by decide) (fun _ => ?_) (fun hh => absurd (by decide) hh)
    refine s_bipush (v := (-2)) E dX9_luck_41 (by decide) ?_
    exact r_int E dX9_luck_43 ⟨rfl, rfl⟩
  ·
    refine s_if_eq (tgt := 41) E dX9_luck_4 (by decide) (fun hh => absurd hh (by decide)) (fun _ => ?_)
    refine s_iload_n E dX9_luck_7 rfl rfl ?_
    refine s_iconst (v := 1) E dX9_luck_8 (by decide) ?_
    refine s_icmp_lt (tgt := 41) E dX9_luck_9 (by decide) (fun h_1 => ?_) (fun h_1 => ?_)
    ·
      refine s_bipush (v := (-2)) E dX9_luck_41 (by decide) ?_
      exact r_int E dX9_luck_43 ⟨rfl, rfl⟩
    ·
      refine s_iload_n E dX9_luck_12 rfl rfl ?_
      refine s_bipush (v := 20) E dX9_luck_13 (by decide) ?_
      refine s_icmp_gt (tgt := 41) E dX9_luck_15 (by decide) (fun h_2 => ?_) (fun h_2 => ?_)
      ·
        refine s_bipush (v := (-2)) E dX9_luck_41 (by decide) ?_
        exact r_int E dX9_luck_43 ⟨rfl, rfl⟩
      ·
        refine s_aload_n E dX9_luck_18 rfl rfl ?_
        refine s_gR (r := 2) E fg_X9_20 rfl rfl (ltn hw0.1 (by decide)) (fc_r hw0 (by decide +kernel)) dX9_luck_19 ?_
        refine s_iload_n E dX9_luck_22 rfl rfl ?_
        refine s_vI (As := [AI x3]) (S := []) E (K_X0_hasLady_2_CRMS l D aC b w x3 hw0 hw1 hw2 hw3) cv_X9_139 rfl rfl rfl (ltn hw0.1 (by decide)) (Nat.le_of_ble_eq_true rfl) (Nat.le_of_ble_eq_true rfl) ⟨(Nat.le_of_ble_eq_true rfl), (Nat.le_of_ble_eq_true rfl)⟩ (Nat.le_of_ble_eq_true rfl) dX9_luck_23 (fun r u hp => ?_)
        obtain ⟨rfl, rfl⟩ := hp
        refine s_if_eq (tgt := 41) E dX9_luck_26 (by decide) (fun _ => ?_) (fun hh => absurd (by decide) hh)
        refine s_bipush (v := (-2)) E dX9_luck_41 (by decide) ?_
        exact r_int E dX9_luck_43 ⟨rfl, rfl⟩
set_option maxRecDepth 20000 in
set_option maxHeartbeats 2000000 in
theorem K_X8_has_3_CRMS (l : Launch) (D : va_G) (aC : Nat → ClassId) (b : Nat) (w : XW) (x1 : Int32) (hw0 : FrC w) (hw1 : RfC w) (hw2 : FrM w) (hw3 : RfM w) : CnI l D aC b M_X8_has 0 0 0 0 [AR 3, AI x1] w (fun r u => r = 0 ∧ w = u) := by
  refine cn_I (own := RX8) (nm := "has") (L0 := [some (AR 3), some (AI x1)]) (by decide +kernel) rfl rfl (Nat.le_of_ble_eq_true rfl) rfl ?_
  intro p e s m args below meth c E hin
  refine s_iload_n E dX8_has_0 rfl rfl ?_
  refine s_if_lt (tgt := 16) E dX8_has_1 (by decide) (fun h_1 => ?_) (fun h_1 => ?_)
  ·
    refine s_iconst (v := 0) E dX8_has_16 (by decide) ?_
    exact r_bool E dX8_has_17 (Or.inl rfl) ⟨rfl, rfl⟩
  ·
    refine s_iload_n E dX8_has_4 rfl rfl ?_
    refine s_aload_n E dX8_has_5 rfl rfl ?_
    refine s_gI E fg_X8_28 rfl rfl (ltn hw0.1 (by decide)) dX8_has_6 ?_
    refine s_top (y := 0) (fc_i hw0 (by decide +kernel)) ?_
    refine s_icmp_ge (tgt := 16) E dX8_has_9 (by decide) (fun _ => ?_) (fun hh => (by have q0 := h_1; have q1 := hh; (try simp only [lg_cmp_lt, lg_cmp_le, lg_cmp_ge, lg_cmp_gt] at q0 q1); (try simp only [Int32.lt_iff_toInt_lt, Int32.le_iff_toInt_le, Int64.lt_iff_toInt_lt, Int64.le_iff_toInt_le, ← Int32.toInt_inj, ← Int64.toInt_inj, Int32.toInt_toInt64] at q0 q1); have e0 : (0 : Int32).toInt = 0 := (by decide); have e1 : (0 : Int64).toInt = 0 := (by decide); (try simp only [e0, e1] at q0 q1); omega))
    refine s_iconst (v := 0) E dX8_has_16 (by decide) ?_
    exact r_bool E dX8_has_17 (Or.inl rfl) ⟨rfl, rfl⟩
set_option maxRecDepth 20000 in
set_option maxHeartbeats 2000000 in
theorem K_X9_hang_0_CRMS (l : Launch) (D : va_G) (aC : Nat → ClassId) (b : Nat) (w : XW) (x1 : Int32) (x2 : Int32) (hw0 : FrC w) (hw1 : RfC w) (hw2 : FrM w) (hw3 : RfM w) : CnI l D aC b M_X9_hang 1 21 0 0 [AR 0, AI x1, AI x2] w (fun r u => r = (-2) ∧ w = u) := by
  refine cn_I (own := RX9) (nm := "hang") (L0 := [some (AR 0), some (AI x1), some (AI x2), none]) (by decide +kernel) rfl rfl (Nat.le_of_ble_eq_true rfl) rfl ?_
  intro p e s m args below meth c E hin
  refine s_aload_n E dX9_hang_0 rfl rfl ?_
  refine s_gR (r := 2) E fg_X9_20 rfl rfl (ltn hw0.1 (by decide)) (fc_r hw0 (by decide +kernel)) dX9_hang_1 ?_
  refine s_gR (r := 3) E fg_X9_119 rfl rfl (ltn hw0.1 (by decide)) (fc_r hw0 (by decide +kernel)) dX9_hang_4 ?_
  refine s_iload_n E dX9_hang_7 rfl rfl ?_
  refine s_vI (As := [AI x1]) (S := []) E (K_X8_has_3_CRMS l D aC b w x1 hw0 hw1 hw2 hw3) cv_X9_257 rfl rfl rfl (ltn hw0.1 (by decide)) (Nat.le_of_ble_eq_true rfl) (Nat.le_of_ble_eq_true rfl) ⟨(Nat.le_of_ble_eq_true rfl), (Nat.le_of_ble_eq_true rfl)⟩ (Nat.le_of_ble_eq_true rfl) dX9_hang_8 (fun r u hp => ?_)
  obtain ⟨rfl, rfl⟩ := hp
  refine s_if_eq (tgt := 25) E dX9_hang_11 (by decide) (fun _ => ?_) (fun hh => absurd (by decide) hh)
  refine s_bipush (v := (-2)) E dX9_hang_25 (by decide) ?_
  exact r_int E dX9_hang_27 ⟨rfl, rfl⟩
set_option maxRecDepth 20000 in
set_option maxHeartbeats 2000000 in
theorem K_X7_isBare_61_CRMS (l : Launch) (D : va_G) (aC : Nat → ClassId) (b : Nat) (w : XW)  (hw0 : FrC w) (hw1 : RfC w) (hw2 : FrM w) (hw3 : RfM w) : CnI l D aC b M_X7_isBare 0 0 0 0 [AR 61] w (fun r u => r = 1 ∧ w = u) := by
  refine cn_I (own := RX7) (nm := "isBare") (L0 := [some (AR 61)]) (by decide +kernel) rfl rfl (Nat.le_of_ble_eq_true rfl) rfl ?_
  intro p e s m args below meth c E hin
  refine s_aload_n E dX7_isBare_0 rfl rfl ?_
  refine s_gI E fg_X7_15 rfl rfl (ltn hw0.1 (by decide)) dX7_isBare_1 ?_
  refine s_top (y := (-1)) (fc_i hw0 (by decide +kernel)) ?_
  refine s_if_ge (tgt := 11) E dX7_isBare_4 (by decide) (fun hh => absurd hh (by decide)) (fun _ => ?_)
  refine s_iconst (v := 1) E dX7_isBare_7 (by decide) ?_
  refine s_goto (tgt := 12) E dX7_isBare_8 (by decide) ?_
  exact r_bool E dX7_isBare_12 (Or.inr rfl) ⟨rfl, rfl⟩
set_option maxRecDepth 20000 in
set_option maxHeartbeats 2000000 in
theorem K_X7_isBare_63_CRMS (l : Launch) (D : va_G) (aC : Nat → ClassId) (b : Nat) (w : XW)  (hw0 : FrC w) (hw1 : RfC w) (hw2 : FrM w) (hw3 : RfM w) : CnI l D aC b M_X7_isBare 0 0 0 0 [AR 63] w (fun r u => r = 1 ∧ w = u) := by
  refine cn_I (own := RX7) (nm := "isBare") (L0 := [some (AR 63)]) (by decide +kernel) rfl rfl (Nat.le_of_ble_eq_true rfl) rfl ?_
  intro p e s m args below meth c E hin
  refine s_aload_n E dX7_isBare_0 rfl rfl ?_
  refine s_gI E fg_X7_15 rfl rfl (ltn hw0.1 (by decide)) dX7_isBare_1 ?_
  refine s_top (y := (-1)) (fc_i hw0 (by decide +kernel)) ?_
  refine s_if_ge (tgt := 11) E dX7_isBare_4 (by decide) (fun hh => absurd hh (by decide)) (fun _ => ?_)
  refine s_iconst (v := 1) E dX7_isBare_7 (by decide) ?_
  refine s_goto (tgt := 12) E dX7_isBare_8 (by decide) ?_
  exact r_bool E dX7_isBare_12 (Or.inr rfl) ⟨rfl, rfl⟩
set_option maxRecDepth 20000 in
set_option maxHeartbeats 2000000 in
theorem K_X7_isBare_65_CRMS (l : Launch) (D : va_G) (aC : Nat → ClassId) (b : Nat) (w : XW)  (hw0 : FrC w) (hw1 : RfC w) (hw2 : FrM w) (hw3 : RfM w) : CnI l D aC b M_X7_isBare 0 0 0 0 [AR 65] w (fun r u => r = 1 ∧ w = u) := by
  refine cn_I (own := RX7) (nm := "isBare") (L0 := [some (AR 65)]) (by decide +kernel) rfl rfl (Nat.le_of_ble_eq_true rfl) rfl ?_
  intro p e s m args below meth c E hin
  refine s_aload_n E dX7_isBare_0 rfl rfl ?_
  refine s_gI E fg_X7_15 rfl rfl (ltn hw0.1 (by decide)) dX7_isBare_1 ?_
  refine s_top (y := (-1)) (fc_i hw0 (by decide +kernel)) ?_
  refine s_if_ge (tgt := 11) E dX7_isBare_4 (by decide) (fun hh => absurd hh (by decide)) (fun _ => ?_)
  refine s_iconst (v := 1) E dX7_isBare_7 (by decide) ?_
  refine s_goto (tgt := 12) E dX7_isBare_8 (by decide) ?_
  exact r_bool E dX7_isBare_12 (Or.inr rfl) ⟨rfl, rfl⟩
set_option maxRecDepth 20000 in
set_option maxHeartbeats 2000000 in
theorem K_X7_isBare_67_CRMS (l : Launch) (D : va_G) (aC : Nat → ClassId) (b : Nat) (w : XW)  (hw0 : FrC w) (hw1 : RfC w) (hw2 : FrM w) (hw3 : RfM w) : CnI l D aC b M_X7_isBare 0 0 0 0 [AR 67] w (fun r u => r = 1 ∧ w = u) := by
  refine cn_I (own := RX7) (nm := "isBare") (L0 := [some (AR 67)]) (by decide +kernel) rfl rfl (Nat.le_of_ble_eq_true rfl) rfl ?_
  intro p e s m args below meth c E hin
  refine s_aload_n E dX7_isBare_0 rfl rfl ?_
  refine s_gI E fg_X7_15 rfl rfl (ltn hw0.1 (by decide)) dX7_isBare_1 ?_
  refine s_top (y := (-1)) (fc_i hw0 (by decide +kernel)) ?_
  refine s_if_ge (tgt := 11) E dX7_isBare_4 (by decide) (fun hh => absurd hh (by decide)) (fun _ => ?_)
  refine s_iconst (v := 1) E dX7_isBare_7 (by decide) ?_
  refine s_goto (tgt := 12) E dX7_isBare_8 (by decide) ?_
  exact r_bool E dX7_isBare_12 (Or.inr rfl) ⟨rfl, rfl⟩
set_option maxRecDepth 20000 in
set_option maxHeartbeats 2000000 in
theorem K_X9_slotsWithRow_0_CRMS (l : Launch) (D : va_G) (aC : Nat → ClassId) (b : Nat) (w : XW)  (hw0 : FrC w) (hw1 : RfC w) (hw2 : FrM w) (hw3 : RfM w) : CnI l D aC b M_X9_slotsWithRow 1 20 0 0 [AR 0] w (fun r u => r = 0 ∧ w = u) := by
  refine cn_I (own := RX9) (nm := "slotsWithRow") (L0 := [some (AR 0), none, none]) (by decide +kernel) rfl rfl (Nat.le_of_ble_eq_true rfl) rfl ?_
  intro p e s m args below meth c E hin
  refine s_iconst (v := 0) E dX9_slotsWithRow_0 (by decide) ?_
  refine s_istore_n (L2 := [some (AR 0), some (AI 0), none]) E dX9_slotsWithRow_1 rfl (by decide) rfl ?_
  refine s_iconst (v := 0) E dX9_slotsWithRow_2 (by decide) ?_
  refine s_istore_n (L2 := [some (AR 0), some (AI 0), some (AI 0)]) E dX9_slotsWithRow_3 rfl (by decide) rfl ?_
  refine s_iload_n E dX9_slotsWithRow_4 rfl rfl ?_
  refine s_iconst (v := 4) E dX9_slotsWithRow_5 (by decide) ?_
  refine s_icmp_ge (tgt := 30) E dX9_slotsWithRow_6 (by decide) (fun hh => absurd hh (by decide)) (fun _ => ?_)
  refine s_aload_n E dX9_slotsWithRow_9 rfl rfl ?_
  refine s_gR (r := 60) E fg_X9_46 rfl rfl (ltn hw0.1 (by decide)) (fc_r hw0 (by decide +kernel)) dX9_slotsWithRow_10 ?_
  refine s_iload_n E dX9_slotsWithRow_13 rfl rfl ?_
  refine s_aald105 (r := 61) E rfl (ltn hw0.1 (by decide)) (vp_c (by decide)) (fc_r hw0 (by decide +kernel)) dX9_slotsWithRow_14 ?_
  refine s_vI (As := []) (S := []) E (K_X7_isBare_61_CRMS l D aC b w  hw0 hw1 hw2 hw3) cv_X9_279 rfl rfl rfl (ltn hw0.1 (by decide)) (Nat.le_of_ble_eq_true rfl) (Nat.le_of_ble_eq_true rfl) ⟨(Nat.le_of_ble_eq_true rfl), (Nat.le_of_ble_eq_true rfl)⟩ (Nat.le_of_ble_eq_true rfl) dX9_slotsWithRow_15 (fun r u hp => ?_)
  obtain ⟨rfl, rfl⟩ := hp
  refine s_if_ne (tgt := 24) E dX9_slotsWithRow_18 (by decide) (fun _ => ?_) (fun hh => absurd hh (by decide))
  refine s_iinc (v := 1) (L2 := [some (AR 0), some (AI 0), some (AI 1)]) E dX9_slotsWithRow_24 rfl (by decide) (by decide) rfl ?_
  refine s_goto (tgt := 4) E dX9_slotsWithRow_27 (by decide) ?_
  refine s_iload_n E dX9_slotsWithRow_4 rfl rfl ?_
  refine s_iconst (v := 4) E dX9_slotsWithRow_5 (by decide) ?_
  refine s_icmp_ge (tgt := 30) E dX9_slotsWithRow_6 (by decide) (fun hh => absurd hh (by decide)) (fun _ => ?_)
  refine s_aload_n E dX9_slotsWithRow_9 rfl rfl ?_
  refine s_gR (r := 60) E fg_X9_46 rfl rfl (ltn hw0.1 (by decide)) (fc_r hw0 (by decide +kernel)) dX9_slotsWithRow_10 ?_
  refine s_iload_n E dX9_slotsWithRow_13 rfl rfl ?_
  refine s_aald105 (r := 63) E rfl (ltn hw0.1 (by decide)) (vp_c (by decide)) (fc_r hw0 (by decide +kernel)) dX9_slotsWithRow_14 ?_
  refine s_vI (As := []) (S := []) E (K_X7_isBare_63_CRMS l D aC b w  hw0 hw1 hw2 hw3) cv_X9_279 rfl rfl rfl (ltn hw0.1 (by decide)) (Nat.le_of_ble_eq_true rfl) (Nat.le_of_ble_eq_true rfl) ⟨(Nat.le_of_ble_eq_true rfl), (Nat.le_of_ble_eq_true rfl)⟩ (Nat.le_of_ble_eq_true rfl) dX9_slotsWithRow_15 (fun r u hp => ?_)
  obtain ⟨rfl, rfl⟩ := hp
  refine s_if_ne (tgt := 24) E dX9_slotsWithRow_18 (by decide) (fun _ => ?_) (fun hh => absurd hh (by decide))
  refine s_iinc (v := 2) (L2 := [some (AR 0), some (AI 0), some (AI 2)]) E dX9_slotsWithRow_24 rfl (by decide) (by decide) rfl ?_
  refine s_goto (tgt := 4) E dX9_slotsWithRow_27 (by decide) ?_
  refine s_iload_n E dX9_slotsWithRow_4 rfl rfl ?_
  refine s_iconst (v := 4) E dX9_slotsWithRow_5 (by decide) ?_
  refine s_icmp_ge (tgt := 30) E dX9_slotsWithRow_6 (by decide) (fun hh => absurd hh (by decide)) (fun _ => ?_)
  refine s_aload_n E dX9_slotsWithRow_9 rfl rfl ?_
  refine s_gR (r := 60) E fg_X9_46 rfl rfl (ltn hw0.1 (by decide)) (fc_r hw0 (by decide +kernel)) dX9_slotsWithRow_10 ?_
  refine s_iload_n E dX9_slotsWithRow_13 rfl rfl ?_
  refine s_aald105 (r := 65) E rfl (ltn hw0.1 (by decide)) (vp_c (by decide)) (fc_r hw0 (by decide +kernel)) dX9_slotsWithRow_14 ?_
  refine s_vI (As := []) (S := []) E (K_X7_isBare_65_CRMS l D aC b w  hw0 hw1 hw2 hw3) cv_X9_279 rfl rfl rfl (ltn hw0.1 (by decide)) (Nat.le_of_ble_eq_true rfl) (Nat.le_of_ble_eq_true rfl) ⟨(Nat.le_of_ble_eq_true rfl), (Nat.le_of_ble_eq_true rfl)⟩ (Nat.le_of_ble_eq_true rfl) dX9_slotsWithRow_15 (fun r u hp => ?_)
  obtain ⟨rfl, rfl⟩ := hp
  refine s_if_ne (tgt := 24) E dX9_slotsWithRow_18 (by decide) (fun _ => ?_) (fun hh => absurd hh (by decide))
  refine s_iinc (v := 3) (L2 := [some (AR 0), some (AI 0), some (AI 3)]) E dX9_slotsWithRow_24 rfl (by decide) (by decide) rfl ?_
  refine s_goto (tgt := 4) E dX9_slotsWithRow_27 (by decide) ?_
  refine s_iload_n E dX9_slotsWithRow_4 rfl rfl ?_
  refine s_iconst (v := 4) E dX9_slotsWithRow_5 (by decide) ?_
  refine s_icmp_ge (tgt := 30) E dX9_slotsWithRow_6 (by decide) (fun hh => absurd hh (by decide)) (fun _ => ?_)
  refine s_aload_n E dX9_slotsWithRow_9 rfl rfl ?_
  refine s_gR (r := 60) E fg_X9_46 rfl rfl (ltn hw0.1 (by decide)) (fc_r hw0 (by decide +kernel)) dX9_slotsWithRow_10 ?_
  refine s_iload_n E dX9_slotsWithRow_13 rfl rfl ?_
  refine s_aald105 (r := 67) E rfl (ltn hw0.1 (by decide)) (vp_c (by decide)) (fc_r hw0 (by decide +kernel)) dX9_slotsWithRow_14 ?_
  refine s_vI (As := []) (S := []) E (K_X7_isBare_67_CRMS l D aC b w  hw0 hw1 hw2 hw3) cv_X9_279 rfl rfl rfl (ltn hw0.1 (by decide)) (Nat.le_of_ble_eq_true rfl) (Nat.le_of_ble_eq_true rfl) ⟨(Nat.le_of_ble_eq_true rfl), (Nat.le_of_ble_eq_true rfl)⟩ (Nat.le_of_ble_eq_true rfl) dX9_slotsWithRow_15 (fun r u hp => ?_)
  obtain ⟨rfl, rfl⟩ := hp
  refine s_if_ne (tgt := 24) E dX9_slotsWithRow_18 (by decide) (fun _ => ?_) (fun hh => absurd hh (by decide))
  refine s_iinc (v := 4) (L2 := [some (AR 0), some (AI 0), some (AI 4)]) E dX9_slotsWithRow_24 rfl (by decide) (by decide) rfl ?_
  refine s_goto (tgt := 4) E dX9_slotsWithRow_27 (by decide) ?_
  refine s_iload_n E dX9_slotsWithRow_4 rfl rfl ?_
  refine s_iconst (v := 4) E dX9_slotsWithRow_5 (by decide) ?_
  refine s_icmp_ge (tgt := 30) E dX9_slotsWithRow_6 (by decide) (fun _ => ?_) (fun hh => absurd (by decide) hh)
  refine s_iload_n E dX9_slotsWithRow_30 rfl rfl ?_
  exact r_int E dX9_slotsWithRow_31 ⟨rfl, rfl⟩
set_option maxRecDepth 20000 in
set_option maxHeartbeats 2000000 in
theorem K_X9_count_0_CRMS (l : Launch) (D : va_G) (aC : Nat → ClassId) (b : Nat) (w : XW) (x1 : Int32) (hw0 : FrC w) (hw1 : RfC w) (hw2 : FrM w) (hw3 : RfM w) : CnI l D aC b M_X9_count 2 42 0 0 [AR 0, AI x1] w (fun r u => r = sp_count x1 ∧ w = u) := by
  refine cn_I (own := RX9) (nm := "count") (L0 := [some (AR 0), some (AI x1)]) (by decide +kernel) rfl rfl (Nat.le_of_ble_eq_true rfl) rfl ?_
  intro p e s m args below meth c E hin
  refine s_iload_n E dX9_count_0 rfl rfl ?_
  rcases (show (x1.toInt < 0 ∨ 11 < x1.toInt) ∨ x1 = 0 ∨ x1 = 1 ∨ x1 = 2 ∨ x1 = 3 ∨ x1 = 4 ∨ x1 = 5 ∨ x1 = 6 ∨ x1 = 7 ∨ x1 = 8 ∨ x1 = 9 ∨ x1 = 10 ∨ x1 = 11 from (by have z0 : (0 : Int32).toInt = 0 := (by decide); have z1 : (1 : Int32).toInt = 1 := (by decide); have z2 : (2 : Int32).toInt = 2 := (by decide); have z3 : (3 : Int32).toInt = 3 := (by decide); have z4 : (4 : Int32).toInt = 4 := (by decide); have z5 : (5 : Int32).toInt = 5 := (by decide); have z6 : (6 : Int32).toInt = 6 := (by decide); have z7 : (7 : Int32).toInt = 7 := (by decide); have z8 : (8 : Int32).toInt = 8 := (by decide); have z9 : (9 : Int32).toInt = 9 := (by decide); have z10 : (10 : Int32).toInt = 10 := (by decide); have z11 : (11 : Int32).toInt = 11 := (by decide); (simp only [← Int32.toInt_inj, z0, z1, z2, z3, z4, z5, z6, z7, z8, z9, z10, z11]); omega)) with h_1 | rfl | rfl | rfl | rfl | rfl | rfl | rfl | rfl | rfl | rfl | rfl | rfl
  ·
    refine s_tableOut (tgt := 169) E dX9_count_1 h_1 (by decide) ?_
    refine s_iconst (v := (-1)) E dX9_count_169 (by decide) ?_
    exact r_int E dX9_count_170 ⟨(by have q0 := h_1; (try simp only [lg_cmp_lt, lg_cmp_le, lg_cmp_ge, lg_cmp_gt] at q0); (try simp only [Int32.lt_iff_toInt_lt, Int32.le_iff_toInt_le, Int64.lt_iff_toInt_lt, Int64.le_iff_toInt_le, ← Int32.toInt_inj, ← Int64.toInt_inj, Int32.toInt_toInt64] at q0); have e0 : (0 : Int32).toInt = 0 := (by decide); have e1 : (1 : Int32).toInt = 1 := (by decide); have e2 : (2 : Int32).toInt = 2 := (by decide); have e3 : (3 : Int32).toInt = 3 := (by decide); have e4 : (4 : Int32).toInt = 4 := (by decide); have e5 : (0 : Int64).toInt = 0 := (by decide); (try simp only [e0, e1, e2, e3, e4, e5] at q0); first | decide | (unfold sp_count; (repeat' split) <;> first | rfl | (exfalso; omega))), rfl⟩
  ·
    refine s_tableIn (off := 63) (tgt := 64) E dX9_count_1 (by decide) (by decide) (by decide) (by decide) ?_
    refine s_aload_n E dX9_count_64 rfl rfl ?_
    refine s_gR (r := 2) E fg_X9_20 rfl rfl (ltn hw0.1 (by decide)) (fc_r hw0 (by decide +kernel)) dX9_count_65 ?_
    refine s_gI E fg_X9_208 rfl rfl (ltn hw0.1 (by decide)) dX9_count_68 ?_
    refine s_top (y := 0) (fc_i hw0 (by decide +kernel)) ?_
    exact r_int E dX9_count_71 ⟨(by have e0 : (0 : Int32).toInt = 0 := (by decide); have e1 : (1 : Int32).toInt = 1 := (by decide); have e2 : (2 : Int32).toInt = 2 := (by decide); have e3 : (3 : Int32).toInt = 3 := (by decide); have e4 : (4 : Int32).toInt = 4 := (by decide); have e5 : (0 : Int64).toInt = 0 := (by decide); first | decide | (unfold sp_count; (repeat' split) <;> first | rfl | (exfalso; omega))), rfl⟩
  ·
    refine s_tableIn (off := 71) (tgt := 72) E dX9_count_1 (by decide) (by decide) (by decide) (by decide) ?_
    refine s_aload_n E dX9_count_72 rfl rfl ?_
    refine s_gR (r := 2) E fg_X9_20 rfl rfl (ltn hw0.1 (by decide)) (fc_r hw0 (by decide +kernel)) dX9_count_73 ?_
    refine s_gI E fg_X9_169 rfl rfl (ltn hw0.1 (by decide)) dX9_count_76 ?_
    refine s_top (y := 0) (fc_i hw0 (by decide +kernel)) ?_
    exact r_int E dX9_count_79 ⟨(by have e0 : (0 : Int32).toInt = 0 := (by decide); have e1 : (1 : Int32).toInt = 1 := (by decide); have e2 : (2 : Int32).toInt = 2 := (by decide); have e3 : (3 : Int32).toInt = 3 := (by decide); have e4 : (4 : Int32).toInt = 4 := (by decide); have e5 : (0 : Int64).toInt = 0 := (by decide); first | decide | (unfold sp_count; (repeat' split) <;> first | rfl | (exfalso; omega))), rfl⟩
  ·
    refine s_tableIn (off := 79) (tgt := 80) E dX9_count_1 (by decide) (by decide) (by decide) (by decide) ?_
    refine s_aload_n E dX9_count_80 rfl rfl ?_
    refine s_gR (r := 2) E fg_X9_20 rfl rfl (ltn hw0.1 (by decide)) (fc_r hw0 (by decide +kernel)) dX9_count_81 ?_
    refine s_gI E fg_X9_214 rfl rfl (ltn hw0.1 (by decide)) dX9_count_84 ?_
    refine s_top (y := 0) (fc_i hw0 (by decide +kernel)) ?_
    exact r_int E dX9_count_87 ⟨(by have e0 : (0 : Int32).toInt = 0 := (by decide); have e1 : (1 : Int32).toInt = 1 := (by decide); have e2 : (2 : Int32).toInt = 2 := (by decide); have e3 : (3 : Int32).toInt = 3 := (by decide); have e4 : (4 : Int32).toInt = 4 := (by decide); have e5 : (0 : Int64).toInt = 0 := (by decide); first | decide | (unfold sp_count; (repeat' split) <;> first | rfl | (exfalso; omega))), rfl⟩
  ·
    refine s_tableIn (off := 87) (tgt := 88) E dX9_count_1 (by decide) (by decide) (by decide) (by decide) ?_
    refine s_aload_n E dX9_count_88 rfl rfl ?_
    refine s_gR (r := 2) E fg_X9_20 rfl rfl (ltn hw0.1 (by decide)) (fc_r hw0 (by decide +kernel)) dX9_count_89 ?_
    refine s_gI E fg_X9_364 rfl rfl (ltn hw0.1 (by decide)) dX9_count_92 ?_
    refine s_top (y := 0) (fc_i hw0 (by decide +kernel)) ?_
    exact r_int E dX9_count_95 ⟨(by have e0 : (0 : Int32).toInt = 0 := (by decide); have e1 : (1 : Int32).toInt = 1 := (by decide); have e2 : (2 : Int32).toInt = 2 := (by decide); have e3 : (3 : Int32).toInt = 3 := (by decide); have e4 : (4 : Int32).toInt = 4 := (by decide); have e5 : (0 : Int64).toInt = 0 := (by decide); first | decide | (unfold sp_count; (repeat' split) <;> first | rfl | (exfalso; omega))), rfl⟩
  ·
    refine s_tableIn (off := 95) (tgt := 96) E dX9_count_1 (by decide) (by decide) (by decide) (by decide) ?_
    refine s_aload_n E dX9_count_96 rfl rfl ?_
    refine s_gR (r := 2) E fg_X9_20 rfl rfl (ltn hw0.1 (by decide)) (fc_r hw0 (by decide +kernel)) dX9_count_97 ?_
    refine s_gR (r := 3) E fg_X9_119 rfl rfl (ltn hw0.1 (by decide)) (fc_r hw0 (by decide +kernel)) dX9_count_100 ?_
    refine s_gI E fg_X9_200 rfl rfl (ltn hw0.1 (by decide)) dX9_count_103 ?_
    refine s_top (y := 0) (fc_i hw0 (by decide +kernel)) ?_
    exact r_int E dX9_count_106 ⟨(by have e0 : (0 : Int32).toInt = 0 := (by decide); have e1 : (1 : Int32).toInt = 1 := (by decide); have e2 : (2 : Int32).toInt = 2 := (by decide); have e3 : (3 : Int32).toInt = 3 := (by decide); have e4 : (4 : Int32).toInt = 4 := (by decide); have e5 : (0 : Int64).toInt = 0 := (by decide); first | decide | (unfold sp_count; (repeat' split) <;> first | rfl | (exfalso; omega))), rfl⟩
  ·
    refine s_tableIn (off := 106) (tgt := 107) E dX9_count_1 (by decide) (by decide) (by decide) (by decide) ?_
    refine s_aload_n E dX9_count_107 rfl rfl ?_
    refine s_gR (r := 2) E fg_X9_20 rfl rfl (ltn hw0.1 (by decide)) (fc_r hw0 (by decide +kernel)) dX9_count_108 ?_
    refine s_gR (r := 5) E fg_X9_133 rfl rfl (ltn hw0.1 (by decide)) (fc_r hw0 (by decide +kernel)) dX9_count_111 ?_
    refine s_gI E fg_X9_200 rfl rfl (ltn hw0.1 (by decide)) dX9_count_114 ?_
    refine s_top (y := 0) (fc_i hw0 (by decide +kernel)) ?_
    exact r_int E dX9_count_117 ⟨(by have e0 : (0 : Int32).toInt = 0 := (by decide); have e1 : (1 : Int32).toInt = 1 := (by decide); have e2 : (2 : Int32).toInt = 2 := (by decide); have e3 : (3 : Int32).toInt = 3 := (by decide); have e4 : (4 : Int32).toInt = 4 := (by decide); have e5 : (0 : Int64).toInt = 0 := (by decide); first | decide | (unfold sp_count; (repeat' split) <;> first | rfl | (exfalso; omega))), rfl⟩
  ·
    refine s_tableIn (off := 117) (tgt := 118) E dX9_count_1 (by decide) (by decide) (by decide) (by decide) ?_
    refine s_aload_n E dX9_count_118 rfl rfl ?_
    refine s_gR (r := 2) E fg_X9_20 rfl rfl (ltn hw0.1 (by decide)) (fc_r hw0 (by decide +kernel)) dX9_count_119 ?_
    refine s_gR (r := 7) E fg_X9_136 rfl rfl (ltn hw0.1 (by decide)) (fc_r hw0 (by decide +kernel)) dX9_count_122 ?_
    refine s_gI E fg_X9_200 rfl rfl (ltn hw0.1 (by decide)) dX9_count_125 ?_
    refine s_top (y := 0) (fc_i hw0 (by decide +kernel)) ?_
    exact r_int E dX9_count_128 ⟨(by have e0 : (0 : Int32).toInt = 0 := (by decide); have e1 : (1 : Int32).toInt = 1 := (by decide); have e2 : (2 : Int32).toInt = 2 := (by decide); have e3 : (3 : Int32).toInt = 3 := (by decide); have e4 : (4 : Int32).toInt = 4 := (by decide); have e5 : (0 : Int64).toInt = 0 := (by decide); first | decide | (unfold sp_count; (repeat' split) <;> first | rfl | (exfalso; omega))), rfl⟩
  ·
    refine s_tableIn (off := 128) (tgt := 129) E dX9_count_1 (by decide) (by decide) (by decide) (by decide) ?_
    refine s_aload_n E dX9_count_129 rfl rfl ?_
    refine s_gR (r := 2) E fg_X9_20 rfl rfl (ltn hw0.1 (by decide)) (fc_r hw0 (by decide +kernel)) dX9_count_130 ?_
    refine s_gR (r := 9) E fg_X9_420 rfl rfl (ltn hw0.1 (by decide)) (fc_r hw0 (by decide +kernel)) dX9_count_133 ?_
    refine s_gI E fg_X9_200 rfl rfl (ltn hw0.1 (by decide)) dX9_count_136 ?_
    refine s_top (y := 0) (fc_i hw0 (by decide +kernel)) ?_
    exact r_int E dX9_count_139 ⟨(by have e0 : (0 : Int32).toInt = 0 := (by decide); have e1 : (1 : Int32).toInt = 1 := (by decide); have e2 : (2 : Int32).toInt = 2 := (by decide); have e3 : (3 : Int32).toInt = 3 := (by decide); have e4 : (4 : Int32).toInt = 4 := (by decide); have e5 : (0 : Int64).toInt = 0 := (by decide); first | decide | (unfold sp_count; (repeat' split) <;> first | rfl | (exfalso; omega))), rfl⟩
  ·
    refine s_tableIn (off := 139) (tgt := 140) E dX9_count_1 (by decide) (by decide) (by decide) (by decide) ?_
    refine s_aload_n E dX9_count_140 rfl rfl ?_
    refine s_gR (r := 2) E fg_X9_20 rfl rfl (ltn hw0.1 (by decide)) (fc_r hw0 (by decide +kernel)) dX9_count_141 ?_
    refine s_gR (r := 11) E fg_X9_400 rfl rfl (ltn hw0.1 (by decide)) (fc_r hw0 (by decide +kernel)) dX9_count_144 ?_
    refine s_gI E fg_X9_200 rfl rfl (ltn hw0.1 (by decide)) dX9_count_147 ?_
    refine s_top (y := 0) (fc_i hw0 (by decide +kernel)) ?_
    exact r_int E dX9_count_150 ⟨(by have e0 : (0 : Int32).toInt = 0 := (by decide); have e1 : (1 : Int32).toInt = 1 := (by decide); have e2 : (2 : Int32).toInt = 2 := (by decide); have e3 : (3 : Int32).toInt = 3 := (by decide); have e4 : (4 : Int32).toInt = 4 := (by decide); have e5 : (0 : Int64).toInt = 0 := (by decide); first | decide | (unfold sp_count; (repeat' split) <;> first | rfl | (exfalso; omega))), rfl⟩
  ·
    refine s_tableIn (off := 150) (tgt := 151) E dX9_count_1 (by decide) (by decide) (by decide) (by decide) ?_
    refine s_aload_n E dX9_count_151 rfl rfl ?_
    refine s_gR (r := 2) E fg_X9_20 rfl rfl (ltn hw0.1 (by decide)) (fc_r hw0 (by decide +kernel)) dX9_count_152 ?_
    refine s_gI E fg_X9_110 rfl rfl (ltn hw0.1 (by decide)) dX9_count_155 ?_
    refine s_top (y := 0) (fc_i hw0 (by decide +kernel)) ?_
    exact r_int E dX9_count_158 ⟨(by have e0 : (0 : Int32).toInt = 0 := (by decide); have e1 : (1 : Int32).toInt = 1 := (by decide); have e2 : (2 : Int32).toInt = 2 := (by decide); have e3 : (3 : Int32).toInt = 3 := (by decide); have e4 : (4 : Int32).toInt = 4 := (by decide); have e5 : (0 : Int64).toInt = 0 := (by decide); first | decide | (unfold sp_count; (repeat' split) <;> first | rfl | (exfalso; omega))), rfl⟩
  ·
    refine s_tableIn (off := 158) (tgt := 159) E dX9_count_1 (by decide) (by decide) (by decide) (by decide) ?_
    refine s_aload_n E dX9_count_159 rfl rfl ?_
    refine s_gI E fg_X9_13 rfl rfl (ltn hw0.1 (by decide)) dX9_count_160 ?_
    refine s_top (y := 0) (fc_i hw0 (by decide +kernel)) ?_
    exact r_int E dX9_count_163 ⟨(by have e0 : (0 : Int32).toInt = 0 := (by decide); have e1 : (1 : Int32).toInt = 1 := (by decide); have e2 : (2 : Int32).toInt = 2 := (by decide); have e3 : (3 : Int32).toInt = 3 := (by decide); have e4 : (4 : Int32).toInt = 4 := (by decide); have e5 : (0 : Int64).toInt = 0 := (by decide); first | decide | (unfold sp_count; (repeat' split) <;> first | rfl | (exfalso; omega))), rfl⟩
  ·
    refine s_tableIn (off := 163) (tgt := 164) E dX9_count_1 (by decide) (by decide) (by decide) (by decide) ?_
    refine s_aload_n E dX9_count_164 rfl rfl ?_
    refine s_vI (As := []) (S := []) E (K_X9_slotsWithRow_0_CRMS l D aC b w  hw0 hw1 hw2 hw3) cv_X9_423 rfl rfl rfl (ltn hw0.1 (by decide)) (Nat.le_of_ble_eq_true rfl) (Nat.le_of_ble_eq_true rfl) ⟨(Nat.le_of_ble_eq_true rfl), (Nat.le_of_ble_eq_true rfl)⟩ (Nat.le_of_ble_eq_true rfl) dX9_count_165 (fun r u hp => ?_)
    obtain ⟨rfl, rfl⟩ := hp
    exact r_int E dX9_count_168 ⟨(by have e0 : (0 : Int32).toInt = 0 := (by decide); have e1 : (1 : Int32).toInt = 1 := (by decide); have e2 : (2 : Int32).toInt = 2 := (by decide); have e3 : (3 : Int32).toInt = 3 := (by decide); have e4 : (4 : Int32).toInt = 4 := (by decide); have e5 : (0 : Int64).toInt = 0 := (by decide); first | decide | (unfold sp_count; (repeat' split) <;> first | rfl | (exfalso; omega))), rfl⟩
