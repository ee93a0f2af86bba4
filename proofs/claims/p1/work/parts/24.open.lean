set_option maxRecDepth 20000 in
set_option maxHeartbeats 2000000 in
theorem K_X10_bars_95_MS (l : Launch) (D : va_G) (aC : Nat → ClassId) (b : Nat) (w : XW) (x1 : Int32) (x2 : Int32) (x3 : Int32) (hw0 : FrM w) (hw1 : RfM w) : CnI l D aC b M_X10_bars 2 47 0 0 [AR 95, AI x1, AI x2, AI x3] w (fun r u => r = (-2) ∧ w = u) := by
  refine cn_I (own := RX10) (nm := "bars") (L0 := [some (AR 95), some (AI x1), some (AI x2), some (AI x3)]) (by decide +kernel) rfl rfl (Nat.le_of_ble_eq_true rfl) rfl ?_
  intro p e s m args below meth c E hin
  refine s_aload_n E dX10_bars_0 rfl rfl ?_
  refine s_iload_n E dX10_bars_1 rfl rfl ?_
  refine s_i2l E dX10_bars_2 ?_
  refine s_vI (As := [AL ((x1 : Int32).toInt64)]) (S := []) E (K_X10_isLady_95_MS l D aC b w (((x1 : Int32).toInt64)) hw0 hw1) cv_X10_222 rfl rfl rfl (ltn hw0.1 (by decide)) (Nat.le_of_ble_eq_true rfl) (Nat.le_of_ble_eq_true rfl) ⟨(Nat.le_of_ble_eq_true rfl), (Nat.le_of_ble_eq_true rfl)⟩ (Nat.le_of_ble_eq_true rfl) dX10_bars_3 (fun r u hp => ?_)
  obtain ⟨rfl, rfl⟩ := hp
  refine s_if_eq (tgt := 25) E dX10_bars_6 (by decide) (fun _ => ?_) (fun hh => absurd (by decide) hh)
  refine s_bipush (v := (-2)) E dX10_bars_25 (by decide) ?_
  exact r_int E dX10_bars_27 ⟨rfl, rfl⟩
set_option maxRecDepth 20000 in
set_option maxHeartbeats 2000000 in
theorem K_X10_isSlot_MS (l : Launch) (D : va_G) (aC : Nat → ClassId) (b : Nat) (w : XW) (x1 : Int32) (hw0 : FrM w) (hw1 : RfM w) : CnI l D aC b M_X10_isSlot 1 25 0 0 [AI x1] w (fun r u => (r = 1 ∧ 0 ≤ x1.toInt ∧ x1.toInt ≤ 3 ∧ w = u) ∨ (r = 0 ∧ (x1.toInt < 0 ∨ 3 < x1.toInt) ∧ w = u)) := by
  refine cn_I (own := RX10) (nm := "isSlot") (L0 := [some (AI x1)]) (by decide +kernel) rfl rfl (Nat.le_of_ble_eq_true rfl) rfl ?_
  intro p e s m args below meth c E hin
  refine s_iload_n E dX10_isSlot_0 rfl rfl ?_
  refine s_i2l E dX10_isSlot_1 ?_
  refine s_lconst (v := 0) E dX10_isSlot_2 (by decide) ?_
  refine s_ldc2 E k_1737 rfl dX10_isSlot_3 ?_
  refine s_sI (As := [AL ((x1 : Int32).toInt64), AL 0, AL 3]) (S := []) E (K_X10_in_MS l D aC b w (((x1 : Int32).toInt64)) 0 3 hw0 hw1) cs_X10_82 rfl rfl (Nat.le_of_ble_eq_true rfl) (Nat.le_of_ble_eq_true rfl) ⟨(Nat.le_of_ble_eq_true rfl), (Nat.le_of_ble_eq_true rfl)⟩ (Nat.le_of_ble_eq_true rfl) dX10_isSlot_6 (fun r u hp => ?_)
  rcases hp with ⟨rfl, h_1, h_2, rfl⟩ | ⟨rfl, h_3, rfl⟩
  ·
    exact r_bool E dX10_isSlot_9 (Or.inr rfl) (by have q0 := h_1; have q1 := h_2; (try simp only [lg_cmp_lt, lg_cmp_le, lg_cmp_ge, lg_cmp_gt] at q0 q1); (try simp only [Int32.lt_iff_toInt_lt, Int32.le_iff_toInt_le, Int64.lt_iff_toInt_lt, Int64.le_iff_toInt_le, ← Int32.toInt_inj, ← Int64.toInt_inj, Int32.toInt_toInt64] at q0 q1); have e0 : (0 : Int32).toInt = 0 := (by decide); have e1 : (0 : Int64).toInt = 0 := (by decide); have e2 : (3 : Int64).toInt = 3 := (by decide); (try simp only [e0, e1, e2] at q0 q1); exact Or.inl ⟨rfl, by omega, by omega, rfl⟩)
  ·
    exact r_bool E dX10_isSlot_9 (Or.inl rfl) (by have q0 := h_3; (try simp only [lg_cmp_lt, lg_cmp_le, lg_cmp_ge, lg_cmp_gt] at q0); (try simp only [Int32.lt_iff_toInt_lt, Int32.le_iff_toInt_le, Int64.lt_iff_toInt_lt, Int64.le_iff_toInt_le, ← Int32.toInt_inj, ← Int64.toInt_inj, Int32.toInt_toInt64] at q0); have e0 : (0 : Int32).toInt = 0 := (by decide); have e1 : (0 : Int64).toInt = 0 := (by decide); have e2 : (3 : Int64).toInt = 3 := (by decide); (try simp only [e0, e1, e2] at q0); exact Or.inr ⟨rfl, by omega, rfl⟩)
set_option maxRecDepth 20000 in
set_option maxHeartbeats 2000000 in
theorem K_X10_layFirsts_95_MS (l : Launch) (D : va_G) (aC : Nat → ClassId) (b : Nat) (w : XW) (x1 : Int32) (hw0 : FrM w) (hw1 : RfM w) : CnI l D aC b M_X10_layFirsts 2 45 0 0 [AR 95, AI x1] w (fun r u => r = (-2) ∧ w = u) := by
  refine cn_I (own := RX10) (nm := "layFirsts") (L0 := [some (AR 95), some (AI x1), none, none, none, none]) (by decide +kernel) rfl rfl (Nat.le_of_ble_eq_true rfl) rfl ?_
  intro p e s m args below meth c E hin
  refine s_iload_n E dX10_layFirsts_0 rfl rfl ?_
  refine s_sI (As := [AI x1]) (S := []) E (K_X10_isSlot_MS l D aC b w x1 hw0 hw1) cs_X10_375 rfl rfl (Nat.le_of_ble_eq_true rfl) (Nat.le_of_ble_eq_true rfl) ⟨(Nat.le_of_ble_eq_true rfl), (Nat.le_of_ble_eq_true rfl)⟩ (Nat.le_of_ble_eq_true rfl) dX10_layFirsts_1 (fun r u hp => ?_)
  rcases hp with ⟨rfl, h_1, h_2, rfl⟩ | ⟨rfl, h_3, rfl⟩
  ·
    refine s_if_eq (tgt := 14) E dX10_layFirsts_4 (by decide) (fun hh => absurd hh (by decide)) (fun _ => ?_)
    refine s_aload_n E dX10_layFirsts_7 rfl rfl ?_
    refine s_vI (As := []) (S := []) E (K_X10_isBall_95_MS l D aC b w  hw0 hw1) cv_X10_86 rfl rfl rfl (ltn hw0.1 (by decide)) (Nat.le_of_ble_eq_true rfl) (Nat.le_of_ble_eq_true rfl) ⟨(Nat.le_of_ble_eq_true rfl), (Nat.le_of_ble_eq_true rfl)⟩ (Nat.le_of_ble_eq_true rfl) dX10_layFirsts_8 (fun r u hp => ?_)
    obtain ⟨rfl, rfl⟩ := hp
    refine s_if_ne (tgt := 17) E dX10_layFirsts_11 (by decide) (fun hh => absurd (by decide) hh) (fun _ => ?_)
    refine s_bipush (v := (-2)) E dX10_layFirsts_14 (by decide) ?_
    exact r_int E dX10_layFirsts_16 ⟨rfl, rfl⟩
  ·
    refine s_if_eq (tgt := 14) E dX10_layFirsts_4 (by decide) (fun _ => ?_) (fun hh => absurd (by decide) hh)
    refine s_bipush (v := (-2)) E dX10_layFirsts_14 (by decide) ?_
    exact r_int E dX10_layFirsts_16 ⟨rfl, rfl⟩
set_option maxRecDepth 20000 in
set_option maxHeartbeats 2000000 in
theorem K_X10_firsts_95_MS (l : Launch) (D : va_G) (aC : Nat → ClassId) (b : Nat) (w : XW) (x1 : Int32) (hw0 : FrM w) (hw1 : RfM w) : CnI l D aC b M_X10_firsts 3 70 0 0 [AR 95, AI x1] w (fun r u => r = (-2) ∧ w = u) := by
  refine cn_I (own := RX10) (nm := "firsts") (L0 := [some (AR 95), some (AI x1)]) (by decide +kernel) rfl rfl (Nat.le_of_ble_eq_true rfl) rfl ?_
  intro p e s m args below meth c E hin
  refine s_aload_n E dX10_firsts_0 rfl rfl ?_
  refine s_iload_n E dX10_firsts_1 rfl rfl ?_
  refine s_vI (As := [AI x1]) (S := []) E (K_X10_layFirsts_95_MS l D aC b w x1 hw0 hw1) cv_X10_381 rfl rfl rfl (ltn hw0.1 (by decide)) (Nat.le_of_ble_eq_true rfl) (Nat.le_of_ble_eq_true rfl) ⟨(Nat.le_of_ble_eq_true rfl), (Nat.le_of_ble_eq_true rfl)⟩ (Nat.le_of_ble_eq_true rfl) dX10_firsts_2 (fun r u hp => ?_)
  obtain ⟨rfl, rfl⟩ := hp
  exact r_int E dX10_firsts_5 ⟨rfl, rfl⟩
set_option maxRecDepth 20000 in
set_option maxHeartbeats 2000000 in
theorem K_X10_ask_95_MS (l : Launch) (D : va_G) (aC : Nat → ClassId) (b : Nat) (w : XW) (x1 : Int32) (hw0 : FrM w) (hw1 : RfM w) : CnI l D aC b M_X10_ask 3 70 0 0 [AR 95, AI x1] w (fun r u => r = (-2) ∧ w = u) := by
  refine cn_I (own := RX10) (nm := "ask") (L0 := [some (AR 95), some (AI x1), none]) (by decide +kernel) rfl rfl (Nat.le_of_ble_eq_true rfl) rfl ?_
  intro p e s m args below meth c E hin
  refine s_aload_n E dX10_ask_0 rfl rfl ?_
  refine s_iload_n E dX10_ask_1 rfl rfl ?_
  refine s_vI (As := [AI x1]) (S := []) E (K_X10_layFirsts_95_MS l D aC b w x1 hw0 hw1) cv_X10_381 rfl rfl rfl (ltn hw0.1 (by decide)) (Nat.le_of_ble_eq_true rfl) (Nat.le_of_ble_eq_true rfl) ⟨(Nat.le_of_ble_eq_true rfl), (Nat.le_of_ble_eq_true rfl)⟩ (Nat.le_of_ble_eq_true rfl) dX10_ask_2 (fun r u hp => ?_)
  obtain ⟨rfl, rfl⟩ := hp
  refine s_istore_n (L2 := [some (AR 95), some (AI x1), some (AI (-2))]) E dX10_ask_5 rfl (by decide) rfl ?_
  refine s_iload_n E dX10_ask_6 rfl rfl ?_
  refine s_if_ge (tgt := 14) E dX10_ask_7 (by decide) (fun hh => absurd hh (by decide)) (fun _ => ?_)
  refine s_iload_n E dX10_ask_10 rfl rfl ?_
  refine s_goto (tgt := 19) E dX10_ask_11 (by decide) ?_
  exact r_int E dX10_ask_19 ⟨rfl, rfl⟩
set_option maxRecDepth 20000 in
set_option maxHeartbeats 2000000 in
theorem K_X10_leaves_95_MS (l : Launch) (D : va_G) (aC : Nat → ClassId) (b : Nat) (w : XW) (x1 : Int32) (hw0 : FrM w) (hw1 : RfM w) : CnI l D aC b M_X10_leaves 3 70 0 0 [AR 95, AI x1] w (fun r u => r = (-2) ∧ w = u) := by
  refine cn_I (own := RX10) (nm := "leaves") (L0 := [some (AR 95), some (AI x1), none]) (by decide +kernel) rfl rfl (Nat.le_of_ble_eq_true rfl) rfl ?_
  intro p e s m args below meth c E hin
  refine s_aload_n E dX10_leaves_0 rfl rfl ?_
  refine s_iload_n E dX10_leaves_1 rfl rfl ?_
  refine s_vI (As := [AI x1]) (S := []) E (K_X10_layFirsts_95_MS l D aC b w x1 hw0 hw1) cv_X10_381 rfl rfl rfl (ltn hw0.1 (by decide)) (Nat.le_of_ble_eq_true rfl) (Nat.le_of_ble_eq_true rfl) ⟨(Nat.le_of_ble_eq_true rfl), (Nat.le_of_ble_eq_true rfl)⟩ (Nat.le_of_ble_eq_true rfl) dX10_leaves_2 (fun r u hp => ?_)
  obtain ⟨rfl, rfl⟩ := hp
  refine s_istore_n (L2 := [some (AR 95), some (AI x1), some (AI (-2))]) E dX10_leaves_5 rfl (by decide) rfl ?_
  refine s_iload_n E dX10_leaves_6 rfl rfl ?_
  refine s_if_ge (tgt := 12) E dX10_leaves_7 (by decide) (fun hh => absurd hh (by decide)) (fun _ => ?_)
  refine s_iload_n E dX10_leaves_10 rfl rfl ?_
  exact r_int E dX10_leaves_11 ⟨rfl, rfl⟩
set_option maxRecDepth 20000 in
set_option maxHeartbeats 2000000 in
theorem K_X10_seats_95_MS (l : Launch) (D : va_G) (aC : Nat → ClassId) (b : Nat) (w : XW) (x1 : Int32) (hw0 : FrM w) (hw1 : RfM w) : CnI l D aC b M_X10_seats 4 90 0 0 [AR 95, AI x1] w (fun r u => r = (-2) ∧ FrM u ∧ RfM u) := by
  refine cn_I (own := RX10) (nm := "seats") (L0 := [some (AR 95), some (AI x1)]) (by decide +kernel) rfl rfl (Nat.le_of_ble_eq_true rfl) rfl ?_
  intro p e s m args below meth c E hin
  refine s_aload_n E dX10_seats_0 rfl rfl ?_
  refine s_iload_n E dX10_seats_1 rfl rfl ?_
  refine s_vI (As := [AI x1]) (S := []) E (K_X10_asksLady_95_MS l D aC b w x1 hw0 hw1) cv_X10_288 rfl rfl rfl (ltn hw0.1 (by decide)) (Nat.le_of_ble_eq_true rfl) (Nat.le_of_ble_eq_true rfl) ⟨(Nat.le_of_ble_eq_true rfl), (Nat.le_of_ble_eq_true rfl)⟩ (Nat.le_of_ble_eq_true rfl) dX10_seats_2 (fun r u_1 hp => ?_)
  obtain ⟨rfl, hu_1, hu_2⟩ := hp
  refine s_if_eq (tgt := 17) E dX10_seats_5 (by decide) (fun _ => ?_) (fun hh => absurd (by decide) hh)
  refine s_bipush (v := (-2)) E dX10_seats_17 (by decide) ?_
  exact r_int E dX10_seats_19 ⟨rfl, ⟨hu_1, hu_2⟩⟩
set_option maxRecDepth 20000 in
set_option maxHeartbeats 2000000 in
theorem K_X10_under_95_MS (l : Launch) (D : va_G) (aC : Nat → ClassId) (b : Nat) (w : XW) (x1 : Int32) (hw0 : FrM w) (hw1 : RfM w) : CnI l D aC b M_X10_under 4 90 0 0 [AR 95, AI x1] w (fun r u => r = (-2) ∧ FrM u ∧ RfM u) := by
  refine cn_I (own := RX10) (nm := "under") (L0 := [some (AR 95), some (AI x1), none, none]) (by decide +kernel) rfl rfl (Nat.le_of_ble_eq_true rfl) rfl ?_
  intro p e s m args below meth c E hin
  refine s_aload_n E dX10_under_0 rfl rfl ?_
  refine s_iload_n E dX10_under_1 rfl rfl ?_
  refine s_vI (As := [AI x1]) (S := []) E (K_X10_asksLady_95_MS l D aC b w x1 hw0 hw1) cv_X10_288 rfl rfl rfl (ltn hw0.1 (by decide)) (Nat.le_of_ble_eq_true rfl) (Nat.le_of_ble_eq_true rfl) ⟨(Nat.le_of_ble_eq_true rfl), (Nat.le_of_ble_eq_true rfl)⟩ (Nat.le_of_ble_eq_true rfl) dX10_under_2 (fun r u_1 hp => ?_)
  obtain ⟨rfl, hu_1, hu_2⟩ := hp
  refine s_if_ne (tgt := 11) E dX10_under_5 (by decide) (fun hh => absurd (by decide) hh) (fun _ => ?_)
  refine s_bipush (v := (-2)) E dX10_under_8 (by decide) ?_
  exact r_int E dX10_under_10 ⟨rfl, ⟨hu_1, hu_2⟩⟩
set_option maxRecDepth 20000 in
set_option maxHeartbeats 2000000 in
theorem K_X10_holds_95_MS (l : Launch) (D : va_G) (aC : Nat → ClassId) (b : Nat) (w : XW) (x1 : Int32) (hw0 : FrM w) (hw1 : RfM w) : CnI l D aC b M_X10_holds 3 69 0 0 [AR 95, AI x1] w (fun r u => r = (-2) ∧ FrM u ∧ RfM u) := by
  refine cn_I (own := RX10) (nm := "holds") (L0 := [some (AR 95), some (AI x1)]) (by decide +kernel) rfl rfl (Nat.le_of_ble_eq_true rfl) rfl ?_
  intro p e s m args below meth c E hin
  refine s_aload_n E dX10_holds_0 rfl rfl ?_
  refine s_vV (As := []) (S := []) E (K_X10_asItIs_95_MS l D aC b w  hw0 hw1) cv_X10_279 rfl rfl rfl (ltn hw0.1 (by decide)) (Nat.le_of_ble_eq_true rfl) (Nat.le_of_ble_eq_true rfl) ⟨(Nat.le_of_ble_eq_true rfl), (Nat.le_of_ble_eq_true rfl)⟩ (Nat.le_of_ble_eq_true rfl) dX10_holds_1 (fun u_1 hp => ?_)
  obtain ⟨hu_1, hu_2⟩ := hp
  refine s_aload_n E dX10_holds_4 rfl rfl ?_
  refine s_iload_n E dX10_holds_5 rfl rfl ?_
  refine s_vI (As := [AI x1]) (S := []) E (K_X10_isSet_95_MS l D aC b u_1 x1 hu_1 hu_2) cv_X10_399 rfl rfl rfl (ltn hu_1.1 (by decide)) (Nat.le_of_ble_eq_true rfl) (Nat.le_of_ble_eq_true rfl) ⟨(Nat.le_of_ble_eq_true rfl), (Nat.le_of_ble_eq_true rfl)⟩ (Nat.le_of_ble_eq_true rfl) dX10_holds_6 (fun r u hp => ?_)
  obtain ⟨rfl, rfl⟩ := hp
  refine s_if_eq (tgt := 28) E dX10_holds_9 (by decide) (fun _ => ?_) (fun hh => absurd (by decide) hh)
  refine s_bipush (v := (-2)) E dX10_holds_28 (by decide) ?_
  exact r_int E dX10_holds_30 ⟨rfl, ⟨hu_1, hu_2⟩⟩
set_option maxRecDepth 20000 in
set_option maxHeartbeats 2000000 in
theorem K_X10_power_95_MS (l : Launch) (D : va_G) (aC : Nat → ClassId) (b : Nat) (w : XW) (x1 : Int32) (hw0 : FrM w) (hw1 : RfM w) : CnI l D aC b M_X10_power 4 90 0 0 [AR 95, AI x1] w (fun r u => r = (-2) ∧ FrM u ∧ RfM u) := by
  refine cn_I (own := RX10) (nm := "power") (L0 := [some (AR 95), some (AI x1)]) (by decide +kernel) rfl rfl (Nat.le_of_ble_eq_true rfl) rfl ?_
  intro p e s m args below meth c E hin
  refine s_aload_n E dX10_power_0 rfl rfl ?_
  refine s_iload_n E dX10_power_1 rfl rfl ?_
  refine s_vI (As := [AI x1]) (S := []) E (K_X10_asksLady_95_MS l D aC b w x1 hw0 hw1) cv_X10_288 rfl rfl rfl (ltn hw0.1 (by decide)) (Nat.le_of_ble_eq_true rfl) (Nat.le_of_ble_eq_true rfl) ⟨(Nat.le_of_ble_eq_true rfl), (Nat.le_of_ble_eq_true rfl)⟩ (Nat.le_of_ble_eq_true rfl) dX10_power_2 (fun r u_1 hp => ?_)
  obtain ⟨rfl, hu_1, hu_2⟩ := hp
  refine s_if_eq (tgt := 16) E dX10_power_5 (by decide) (fun _ => ?_) (fun hh => absurd (by decide) hh)
  refine s_bipush (v := (-2)) E dX10_power_16 (by decide) ?_
  exact r_int E dX10_power_18 ⟨rfl, ⟨hu_1, hu_2⟩⟩
set_option maxRecDepth 20000 in
set_option maxHeartbeats 2000000 in
theorem K_X10_part_95_MS (l : Launch) (D : va_G) (aC : Nat → ClassId) (b : Nat) (w : XW) (x1 : Int32) (x2 : Int32) (hw0 : FrM w) (hw1 : RfM w) : CnI l D aC b M_X10_part 4 90 0 0 [AR 95, AI x1, AI x2] w (fun r u => r = (-2) ∧ FrM u ∧ RfM u) := by
  refine cn_I (own := RX10) (nm := "part") (L0 := [some (AR 95), some (AI x1), some (AI x2), none]) (by decide +kernel) rfl rfl (Nat.le_of_ble_eq_true rfl) rfl ?_
  intro p e s m args below meth c E hin
  refine s_aload_n E dX10_part_0 rfl rfl ?_
  refine s_iload_n E dX10_part_1 rfl rfl ?_
  refine s_vI (As := [AI x1]) (S := []) E (K_X10_asksLady_95_MS l D aC b w x1 hw0 hw1) cv_X10_288 rfl rfl rfl (ltn hw0.1 (by decide)) (Nat.le_of_ble_eq_true rfl) (Nat.le_of_ble_eq_true rfl) ⟨(Nat.le_of_ble_eq_true rfl), (Nat.le_of_ble_eq_true rfl)⟩ (Nat.le_of_ble_eq_true rfl) dX10_part_2 (fun r u_1 hp => ?_)
  obtain ⟨rfl, hu_1, hu_2⟩ := hp
  refine s_if_eq (tgt := 18) E dX10_part_5 (by decide) (fun _ => ?_) (fun hh => absurd (by decide) hh)
  refine s_bipush (v := (-2)) E dX10_part_18 (by decide) ?_
  exact r_int E dX10_part_20 ⟨rfl, ⟨hu_1, hu_2⟩⟩
set_option maxRecDepth 20000 in
set_option maxHeartbeats 2000000 in
theorem K_X10_cabinet_95_MS (l : Launch) (D : va_G) (aC : Nat → ClassId) (b : Nat) (w : XW)  (hw0 : FrM w) (hw1 : RfM w) : CnI l D aC b M_X10_cabinet 4 89 0 0 [AR 95] w (fun r u => r = (-2) ∧ FrM u ∧ RfM u) := by
  refine cn_I (own := RX10) (nm := "cabinet") (L0 := [some (AR 95), none, none]) (by decide +kernel) rfl rfl (Nat.le_of_ble_eq_true rfl) rfl ?_
  intro p e s m args below meth c E hin
  refine s_aload_n E dX10_cabinet_0 rfl rfl ?_
  refine s_vI (As := []) (S := []) E (K_X10_asksBall_95_MS l D aC b w  hw0 hw1) cv_X10_322 rfl rfl rfl (ltn hw0.1 (by decide)) (Nat.le_of_ble_eq_true rfl) (Nat.le_of_ble_eq_true rfl) ⟨(Nat.le_of_ble_eq_true rfl), (Nat.le_of_ble_eq_true rfl)⟩ (Nat.le_of_ble_eq_true rfl) dX10_cabinet_1 (fun r u_1 hp => ?_)
  obtain ⟨rfl, hu_1, hu_2⟩ := hp
  refine s_if_ne (tgt := 10) E dX10_cabinet_4 (by decide) (fun hh => absurd (by decide) hh) (fun _ => ?_)
  refine s_bipush (v := (-2)) E dX10_cabinet_7 (by decide) ?_
  exact r_int E dX10_cabinet_9 ⟨rfl, ⟨hu_1, hu_2⟩⟩
set_option maxRecDepth 20000 in
set_option maxHeartbeats 2000000 in
theorem K_X10_cabinets_95_MS (l : Launch) (D : va_G) (aC : Nat → ClassId) (b : Nat) (w : XW)  (hw0 : FrM w) (hw1 : RfM w) : CnI l D aC b M_X10_cabinets 4 89 0 0 [AR 95] w (fun r u => r = (-2) ∧ FrM u ∧ RfM u) := by
  refine cn_I (own := RX10) (nm := "cabinets") (L0 := [some (AR 95), none, none]) (by decide +kernel) rfl rfl (Nat.le_of_ble_eq_true rfl) rfl ?_
  intro p e s m args below meth c E hin
  refine s_aload_n E dX10_cabinets_0 rfl rfl ?_
  refine s_vI (As := []) (S := []) E (K_X10_asksBall_95_MS l D aC b w  hw0 hw1) cv_X10_322 rfl rfl rfl (ltn hw0.1 (by decide)) (Nat.le_of_ble_eq_true rfl) (Nat.le_of_ble_eq_true rfl) ⟨(Nat.le_of_ble_eq_true rfl), (Nat.le_of_ble_eq_true rfl)⟩ (Nat.le_of_ble_eq_true rfl) dX10_cabinets_1 (fun r u_1 hp => ?_)
  obtain ⟨rfl, hu_1, hu_2⟩ := hp
  refine s_if_ne (tgt := 10) E dX10_cabinets_4 (by decide) (fun hh => absurd (by decide) hh) (fun _ => ?_)
  refine s_bipush (v := (-2)) E dX10_cabinets_7 (by decide) ?_
  exact r_int E dX10_cabinets_9 ⟨rfl, ⟨hu_1, hu_2⟩⟩
set_option maxRecDepth 20000 in
set_option maxHeartbeats 2000000 in
theorem K_X10_kingmaker_95_MS (l : Launch) (D : va_G) (aC : Nat → ClassId) (b : Nat) (w : XW)  (hw0 : FrM w) (hw1 : RfM w) : CnI l D aC b M_X10_kingmaker 4 89 0 0 [AR 95] w (fun r u => r = (-2) ∧ FrM u ∧ RfM u) := by
  refine cn_I (own := RX10) (nm := "kingmaker") (L0 := [some (AR 95), none, none]) (by decide +kernel) rfl rfl (Nat.le_of_ble_eq_true rfl) rfl ?_
  intro p e s m args below meth c E hin
  refine s_aload_n E dX10_kingmaker_0 rfl rfl ?_
  refine s_vI (As := []) (S := []) E (K_X10_asksBall_95_MS l D aC b w  hw0 hw1) cv_X10_322 rfl rfl rfl (ltn hw0.1 (by decide)) (Nat.le_of_ble_eq_true rfl) (Nat.le_of_ble_eq_true rfl) ⟨(Nat.le_of_ble_eq_true rfl), (Nat.le_of_ble_eq_true rfl)⟩ (Nat.le_of_ble_eq_true rfl) dX10_kingmaker_1 (fun r u_1 hp => ?_)
  obtain ⟨rfl, hu_1, hu_2⟩ := hp
  refine s_if_ne (tgt := 10) E dX10_kingmaker_4 (by decide) (fun hh => absurd (by decide) hh) (fun _ => ?_)
  refine s_bipush (v := (-2)) E dX10_kingmaker_7 (by decide) ?_
  exact r_int E dX10_kingmaker_9 ⟨rfl, ⟨hu_1, hu_2⟩⟩
set_option maxRecDepth 20000 in
set_option maxHeartbeats 2000000 in
theorem K_X10_areTwo_95_MS (l : Launch) (D : va_G) (aC : Nat → ClassId) (b : Nat) (w : XW) (x1 : Int32) (x2 : Int32) (hw0 : FrM w) (hw1 : RfM w) : CnI l D aC b M_X10_areTwo 4 90 0 0 [AR 95, AI x1, AI x2] w (fun r u => r = 0 ∧ FrM u ∧ RfM u) := by
  refine cn_I (own := RX10) (nm := "areTwo") (L0 := [some (AR 95), some (AI x1), some (AI x2)]) (by decide +kernel) rfl rfl (Nat.le_of_ble_eq_true rfl) rfl ?_
  intro p e s m args below meth c E hin
  refine s_aload_n E dX10_areTwo_0 rfl rfl ?_
  refine s_iload_n E dX10_areTwo_1 rfl rfl ?_
  refine s_vI (As := [AI x1]) (S := []) E (K_X10_asksLady_95_MS l D aC b w x1 hw0 hw1) cv_X10_288 rfl rfl rfl (ltn hw0.1 (by decide)) (Nat.le_of_ble_eq_true rfl) (Nat.le_of_ble_eq_true rfl) ⟨(Nat.le_of_ble_eq_true rfl), (Nat.le_of_ble_eq_true rfl)⟩ (Nat.le_of_ble_eq_true rfl) dX10_areTwo_2 (fun r u_1 hp => ?_)
  obtain ⟨rfl, hu_1, hu_2⟩ := hp
  refine s_if_eq (tgt := 26) E dX10_areTwo_5 (by decide) (fun _ => ?_) (fun hh => absurd (by decide) hh)
  refine s_iconst (v := 0) E dX10_areTwo_26 (by decide) ?_
  exact r_bool E dX10_areTwo_27 (Or.inl rfl) ⟨rfl, ⟨hu_1, hu_2⟩⟩
set_option maxRecDepth 20000 in
set_option maxHeartbeats 2000000 in
theorem K_X10_rests_95_MS (l : Launch) (D : va_G) (aC : Nat → ClassId) (b : Nat) (w : XW) (x1 : Int32) (x2 : Int32) (hw0 : FrM w) (hw1 : RfM w) : CnI l D aC b M_X10_rests 5 112 0 0 [AR 95, AI x1, AI x2] w (fun r u => r = (-2) ∧ FrM u ∧ RfM u) := by
  refine cn_I (own := RX10) (nm := "rests") (L0 := [some (AR 95), some (AI x1), some (AI x2), none, none, none, none, none]) (by decide +kernel) rfl rfl (Nat.le_of_ble_eq_true rfl) rfl ?_
  intro p e s m args below meth c E hin
  refine s_aload_n E dX10_rests_0 rfl rfl ?_
  refine s_iload_n E dX10_rests_1 rfl rfl ?_
  refine s_iload_n E dX10_rests_2 rfl rfl ?_
  refine s_vI (As := [AI x1, AI x2]) (S := []) E (K_X10_areTwo_95_MS l D aC b w x1 x2 hw0 hw1) cv_X10_416 rfl rfl rfl (ltn hw0.1 (by decide)) (Nat.le_of_ble_eq_true rfl) (Nat.le_of_ble_eq_true rfl) ⟨(Nat.le_of_ble_eq_true rfl), (Nat.le_of_ble_eq_true rfl)⟩ (Nat.le_of_ble_eq_true rfl) dX10_rests_3 (fun r u_1 hp => ?_)
  obtain ⟨rfl, hu_1, hu_2⟩ := hp
  refine s_if_ne (tgt := 12) E dX10_rests_6 (by decide) (fun hh => absurd (by decide) hh) (fun _ => ?_)
  refine s_bipush (v := (-2)) E dX10_rests_9 (by decide) ?_
  exact r_int E dX10_rests_11 ⟨rfl, ⟨hu_1, hu_2⟩⟩
set_option maxRecDepth 20000 in
set_option maxHeartbeats 2000000 in
theorem K_X10_gains_95_MS (l : Launch) (D : va_G) (aC : Nat → ClassId) (b : Nat) (w : XW) (x1 : Int32) (x2 : Int32) (x3 : Int32) (x4 : Int32) (hw0 : FrM w) (hw1 : RfM w) : CnI l D aC b M_X10_gains 5 112 0 0 [AR 95, AI x1, AI x2, AI x3, AI x4] w (fun r u => r = (-1000) ∧ FrM u ∧ RfM u) := by
  refine cn_I (own := RX10) (nm := "gains") (L0 := [some (AR 95), some (AI x1), some (AI x2), some (AI x3), some (AI x4)]) (by decide +kernel) rfl rfl (Nat.le_of_ble_eq_true rfl) rfl ?_
  intro p e s m args below meth c E hin
  refine s_aload_n E dX10_gains_0 rfl rfl ?_
  refine s_iload_n E dX10_gains_1 rfl rfl ?_
  refine s_iload_n E dX10_gains_2 rfl rfl ?_
  refine s_vI (As := [AI x1, AI x2]) (S := []) E (K_X10_areTwo_95_MS l D aC b w x1 x2 hw0 hw1) cv_X10_416 rfl rfl rfl (ltn hw0.1 (by decide)) (Nat.le_of_ble_eq_true rfl) (Nat.le_of_ble_eq_true rfl) ⟨(Nat.le_of_ble_eq_true rfl), (Nat.le_of_ble_eq_true rfl)⟩ (Nat.le_of_ble_eq_true rfl) dX10_gains_3 (fun r u_1 hp => ?_)
  obtain ⟨rfl, hu_1, hu_2⟩ := hp
  refine s_if_eq (tgt := 43) E dX10_gains_6 (by decide) (fun _ => ?_) (fun hh => absurd (by decide) hh)
  refine s_sipush (v := (-1000)) E dX10_gains_43 (by decide) ?_
  exact r_int E dX10_gains_46 ⟨rfl, ⟨hu_1, hu_2⟩⟩
set_option maxRecDepth 20000 in
set_option maxHeartbeats 2000000 in
theorem K_X10_asksMusic_95_MS (l : Launch) (D : va_G) (aC : Nat → ClassId) (b : Nat) (w : XW) (x1 : Int32) (x2 : Int32) (x3 : Int32) (hw0 : FrM w) (hw1 : RfM w) : CnI l D aC b M_X10_asksMusic 4 90 0 0 [AR 95, AI x1, AI x2, AI x3] w (fun r u => r = 0 ∧ FrM u ∧ RfM u) := by
  refine cn_I (own := RX10) (nm := "asksMusic") (L0 := [some (AR 95), some (AI x1), some (AI x2), some (AI x3)]) (by decide +kernel) rfl rfl (Nat.le_of_ble_eq_true rfl) rfl ?_
  intro p e s m args below meth c E hin
  refine s_aload_n E dX10_asksMusic_0 rfl rfl ?_
  refine s_iload_n E dX10_asksMusic_1 rfl rfl ?_
  refine s_vI (As := [AI x1]) (S := []) E (K_X10_asksLady_95_MS l D aC b w x1 hw0 hw1) cv_X10_288 rfl rfl rfl (ltn hw0.1 (by decide)) (Nat.le_of_ble_eq_true rfl) (Nat.le_of_ble_eq_true rfl) ⟨(Nat.le_of_ble_eq_true rfl), (Nat.le_of_ble_eq_true rfl)⟩ (Nat.le_of_ble_eq_true rfl) dX10_asksMusic_2 (fun r u_1 hp => ?_)
  obtain ⟨rfl, hu_1, hu_2⟩ := hp
  refine s_if_eq (tgt := 43) E dX10_asksMusic_5 (by decide) (fun _ => ?_) (fun hh => absurd (by decide) hh)
  refine s_iconst (v := 0) E dX10_asksMusic_43 (by decide) ?_
  exact r_bool E dX10_asksMusic_44 (Or.inl rfl) ⟨rfl, ⟨hu_1, hu_2⟩⟩
set_option maxRecDepth 20000 in
set_option maxHeartbeats 2000000 in
theorem K_X10_chance_95_MS (l : Launch) (D : va_G) (aC : Nat → ClassId) (b : Nat) (w : XW) (x1 : Int32) (x2 : Int32) (x3 : Int32) (x4 : Int32) (hw0 : FrM w) (hw1 : RfM w) : CnL l D aC b M_X10_chance 5 113 0 0 [AR 95, AI x1, AI x2, AI x3, AI x4] w (fun r u => r = (-2) ∧ FrM u ∧ RfM u) := by
  refine cn_L (own := RX10) (nm := "chance") (L0 := [some (AR 95), some (AI x1), some (AI x2), some (AI x3), some (AI x4)]) (by decide +kernel) rfl rfl (Nat.le_of_ble_eq_true rfl) rfl ?_
  intro p e s m args below meth c E hin
  refine s_aload_n E dX10_chance_0 rfl rfl ?_
  refine s_iload_n E dX10_chance_1 rfl rfl ?_
  refine s_iload_n E dX10_chance_2 rfl rfl ?_
  refine s_iload E dX10_chance_3 rfl ?_
  refine s_vI (As := [AI x1, AI x3, AI x4]) (S := []) E (K_X10_asksMusic_95_MS l D aC b w x1 x3 x4 hw0 hw1) cv_X10_435 rfl rfl rfl (ltn hw0.1 (by decide)) (Nat.le_of_ble_eq_true rfl) (Nat.le_of_ble_eq_true rfl) ⟨(Nat.le_of_ble_eq_true rfl), (Nat.le_of_ble_eq_true rfl)⟩ (Nat.le_of_ble_eq_true rfl) dX10_chance_5 (fun r u_1 hp => ?_)
  obtain ⟨rfl, hu_1, hu_2⟩ := hp
  refine s_if_eq (tgt := 20) E dX10_chance_8 (by decide) (fun _ => ?_) (fun hh => absurd (by decide) hh)
  refine s_ldc2 E k_1919 rfl dX10_chance_20 ?_
  exact r_long E dX10_chance_23 ⟨rfl, ⟨hu_1, hu_2⟩⟩
set_option maxRecDepth 20000 in
set_option maxHeartbeats 2000000 in
theorem K_X10_mean_95_MS (l : Launch) (D : va_G) (aC : Nat → ClassId) (b : Nat) (w : XW) (x1 : Int32) (x2 : Int32) (x3 : Int32) (hw0 : FrM w) (hw1 : RfM w) : CnL l D aC b M_X10_mean 5 113 0 0 [AR 95, AI x1, AI x2, AI x3] w (fun r u => r = (-2) ∧ FrM u ∧ RfM u) := by
  refine cn_L (own := RX10) (nm := "mean") (L0 := [some (AR 95), some (AI x1), some (AI x2), some (AI x3)]) (by decide +kernel) rfl rfl (Nat.le_of_ble_eq_true rfl) rfl ?_
  intro p e s m args below meth c E hin
  refine s_aload_n E dX10_mean_0 rfl rfl ?_
  refine s_iload_n E dX10_mean_1 rfl rfl ?_
  refine s_iload_n E dX10_mean_2 rfl rfl ?_
  refine s_iload_n E dX10_mean_3 rfl rfl ?_
  refine s_vI (As := [AI x1, AI x2, AI x3]) (S := []) E (K_X10_asksMusic_95_MS l D aC b w x1 x2 x3 hw0 hw1) cv_X10_435 rfl rfl rfl (ltn hw0.1 (by decide)) (Nat.le_of_ble_eq_true rfl) (Nat.le_of_ble_eq_true rfl) ⟨(Nat.le_of_ble_eq_true rfl), (Nat.le_of_ble_eq_true rfl)⟩ (Nat.le_of_ble_eq_true rfl) dX10_mean_4 (fun r u_1 hp => ?_)
  obtain ⟨rfl, hu_1, hu_2⟩ := hp
  refine s_if_ne (tgt := 14) E dX10_mean_7 (by decide) (fun hh => absurd (by decide) hh) (fun _ => ?_)
  refine s_ldc2 E k_1919 rfl dX10_mean_10 ?_
  exact r_long E dX10_mean_13 ⟨rfl, ⟨hu_1, hu_2⟩⟩
set_option maxRecDepth 20000 in
set_option maxHeartbeats 2000000 in
theorem K_X10_bid_95_MS (l : Launch) (D : va_G) (aC : Nat → ClassId) (b : Nat) (w : XW) (x1 : Int32) (x2 : Int32) (x3 : Int32) (hw0 : FrM w) (hw1 : RfM w) : CnI l D aC b M_X10_bid 2 47 0 0 [AR 95, AI x1, AI x2, AI x3] w (fun r u => r = (-2) ∧ w = u) := by
  refine cn_I (own := RX10) (nm := "bid") (L0 := [some (AR 95), some (AI x1), some (AI x2), some (AI x3)]) (by decide +kernel) rfl rfl (Nat.le_of_ble_eq_true rfl) rfl ?_
  intro p e s m args below meth c E hin
  refine s_aload_n E dX10_bid_0 rfl rfl ?_
  refine s_iload_n E dX10_bid_1 rfl rfl ?_
  refine s_i2l E dX10_bid_2 ?_
  refine s_vI (As := [AL ((x1 : Int32).toInt64)]) (S := []) E (K_X10_isLady_95_MS l D aC b w (((x1 : Int32).toInt64)) hw0 hw1) cv_X10_222 rfl rfl rfl (ltn hw0.1 (by decide)) (Nat.le_of_ble_eq_true rfl) (Nat.le_of_ble_eq_true rfl) ⟨(Nat.le_of_ble_eq_true rfl), (Nat.le_of_ble_eq_true rfl)⟩ (Nat.le_of_ble_eq_true rfl) dX10_bid_3 (fun r u hp => ?_)
  obtain ⟨rfl, rfl⟩ := hp
  refine s_if_eq (tgt := 29) E dX10_bid_6 (by decide) (fun _ => ?_) (fun hh => absurd (by decide) hh)
  refine s_bipush (v := (-2)) E dX10_bid_29 (by decide) ?_
  exact r_int E dX10_bid_31 ⟨rfl, rfl⟩
set_option maxRecDepth 20000 in
set_option maxHeartbeats 2000000 in
theorem K_X10_move_95_MS (l : Launch) (D : va_G) (aC : Nat → ClassId) (b : Nat) (w : XW) (x1 : Int32) (x2 : Int32) (hw0 : FrM w) (hw1 : RfM w) : CnI l D aC b M_X10_move 2 46 0 0 [AR 95, AI x1, AI x2] w (fun r u => r = (-2) ∧ w = u) := by
  refine cn_I (own := RX10) (nm := "move") (L0 := [some (AR 95), some (AI x1), some (AI x2), none]) (by decide +kernel) rfl rfl (Nat.le_of_ble_eq_true rfl) rfl ?_
  intro p e s m args below meth c E hin
  refine s_aload_n E dX10_move_0 rfl rfl ?_
  refine s_iload_n E dX10_move_1 rfl rfl ?_
  refine s_vI (As := [AI x1]) (S := []) E (K_X10_isMinister_95_MS l D aC b w x1 hw0 hw1) cv_X10_285 rfl rfl rfl (ltn hw0.1 (by decide)) (Nat.le_of_ble_eq_true rfl) (Nat.le_of_ble_eq_true rfl) ⟨(Nat.le_of_ble_eq_true rfl), (Nat.le_of_ble_eq_true rfl)⟩ (Nat.le_of_ble_eq_true rfl) dX10_move_2 (fun r u hp => ?_)
  obtain ⟨rfl, rfl⟩ := hp
  refine s_if_eq (tgt := 17) E dX10_move_5 (by decide) (fun _ => ?_) (fun hh => absurd (by decide) hh)
  refine s_bipush (v := (-2)) E dX10_move_17 (by decide) ?_
  exact r_int E dX10_move_19 ⟨rfl, rfl⟩
set_option maxRecDepth 20000 in
set_option maxHeartbeats 2000000 in
theorem K_X10_undo_95_MS (l : Launch) (D : va_G) (aC : Nat → ClassId) (b : Nat) (w : XW)  (hw0 : FrM w) (hw1 : RfM w) : CnI l D aC b M_X10_undo 1 20 0 0 [AR 95] w (fun r u => r = (-2) ∧ w = u) := by
  refine cn_I (own := RX10) (nm := "undo") (L0 := [some (AR 95)]) (by decide +kernel) rfl rfl (Nat.le_of_ble_eq_true rfl) rfl ?_
  intro p e s m args below meth c E hin
  refine s_aload_n E dX10_undo_0 rfl rfl ?_
  refine s_vI (As := []) (S := []) E (K_X10_isBall_95_MS l D aC b w  hw0 hw1) cv_X10_86 rfl rfl rfl (ltn hw0.1 (by decide)) (Nat.le_of_ble_eq_true rfl) (Nat.le_of_ble_eq_true rfl) ⟨(Nat.le_of_ble_eq_true rfl), (Nat.le_of_ble_eq_true rfl)⟩ (Nat.le_of_ble_eq_true rfl) dX10_undo_1 (fun r u hp => ?_)
  obtain ⟨rfl, rfl⟩ := hp
  refine s_if_ne (tgt := 10) E dX10_undo_4 (by decide) (fun hh => absurd (by decide) hh) (fun _ => ?_)
  refine s_bipush (v := (-2)) E dX10_undo_7 (by decide) ?_
  exact r_int E dX10_undo_9 ⟨rfl, rfl⟩
set_option maxRecDepth 20000 in
set_option maxHeartbeats 2000000 in
theorem K_X10_anew_95_MS (l : Launch) (D : va_G) (aC : Nat → ClassId) (b : Nat) (w : XW)  (hw0 : FrM w) (hw1 : RfM w) : CnI l D aC b M_X10_anew 1 20 0 0 [AR 95] w (fun r u => r = (-2) ∧ w = u) := by
  refine cn_I (own := RX10) (nm := "anew") (L0 := [some (AR 95), none]) (by decide +kernel) rfl rfl (Nat.le_of_ble_eq_true rfl) rfl ?_
  intro p e s m args below meth c E hin
  refine s_aload_n E dX10_anew_0 rfl rfl ?_
  refine s_vI (As := []) (S := []) E (K_X10_isBall_95_MS l D aC b w  hw0 hw1) cv_X10_86 rfl rfl rfl (ltn hw0.1 (by decide)) (Nat.le_of_ble_eq_true rfl) (Nat.le_of_ble_eq_true rfl) ⟨(Nat.le_of_ble_eq_true rfl), (Nat.le_of_ble_eq_true rfl)⟩ (Nat.le_of_ble_eq_true rfl) dX10_anew_1 (fun r u hp => ?_)
  obtain ⟨rfl, rfl⟩ := hp
  refine s_if_ne (tgt := 10) E dX10_anew_4 (by decide) (fun hh => absurd (by decide) hh) (fun _ => ?_)
  refine s_bipush (v := (-2)) E dX10_anew_7 (by decide) ?_
  exact r_int E dX10_anew_9 ⟨rfl, rfl⟩
set_option maxRecDepth 20000 in
set_option maxHeartbeats 2000000 in
theorem K_X10_isSeed_MS (l : Launch) (D : va_G) (aC : Nat → ClassId) (b : Nat) (w : XW) (x1 : Int32) (hw0 : FrM w) (hw1 : RfM w) : CnI l D aC b M_X10_isSeed 1 25 0 0 [AI x1] w (fun r u => (r = 0 ∨ r = 1) ∧ w = u) := by
  refine cn_I (own := RX10) (nm := "isSeed") (L0 := [some (AI x1)]) (by decide +kernel) rfl rfl (Nat.le_of_ble_eq_true rfl) rfl ?_
  intro p e s m args below meth c E hin
  refine s_iload_n E dX10_isSeed_0 rfl rfl ?_
  refine s_i2l E dX10_isSeed_1 ?_
  refine s_lconst (v := 0) E dX10_isSeed_2 (by decide) ?_
  refine s_ldc2 E k_1956 rfl dX10_isSeed_3 ?_
  refine s_sI (As := [AL ((x1 : Int32).toInt64), AL 0, AL 2000000000]) (S := []) E (K_X10_in_MS l D aC b w (((x1 : Int32).toInt64)) 0 2000000000 hw0 hw1) cs_X10_82 rfl rfl (Nat.le_of_ble_eq_true rfl) (Nat.le_of_ble_eq_true rfl) ⟨(Nat.le_of_ble_eq_true rfl), (Nat.le_of_ble_eq_true rfl)⟩ (Nat.le_of_ble_eq_true rfl) dX10_isSeed_6 (fun r u hp => ?_)
  rcases hp with ⟨rfl, h_1, h_2, rfl⟩ | ⟨rfl, h_3, rfl⟩
  ·
    exact r_bool E dX10_isSeed_9 (Or.inr rfl) ⟨Or.inr rfl, rfl⟩
  ·
    exact r_bool E dX10_isSeed_9 (Or.inl rfl) ⟨Or.inl rfl, rfl⟩
set_option maxRecDepth 20000 in
set_option maxHeartbeats 2000000 in
theorem K_X10_drawn_95_MS (l : Launch) (D : va_G) (aC : Nat → ClassId) (b : Nat) (w : XW) (x1 : Int32) (x2 : Int32) (x3 : Int32) (hw0 : FrM w) (hw1 : RfM w) : CnI l D aC b M_X10_drawn 2 47 0 0 [AR 95, AI x1, AI x2, AI x3] w (fun r u => r = (-2) ∧ w = u) := by
  refine cn_I (own := RX10) (nm := "drawn") (L0 := [some (AR 95), some (AI x1), some (AI x2), some (AI x3), none]) (by decide +kernel) rfl rfl (Nat.le_of_ble_eq_true rfl) rfl ?_
  intro p e s m args below meth c E hin
  refine s_iload_n E dX10_drawn_0 rfl rfl ?_
  refine s_sI (As := [AI x1]) (S := []) E (K_X10_isSeed_MS l D aC b w x1 hw0 hw1) cs_X10_461 rfl rfl (Nat.le_of_ble_eq_true rfl) (Nat.le_of_ble_eq_true rfl) ⟨(Nat.le_of_ble_eq_true rfl), (Nat.le_of_ble_eq_true rfl)⟩ (Nat.le_of_ble_eq_true rfl) dX10_drawn_1 (fun r u hp => ?_)
  obtain ⟨rfl | rfl, rfl⟩ := hp
  ·
    refine s_if_eq (tgt := 26) E dX10_drawn_4 (by decide) (fun _ => ?_) (fun hh => absurd (by decide) hh)
    refine s_bipush (v := (-2)) E dX10_drawn_26 (by decide) ?_
    exact r_int E dX10_drawn_28 ⟨rfl, rfl⟩
  ·
    refine s_if_eq (tgt := 26) E dX10_drawn_4 (by decide) (fun hh => absurd hh (by decide)) (fun _ => ?_)
    refine s_aload_n E dX10_drawn_7 rfl rfl ?_
    refine s_iload_n E dX10_drawn_8 rfl rfl ?_
    refine s_i2l E dX10_drawn_9 ?_
    refine s_vI (As := [AL ((x2 : Int32).toInt64)]) (S := []) E (K_X10_isLady_95_MS l D aC b w (((x2 : Int32).toInt64)) hw0 hw1) cv_X10_222 rfl rfl rfl (ltn hw0.1 (by decide)) (Nat.le_of_ble_eq_true rfl) (Nat.le_of_ble_eq_true rfl) ⟨(Nat.le_of_ble_eq_true rfl), (Nat.le_of_ble_eq_true rfl)⟩ (Nat.le_of_ble_eq_true rfl) dX10_drawn_10 (fun r u hp => ?_)
    obtain ⟨rfl, rfl⟩ := hp
    refine s_if_eq (tgt := 26) E dX10_drawn_13 (by decide) (fun _ => ?_) (fun hh => absurd (by decide) hh)
    refine s_bipush (v := (-2)) E dX10_drawn_26 (by decide) ?_
    exact r_int E dX10_drawn_28 ⟨rfl, rfl⟩
set_option maxRecDepth 20000 in
set_option maxHeartbeats 2000000 in
theorem K_X10_luck_95_MS (l : Launch) (D : va_G) (aC : Nat → ClassId) (b : Nat) (w : XW) (x1 : Int32) (x2 : Int32) (x3 : Int32) (x4 : Int32) (hw0 : FrM w) (hw1 : RfM w) : CnI l D aC b M_X10_luck 2 47 0 0 [AR 95, AI x1, AI x2, AI x3, AI x4] w (fun r u => r = (-2) ∧ w = u) := by
  refine cn_I (own := RX10) (nm := "luck") (L0 := [some (AR 95), some (AI x1), some (AI x2), some (AI x3), some (AI x4), none, none]) (by decide +kernel) rfl rfl (Nat.le_of_ble_eq_true rfl) rfl ?_
  intro p e s m args below meth c E hin
  refine s_iload_n E dX10_luck_0 rfl rfl ?_
  refine s_sI (As := [AI x1]) (S := []) E (K_X10_isSeed_MS l D aC b w x1 hw0 hw1) cs_X10_461 rfl rfl (Nat.le_of_ble_eq_true rfl) (Nat.le_of_ble_eq_true rfl) ⟨(Nat.le_of_ble_eq_true rfl), (Nat.le_of_ble_eq_true rfl)⟩ (Nat.le_of_ble_eq_true rfl) dX10_luck_1 (fun r u hp => ?_)
  obtain ⟨rfl | rfl, rfl⟩ := hp
  ·
    refine s_if_eq (tgt := 38) E dX10_luck_4 (by decide) (fun _ => ?_) (fun hh => absurd (by decide) hh)
    refine s_bipush (v := (-2)) E dX10_luck_38 (by decide) ?_
    exact r_int E dX10_luck_40 ⟨rfl, rfl⟩
  ·
    refine s_if_eq (tgt := 38) E dX10_luck_4 (by decide) (fun hh => absurd hh (by decide)) (fun _ => ?_)
    refine s_iload_n E dX10_luck_7 rfl rfl ?_
    refine s_i2l E dX10_luck_8 ?_
    refine s_lconst (v := 1) E dX10_luck_9 (by decide) ?_
    refine s_ldc2 E k_1970 rfl dX10_luck_10 ?_
    refine s_sI (As := [AL ((x2 : Int32).toInt64), AL 1, AL 20]) (S := []) E (K_X10_in_MS l D aC b w (((x2 : Int32).toInt64)) 1 20 hw0 hw1) cs_X10_82 rfl rfl (Nat.le_of_ble_eq_true rfl) (Nat.le_of_ble_eq_true rfl) ⟨(Nat.le_of_ble_eq_true rfl), (Nat.le_of_ble_eq_true rfl)⟩ (Nat.le_of_ble_eq_true rfl) dX10_luck_13 (fun r u hp => ?_)
    rcases hp with ⟨rfl, h_1, h_2, rfl⟩ | ⟨rfl, h_3, rfl⟩
    ·
      refine s_if_eq (tgt := 38) E dX10_luck_16 (by decide) (fun hh => absurd hh (by decide)) (fun _ => ?_)
      refine s_aload_n E dX10_luck_19 rfl rfl ?_
      refine s_iload_n E dX10_luck_20 rfl rfl ?_
      refine s_i2l E dX10_luck_21 ?_
      refine s_vI (As := [AL ((x3 : Int32).toInt64)]) (S := []) E (K_X10_isLady_95_MS l D aC b w (((x3 : Int32).toInt64)) hw0 hw1) cv_X10_222 rfl rfl rfl (ltn hw0.1 (by decide)) (Nat.le_of_ble_eq_true rfl) (Nat.le_of_ble_eq_true rfl) ⟨(Nat.le_of_ble_eq_true rfl), (Nat.le_of_ble_eq_true rfl)⟩ (Nat.le_of_ble_eq_true rfl) dX10_luck_22 (fun r u hp => ?_)
      obtain ⟨rfl, rfl⟩ := hp
      refine s_if_eq (tgt := 38) E dX10_luck_25 (by decide) (fun _ => ?_) (fun hh => absurd (by decide) hh)
      refine s_bipush (v := (-2)) E dX10_luck_38 (by decide) ?_
      exact r_int E dX10_luck_40 ⟨rfl, rfl⟩
    ·
      refine s_if_eq (tgt := 38) E dX10_luck_16 (by decide) (fun _ => ?_) (fun hh => absurd (by decide) hh)
      refine s_bipush (v := (-2)) E dX10_luck_38 (by decide) ?_
      exact r_int E dX10_luck_40 ⟨rfl, rfl⟩
set_option maxRecDepth 20000 in
set_option maxHeartbeats 2000000 in
theorem K_X10_hang_95_MS (l : Launch) (D : va_G) (aC : Nat → ClassId) (b : Nat) (w : XW) (x1 : Int32) (x2 : Int32) (hw0 : FrM w) (hw1 : RfM w) : CnI l D aC b M_X10_hang 2 46 0 0 [AR 95, AI x1, AI x2] w (fun r u => r = (-2) ∧ w = u) := by
  refine cn_I (own := RX10) (nm := "hang") (L0 := [some (AR 95), some (AI x1), some (AI x2), none]) (by decide +kernel) rfl rfl (Nat.le_of_ble_eq_true rfl) rfl ?_
  intro p e s m args below meth c E hin
  refine s_aload_n E dX10_hang_0 rfl rfl ?_
  refine s_iload_n E dX10_hang_1 rfl rfl ?_
  refine s_vI (As := [AI x1]) (S := []) E (K_X10_isDoor_95_MS l D aC b w x1 hw0 hw1) cv_X10_218 rfl rfl rfl (ltn hw0.1 (by decide)) (Nat.le_of_ble_eq_true rfl) (Nat.le_of_ble_eq_true rfl) ⟨(Nat.le_of_ble_eq_true rfl), (Nat.le_of_ble_eq_true rfl)⟩ (Nat.le_of_ble_eq_true rfl) dX10_hang_2 (fun r u hp => ?_)
  obtain ⟨rfl, rfl⟩ := hp
  refine s_if_eq (tgt := 20) E dX10_hang_5 (by decide) (fun _ => ?_) (fun hh => absurd (by decide) hh)
  refine s_bipush (v := (-2)) E dX10_hang_20 (by decide) ?_
  exact r_int E dX10_hang_22 ⟨rfl, rfl⟩
set_option maxRecDepth 20000 in
set_option maxHeartbeats 2000000 in
theorem K_X10_count_95_MS (l : Launch) (D : va_G) (aC : Nat → ClassId) (b : Nat) (w : XW) (x1 : Int32) (hw0 : FrM w) (hw1 : RfM w) : CnI l D aC b M_X10_count 1 25 0 0 [AR 95, AI x1] w (fun r u => r = sp_count x1 ∧ w = u) := by
  refine cn_I (own := RX10) (nm := "count") (L0 := [some (AR 95), some (AI x1), none, none]) (by decide +kernel) rfl rfl (Nat.le_of_ble_eq_true rfl) rfl ?_
  intro p e s m args below meth c E hin
  refine s_iload_n E dX10_count_0 rfl rfl ?_
  refine s_i2l E dX10_count_1 ?_
  refine s_lconst (v := 0) E dX10_count_2 (by decide) ?_
  refine s_ldc2 E k_1975 rfl dX10_count_3 ?_
  refine s_sI (As := [AL ((x1 : Int32).toInt64), AL 0, AL 9]) (S := []) E (K_X10_in_MS l D aC b w (((x1 : Int32).toInt64)) 0 9 hw0 hw1) cs_X10_82 rfl rfl (Nat.le_of_ble_eq_true rfl) (Nat.le_of_ble_eq_true rfl) ⟨(Nat.le_of_ble_eq_true rfl), (Nat.le_of_ble_eq_true rfl)⟩ (Nat.le_of_ble_eq_true rfl) dX10_count_6 (fun r u hp => ?_)
  rcases hp with ⟨rfl, h_1, h_2, rfl⟩ | ⟨rfl, h_3, rfl⟩
  ·
    refine s_if_eq (tgt := 19) E dX10_count_9 (by decide) (fun hh => absurd hh (by decide)) (fun _ => ?_)
    refine s_aload_n E dX10_count_12 rfl rfl ?_
    refine s_gR (r := 96) E fg_X10_9 rfl rfl (ltn hw0.1 (by decide)) (fc_r hw0 (by decide +kernel)) dX10_count_13 ?_
    refine s_iload_n E dX10_count_16 rfl rfl ?_
    refine s_iald E rfl (ltn hw0.1 (by decide)) (vp_in_iff.mpr (by have q0 := h_1; have q1 := h_2; (try simp only [lg_cmp_lt, lg_cmp_le, lg_cmp_ge, lg_cmp_gt] at q0 q1); (try simp only [Int32.lt_iff_toInt_lt, Int32.le_iff_toInt_le, Int64.lt_iff_toInt_lt, Int64.le_iff_toInt_le, ← Int32.toInt_inj, ← Int64.toInt_inj, Int32.toInt_toInt64] at q0 q1); have e0 : (0 : Int32).toInt = 0 := (by decide); have e1 : (0 : Int64).toInt = 0 := (by decide); have e2 : (9 : Int64).toInt = 9 := (by decide); (try simp only [e0, e1, e2] at q0 q1); exact ⟨by omega, by omega⟩)) dX10_count_17 ?_
    refine s_top (y := 0) (fc_zi hw0 (c := 96) (N := 134) (by decide +kernel) (vp_in_iff.mpr (by have q0 := h_1; have q1 := h_2; (try simp only [lg_cmp_lt, lg_cmp_le, lg_cmp_ge, lg_cmp_gt] at q0 q1); (try simp only [Int32.lt_iff_toInt_lt, Int32.le_iff_toInt_le, Int64.lt_iff_toInt_lt, Int64.le_iff_toInt_le, ← Int32.toInt_inj, ← Int64.toInt_inj, Int32.toInt_toInt64] at q0 q1); have e0 : (0 : Int32).toInt = 0 := (by decide); have e1 : (0 : Int64).toInt = 0 := (by decide); have e2 : (9 : Int64).toInt = 9 := (by decide); (try simp only [e0, e1, e2] at q0 q1); exact ⟨by omega, by omega⟩))) ?_
    exact r_int E dX10_count_18 ⟨(by have q0 := h_1; have q1 := h_2; (try simp only [lg_cmp_lt, lg_cmp_le, lg_cmp_ge, lg_cmp_gt] at q0 q1); (try simp only [Int32.lt_iff_toInt_lt, Int32.le_iff_toInt_le, Int64.lt_iff_toInt_lt, Int64.le_iff_toInt_le, ← Int32.toInt_inj, ← Int64.toInt_inj, Int32.toInt_toInt64] at q0 q1); have e0 : (0 : Int32).toInt = 0 := (by decide); have e1 : (1 : Int32).toInt = 1 := (by decide); have e2 : (2 : Int32).toInt = 2 := (by decide); have e3 : (3 : Int32).toInt = 3 := (by decide); have e4 : (4 : Int32).toInt = 4 := (by decide); have e5 : (0 : Int64).toInt = 0 := (by decide); have e6 : (9 : Int64).toInt = 9 := (by decide); (try simp only [e0, e1, e2, e3, e4, e5, e6] at q0 q1); first | decide | (unfold sp_count; (repeat' split) <;> first | rfl | (exfalso; omega))), rfl⟩
  ·
    refine s_if_eq (tgt := 19) E dX10_count_9 (by decide) (fun _ => ?_) (fun hh => absurd (by decide) hh)
    refine s_iload_n E dX10_count_19 rfl rfl ?_
    refine s_bipush (v := 10) E dX10_count_20 (by decide) ?_
    refine s_icmp_ne (tgt := 30) E dX10_count_22 (by decide) (fun h_4 => ?_) (fun h_4 => ?_)
    ·
      refine s_iload_n E dX10_count_30 rfl rfl ?_
      refine s_bipush (v := 11) E dX10_count_31 (by decide) ?_
      refine s_icmp_eq (tgt := 38) E dX10_count_33 (by decide) (fun h_5 => ?_) (fun h_5 => ?_)
      ·
        refine s_iconst (v := 0) E dX10_count_38 (by decide) ?_
        refine s_istore_n (L2 := [some (AR 95), some (AI x1), some (AI 0), none]) E dX10_count_39 rfl (by decide) rfl ?_
        refine s_iconst (v := 0) E dX10_count_40 (by decide) ?_
        refine s_istore_n (L2 := [some (AR 95), some (AI x1), some (AI 0), some (AI 0)]) E dX10_count_41 rfl (by decide) rfl ?_
        refine s_iload_n E dX10_count_42 rfl rfl ?_
        refine s_iconst (v := 4) E dX10_count_43 (by decide) ?_
        refine s_icmp_ge (tgt := 71) E dX10_count_44 (by decide) (fun hh => absurd hh (by decide)) (fun _ => ?_)
        refine s_iload_n E dX10_count_47 rfl rfl ?_
        refine s_aload_n E dX10_count_48 rfl rfl ?_
        refine s_gR (r := 112) E fg_X10_64 rfl rfl (ltn hw0.1 (by decide)) (fc_r hw0 (by decide +kernel)) dX10_count_49 ?_
        refine s_iload_n E dX10_count_52 rfl rfl ?_
        refine s_iald E rfl (ltn hw0.1 (by decide)) (vp_c (by decide)) dX10_count_53 ?_
        refine s_top (y := (-1)) (fc_i hw0 (by decide +kernel)) ?_
        refine s_iconst (v := (-1)) E dX10_count_54 (by decide) ?_
        refine s_icmp_ne (tgt := 62) E dX10_count_55 (by decide) (fun hh => absurd (by decide) hh) (fun _ => ?_)
        refine s_iconst (v := 0) E dX10_count_58 (by decide) ?_
        refine s_goto (tgt := 63) E dX10_count_59 (by decide) ?_
        refine s_iadd E dX10_count_63 ?_
        refine s_top (y := 0) (by decide) ?_
        refine s_istore_n (L2 := [some (AR 95), some (AI x1), some (AI 0), some (AI 0)]) E dX10_count_64 rfl (by decide) rfl ?_
        refine s_iinc (v := 1) (L2 := [some (AR 95), some (AI x1), some (AI 0), some (AI 1)]) E dX10_count_65 rfl (by decide) (by decide) rfl ?_
        refine s_goto (tgt := 42) E dX10_count_68 (by decide) ?_
        refine s_iload_n E dX10_count_42 rfl rfl ?_
        refine s_iconst (v := 4) E dX10_count_43 (by decide) ?_
        refine s_icmp_ge (tgt := 71) E dX10_count_44 (by decide) (fun hh => absurd hh (by decide)) (fun _ => ?_)
        refine s_iload_n E dX10_count_47 rfl rfl ?_
        refine s_aload_n E dX10_count_48 rfl rfl ?_
        refine s_gR (r := 112) E fg_X10_64 rfl rfl (ltn hw0.1 (by decide)) (fc_r hw0 (by decide +kernel)) dX10_count_49 ?_
        refine s_iload_n E dX10_count_52 rfl rfl ?_
        refine s_iald E rfl (ltn hw0.1 (by decide)) (vp_c (by decide)) dX10_count_53 ?_
        refine s_top (y := (-1)) (fc_i hw0 (by decide +kernel)) ?_
        refine s_iconst (v := (-1)) E dX10_count_54 (by decide) ?_
        refine s_icmp_ne (tgt := 62) E dX10_count_55 (by decide) (fun hh => absurd (by decide) hh) (fun _ => ?_)
        refine s_iconst (v := 0) E dX10_count_58 (by decide) ?_
        refine s_goto (tgt := 63) E dX10_count_59 (by decide) ?_
        refine s_iadd E dX10_count_63 ?_
        refine s_top (y := 0) (by decide) ?_
        refine s_istore_n (L2 := [some (AR 95), some (AI x1), some (AI 0), some (AI 1)]) E dX10_count_64 rfl (by decide) rfl ?_
        refine s_iinc (v := 2) (L2 := [some (AR 95), some (AI x1), some (AI 0), some (AI 2)]) E dX10_count_65 rfl (by decide) (by decide) rfl ?_
        refine s_goto (tgt := 42) E dX10_count_68 (by decide) ?_
        refine s_iload_n E dX10_count_42 rfl rfl ?_
        refine s_iconst (v := 4) E dX10_count_43 (by decide) ?_
        refine s_icmp_ge (tgt := 71) E dX10_count_44 (by decide) (fun hh => absurd hh (by decide)) (fun _ => ?_)
        refine s_iload_n E dX10_count_47 rfl rfl ?_
        refine s_aload_n E dX10_count_48 rfl rfl ?_
        refine s_gR (r := 112) E fg_X10_64 rfl rfl (ltn hw0.1 (by decide)) (fc_r hw0 (by decide +kernel)) dX10_count_49 ?_
        refine s_iload_n E dX10_count_52 rfl rfl ?_
        refine s_iald E rfl (ltn hw0.1 (by decide)) (vp_c (by decide)) dX10_count_53 ?_
        refine s_top (y := (-1)) (fc_i hw0 (by decide +kernel)) ?_
        refine s_iconst (v := (-1)) E dX10_count_54 (by decide) ?_
        refine s_icmp_ne (tgt := 62) E dX10_count_55 (by decide) (fun hh => absurd (by decide) hh) (fun _ => ?_)
        refine s_iconst (v := 0) E dX10_count_58 (by decide) ?_
        refine s_goto (tgt := 63) E dX10_count_59 (by decide) ?_
        refine s_iadd E dX10_count_63 ?_
        refine s_top (y := 0) (by decide) ?_
        refine s_istore_n (L2 := [some (AR 95), some (AI x1), some (AI 0), some (AI 2)]) E dX10_count_64 rfl (by decide) rfl ?_
        refine s_iinc (v := 3) (L2 := [some (AR 95), some (AI x1), some (AI 0), some (AI 3)]) E dX10_count_65 rfl (by decide) (by decide) rfl ?_
        refine s_goto (tgt := 42) E dX10_count_68 (by decide) ?_
        refine s_iload_n E dX10_count_42 rfl rfl ?_
        refine s_iconst (v := 4) E dX10_count_43 (by decide) ?_
        refine s_icmp_ge (tgt := 71) E dX10_count_44 (by decide) (fun hh => absurd hh (by decide)) (fun _ => ?_)
        refine s_iload_n E dX10_count_47 rfl rfl ?_
        refine s_aload_n E dX10_count_48 rfl rfl ?_
        refine s_gR (r := 112) E fg_X10_64 rfl rfl (ltn hw0.1 (by decide)) (fc_r hw0 (by decide +kernel)) dX10_count_49 ?_
        refine s_iload_n E dX10_count_52 rfl rfl ?_
        refine s_iald E rfl (ltn hw0.1 (by decide)) (vp_c (by decide)) dX10_count_53 ?_
        refine s_top (y := (-1)) (fc_i hw0 (by decide +kernel)) ?_
        refine s_iconst (v := (-1)) E dX10_count_54 (by decide) ?_
        refine s_icmp_ne (tgt := 62) E dX10_count_55 (by decide) (fun hh => absurd (by decide) hh) (fun _ => ?_)
        refine s_iconst (v := 0) E dX10_count_58 (by decide) ?_
        refine s_goto (tgt := 63) E dX10_count_59 (by decide) ?_
        refine s_iadd E dX10_count_63 ?_
        refine s_top (y := 0) (by decide) ?_
        refine s_istore_n (L2 := [some (AR 95), some (AI x1), some (AI 0), some (AI 3)]) E dX10_count_64 rfl (by decide) rfl ?_
        refine s_iinc (v := 4) (L2 := [some (AR 95), some (AI x1), some (AI 0), some (AI 4)]) E dX10_count_65 rfl (by decide) (by decide) rfl ?_
        refine s_goto (tgt := 42) E dX10_count_68 (by decide) ?_
        refine s_iload_n E dX10_count_42 rfl rfl ?_
        refine s_iconst (v := 4) E dX10_count_43 (by decide) ?_
        refine s_icmp_ge (tgt := 71) E dX10_count_44 (by decide) (fun _ => ?_) (fun hh => absurd (by decide) hh)
        refine s_iload_n E dX10_count_71 rfl rfl ?_
        exact r_int E dX10_count_72 ⟨(by have q0 := h_3; have q1 := h_4; have q2 := h_5; (try simp only [lg_cmp_lt, lg_cmp_le, lg_cmp_ge, lg_cmp_gt] at q0 q1 q2); (try simp only [Int32.lt_iff_toInt_lt, Int32.le_iff_toInt_le, Int64.lt_iff_toInt_lt, Int64.le_iff_toInt_le, ← Int32.toInt_inj, ← Int64.toInt_inj, Int32.toInt_toInt64] at q0 q1 q2); have e0 : (0 : Int32).toInt = 0 := (by decide); have e1 : (1 : Int32).toInt = 1 := (by decide); have e2 : (2 : Int32).toInt = 2 := (by decide); have e3 : (3 : Int32).toInt = 3 := (by decide); have e4 : (4 : Int32).toInt = 4 := (by decide); have e5 : (10 : Int32).toInt = 10 := (by decide); have e6 : (11 : Int32).toInt = 11 := (by decide); have e7 : (0 : Int64).toInt = 0 := (by decide); have e8 : (9 : Int64).toInt = 9 := (by decide); (try simp only [e0, e1, e2, e3, e4, e5, e6, e7, e8] at q0 q1 q2); first | decide | (unfold sp_count; (repeat' split) <;> first | rfl | (exfalso; omega))), rfl⟩
      ·
        refine s_iconst (v := (-1)) E dX10_count_36 (by decide) ?_
        exact r_int E dX10_count_37 ⟨(by have q0 := h_3; have q1 := h_4; have q2 := h_5; (try simp only [lg_cmp_lt, lg_cmp_le, lg_cmp_ge, lg_cmp_gt] at q0 q1 q2); (try simp only [Int32.lt_iff_toInt_lt, Int32.le_iff_toInt_le, Int64.lt_iff_toInt_lt, Int64.le_iff_toInt_le, ← Int32.toInt_inj, ← Int64.toInt_inj, Int32.toInt_toInt64] at q0 q1 q2); have e0 : (0 : Int32).toInt = 0 := (by decide); have e1 : (1 : Int32).toInt = 1 := (by decide); have e2 : (2 : Int32).toInt = 2 := (by decide); have e3 : (3 : Int32).toInt = 3 := (by decide); have e4 : (4 : Int32).toInt = 4 := (by decide); have e5 : (10 : Int32).toInt = 10 := (by decide); have e6 : (11 : Int32).toInt = 11 := (by decide); have e7 : (0 : Int64).toInt = 0 := (by decide); have e8 : (9 : Int64).toInt = 9 := (by decide); (try simp only [e0, e1, e2, e3, e4, e5, e6, e7, e8] at q0 q1 q2); first | decide | (unfold sp_count; (repeat' split) <;> first | rfl | (exfalso; omega))), rfl⟩
    ·
      refine s_aload_n E dX10_count_25 rfl rfl ?_
      refine s_gI E fg_X10_90 rfl rfl (ltn hw0.1 (by decide)) dX10_count_26 ?_
      refine s_top (y := 0) (fc_i hw0 (by decide +kernel)) ?_
      exact r_int E dX10_count_29 ⟨(by have q0 := h_3; have q1 := h_4; (try simp only [lg_cmp_lt, lg_cmp_le, lg_cmp_ge, lg_cmp_gt] at q0 q1); (try simp only [Int32.lt_iff_toInt_lt, Int32.le_iff_toInt_le, Int64.lt_iff_toInt_lt, Int64.le_iff_toInt_le, ← Int32.toInt_inj, ← Int64.toInt_inj, Int32.toInt_toInt64] at q0 q1); have e0 : (0 : Int32).toInt = 0 := (by decide); have e1 : (1 : Int32).toInt = 1 := (by decide); have e2 : (2 : Int32).toInt = 2 := (by decide); have e3 : (3 : Int32).toInt = 3 := (by decide); have e4 : (4 : Int32).toInt = 4 := (by decide); have e5 : (10 : Int32).toInt = 10 := (by decide); have e6 : (0 : Int64).toInt = 0 := (by decide); have e7 : (9 : Int64).toInt = 9 := (by decide); (try simp only [e0, e1, e2, e3, e4, e5, e6, e7] at q0 q1); first | decide | (unfold sp_count; (repeat' split) <;> first | rfl | (exfalso; omega))), rfl⟩
set_option maxRecDepth 20000 in
set_option maxHeartbeats 2000000 in
theorem K_X10_image_95_MS (l : Launch) (D : va_G) (aC : Nat → ClassId) (b : Nat) (w : XW) (x1 : Int32) (hw0 : FrM w) (hw1 : RfM w) : CnI l D aC b M_X10_image 1 25 0 0 [AR 95, AI x1] w (fun r u => r = sp_image x1 ∧ RfM u) := by
  refine cn_I (own := RX10) (nm := "image") (L0 := [some (AR 95), some (AI x1), none]) (by decide +kernel) rfl rfl (Nat.le_of_ble_eq_true rfl) rfl ?_
  intro p e s m args below meth c E hin
  refine s_iload_n E dX10_image_0 rfl rfl ?_
  refine s_i2l E dX10_image_1 ?_
  refine s_lconst (v := 0) E dX10_image_2 (by decide) ?_
  refine s_ldc2 E k_1365 rfl dX10_image_3 ?_
  refine s_sI (As := [AL ((x1 : Int32).toInt64), AL 0, AL 2]) (S := []) E (K_X10_in_MS l D aC b w (((x1 : Int32).toInt64)) 0 2 hw0 hw1) cs_X10_82 rfl rfl (Nat.le_of_ble_eq_true rfl) (Nat.le_of_ble_eq_true rfl) ⟨(Nat.le_of_ble_eq_true rfl), (Nat.le_of_ble_eq_true rfl)⟩ (Nat.le_of_ble_eq_true rfl) dX10_image_6 (fun r u hp => ?_)
  rcases hp with ⟨rfl, h_1, h_2, rfl⟩ | ⟨rfl, h_3, rfl⟩
  ·
    refine s_if_ne (tgt := 15) E dX10_image_9 (by decide) (fun _ => ?_) (fun hh => absurd hh (by decide))
    rcases (show x1 = 0 ∨ x1 = 1 ∨ x1 = 2 from (by have q0 := h_1; have q1 := h_2; (try simp only [lg_cmp_lt, lg_cmp_le, lg_cmp_ge, lg_cmp_gt] at q0 q1); (try simp only [Int32.lt_iff_toInt_lt, Int32.le_iff_toInt_le, Int64.lt_iff_toInt_lt, Int64.le_iff_toInt_le, ← Int32.toInt_inj, ← Int64.toInt_inj, Int32.toInt_toInt64] at q0 q1); have e0 : (0 : Int32).toInt = 0 := (by decide); have e1 : (0 : Int64).toInt = 0 := (by decide); have e2 : (2 : Int64).toInt = 2 := (by decide); (try simp only [e0, e1, e2] at q0 q1); have z0 : (0 : Int32).toInt = 0 := (by decide); have z1 : (1 : Int32).toInt = 1 := (by decide); have z2 : (2 : Int32).toInt = 2 := (by decide); (simp only [← Int32.toInt_inj, z0, z1, z2]); omega)) with rfl | rfl | rfl
    ·
      refine s_iconst (v := 0) E dX10_image_15 (by decide) ?_
      refine s_istore_n (L2 := [some (AR 95), some (AI 0), some (AI 0)]) E dX10_image_16 rfl (by decide) rfl ?_
      refine s_loop (P := fun v17 => RfM v17 ∧ FrM v17) (Lf := fun i17 => [some (AR 95), some (AI 0), some (AI (nI i17))]) 0 134 ⟨hw1, hw0⟩ ?_ ?_ (by decide)
      · intro i17 v17 hj17 hk17 hv17 ih17
        obtain ⟨hv17_0, hv17_1⟩ := hv17
        refine s_loc (L2 := [some (AR 95), some (AI 0), some (AI (nI i17))]) rfl ?_
        refine s_iload_n E dX10_image_17 rfl rfl ?_
        refine s_sipush (v := 134) E dX10_image_18 (by decide) ?_
        refine s_icmp_ge (tgt := 48) E dX10_image_21 (by decide) (fun hh => (by have q0 := hh; have q1 := (nI_toInt (n := i17) (by omega)); (try simp only [lg_cmp_lt, lg_cmp_le, lg_cmp_ge, lg_cmp_gt] at q0 q1); (try simp only [Int32.lt_iff_toInt_lt, Int32.le_iff_toInt_le, Int64.lt_iff_toInt_lt, Int64.le_iff_toInt_le, ← Int32.toInt_inj, ← Int64.toInt_inj, Int32.toInt_toInt64] at q0 q1); have e0 : (0 : Int32).toInt = 0 := (by decide); have e1 : (134 : Int32).toInt = 134 := (by decide); have e2 : (0 : Int64).toInt = 0 := (by decide); (try simp only [e0, e1, e2] at q0 q1); omega)) (fun _ => ?_)
        refine s_aload_n E dX10_image_24 rfl rfl ?_
        refine s_gR (r := 97) E fg_X10_13 rfl rfl (ltn hv17_0.1 (by decide)) (fc_r hv17_0 (by decide +kernel)) dX10_image_25 ?_
        refine s_sipush (v := 134) E dX10_image_28 (by decide) ?_
        refine s_iload_n E dX10_image_31 rfl rfl ?_
        refine s_imul E dX10_image_32 ?_
        refine s_top (y := 0) (by decide) ?_
        refine s_iload_n E dX10_image_33 rfl rfl ?_
        refine s_iadd E dX10_image_34 ?_
        refine s_top (y := (nI (0 + i17))) (nI_add (0) (i17)) ?_
        refine s_aload_n E dX10_image_35 rfl rfl ?_
        refine s_gR (r := 96) E fg_X10_9 rfl rfl (ltn hv17_0.1 (by decide)) (fc_r hv17_0 (by decide +kernel)) dX10_image_36 ?_
        refine s_iload_n E dX10_image_39 rfl rfl ?_
        refine s_iald E rfl (ltn hv17_0.1 (by decide)) (vp_in_nI (n := i17) (by omega) (by decide)) dX10_image_40 ?_
        refine s_top (y := 0) (fc_zi hv17_1 (c := 96) (N := 134) (by decide +kernel) (vp_in_nI (n := i17) (by omega) (by decide))) ?_
        refine s_iast E rfl (ltn hv17_0.1 (by decide)) (vp_in_nI (n := 0 + i17) (by omega) (by decide)) dX10_image_41 ?_
        refine s_iinc (v := (nI (i17 + 1))) (L2 := [some (AR 95), some (AI 0), some (AI (nI (i17 + 1)))]) E dX10_image_42 rfl (nI_1 (i17)) (by decide) rfl ?_
        refine s_goto (tgt := 17) E dX10_image_45 (by decide) ?_
        exact ih17 (upI v17 97 (nI (0 + i17)).toNatClampNeg 0) ⟨(fc_upC hv17_0 (by decide +kernel)), (fc_upC hv17_1 (by decide +kernel))⟩
      · intro v17 hv17
        obtain ⟨hv17_0, hv17_1⟩ := hv17
        refine s_loc (L2 := [some (AR 95), some (AI 0), some (AI 134)]) rfl ?_
        refine s_iload_n E dX10_image_17 rfl rfl ?_
        refine s_sipush (v := 134) E dX10_image_18 (by decide) ?_
        refine s_icmp_ge (tgt := 48) E dX10_image_21 (by decide) (fun _ => ?_) (fun hh => absurd (by decide) hh)
        refine s_aload_n E dX10_image_48 rfl rfl ?_
        refine s_gR (r := 98) E fg_X10_16 rfl rfl (ltn hv17_0.1 (by decide)) (fc_r hv17_0 (by decide +kernel)) dX10_image_49 ?_
        refine s_iload_n E dX10_image_52 rfl rfl ?_
        refine s_iconst (v := 1) E dX10_image_53 (by decide) ?_
        refine s_zast E rfl (ltn hv17_0.1 (by decide)) (vp_c (by decide)) dX10_image_54 ?_
        refine s_iconst (v := 0) E dX10_image_55 (by decide) ?_
        exact r_int E dX10_image_56 ⟨(by have e0 : (0 : Int32).toInt = 0 := (by decide); have e1 : (1 : Int32).toInt = 1 := (by decide); have e2 : (2 : Int32).toInt = 2 := (by decide); have e3 : (3 : Int32).toInt = 3 := (by decide); have e4 : (4 : Int32).toInt = 4 := (by decide); have e5 : (0 : Int64).toInt = 0 := (by decide); first | decide | (unfold sp_image; (repeat' split) <;> first | rfl | (exfalso; omega))), (fc_upC hv17_0 (by decide +kernel))⟩
    ·
      refine s_iconst (v := 0) E dX10_image_15 (by decide) ?_
      refine s_istore_n (L2 := [some (AR 95), some (AI 1), some (AI 0)]) E dX10_image_16 rfl (by decide) rfl ?_
      refine s_loop (P := fun v17 => RfM v17 ∧ FrM v17) (Lf := fun i17 => [some (AR 95), some (AI 1), some (AI (nI i17))]) 0 134 ⟨hw1, hw0⟩ ?_ ?_ (by decide)
      · intro i17 v17 hj17 hk17 hv17 ih17
        obtain ⟨hv17_0, hv17_1⟩ := hv17
        refine s_loc (L2 := [some (AR 95), some (AI 1), some (AI (nI i17))]) rfl ?_
        refine s_iload_n E dX10_image_17 rfl rfl ?_
        refine s_sipush (v := 134) E dX10_image_18 (by decide) ?_
        refine s_icmp_ge (tgt := 48) E dX10_image_21 (by decide) (fun hh => (by have q0 := hh; have q1 := (nI_toInt (n := i17) (by omega)); (try simp only [lg_cmp_lt, lg_cmp_le, lg_cmp_ge, lg_cmp_gt] at q0 q1); (try simp only [Int32.lt_iff_toInt_lt, Int32.le_iff_toInt_le, Int64.lt_iff_toInt_lt, Int64.le_iff_toInt_le, ← Int32.toInt_inj, ← Int64.toInt_inj, Int32.toInt_toInt64] at q0 q1); have e0 : (0 : Int32).toInt = 0 := (by decide); have e1 : (134 : Int32).toInt = 134 := (by decide); have e2 : (0 : Int64).toInt = 0 := (by decide); (try simp only [e0, e1, e2] at q0 q1); omega)) (fun _ => ?_)
        refine s_aload_n E dX10_image_24 rfl rfl ?_
        refine s_gR (r := 97) E fg_X10_13 rfl rfl (ltn hv17_0.1 (by decide)) (fc_r hv17_0 (by decide +kernel)) dX10_image_25 ?_
        refine s_sipush (v := 134) E dX10_image_28 (by decide) ?_
        refine s_iload_n E dX10_image_31 rfl rfl ?_
        refine s_imul E dX10_image_32 ?_
        refine s_top (y := 134) (by decide) ?_
        refine s_iload_n E dX10_image_33 rfl rfl ?_
        refine s_iadd E dX10_image_34 ?_
        refine s_top (y := (nI (134 + i17))) (nI_add (134) (i17)) ?_
        refine s_aload_n E dX10_image_35 rfl rfl ?_
        refine s_gR (r := 96) E fg_X10_9 rfl rfl (ltn hv17_0.1 (by decide)) (fc_r hv17_0 (by decide +kernel)) dX10_image_36 ?_
        refine s_iload_n E dX10_image_39 rfl rfl ?_
        refine s_iald E rfl (ltn hv17_0.1 (by decide)) (vp_in_nI (n := i17) (by omega) (by decide)) dX10_image_40 ?_
        refine s_top (y := 0) (fc_zi hv17_1 (c := 96) (N := 134) (by decide +kernel) (vp_in_nI (n := i17) (by omega) (by decide))) ?_
        refine s_iast E rfl (ltn hv17_0.1 (by decide)) (vp_in_nI (n := 134 + i17) (by omega) (by decide)) dX10_image_41 ?_
        refine s_iinc (v := (nI (i17 + 1))) (L2 := [some (AR 95), some (AI 1), some (AI (nI (i17 + 1)))]) E dX10_image_42 rfl (nI_1 (i17)) (by decide) rfl ?_
        refine s_goto (tgt := 17) E dX10_image_45 (by decide) ?_
        exact ih17 (upI v17 97 (nI (134 + i17)).toNatClampNeg 0) ⟨(fc_upC hv17_0 (by decide +kernel)), (fc_upC hv17_1 (by decide +kernel))⟩
      · intro v17 hv17
        obtain ⟨hv17_0, hv17_1⟩ := hv17
        refine s_loc (L2 := [some (AR 95), some (AI 1), some (AI 134)]) rfl ?_
        refine s_iload_n E dX10_image_17 rfl rfl ?_
        refine s_sipush (v := 134) E dX10_image_18 (by decide) ?_
        refine s_icmp_ge (tgt := 48) E dX10_image_21 (by decide) (fun _ => ?_) (fun hh => absurd (by decide) hh)
        refine s_aload_n E dX10_image_48 rfl rfl ?_
        refine s_gR (r := 98) E fg_X10_16 rfl rfl (ltn hv17_0.1 (by decide)) (fc_r hv17_0 (by decide +kernel)) dX10_image_49 ?_
        refine s_iload_n E dX10_image_52 rfl rfl ?_
        refine s_iconst (v := 1) E dX10_image_53 (by decide) ?_
        refine s_zast E rfl (ltn hv17_0.1 (by decide)) (vp_c (by decide)) dX10_image_54 ?_
        refine s_iconst (v := 0) E dX10_image_55 (by decide) ?_
        exact r_int E dX10_image_56 ⟨(by have e0 : (0 : Int32).toInt = 0 := (by decide); have e1 : (1 : Int32).toInt = 1 := (by decide); have e2 : (2 : Int32).toInt = 2 := (by decide); have e3 : (3 : Int32).toInt = 3 := (by decide); have e4 : (4 : Int32).toInt = 4 := (by decide); have e5 : (0 : Int64).toInt = 0 := (by decide); first | decide | (unfold sp_image; (repeat' split) <;> first | rfl | (exfalso; omega))), (fc_upC hv17_0 (by decide +kernel))⟩
    ·
      refine s_iconst (v := 0) E dX10_image_15 (by decide) ?_
      refine s_istore_n (L2 := [some (AR 95), some (AI 2), some (AI 0)]) E dX10_image_16 rfl (by decide) rfl ?_
      refine s_loop (P := fun v17 => RfM v17 ∧ FrM v17) (Lf := fun i17 => [some (AR 95), some (AI 2), some (AI (nI i17))]) 0 134 ⟨hw1, hw0⟩ ?_ ?_ (by decide)
      · intro i17 v17 hj17 hk17 hv17 ih17
        obtain ⟨hv17_0, hv17_1⟩ := hv17
        refine s_loc (L2 := [some (AR 95), some (AI 2), some (AI (nI i17))]) rfl ?_
        refine s_iload_n E dX10_image_17 rfl rfl ?_
        refine s_sipush (v := 134) E dX10_image_18 (by decide) ?_
        refine s_icmp_ge (tgt := 48) E dX10_image_21 (by decide) (fun hh => (by have q0 := hh; have q1 := (nI_toInt (n := i17) (by omega)); (try simp only [lg_cmp_lt, lg_cmp_le, lg_cmp_ge, lg_cmp_gt] at q0 q1); (try simp only [Int32.lt_iff_toInt_lt, Int32.le_iff_toInt_le, Int64.lt_iff_toInt_lt, Int64.le_iff_toInt_le, ← Int32.toInt_inj, ← Int64.toInt_inj, Int32.toInt_toInt64] at q0 q1); have e0 : (0 : Int32).toInt = 0 := (by decide); have e1 : (134 : Int32).toInt = 134 := (by decide); have e2 : (0 : Int64).toInt = 0 := (by decide); (try simp only [e0, e1, e2] at q0 q1); omega)) (fun _ => ?_)
        refine s_aload_n E dX10_image_24 rfl rfl ?_
        refine s_gR (r := 97) E fg_X10_13 rfl rfl (ltn hv17_0.1 (by decide)) (fc_r hv17_0 (by decide +kernel)) dX10_image_25 ?_
        refine s_sipush (v := 134) E dX10_image_28 (by decide) ?_
        refine s_iload_n E dX10_image_31 rfl rfl ?_
        refine s_imul E dX10_image_32 ?_
        refine s_top (y := 268) (by decide) ?_
        refine s_iload_n E dX10_image_33 rfl rfl ?_
        refine s_iadd E dX10_image_34 ?_
        refine s_top (y := (nI (268 + i17))) (nI_add (268) (i17)) ?_
        refine s_aload_n E dX10_image_35 rfl rfl ?_
        refine s_gR (r := 96) E fg_X10_9 rfl rfl (ltn hv17_0.1 (by decide)) (fc_r hv17_0 (by decide +kernel)) dX10_image_36 ?_
        refine s_iload_n E dX10_image_39 rfl rfl ?_
        refine s_iald E rfl (ltn hv17_0.1 (by decide)) (vp_in_nI (n := i17) (by omega) (by decide)) dX10_image_40 ?_
        refine s_top (y := 0) (fc_zi hv17_1 (c := 96) (N := 134) (by decide +kernel) (vp_in_nI (n := i17) (by omega) (by decide))) ?_
        refine s_iast E rfl (ltn hv17_0.1 (by decide)) (vp_in_nI (n := 268 + i17) (by omega) (by decide)) dX10_image_41 ?_
        refine s_iinc (v := (nI (i17 + 1))) (L2 := [some (AR 95), some (AI 2), some (AI (nI (i17 + 1)))]) E dX10_image_42 rfl (nI_1 (i17)) (by decide) rfl ?_
        refine s_goto (tgt := 17) E dX10_image_45 (by decide) ?_
        exact ih17 (upI v17 97 (nI (268 + i17)).toNatClampNeg 0) ⟨(fc_upC hv17_0 (by decide +kernel)), (fc_upC hv17_1 (by decide +kernel))⟩
      · intro v17 hv17
        obtain ⟨hv17_0, hv17_1⟩ := hv17
        refine s_loc (L2 := [some (AR 95), some (AI 2), some (AI 134)]) rfl ?_
        refine s_iload_n E dX10_image_17 rfl rfl ?_
        refine s_sipush (v := 134) E dX10_image_18 (by decide) ?_
        refine s_icmp_ge (tgt := 48) E dX10_image_21 (by decide) (fun _ => ?_) (fun hh => absurd (by decide) hh)
        refine s_aload_n E dX10_image_48 rfl rfl ?_
        refine s_gR (r := 98) E fg_X10_16 rfl rfl (ltn hv17_0.1 (by decide)) (fc_r hv17_0 (by decide +kernel)) dX10_image_49 ?_
        refine s_iload_n E dX10_image_52 rfl rfl ?_
        refine s_iconst (v := 1) E dX10_image_53 (by decide) ?_
        refine s_zast E rfl (ltn hv17_0.1 (by decide)) (vp_c (by decide)) dX10_image_54 ?_
        refine s_iconst (v := 0) E dX10_image_55 (by decide) ?_
        exact r_int E dX10_image_56 ⟨(by have e0 : (0 : Int32).toInt = 0 := (by decide); have e1 : (1 : Int32).toInt = 1 := (by decide); have e2 : (2 : Int32).toInt = 2 := (by decide); have e3 : (3 : Int32).toInt = 3 := (by decide); have e4 : (4 : Int32).toInt = 4 := (by decide); have e5 : (0 : Int64).toInt = 0 := (by decide); first | decide | (unfold sp_image; (repeat' split) <;> first | rfl | (exfalso; omega))), (fc_upC hv17_0 (by decide +kernel))⟩
  ·
    refine s_if_ne (tgt := 15) E dX10_image_9 (by decide) (fun hh => absurd (by decide) hh) (fun _ => ?_)
    refine s_bipush (v := (-2)) E dX10_image_12 (by decide) ?_
    exact r_int E dX10_image_14 ⟨(by have q0 := h_3; (try simp only [lg_cmp_lt, lg_cmp_le, lg_cmp_ge, lg_cmp_gt] at q0); (try simp only [Int32.lt_iff_toInt_lt, Int32.le_iff_toInt_le, Int64.lt_iff_toInt_lt, Int64.le_iff_toInt_le, ← Int32.toInt_inj, ← Int64.toInt_inj, Int32.toInt_toInt64] at q0); have e0 : (0 : Int32).toInt = 0 := (by decide); have e1 : (1 : Int32).toInt = 1 := (by decide); have e2 : (2 : Int32).toInt = 2 := (by decide); have e3 : (3 : Int32).toInt = 3 := (by decide); have e4 : (4 : Int32).toInt = 4 := (by decide); have e5 : (0 : Int64).toInt = 0 := (by decide); have e6 : (2 : Int64).toInt = 2 := (by decide); (try simp only [e0, e1, e2, e3, e4, e5, e6] at q0); first | decide | (unfold sp_image; (repeat' split) <;> first | rfl | (exfalso; omega))), hw1⟩
set_option maxRecDepth 20000 in
set_option maxHeartbeats 2000000 in
theorem K_X10_back_95_MS (l : Launch) (D : va_G) (aC : Nat → ClassId) (b : Nat) (w : XW) (x1 : Int32) (hw0 : FrM w) (hw1 : RfM w) : CnI l D aC b M_X10_back 1 25 0 0 [AR 95, AI x1] w (fun r u => r = sp_back x1 ∧ w = u) := by
  refine cn_I (own := RX10) (nm := "back") (L0 := [some (AR 95), some (AI x1), none]) (by decide +kernel) rfl rfl (Nat.le_of_ble_eq_true rfl) rfl ?_
  intro p e s m args below meth c E hin
  refine s_iload_n E dX10_back_0 rfl rfl ?_
  refine s_i2l E dX10_back_1 ?_
  refine s_lconst (v := 0) E dX10_back_2 (by decide) ?_
  refine s_ldc2 E k_1365 rfl dX10_back_3 ?_
  refine s_sI (As := [AL ((x1 : Int32).toInt64), AL 0, AL 2]) (S := []) E (K_X10_in_MS l D aC b w (((x1 : Int32).toInt64)) 0 2 hw0 hw1) cs_X10_82 rfl rfl (Nat.le_of_ble_eq_true rfl) (Nat.le_of_ble_eq_true rfl) ⟨(Nat.le_of_ble_eq_true rfl), (Nat.le_of_ble_eq_true rfl)⟩ (Nat.le_of_ble_eq_true rfl) dX10_back_6 (fun r u hp => ?_)
  rcases hp with ⟨rfl, h_1, h_2, rfl⟩ | ⟨rfl, h_3, rfl⟩
  ·
    refine s_if_ne (tgt := 15) E dX10_back_9 (by decide) (fun _ => ?_) (fun hh => absurd hh (by decide))
    refine s_aload_n E dX10_back_15 rfl rfl ?_
    refine s_gR (r := 98) E fg_X10_16 rfl rfl (ltn hw0.1 (by decide)) (fc_r hw0 (by decide +kernel)) dX10_back_16 ?_
    refine s_iload_n E dX10_back_19 rfl rfl ?_
    rcases (show x1 = 0 ∨ x1 = 1 ∨ x1 = 2 from (by have q0 := h_1; have q1 := h_2; (try simp only [lg_cmp_lt, lg_cmp_le, lg_cmp_ge, lg_cmp_gt] at q0 q1); (try simp only [Int32.lt_iff_toInt_lt, Int32.le_iff_toInt_le, Int64.lt_iff_toInt_lt, Int64.le_iff_toInt_le, ← Int32.toInt_inj, ← Int64.toInt_inj, Int32.toInt_toInt64] at q0 q1); have e0 : (0 : Int32).toInt = 0 := (by decide); have e1 : (0 : Int64).toInt = 0 := (by decide); have e2 : (2 : Int64).toInt = 2 := (by decide); (try simp only [e0, e1, e2] at q0 q1); have z0 : (0 : Int32).toInt = 0 := (by decide); have z1 : (1 : Int32).toInt = 1 := (by decide); have z2 : (2 : Int32).toInt = 2 := (by decide); (simp only [← Int32.toInt_inj, z0, z1, z2]); omega)) with rfl | rfl | rfl
    ·
      refine s_zald E rfl (ltn hw0.1 (by decide)) (vp_c (by decide)) dX10_back_20 ?_
      refine s_top (y := 0) (fc_z hw0 (q := (98, 3)) (by decide +kernel) (by decide)) ?_
      refine s_if_ne (tgt := 27) E dX10_back_21 (by decide) (fun hh => absurd (by decide) hh) (fun _ => ?_)
      refine s_bipush (v := (-6)) E dX10_back_24 (by decide) ?_
      exact r_int E dX10_back_26 ⟨(by have e0 : (0 : Int32).toInt = 0 := (by decide); have e1 : (1 : Int32).toInt = 1 := (by decide); have e2 : (2 : Int32).toInt = 2 := (by decide); have e3 : (3 : Int32).toInt = 3 := (by decide); have e4 : (4 : Int32).toInt = 4 := (by decide); have e5 : (0 : Int64).toInt = 0 := (by decide); first | decide | (unfold sp_back; (repeat' split) <;> first | rfl | (exfalso; omega))), rfl⟩
    ·
      refine s_zald E rfl (ltn hw0.1 (by decide)) (vp_c (by decide)) dX10_back_20 ?_
      refine s_top (y := 0) (fc_z hw0 (q := (98, 3)) (by decide +kernel) (by decide)) ?_
      refine s_if_ne (tgt := 27) E dX10_back_21 (by decide) (fun hh => absurd (by decide) hh) (fun _ => ?_)
      refine s_bipush (v := (-6)) E dX10_back_24 (by decide) ?_
      exact r_int E dX10_back_26 ⟨(by have e0 : (0 : Int32).toInt = 0 := (by decide); have e1 : (1 : Int32).toInt = 1 := (by decide); have e2 : (2 : Int32).toInt = 2 := (by decide); have e3 : (3 : Int32).toInt = 3 := (by decide); have e4 : (4 : Int32).toInt = 4 := (by decide); have e5 : (0 : Int64).toInt = 0 := (by decide); first | decide | (unfold sp_back; (repeat' split) <;> first | rfl | (exfalso; omega))), rfl⟩
    ·
      refine s_zald E rfl (ltn hw0.1 (by decide)) (vp_c (by decide)) dX10_back_20 ?_
      refine s_top (y := 0) (fc_z hw0 (q := (98, 3)) (by decide +kernel) (by decide)) ?_
      refine s_if_ne (tgt := 27) E dX10_back_21 (by decide) (fun hh => absurd (by decide) hh) (fun _ => ?_)
      refine s_bipush (v := (-6)) E dX10_back_24 (by decide) ?_
      exact r_int E dX10_back_26 ⟨(by have e0 : (0 : Int32).toInt = 0 := (by decide); have e1 : (1 : Int32).toInt = 1 := (by decide); have e2 : (2 : Int32).toInt = 2 := (by decide); have e3 : (3 : Int32).toInt = 3 := (by decide); have e4 : (4 : Int32).toInt = 4 := (by decide); have e5 : (0 : Int64).toInt = 0 := (by decide); first | decide | (unfold sp_back; (repeat' split) <;> first | rfl | (exfalso; omega))), rfl⟩
  ·
    refine s_if_ne (tgt := 15) E dX10_back_9 (by decide) (fun hh => absurd (by decide) hh) (fun _ => ?_)
    refine s_bipush (v := (-2)) E dX10_back_12 (by decide) ?_
    exact r_int E dX10_back_14 ⟨(by have q0 := h_3; (try simp only [lg_cmp_lt, lg_cmp_le, lg_cmp_ge, lg_cmp_gt] at q0); (try simp only [Int32.lt_iff_toInt_lt, Int32.le_iff_toInt_le, Int64.lt_iff_toInt_lt, Int64.le_iff_toInt_le, ← Int32.toInt_inj, ← Int64.toInt_inj, Int32.toInt_toInt64] at q0); have e0 : (0 : Int32).toInt = 0 := (by decide); have e1 : (1 : Int32).toInt = 1 := (by decide); have e2 : (2 : Int32).toInt = 2 := (by decide); have e3 : (3 : Int32).toInt = 3 := (by decide); have e4 : (4 : Int32).toInt = 4 := (by decide); have e5 : (0 : Int64).toInt = 0 := (by decide); have e6 : (2 : Int64).toInt = 2 := (by decide); (try simp only [e0, e1, e2, e3, e4, e5, e6] at q0); first | decide | (unfold sp_back; (repeat' split) <;> first | rfl | (exfalso; omega))), rfl⟩
set_option maxRecDepth 20000 in
set_option maxHeartbeats 2000000 in
theorem K_X10_row_95_MS (l : Launch) (D : va_G) (aC : Nat → ClassId) (b : Nat) (w : XW) (x1 : Int32) (x2 : Int32) (x3 : Int32) (hw0 : FrM w) (hw1 : RfM w) : CnI l D aC b M_X10_row 2 45 0 0 [AR 95, AI x1, AI x2, AI x3] w (fun r u => r = sp_row x1 x2 x3 ∧ RfM u) := by
  refine cn_I (own := RX10) (nm := "row") (L0 := [some (AR 95), some (AI x1), some (AI x2), some (AI x3), none]) (by decide +kernel) rfl rfl (Nat.le_of_ble_eq_true rfl) rfl ?_
  intro p e s m args below meth c E hin
  refine s_iload_n E dX10_row_0 rfl rfl ?_
  refine s_sI (As := [AI x1]) (S := []) E (K_X10_isSlot_MS l D aC b w x1 hw0 hw1) cs_X10_375 rfl rfl (Nat.le_of_ble_eq_true rfl) (Nat.le_of_ble_eq_true rfl) ⟨(Nat.le_of_ble_eq_true rfl), (Nat.le_of_ble_eq_true rfl)⟩ (Nat.le_of_ble_eq_true rfl) dX10_row_1 (fun r u hp => ?_)
  rcases hp with ⟨rfl, h_1, h_2, rfl⟩ | ⟨rfl, h_3, rfl⟩
  ·
    refine s_if_eq (tgt := 25) E dX10_row_4 (by decide) (fun hh => absurd hh (by decide)) (fun _ => ?_)
    refine s_iload_n E dX10_row_7 rfl rfl ?_
    refine s_i2l E dX10_row_8 ?_
    refine s_lconst (v := 0) E dX10_row_9 (by decide) ?_
    refine s_ldc2 E k_1737 rfl dX10_row_10 ?_
    refine s_sI (As := [AL ((x2 : Int32).toInt64), AL 0, AL 3]) (S := []) E (K_X10_in_MS l D aC b w (((x2 : Int32).toInt64)) 0 3 hw0 hw1) cs_X10_82 rfl rfl (Nat.le_of_ble_eq_true rfl) (Nat.le_of_ble_eq_true rfl) ⟨(Nat.le_of_ble_eq_true rfl), (Nat.le_of_ble_eq_true rfl)⟩ (Nat.le_of_ble_eq_true rfl) dX10_row_13 (fun r u hp => ?_)
    rcases hp with ⟨rfl, h_4, h_5, rfl⟩ | ⟨rfl, h_6, rfl⟩
    ·
      refine s_if_eq (tgt := 25) E dX10_row_16 (by decide) (fun hh => absurd hh (by decide)) (fun _ => ?_)
      refine s_iload_n E dX10_row_19 rfl rfl ?_
      refine s_bipush (v := 60) E dX10_row_20 (by decide) ?_
      refine s_icmp_le (tgt := 28) E dX10_row_22 (by decide) (fun h_7 => ?_) (fun h_7 => ?_)
      ·
        refine s_iload_n E dX10_row_28 rfl rfl ?_
        refine s_if_ge (tgt := 35) E dX10_row_29 (by decide) (fun h_8 => ?_) (fun h_8 => ?_)
        ·
          rcases (show x1 = 0 ∨ x1 = 1 ∨ x1 = 2 ∨ x1 = 3 from (by have q0 := h_1; have q1 := h_2; have q2 := h_4; have q3 := h_5; have q4 := h_7; have q5 := h_8; (try simp only [lg_cmp_lt, lg_cmp_le, lg_cmp_ge, lg_cmp_gt] at q0 q1 q2 q3 q4 q5); (try simp only [Int32.lt_iff_toInt_lt, Int32.le_iff_toInt_le, Int64.lt_iff_toInt_lt, Int64.le_iff_toInt_le, ← Int32.toInt_inj, ← Int64.toInt_inj, Int32.toInt_toInt64] at q0 q1 q2 q3 q4 q5); have e0 : (0 : Int32).toInt = 0 := (by decide); have e1 : (3 : Int32).toInt = 3 := (by decide); have e2 : (60 : Int32).toInt = 60 := (by decide); have e3 : (0 : Int64).toInt = 0 := (by decide); have e4 : (3 : Int64).toInt = 3 := (by decide); (try simp only [e0, e1, e2, e3, e4] at q0 q1 q2 q3 q4 q5); have z0 : (0 : Int32).toInt = 0 := (by decide); have z1 : (1 : Int32).toInt = 1 := (by decide); have z2 : (2 : Int32).toInt = 2 := (by decide); have z3 : (3 : Int32).toInt = 3 := (by decide); (simp only [← Int32.toInt_inj, z0, z1, z2, z3]); omega)) with rfl | rfl | rfl | rfl
          ·
            refine s_aload_n E dX10_row_35 rfl rfl ?_
            refine s_gR (r := 112) E fg_X10_64 rfl rfl (ltn hw0.1 (by decide)) (fc_r hw0 (by decide +kernel)) dX10_row_36 ?_
            refine s_iload_n E dX10_row_39 rfl rfl ?_
            refine s_iload_n E dX10_row_40 rfl rfl ?_
            refine s_iast E rfl (ltn hw0.1 (by decide)) (vp_c (by decide)) dX10_row_41 ?_
            refine s_aload_n E dX10_row_42 rfl rfl ?_
            refine s_gR (r := 113) E fg_X10_67 rfl rfl (ltn hw0.1 (by decide)) (fc_r hw0 (by decide +kernel)) dX10_row_43 ?_
            refine s_iload_n E dX10_row_46 rfl rfl ?_
            refine s_iload_n E dX10_row_47 rfl rfl ?_
            refine s_iast E rfl (ltn hw0.1 (by decide)) (vp_c (by decide)) dX10_row_48 ?_
            refine s_iconst (v := 0) E dX10_row_49 (by decide) ?_
            refine s_istore (L2 := [some (AR 95), some (AI 0), some (AI x2), some (AI x3), some (AI 0)]) E dX10_row_50 (by decide) rfl ?_
            refine s_drop (i := 2) (L2 := [some (AR 95), some (AI 0), none, some (AI x3), some (AI 0)]) rfl ?_
            refine s_drop (i := 3) (L2 := [some (AR 95), some (AI 0), none, none, some (AI 0)]) rfl ?_
            refine s_loop (P := fun v52 => RfM v52) (Lf := fun i52 => [some (AR 95), some (AI 0), none, none, some (AI (nI i52))]) 0 60 (fc_upC (fc_upC hw1 (by decide +kernel)) (by decide +kernel)) ?_ ?_ (by decide)
            · intro i52 v52 hj52 hk52 hv52 ih52
              have hv52_0 := hv52
              refine s_loc (L2 := [some (AR 95), some (AI 0), none, none, some (AI (nI i52))]) rfl ?_
              refine s_iload E dX10_row_52 rfl ?_
              refine s_bipush (v := 60) E dX10_row_54 (by decide) ?_
              refine s_icmp_ge (tgt := 78) E dX10_row_56 (by decide) (fun hh => (by have q0 := h_4; have q1 := h_5; have q2 := h_7; have q3 := h_8; have q4 := hh; have q5 := (nI_toInt (n := i52) (by omega)); (try simp only [lg_cmp_lt, lg_cmp_le, lg_cmp_ge, lg_cmp_gt] at q0 q1 q2 q3 q4 q5); (try simp only [Int32.lt_iff_toInt_lt, Int32.le_iff_toInt_le, Int64.lt_iff_toInt_lt, Int64.le_iff_toInt_le, ← Int32.toInt_inj, ← Int64.toInt_inj, Int32.toInt_toInt64] at q0 q1 q2 q3 q4 q5); have e0 : (0 : Int32).toInt = 0 := (by decide); have e1 : (60 : Int32).toInt = 60 := (by decide); have e2 : (0 : Int64).toInt = 0 := (by decide); have e3 : (3 : Int64).toInt = 3 := (by decide); (try simp only [e0, e1, e2, e3] at q0 q1 q2 q3 q4 q5); omega)) (fun _ => ?_)
              refine s_aload_n E dX10_row_59 rfl rfl ?_
              refine s_gR (r := 114) E fg_X10_70 rfl rfl (ltn hv52_0.1 (by decide)) (fc_r hv52_0 (by decide +kernel)) dX10_row_60 ?_
              refine s_bipush (v := 60) E dX10_row_63 (by decide) ?_
              refine s_iload_n E dX10_row_65 rfl rfl ?_
              refine s_imul E dX10_row_66 ?_
              refine s_top (y := 0) (by decide) ?_
              refine s_iload E dX10_row_67 rfl ?_
              refine s_iadd E dX10_row_69 ?_
              refine s_top (y := (nI (0 + i52))) (nI_add (0) (i52)) ?_
              refine s_lconst (v := 0) E dX10_row_70 (by decide) ?_
              refine s_last E rfl (ltn hv52_0.1 (by decide)) (vp_in_nI (n := 0 + i52) (by omega) (by decide)) dX10_row_71 ?_
              refine s_iinc (v := (nI (i52 + 1))) (L2 := [some (AR 95), some (AI 0), none, none, some (AI (nI (i52 + 1)))]) E dX10_row_72 rfl (nI_1 (i52)) (by decide) rfl ?_
              refine s_goto (tgt := 52) E dX10_row_75 (by decide) ?_
              exact ih52 (upL v52 114 (nI (0 + i52)).toNatClampNeg 0) (fc_upL hv52_0)
            · intro v52 hv52
              have hv52_0 := hv52
              refine s_loc (L2 := [some (AR 95), some (AI 0), none, none, some (AI 60)]) rfl ?_
              refine s_iload E dX10_row_52 rfl ?_
              refine s_bipush (v := 60) E dX10_row_54 (by decide) ?_
              refine s_icmp_ge (tgt := 78) E dX10_row_56 (by decide) (fun _ => ?_) (fun hh => absurd (by decide) hh)
              refine s_iconst (v := 0) E dX10_row_78 (by decide) ?_
              exact r_int E dX10_row_79 ⟨(by have q0 := h_4; have q1 := h_5; have q2 := h_7; have q3 := h_8; (try simp only [lg_cmp_lt, lg_cmp_le, lg_cmp_ge, lg_cmp_gt] at q0 q1 q2 q3); (try simp only [Int32.lt_iff_toInt_lt, Int32.le_iff_toInt_le, Int64.lt_iff_toInt_lt, Int64.le_iff_toInt_le, ← Int32.toInt_inj, ← Int64.toInt_inj, Int32.toInt_toInt64] at q0 q1 q2 q3); have e0 : (0 : Int32).toInt = 0 := (by decide); have e1 : (1 : Int32).toInt = 1 := (by decide); have e2 : (2 : Int32).toInt = 2 := (by decide); have e3 : (3 : Int32).toInt = 3 := (by decide); have e4 : (4 : Int32).toInt = 4 := (by decide); have e5 : (60 : Int32).toInt = 60 := (by decide); have e6 : (0 : Int64).toInt = 0 := (by decide); have e7 : (3 : Int64).toInt = 3 := (by decide); (try simp only [e0, e1, e2, e3, e4, e5, e6, e7] at q0 q1 q2 q3); first | decide | (unfold sp_row; (repeat' split) <;> first | rfl | (exfalso; omega))), hv52_0⟩
          ·
            refine s_aload_n E dX10_row_35 rfl rfl ?_
            refine s_gR (r := 112) E fg_X10_64 rfl rfl (ltn hw0.1 (by decide)) (fc_r hw0 (by decide +kernel)) dX10_row_36 ?_
            refine s_iload_n E dX10_row_39 rfl rfl ?_
            refine s_iload_n E dX10_row_40 rfl rfl ?_
            refine s_iast E rfl (ltn hw0.1 (by decide)) (vp_c (by decide)) dX10_row_41 ?_
            refine s_aload_n E dX10_row_42 rfl rfl ?_
            refine s_gR (r := 113) E fg_X10_67 rfl rfl (ltn hw0.1 (by decide)) (fc_r hw0 (by decide +kernel)) dX10_row_43 ?_
            refine s_iload_n E dX10_row_46 rfl rfl ?_
            refine s_iload_n E dX10_row_47 rfl rfl ?_
            refine s_iast E rfl (ltn hw0.1 (by decide)) (vp_c (by decide)) dX10_row_48 ?_
            refine s_iconst (v := 0) E dX10_row_49 (by decide) ?_
            refine s_istore (L2 := [some (AR 95), some (AI 1), some (AI x2), some (AI x3), some (AI 0)]) E dX10_row_50 (by decide) rfl ?_
            refine s_drop (i := 2) (L2 := [some (AR 95), some (AI 1), none, some (AI x3), some (AI 0)]) rfl ?_
            refine s_drop (i := 3) (L2 := [some (AR 95), some (AI 1), none, none, some (AI 0)]) rfl ?_
            refine s_loop (P := fun v52 => RfM v52) (Lf := fun i52 => [some (AR 95), some (AI 1), none, none, some (AI (nI i52))]) 0 60 (fc_upC (fc_upC hw1 (by decide +kernel)) (by decide +kernel)) ?_ ?_ (by decide)
            · intro i52 v52 hj52 hk52 hv52 ih52
              have hv52_0 := hv52
              refine s_loc (L2 := [some (AR 95), some (AI 1), none, none, some (AI (nI i52))]) rfl ?_
              refine s_iload E dX10_row_52 rfl ?_
              refine s_bipush (v := 60) E dX10_row_54 (by decide) ?_
              refine s_icmp_ge (tgt := 78) E dX10_row_56 (by decide) (fun hh => (by have q0 := h_4; have q1 := h_5; have q2 := h_7; have q3 := h_8; have q4 := hh; have q5 := (nI_toInt (n := i52) (by omega)); (try simp only [lg_cmp_lt, lg_cmp_le, lg_cmp_ge, lg_cmp_gt] at q0 q1 q2 q3 q4 q5); (try simp only [Int32.lt_iff_toInt_lt, Int32.le_iff_toInt_le, Int64.lt_iff_toInt_lt, Int64.le_iff_toInt_le, ← Int32.toInt_inj, ← Int64.toInt_inj, Int32.toInt_toInt64] at q0 q1 q2 q3 q4 q5); have e0 : (0 : Int32).toInt = 0 := (by decide); have e1 : (60 : Int32).toInt = 60 := (by decide); have e2 : (0 : Int64).toInt = 0 := (by decide); have e3 : (3 : Int64).toInt = 3 := (by decide); (try simp only [e0, e1, e2, e3] at q0 q1 q2 q3 q4 q5); omega)) (fun _ => ?_)
              refine s_aload_n E dX10_row_59 rfl rfl ?_
              refine s_gR (r := 114) E fg_X10_70 rfl rfl (ltn hv52_0.1 (by decide)) (fc_r hv52_0 (by decide +kernel)) dX10_row_60 ?_
              refine s_bipush (v := 60) E dX10_row_63 (by decide) ?_
              refine s_iload_n E dX10_row_65 rfl rfl ?_
              refine s_imul E dX10_row_66 ?_
              refine s_top (y := 60) (by decide) ?_
              refine s_iload E dX10_row_67 rfl ?_
              refine s_iadd E dX10_row_69 ?_
              refine s_top (y := (nI (60 + i52))) (nI_add (60) (i52)) ?_
              refine s_lconst (v := 0) E dX10_row_70 (by decide) ?_
              refine s_last E rfl (ltn hv52_0.1 (by decide)) (vp_in_nI (n := 60 + i52) (by omega) (by decide)) dX10_row_71 ?_
              refine s_iinc (v := (nI (i52 + 1))) (L2 := [some (AR 95), some (AI 1), none, none, some (AI (nI (i52 + 1)))]) E dX10_row_72 rfl (nI_1 (i52)) (by decide) rfl ?_
              refine s_goto (tgt := 52) E dX10_row_75 (by decide) ?_
              exact ih52 (upL v52 114 (nI (60 + i52)).toNatClampNeg 0) (fc_upL hv52_0)
            · intro v52 hv52
              have hv52_0 := hv52
              refine s_loc (L2 := [some (AR 95), some (AI 1), none, none, some (AI 60)]) rfl ?_
              refine s_iload E dX10_row_52 rfl ?_
              refine s_bipush (v := 60) E dX10_row_54 (by decide) ?_
              refine s_icmp_ge (tgt := 78) E dX10_row_56 (by decide) (fun _ => ?_) (fun hh => absurd (by decide) hh)
              refine s_iconst (v := 0) E dX10_row_78 (by decide) ?_
              exact r_int E dX10_row_79 ⟨(by have q0 := h_4; have q1 := h_5; have q2 := h_7; have q3 := h_8; (try simp only [lg_cmp_lt, lg_cmp_le, lg_cmp_ge, lg_cmp_gt] at q0 q1 q2 q3); (try simp only [Int32.lt_iff_toInt_lt, Int32.le_iff_toInt_le, Int64.lt_iff_toInt_lt, Int64.le_iff_toInt_le, ← Int32.toInt_inj, ← Int64.toInt_inj, Int32.toInt_toInt64] at q0 q1 q2 q3); have e0 : (0 : Int32).toInt = 0 := (by decide); have e1 : (1 : Int32).toInt = 1 := (by decide); have e2 : (2 : Int32).toInt = 2 := (by decide); have e3 : (3 : Int32).toInt = 3 := (by decide); have e4 : (4 : Int32).toInt = 4 := (by decide); have e5 : (60 : Int32).toInt = 60 := (by decide); have e6 : (0 : Int64).toInt = 0 := (by decide); have e7 : (3 : Int64).toInt = 3 := (by decide); (try simp only [e0, e1, e2, e3, e4, e5, e6, e7] at q0 q1 q2 q3); first | decide | (unfold sp_row; (repeat' split) <;> first | rfl | (exfalso; omega))), hv52_0⟩
          ·
            refine s_aload_n E dX10_row_35 rfl rfl ?_
            refine s_gR (r := 112) E fg_X10_64 rfl rfl (ltn hw0.1 (by decide)) (fc_r hw0 (by decide +kernel)) dX10_row_36 ?_
            refine s_iload_n E dX10_row_39 rfl rfl ?_
            refine s_iload_n E dX10_row_40 rfl rfl ?_
            refine s_iast E rfl (ltn hw0.1 (by decide)) (vp_c (by decide)) dX10_row_41 ?_
            refine s_aload_n E dX10_row_42 rfl rfl ?_
            refine s_gR (r := 113) E fg_X10_67 rfl rfl (ltn hw0.1 (by decide)) (fc_r hw0 (by decide +kernel)) dX10_row_43 ?_
            refine s_iload_n E dX10_row_46 rfl rfl ?_
            refine s_iload_n E dX10_row_47 rfl rfl ?_
            refine s_iast E rfl (ltn hw0.1 (by decide)) (vp_c (by decide)) dX10_row_48 ?_
            refine s_iconst (v := 0) E dX10_row_49 (by decide) ?_
            refine s_istore (L2 := [some (AR 95), some (AI 2), some (AI x2), some (AI x3), some (AI 0)]) E dX10_row_50 (by decide) rfl ?_
            refine s_drop (i := 2) (L2 := [some (AR 95), some (AI 2), none, some (AI x3), some (AI 0)]) rfl ?_
            refine s_drop (i := 3) (L2 := [some (AR 95), some (AI 2), none, none, some (AI 0)]) rfl ?_
            refine s_loop (P := fun v52 => RfM v52) (Lf := fun i52 => [some (AR 95), some (AI 2), none, none, some (AI (nI i52))]) 0 60 (fc_upC (fc_upC hw1 (by decide +kernel)) (by decide +kernel)) ?_ ?_ (by decide)
            · intro i52 v52 hj52 hk52 hv52 ih52
              have hv52_0 := hv52
              refine s_loc (L2 := [some (AR 95), some (AI 2), none, none, some (AI (nI i52))]) rfl ?_
              refine s_iload E dX10_row_52 rfl ?_
              refine s_bipush (v := 60) E dX10_row_54 (by decide) ?_
              refine s_icmp_ge (tgt := 78) E dX10_row_56 (by decide) (fun hh => (by have q0 := h_4; have q1 := h_5; have q2 := h_7; have q3 := h_8; have q4 := hh; have q5 := (nI_toInt (n := i52) (by omega)); (try simp only [lg_cmp_lt, lg_cmp_le, lg_cmp_ge, lg_cmp_gt] at q0 q1 q2 q3 q4 q5); (try simp only [Int32.lt_iff_toInt_lt, Int32.le_iff_toInt_le, Int64.lt_iff_toInt_lt, Int64.le_iff_toInt_le, ← Int32.toInt_inj, ← Int64.toInt_inj, Int32.toInt_toInt64] at q0 q1 q2 q3 q4 q5); have e0 : (0 : Int32).toInt = 0 := (by decide); have e1 : (60 : Int32).toInt = 60 := (by decide); have e2 : (0 : Int64).toInt = 0 := (by decide); have e3 : (3 : Int64).toInt = 3 := (by decide); (try simp only [e0, e1, e2, e3] at q0 q1 q2 q3 q4 q5); omega)) (fun _ => ?_)
              refine s_aload_n E dX10_row_59 rfl rfl ?_
              refine s_gR (r := 114) E fg_X10_70 rfl rfl (ltn hv52_0.1 (by decide)) (fc_r hv52_0 (by decide +kernel)) dX10_row_60 ?_
              refine s_bipush (v := 60) E dX10_row_63 (by decide) ?_
              refine s_iload_n E dX10_row_65 rfl rfl ?_
              refine s_imul E dX10_row_66 ?_
              refine s_top (y := 120) (by decide) ?_
              refine s_iload E dX10_row_67 rfl ?_
              refine s_iadd E dX10_row_69 ?_
              refine s_top (y := (nI (120 + i52))) (nI_add (120) (i52)) ?_
              refine s_lconst (v := 0) E dX10_row_70 (by decide) ?_
              refine s_last E rfl (ltn hv52_0.1 (by decide)) (vp_in_nI (n := 120 + i52) (by omega) (by decide)) dX10_row_71 ?_
              refine s_iinc (v := (nI (i52 + 1))) (L2 := [some (AR 95), some (AI 2), none, none, some (AI (nI (i52 + 1)))]) E dX10_row_72 rfl (nI_1 (i52)) (by decide) rfl ?_
              refine s_goto (tgt := 52) E dX10_row_75 (by decide) ?_
              exact ih52 (upL v52 114 (nI (120 + i52)).toNatClampNeg 0) (fc_upL hv52_0)
            · intro v52 hv52
              have hv52_0 := hv52
              refine s_loc (L2 := [some (AR 95), some (AI 2), none, none, some (AI 60)]) rfl ?_
              refine s_iload E dX10_row_52 rfl ?_
              refine s_bipush (v := 60) E dX10_row_54 (by decide) ?_
              refine s_icmp_ge (tgt := 78) E dX10_row_56 (by decide) (fun _ => ?_) (fun hh => absurd (by decide) hh)
              refine s_iconst (v := 0) E dX10_row_78 (by decide) ?_
              exact r_int E dX10_row_79 ⟨(by have q0 := h_4; have q1 := h_5; have q2 := h_7; have q3 := h_8; (try simp only [lg_cmp_lt, lg_cmp_le, lg_cmp_ge, lg_cmp_gt] at q0 q1 q2 q3); (try simp only [Int32.lt_iff_toInt_lt, Int32.le_iff_toInt_le, Int64.lt_iff_toInt_lt, Int64.le_iff_toInt_le, ← Int32.toInt_inj, ← Int64.toInt_inj, Int32.toInt_toInt64] at q0 q1 q2 q3); have e0 : (0 : Int32).toInt = 0 := (by decide); have e1 : (1 : Int32).toInt = 1 := (by decide); have e2 : (2 : Int32).toInt = 2 := (by decide); have e3 : (3 : Int32).toInt = 3 := (by decide); have e4 : (4 : Int32).toInt = 4 := (by decide); have e5 : (60 : Int32).toInt = 60 := (by decide); have e6 : (0 : Int64).toInt = 0 := (by decide); have e7 : (3 : Int64).toInt = 3 := (by decide); (try simp only [e0, e1, e2, e3, e4, e5, e6, e7] at q0 q1 q2 q3); first | decide | (unfold sp_row; (repeat' split) <;> first | rfl | (exfalso; omega))), hv52_0⟩
          ·
            refine s_aload_n E dX10_row_35 rfl rfl ?_
            refine s_gR (r := 112) E fg_X10_64 rfl rfl (ltn hw0.1 (by decide)) (fc_r hw0 (by decide +kernel)) dX10_row_36 ?_
            refine s_iload_n E dX10_row_39 rfl rfl ?_
            refine s_iload_n E dX10_row_40 rfl rfl ?_
            refine s_iast E rfl (ltn hw0.1 (by decide)) (vp_c (by decide)) dX10_row_41 ?_
            refine s_aload_n E dX10_row_42 rfl rfl ?_
            refine s_gR (r := 113) E fg_X10_67 rfl rfl (ltn hw0.1 (by decide)) (fc_r hw0 (by decide +kernel)) dX10_row_43 ?_
            refine s_iload_n E dX10_row_46 rfl rfl ?_
            refine s_iload_n E dX10_row_47 rfl rfl ?_
            refine s_iast E rfl (ltn hw0.1 (by decide)) (vp_c (by decide)) dX10_row_48 ?_
            refine s_iconst (v := 0) E dX10_row_49 (by decide) ?_
            refine s_istore (L2 := [some (AR 95), some (AI 3), some (AI x2), some (AI x3), some (AI 0)]) E dX10_row_50 (by decide) rfl ?_
            refine s_drop (i := 2) (L2 := [some (AR 95), some (AI 3), none, some (AI x3), some (AI 0)]) rfl ?_
            refine s_drop (i := 3) (L2 := [some (AR 95), some (AI 3), none, none, some (AI 0)]) rfl ?_
            refine s_loop (P := fun v52 => RfM v52) (Lf := fun i52 => [some (AR 95), some (AI 3), none, none, some (AI (nI i52))]) 0 60 (fc_upC (fc_upC hw1 (by decide +kernel)) (by decide +kernel)) ?_ ?_ (by decide)
            · intro i52 v52 hj52 hk52 hv52 ih52
              have hv52_0 := hv52
              refine s_loc (L2 := [some (AR 95), some (AI 3), none, none, some (AI (nI i52))]) rfl ?_
              refine s_iload E dX10_row_52 rfl ?_
              refine s_bipush (v := 60) E dX10_row_54 (by decide) ?_
              refine s_icmp_ge (tgt := 78) E dX10_row_56 (by decide) (fun hh => (by have q0 := h_4; have q1 := h_5; have q2 := h_7; have q3 := h_8; have q4 := hh; have q5 := (nI_toInt (n := i52) (by omega)); (try simp only [lg_cmp_lt, lg_cmp_le, lg_cmp_ge, lg_cmp_gt] at q0 q1 q2 q3 q4 q5); (try simp only [Int32.lt_iff_toInt_lt, Int32.le_iff_toInt_le, Int64.lt_iff_toInt_lt, Int64.le_iff_toInt_le, ← Int32.toInt_inj, ← Int64.toInt_inj, Int32.toInt_toInt64] at q0 q1 q2 q3 q4 q5); have e0 : (0 : Int32).toInt = 0 := (by decide); have e1 : (60 : Int32).toInt = 60 := (by decide); have e2 : (0 : Int64).toInt = 0 := (by decide); have e3 : (3 : Int64).toInt = 3 := (by decide); (try simp only [e0, e1, e2, e3] at q0 q1 q2 q3 q4 q5); omega)) (fun _ => ?_)
              refine s_aload_n E dX10_row_59 rfl rfl ?_
              refine s_gR (r := 114) E fg_X10_70 rfl rfl (ltn hv52_0.1 (by decide)) (fc_r hv52_0 (by decide +kernel)) dX10_row_60 ?_
              refine s_bipush (v := 60) E dX10_row_63 (by decide) ?_
              refine s_iload_n E dX10_row_65 rfl rfl ?_
              refine s_imul E dX10_row_66 ?_
              refine s_top (y := 180) (by decide) ?_
              refine s_iload E dX10_row_67 rfl ?_
              refine s_iadd E dX10_row_69 ?_
              refine s_top (y := (nI (180 + i52))) (nI_add (180) (i52)) ?_
              refine s_lconst (v := 0) E dX10_row_70 (by decide) ?_
              refine s_last E rfl (ltn hv52_0.1 (by decide)) (vp_in_nI (n := 180 + i52) (by omega) (by decide)) dX10_row_71 ?_
              refine s_iinc (v := (nI (i52 + 1))) (L2 := [some (AR 95), some (AI 3), none, none, some (AI (nI (i52 + 1)))]) E dX10_row_72 rfl (nI_1 (i52)) (by decide) rfl ?_
              refine s_goto (tgt := 52) E dX10_row_75 (by decide) ?_
              exact ih52 (upL v52 114 (nI (180 + i52)).toNatClampNeg 0) (fc_upL hv52_0)
            · intro v52 hv52
              have hv52_0 := hv52
              refine s_loc (L2 := [some (AR 95), some (AI 3), none, none, some (AI 60)]) rfl ?_
              refine s_iload E dX10_row_52 rfl ?_
              refine s_bipush (v := 60) E dX10_row_54 (by decide) ?_
              refine s_icmp_ge (tgt := 78) E dX10_row_56 (by decide) (fun _ => ?_) (fun hh => absurd (by decide) hh)
              refine s_iconst (v := 0) E dX10_row_78 (by decide) ?_
              exact r_int E dX10_row_79 ⟨(by have q0 := h_4; have q1 := h_5; have q2 := h_7; have q3 := h_8; (try simp only [lg_cmp_lt, lg_cmp_le, lg_cmp_ge, lg_cmp_gt] at q0 q1 q2 q3); (try simp only [Int32.lt_iff_toInt_lt, Int32.le_iff_toInt_le, Int64.lt_iff_toInt_lt, Int64.le_iff_toInt_le, ← Int32.toInt_inj, ← Int64.toInt_inj, Int32.toInt_toInt64] at q0 q1 q2 q3); have e0 : (0 : Int32).toInt = 0 := (by decide); have e1 : (1 : Int32).toInt = 1 := (by decide); have e2 : (2 : Int32).toInt = 2 := (by decide); have e3 : (3 : Int32).toInt = 3 := (by decide); have e4 : (4 : Int32).toInt = 4 := (by decide); have e5 : (60 : Int32).toInt = 60 := (by decide); have e6 : (0 : Int64).toInt = 0 := (by decide); have e7 : (3 : Int64).toInt = 3 := (by decide); (try simp only [e0, e1, e2, e3, e4, e5, e6, e7] at q0 q1 q2 q3); first | decide | (unfold sp_row; (repeat' split) <;> first | rfl | (exfalso; omega))), hv52_0⟩
        ·
          refine s_bipush (v := (-3)) E dX10_row_32 (by decide) ?_
          exact r_int E dX10_row_34 ⟨(by have q0 := h_1; have q1 := h_2; have q2 := h_4; have q3 := h_5; have q4 := h_7; have q5 := h_8; (try simp only [lg_cmp_lt, lg_cmp_le, lg_cmp_ge, lg_cmp_gt] at q0 q1 q2 q3 q4 q5); (try simp only [Int32.lt_iff_toInt_lt, Int32.le_iff_toInt_le, Int64.lt_iff_toInt_lt, Int64.le_iff_toInt_le, ← Int32.toInt_inj, ← Int64.toInt_inj, Int32.toInt_toInt64] at q0 q1 q2 q3 q4 q5); have e0 : (0 : Int32).toInt = 0 := (by decide); have e1 : (1 : Int32).toInt = 1 := (by decide); have e2 : (2 : Int32).toInt = 2 := (by decide); have e3 : (3 : Int32).toInt = 3 := (by decide); have e4 : (4 : Int32).toInt = 4 := (by decide); have e5 : (60 : Int32).toInt = 60 := (by decide); have e6 : (0 : Int64).toInt = 0 := (by decide); have e7 : (3 : Int64).toInt = 3 := (by decide); (try simp only [e0, e1, e2, e3, e4, e5, e6, e7] at q0 q1 q2 q3 q4 q5); first | decide | (unfold sp_row; (repeat' split) <;> first | rfl | (exfalso; omega))), hw1⟩
      ·
        refine s_bipush (v := (-2)) E dX10_row_25 (by decide) ?_
        exact r_int E dX10_row_27 ⟨(by have q0 := h_1; have q1 := h_2; have q2 := h_4; have q3 := h_5; have q4 := h_7; (try simp only [lg_cmp_lt, lg_cmp_le, lg_cmp_ge, lg_cmp_gt] at q0 q1 q2 q3 q4); (try simp only [Int32.lt_iff_toInt_lt, Int32.le_iff_toInt_le, Int64.lt_iff_toInt_lt, Int64.le_iff_toInt_le, ← Int32.toInt_inj, ← Int64.toInt_inj, Int32.toInt_toInt64] at q0 q1 q2 q3 q4); have e0 : (0 : Int32).toInt = 0 := (by decide); have e1 : (1 : Int32).toInt = 1 := (by decide); have e2 : (2 : Int32).toInt = 2 := (by decide); have e3 : (3 : Int32).toInt = 3 := (by decide); have e4 : (4 : Int32).toInt = 4 := (by decide); have e5 : (60 : Int32).toInt = 60 := (by decide); have e6 : (0 : Int64).toInt = 0 := (by decide); have e7 : (3 : Int64).toInt = 3 := (by decide); (try simp only [e0, e1, e2, e3, e4, e5, e6, e7] at q0 q1 q2 q3 q4); first | decide | (unfold sp_row; (repeat' split) <;> first | rfl | (exfalso; omega))), hw1⟩
    ·
      refine s_if_eq (tgt := 25) E dX10_row_16 (by decide) (fun _ => ?_) (fun hh => absurd (by decide) hh)
      refine s_bipush (v := (-2)) E dX10_row_25 (by decide) ?_
      exact r_int E dX10_row_27 ⟨(by have q0 := h_1; have q1 := h_2; have q2 := h_6; (try simp only [lg_cmp_lt, lg_cmp_le, lg_cmp_ge, lg_cmp_gt] at q0 q1 q2); (try simp only [Int32.lt_iff_toInt_lt, Int32.le_iff_toInt_le, Int64.lt_iff_toInt_lt, Int64.le_iff_toInt_le, ← Int32.toInt_inj, ← Int64.toInt_inj, Int32.toInt_toInt64] at q0 q1 q2); have e0 : (0 : Int32).toInt = 0 := (by decide); have e1 : (1 : Int32).toInt = 1 := (by decide); have e2 : (2 : Int32).toInt = 2 := (by decide); have e3 : (3 : Int32).toInt = 3 := (by decide); have e4 : (4 : Int32).toInt = 4 := (by decide); have e5 : (0 : Int64).toInt = 0 := (by decide); have e6 : (3 : Int64).toInt = 3 := (by decide); (try simp only [e0, e1, e2, e3, e4, e5, e6] at q0 q1 q2); first | decide | (unfold sp_row; (repeat' split) <;> first | rfl | (exfalso; omega))), hw1⟩
  ·
    refine s_if_eq (tgt := 25) E dX10_row_4 (by decide) (fun _ => ?_) (fun hh => absurd (by decide) hh)
    refine s_bipush (v := (-2)) E dX10_row_25 (by decide) ?_
    exact r_int E dX10_row_27 ⟨(by have q0 := h_3; (try simp only [lg_cmp_lt, lg_cmp_le, lg_cmp_ge, lg_cmp_gt] at q0); (try simp only [Int32.lt_iff_toInt_lt, Int32.le_iff_toInt_le, Int64.lt_iff_toInt_lt, Int64.le_iff_toInt_le, ← Int32.toInt_inj, ← Int64.toInt_inj, Int32.toInt_toInt64] at q0); have e0 : (0 : Int32).toInt = 0 := (by decide); have e1 : (1 : Int32).toInt = 1 := (by decide); have e2 : (2 : Int32).toInt = 2 := (by decide); have e3 : (3 : Int32).toInt = 3 := (by decide); have e4 : (4 : Int32).toInt = 4 := (by decide); have e5 : (0 : Int64).toInt = 0 := (by decide); (try simp only [e0, e1, e2, e3, e4, e5] at q0); first | decide | (unfold sp_row; (repeat' split) <;> first | rfl | (exfalso; omega))), hw1⟩
set_option maxRecDepth 20000 in
set_option maxHeartbeats 2000000 in
theorem K_X10_write_95_MS (l : Launch) (D : va_G) (aC : Nat → ClassId) (b : Nat) (w : XW) (x1 : Int32) (x2 : Int32) (x3 : Int64) (hw0 : FrM w) (hw1 : RfM w) : CnI l D aC b M_X10_write 2 45 0 0 [AR 95, AI x1, AI x2, AL x3] w (fun r u => r = sp_write x1 x2 x3 ∧ w = u) := by
  refine cn_I (own := RX10) (nm := "write") (L0 := [some (AR 95), some (AI x1), some (AI x2), some (AL x3), none]) (by decide +kernel) rfl rfl (Nat.le_of_ble_eq_true rfl) rfl ?_
  intro p e s m args below meth c E hin
  refine s_iload_n E dX10_write_0 rfl rfl ?_
  refine s_sI (As := [AI x1]) (S := []) E (K_X10_isSlot_MS l D aC b w x1 hw0 hw1) cs_X10_375 rfl rfl (Nat.le_of_ble_eq_true rfl) (Nat.le_of_ble_eq_true rfl) ⟨(Nat.le_of_ble_eq_true rfl), (Nat.le_of_ble_eq_true rfl)⟩ (Nat.le_of_ble_eq_true rfl) dX10_write_1 (fun r u hp => ?_)
  rcases hp with ⟨rfl, h_1, h_2, rfl⟩ | ⟨rfl, h_3, rfl⟩
  ·
    refine s_if_ne (tgt := 10) E dX10_write_4 (by decide) (fun _ => ?_) (fun hh => absurd hh (by decide))
    refine s_aload_n E dX10_write_10 rfl rfl ?_
    refine s_gR (r := 112) E fg_X10_64 rfl rfl (ltn hw0.1 (by decide)) (fc_r hw0 (by decide +kernel)) dX10_write_11 ?_
    refine s_iload_n E dX10_write_14 rfl rfl ?_
    rcases (show x1 = 0 ∨ x1 = 1 ∨ x1 = 2 ∨ x1 = 3 from (by have q0 := h_1; have q1 := h_2; (try simp only [lg_cmp_lt, lg_cmp_le, lg_cmp_ge, lg_cmp_gt] at q0 q1); (try simp only [Int32.lt_iff_toInt_lt, Int32.le_iff_toInt_le, Int64.lt_iff_toInt_lt, Int64.le_iff_toInt_le, ← Int32.toInt_inj, ← Int64.toInt_inj, Int32.toInt_toInt64] at q0 q1); have e0 : (0 : Int32).toInt = 0 := (by decide); have e1 : (3 : Int32).toInt = 3 := (by decide); have e2 : (0 : Int64).toInt = 0 := (by decide); (try simp only [e0, e1, e2] at q0 q1); have z0 : (0 : Int32).toInt = 0 := (by decide); have z1 : (1 : Int32).toInt = 1 := (by decide); have z2 : (2 : Int32).toInt = 2 := (by decide); have z3 : (3 : Int32).toInt = 3 := (by decide); (simp only [← Int32.toInt_inj, z0, z1, z2, z3]); omega)) with rfl | rfl | rfl | rfl
    ·
      refine s_iald E rfl (ltn hw0.1 (by decide)) (vp_c (by decide)) dX10_write_15 ?_
      refine s_top (y := (-1)) (fc_i hw0 (by decide +kernel)) ?_
      refine s_iconst (v := (-1)) E dX10_write_16 (by decide) ?_
      refine s_icmp_ne (tgt := 23) E dX10_write_17 (by decide) (fun hh => absurd (by decide) hh) (fun _ => ?_)
      refine s_bipush (v := (-6)) E dX10_write_20 (by decide) ?_
      exact r_int E dX10_write_22 ⟨(by have e0 : (0 : Int32).toInt = 0 := (by decide); have e1 : (1 : Int32).toInt = 1 := (by decide); have e2 : (2 : Int32).toInt = 2 := (by decide); have e3 : (3 : Int32).toInt = 3 := (by decide); have e4 : (4 : Int32).toInt = 4 := (by decide); have e5 : (0 : Int64).toInt = 0 := (by decide); first | decide | (unfold sp_write; (repeat' split) <;> first | rfl | (exfalso; omega))), rfl⟩
    ·
      refine s_iald E rfl (ltn hw0.1 (by decide)) (vp_c (by decide)) dX10_write_15 ?_
      refine s_top (y := (-1)) (fc_i hw0 (by decide +kernel)) ?_
      refine s_iconst (v := (-1)) E dX10_write_16 (by decide) ?_
      refine s_icmp_ne (tgt := 23) E dX10_write_17 (by decide) (fun hh => absurd (by decide) hh) (fun _ => ?_)
      refine s_bipush (v := (-6)) E dX10_write_20 (by decide) ?_
      exact r_int E dX10_write_22 ⟨(by have e0 : (0 : Int32).toInt = 0 := (by decide); have e1 : (1 : Int32).toInt = 1 := (by decide); have e2 : (2 : Int32).toInt = 2 := (by decide); have e3 : (3 : Int32).toInt = 3 := (by decide); have e4 : (4 : Int32).toInt = 4 := (by decide); have e5 : (0 : Int64).toInt = 0 := (by decide); first | decide | (unfold sp_write; (repeat' split) <;> first | rfl | (exfalso; omega))), rfl⟩
    ·
      refine s_iald E rfl (ltn hw0.1 (by decide)) (vp_c (by decide)) dX10_write_15 ?_
      refine s_top (y := (-1)) (fc_i hw0 (by decide +kernel)) ?_
      refine s_iconst (v := (-1)) E dX10_write_16 (by decide) ?_
      refine s_icmp_ne (tgt := 23) E dX10_write_17 (by decide) (fun hh => absurd (by decide) hh) (fun _ => ?_)
      refine s_bipush (v := (-6)) E dX10_write_20 (by decide) ?_
      exact r_int E dX10_write_22 ⟨(by have e0 : (0 : Int32).toInt = 0 := (by decide); have e1 : (1 : Int32).toInt = 1 := (by decide); have e2 : (2 : Int32).toInt = 2 := (by decide); have e3 : (3 : Int32).toInt = 3 := (by decide); have e4 : (4 : Int32).toInt = 4 := (by decide); have e5 : (0 : Int64).toInt = 0 := (by decide); first | decide | (unfold sp_write; (repeat' split) <;> first | rfl | (exfalso; omega))), rfl⟩
    ·
      refine s_iald E rfl (ltn hw0.1 (by decide)) (vp_c (by decide)) dX10_write_15 ?_
      refine s_top (y := (-1)) (fc_i hw0 (by decide +kernel)) ?_
      refine s_iconst (v := (-1)) E dX10_write_16 (by decide) ?_
      refine s_icmp_ne (tgt := 23) E dX10_write_17 (by decide) (fun hh => absurd (by decide) hh) (fun _ => ?_)
      refine s_bipush (v := (-6)) E dX10_write_20 (by decide) ?_
      exact r_int E dX10_write_22 ⟨(by have e0 : (0 : Int32).toInt = 0 := (by decide); have e1 : (1 : Int32).toInt = 1 := (by decide); have e2 : (2 : Int32).toInt = 2 := (by decide); have e3 : (3 : Int32).toInt = 3 := (by decide); have e4 : (4 : Int32).toInt = 4 := (by decide); have e5 : (0 : Int64).toInt = 0 := (by decide); first | decide | (unfold sp_write; (repeat' split) <;> first | rfl | (exfalso; omega))), rfl⟩
  ·
    refine s_if_ne (tgt := 10) E dX10_write_4 (by decide) (fun hh => absurd (by decide) hh) (fun _ => ?_)
    refine s_bipush (v := (-2)) E dX10_write_7 (by decide) ?_
    exact r_int E dX10_write_9 ⟨(by have q0 := h_3; (try simp only [lg_cmp_lt, lg_cmp_le, lg_cmp_ge, lg_cmp_gt] at q0); (try simp only [Int32.lt_iff_toInt_lt, Int32.le_iff_toInt_le, Int64.lt_iff_toInt_lt, Int64.le_iff_toInt_le, ← Int32.toInt_inj, ← Int64.toInt_inj, Int32.toInt_toInt64] at q0); have e0 : (0 : Int32).toInt = 0 := (by decide); have e1 : (1 : Int32).toInt = 1 := (by decide); have e2 : (2 : Int32).toInt = 2 := (by decide); have e3 : (3 : Int32).toInt = 3 := (by decide); have e4 : (4 : Int32).toInt = 4 := (by decide); have e5 : (0 : Int64).toInt = 0 := (by decide); (try simp only [e0, e1, e2, e3, e4, e5] at q0); first | decide | (unfold sp_write; (repeat' split) <;> first | rfl | (exfalso; omega))), rfl⟩
set_option maxRecDepth 20000 in
set_option maxHeartbeats 2000000 in
theorem K_X10_paste_95_MS (l : Launch) (D : va_G) (aC : Nat → ClassId) (b : Nat) (w : XW) (x1 : Int32) (x2 : Int32) (x3 : Int32) (x4 : Int32) (x5 : Int32) (hw0 : FrM w) (hw1 : RfM w) : CnI l D aC b M_X10_paste 2 45 0 0 [AR 95, AI x1, AI x2, AI x3, AI x4, AI x5] w (fun r u => r = sp_paste x1 x2 x3 x4 x5 ∧ w = u) := by
  refine cn_I (own := RX10) (nm := "paste") (L0 := [some (AR 95), some (AI x1), some (AI x2), some (AI x3), some (AI x4), some (AI x5), none]) (by decide +kernel) rfl rfl (Nat.le_of_ble_eq_true rfl) rfl ?_
  intro p e s m args below meth c E hin
  refine s_iload_n E dX10_paste_0 rfl rfl ?_
  refine s_sI (As := [AI x1]) (S := []) E (K_X10_isSlot_MS l D aC b w x1 hw0 hw1) cs_X10_375 rfl rfl (Nat.le_of_ble_eq_true rfl) (Nat.le_of_ble_eq_true rfl) ⟨(Nat.le_of_ble_eq_true rfl), (Nat.le_of_ble_eq_true rfl)⟩ (Nat.le_of_ble_eq_true rfl) dX10_paste_1 (fun r u hp => ?_)
  rcases hp with ⟨rfl, h_1, h_2, rfl⟩ | ⟨rfl, h_3, rfl⟩
  ·
    refine s_if_eq (tgt := 14) E dX10_paste_4 (by decide) (fun hh => absurd hh (by decide)) (fun _ => ?_)
    refine s_iload_n E dX10_paste_7 rfl rfl ?_
    refine s_sI (As := [AI x3]) (S := []) E (K_X10_isSlot_MS l D aC b w x3 hw0 hw1) cs_X10_375 rfl rfl (Nat.le_of_ble_eq_true rfl) (Nat.le_of_ble_eq_true rfl) ⟨(Nat.le_of_ble_eq_true rfl), (Nat.le_of_ble_eq_true rfl)⟩ (Nat.le_of_ble_eq_true rfl) dX10_paste_8 (fun r u hp => ?_)
    rcases hp with ⟨rfl, h_4, h_5, rfl⟩ | ⟨rfl, h_6, rfl⟩
    ·
      refine s_if_ne (tgt := 17) E dX10_paste_11 (by decide) (fun _ => ?_) (fun hh => absurd hh (by decide))
      refine s_aload_n E dX10_paste_17 rfl rfl ?_
      refine s_gR (r := 112) E fg_X10_64 rfl rfl (ltn hw0.1 (by decide)) (fc_r hw0 (by decide +kernel)) dX10_paste_18 ?_
      refine s_iload_n E dX10_paste_21 rfl rfl ?_
      rcases (show x1 = 0 ∨ x1 = 1 ∨ x1 = 2 ∨ x1 = 3 from (by have q0 := h_1; have q1 := h_2; have q2 := h_4; have q3 := h_5; (try simp only [lg_cmp_lt, lg_cmp_le, lg_cmp_ge, lg_cmp_gt] at q0 q1 q2 q3); (try simp only [Int32.lt_iff_toInt_lt, Int32.le_iff_toInt_le, Int64.lt_iff_toInt_lt, Int64.le_iff_toInt_le, ← Int32.toInt_inj, ← Int64.toInt_inj, Int32.toInt_toInt64] at q0 q1 q2 q3); have e0 : (0 : Int32).toInt = 0 := (by decide); have e1 : (3 : Int32).toInt = 3 := (by decide); have e2 : (0 : Int64).toInt = 0 := (by decide); (try simp only [e0, e1, e2] at q0 q1 q2 q3); have z0 : (0 : Int32).toInt = 0 := (by decide); have z1 : (1 : Int32).toInt = 1 := (by decide); have z2 : (2 : Int32).toInt = 2 := (by decide); have z3 : (3 : Int32).toInt = 3 := (by decide); (simp only [← Int32.toInt_inj, z0, z1, z2, z3]); omega)) with rfl | rfl | rfl | rfl
      ·
        refine s_iald E rfl (ltn hw0.1 (by decide)) (vp_c (by decide)) dX10_paste_22 ?_
        refine s_top (y := (-1)) (fc_i hw0 (by decide +kernel)) ?_
        refine s_iconst (v := (-1)) E dX10_paste_23 (by decide) ?_
        refine s_icmp_eq (tgt := 37) E dX10_paste_24 (by decide) (fun _ => ?_) (fun hh => absurd (by decide) hh)
        refine s_bipush (v := (-6)) E dX10_paste_37 (by decide) ?_
        exact r_int E dX10_paste_39 ⟨(by have q0 := h_4; have q1 := h_5; (try simp only [lg_cmp_lt, lg_cmp_le, lg_cmp_ge, lg_cmp_gt] at q0 q1); (try simp only [Int32.lt_iff_toInt_lt, Int32.le_iff_toInt_le, Int64.lt_iff_toInt_lt, Int64.le_iff_toInt_le, ← Int32.toInt_inj, ← Int64.toInt_inj, Int32.toInt_toInt64] at q0 q1); have e0 : (0 : Int32).toInt = 0 := (by decide); have e1 : (1 : Int32).toInt = 1 := (by decide); have e2 : (2 : Int32).toInt = 2 := (by decide); have e3 : (3 : Int32).toInt = 3 := (by decide); have e4 : (4 : Int32).toInt = 4 := (by decide); have e5 : (0 : Int64).toInt = 0 := (by decide); (try simp only [e0, e1, e2, e3, e4, e5] at q0 q1); first | decide | (unfold sp_paste; (repeat' split) <;> first | rfl | (exfalso; omega))), rfl⟩
      ·
        refine s_iald E rfl (ltn hw0.1 (by decide)) (vp_c (by decide)) dX10_paste_22 ?_
        refine s_top (y := (-1)) (fc_i hw0 (by decide +kernel)) ?_
        refine s_iconst (v := (-1)) E dX10_paste_23 (by decide) ?_
        refine s_icmp_eq (tgt := 37) E dX10_paste_24 (by decide) (fun _ => ?_) (fun hh => absurd (by decide) hh)
        refine s_bipush (v := (-6)) E dX10_paste_37 (by decide) ?_
        exact r_int E dX10_paste_39 ⟨(by have q0 := h_4; have q1 := h_5; (try simp only [lg_cmp_lt, lg_cmp_le, lg_cmp_ge, lg_cmp_gt] at q0 q1); (try simp only [Int32.lt_iff_toInt_lt, Int32.le_iff_toInt_le, Int64.lt_iff_toInt_lt, Int64.le_iff_toInt_le, ← Int32.toInt_inj, ← Int64.toInt_inj, Int32.toInt_toInt64] at q0 q1); have e0 : (0 : Int32).toInt = 0 := (by decide); have e1 : (1 : Int32).toInt = 1 := (by decide); have e2 : (2 : Int32).toInt = 2 := (by decide); have e3 : (3 : Int32).toInt = 3 := (by decide); have e4 : (4 : Int32).toInt = 4 := (by decide); have e5 : (0 : Int64).toInt = 0 := (by decide); (try simp only [e0, e1, e2, e3, e4, e5] at q0 q1); first | decide | (unfold sp_paste; (repeat' split) <;> first | rfl | (exfalso; omega))), rfl⟩
      ·
        refine s_iald E rfl (ltn hw0.1 (by decide)) (vp_c (by decide)) dX10_paste_22 ?_
        refine s_top (y := (-1)) (fc_i hw0 (by decide +kernel)) ?_
        refine s_iconst (v := (-1)) E dX10_paste_23 (by decide) ?_
        refine s_icmp_eq (tgt := 37) E dX10_paste_24 (by decide) (fun _ => ?_) (fun hh => absurd (by decide) hh)
        refine s_bipush (v := (-6)) E dX10_paste_37 (by decide) ?_
        exact r_int E dX10_paste_39 ⟨(by have q0 := h_4; have q1 := h_5; (try simp only [lg_cmp_lt, lg_cmp_le, lg_cmp_ge, lg_cmp_gt] at q0 q1); (try simp only [Int32.lt_iff_toInt_lt, Int32.le_iff_toInt_le, Int64.lt_iff_toInt_lt, Int64.le_iff_toInt_le, ← Int32.toInt_inj, ← Int64.toInt_inj, Int32.toInt_toInt64] at q0 q1); have e0 : (0 : Int32).toInt = 0 := (by decide); have e1 : (1 : Int32).toInt = 1 := (by decide); have e2 : (2 : Int32).toInt = 2 := (by decide); have e3 : (3 : Int32).toInt = 3 := (by decide); have e4 : (4 : Int32).toInt = 4 := (by decide); have e5 : (0 : Int64).toInt = 0 := (by decide); (try simp only [e0, e1, e2, e3, e4, e5] at q0 q1); first | decide | (unfold sp_paste; (repeat' split) <;> first | rfl | (exfalso; omega))), rfl⟩
      ·
        refine s_iald E rfl (ltn hw0.1 (by decide)) (vp_c (by decide)) dX10_paste_22 ?_
        refine s_top (y := (-1)) (fc_i hw0 (by decide +kernel)) ?_
        refine s_iconst (v := (-1)) E dX10_paste_23 (by decide) ?_
        refine s_icmp_eq (tgt := 37) E dX10_paste_24 (by decide) (fun _ => ?_) (fun hh => absurd (by decide) hh)
        refine s_bipush (v := (-6)) E dX10_paste_37 (by decide) ?_
        exact r_int E dX10_paste_39 ⟨(by have q0 := h_4; have q1 := h_5; (try simp only [lg_cmp_lt, lg_cmp_le, lg_cmp_ge, lg_cmp_gt] at q0 q1); (try simp only [Int32.lt_iff_toInt_lt, Int32.le_iff_toInt_le, Int64.lt_iff_toInt_lt, Int64.le_iff_toInt_le, ← Int32.toInt_inj, ← Int64.toInt_inj, Int32.toInt_toInt64] at q0 q1); have e0 : (0 : Int32).toInt = 0 := (by decide); have e1 : (1 : Int32).toInt = 1 := (by decide); have e2 : (2 : Int32).toInt = 2 := (by decide); have e3 : (3 : Int32).toInt = 3 := (by decide); have e4 : (4 : Int32).toInt = 4 := (by decide); have e5 : (0 : Int64).toInt = 0 := (by decide); (try simp only [e0, e1, e2, e3, e4, e5] at q0 q1); first | decide | (unfold sp_paste; (repeat' split) <;> first | rfl | (exfalso; omega))), rfl⟩
    ·
      refine s_if_ne (tgt := 17) E dX10_paste_11 (by decide) (fun hh => absurd (by decide) hh) (fun _ => ?_)
      refine s_bipush (v := (-2)) E dX10_paste_14 (by decide) ?_
      exact r_int E dX10_paste_16 ⟨(by have q0 := h_1; have q1 := h_2; have q2 := h_6; (try simp only [lg_cmp_lt, lg_cmp_le, lg_cmp_ge, lg_cmp_gt] at q0 q1 q2); (try simp only [Int32.lt_iff_toInt_lt, Int32.le_iff_toInt_le, Int64.lt_iff_toInt_lt, Int64.le_iff_toInt_le, ← Int32.toInt_inj, ← Int64.toInt_inj, Int32.toInt_toInt64] at q0 q1 q2); have e0 : (0 : Int32).toInt = 0 := (by decide); have e1 : (1 : Int32).toInt = 1 := (by decide); have e2 : (2 : Int32).toInt = 2 := (by decide); have e3 : (3 : Int32).toInt = 3 := (by decide); have e4 : (4 : Int32).toInt = 4 := (by decide); have e5 : (0 : Int64).toInt = 0 := (by decide); (try simp only [e0, e1, e2, e3, e4, e5] at q0 q1 q2); first | decide | (unfold sp_paste; (repeat' split) <;> first | rfl | (exfalso; omega))), rfl⟩
  ·
    refine s_if_eq (tgt := 14) E dX10_paste_4 (by decide) (fun _ => ?_) (fun hh => absurd (by decide) hh)
    refine s_bipush (v := (-2)) E dX10_paste_14 (by decide) ?_
    exact r_int E dX10_paste_16 ⟨(by have q0 := h_3; (try simp only [lg_cmp_lt, lg_cmp_le, lg_cmp_ge, lg_cmp_gt] at q0); (try simp only [Int32.lt_iff_toInt_lt, Int32.le_iff_toInt_le, Int64.lt_iff_toInt_lt, Int64.le_iff_toInt_le, ← Int32.toInt_inj, ← Int64.toInt_inj, Int32.toInt_toInt64] at q0); have e0 : (0 : Int32).toInt = 0 := (by decide); have e1 : (1 : Int32).toInt = 1 := (by decide); have e2 : (2 : Int32).toInt = 2 := (by decide); have e3 : (3 : Int32).toInt = 3 := (by decide); have e4 : (4 : Int32).toInt = 4 := (by decide); have e5 : (0 : Int64).toInt = 0 := (by decide); (try simp only [e0, e1, e2, e3, e4, e5] at q0); first | decide | (unfold sp_paste; (repeat' split) <;> first | rfl | (exfalso; omega))), rfl⟩
