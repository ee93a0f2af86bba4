set_option maxRecDepth 20000 in
set_option maxHeartbeats 2000000 in
theorem lawc_12 {p : Program} {e : Env} {s : State} {m : MethodId} {below : List Frame} {meth : Method} {c : Code} (l : Launch) {b0 b n : Nat} {xs : Nat → Int32} {D : va_G} {aC : Nat → ClassId} (E : EE p s m meth c D aC b 4 cL_law RL ret) (hb : b = s.heap.size) (hX : va_X b0 n xs s s.heap) (hb0 : b0 < s.heap.size) (hn : n ≤ 3072) (w : XW) (hI : Iv w) (hR : RLs w) (i : Int32) (hi : 0 ≤ i.toInt ∧ i.toInt + 6 ≤ (n : Int)) (kk : ∀ u : XW, Iv u → RLs u → Wv p l e room_1 s m #[Value.ref b0] below meth c (lw_Z below #[Value.ref b0] s) D aC b 4 2492 [some (AX (b0 + 1)), some (AR 0), some (AR 95), some (AI i)] [] u 116 6683) : Wv p l e room_1 s m #[Value.ref b0] below meth c (lw_Z below #[Value.ref b0] s) D aC b 4 732 [some (AX (b0 + 1)), some (AR 0), some (AR 95), some (AI i)] [] w 116 6683 := by
  refine s_aload_n E dL_law_732 rfl rfl ?_
  refine s_xload_n E dL_law_733 rfl rfl ?_
  refine s_iload_n E dL_law_734 rfl rfl ?_
  refine s_iconst (v := 1) E dL_law_735 (by decide) ?_
  refine z_iadd (u := i.toInt) (v := 1) E dL_law_736 rfl (by decide) (by omega) (by omega) (fun z_1 hz_1 => ?_)
  refine s_sld E hX hb0 hb (z_in (u := z_1.toInt) rfl (by omega) (by omega)) dL_law_737 ?_
  refine s_top (y := (xs (i.toInt.toNat + 1))) (congrArg xs (by show z_1.toInt.toNat = _; omega)) ?_
  refine s_vI (As := [AI (xs (i.toInt.toNat + 1))]) (S := []) E (Z_X9_steps_0 l D aC b w (xs (i.toInt.toNat + 1)) hI) cv_L_66 rfl rfl rfl (jv_lt (jv_rfl hI) (by decide)) (Nat.le_of_ble_eq_true rfl) (Nat.le_of_ble_eq_true rfl) ⟨(Nat.le_of_ble_eq_true rfl), (Nat.le_of_ble_eq_true rfl)⟩ (Nat.le_of_ble_eq_true rfl) dL_law_738 (fun r_2 u_3 hp_4 => ?_)
  have hI_5 : Iv u_3 := by rw [← hp_4.2]; exact hI
  have hR_6 : RLs u_3 := rl_k hR (fun c_ _ => by rw [hp_4.2])
  refine s_popI E dL_law_741 ?_
  refine s_aload_n E dL_law_742 rfl rfl ?_
  refine s_xload_n E dL_law_743 rfl rfl ?_
  refine s_iload_n E dL_law_744 rfl rfl ?_
  refine s_iconst (v := 1) E dL_law_745 (by decide) ?_
  refine z_iadd (u := i.toInt) (v := 1) E dL_law_746 rfl (by decide) (by omega) (by omega) (fun z_7 hz_7 => ?_)
  refine s_sld E hX hb0 hb (z_in (u := z_7.toInt) rfl (by omega) (by omega)) dL_law_747 ?_
  refine s_top (y := (xs (i.toInt.toNat + 1))) (congrArg xs (by show z_7.toInt.toNat = _; omega)) ?_
  refine s_vI (As := [AI (xs (i.toInt.toNat + 1))]) (S := []) E (Z_X10_steps_95 l D aC b u_3 (xs (i.toInt.toNat + 1)) hI_5) cv_L_69 rfl rfl rfl (jv_lt (jv_rfl hI_5) (by decide)) (Nat.le_of_ble_eq_true rfl) (Nat.le_of_ble_eq_true rfl) ⟨(Nat.le_of_ble_eq_true rfl), (Nat.le_of_ble_eq_true rfl)⟩ (Nat.le_of_ble_eq_true rfl) dL_law_748 (fun r_8 u_9 hp_10 => ?_)
  have hI_11 : Iv u_9 := hp_10.2.1
  have hR_12 : RLs u_9 := rl_k hR_6 hp_10.2.2.1
  refine s_popI E dL_law_751 ?_
  refine s_goto (tgt := 2492) E dL_law_752 (by decide) ?_
  exact kk u_9 hI_11 hR_12
set_option maxRecDepth 20000 in
set_option maxHeartbeats 2000000 in
theorem lawc_13 {p : Program} {e : Env} {s : State} {m : MethodId} {below : List Frame} {meth : Method} {c : Code} (l : Launch) {b0 b n : Nat} {xs : Nat → Int32} {D : va_G} {aC : Nat → ClassId} (E : EE p s m meth c D aC b 4 cL_law RL ret) (hb : b = s.heap.size) (hX : va_X b0 n xs s s.heap) (hb0 : b0 < s.heap.size) (hn : n ≤ 3072) (w : XW) (hI : Iv w) (hR : RLs w) (i : Int32) (hi : 0 ≤ i.toInt ∧ i.toInt + 6 ≤ (n : Int)) (kk : ∀ u : XW, Iv u → RLs u → Wv p l e room_1 s m #[Value.ref b0] below meth c (lw_Z below #[Value.ref b0] s) D aC b 4 2492 [some (AX (b0 + 1)), some (AR 0), some (AR 95), some (AI i)] [] u 116 6683) : Wv p l e room_1 s m #[Value.ref b0] below meth c (lw_Z below #[Value.ref b0] s) D aC b 4 755 [some (AX (b0 + 1)), some (AR 0), some (AR 95), some (AI i)] [] w 116 6683 := by
  refine s_aload_n E dL_law_755 rfl rfl ?_
  refine s_xload_n E dL_law_756 rfl rfl ?_
  refine s_iload_n E dL_law_757 rfl rfl ?_
  refine s_iconst (v := 1) E dL_law_758 (by decide) ?_
  refine z_iadd (u := i.toInt) (v := 1) E dL_law_759 rfl (by decide) (by omega) (by omega) (fun z_1 hz_1 => ?_)
  refine s_sld E hX hb0 hb (z_in (u := z_1.toInt) rfl (by omega) (by omega)) dL_law_760 ?_
  refine s_top (y := (xs (i.toInt.toNat + 1))) (congrArg xs (by show z_1.toInt.toNat = _; omega)) ?_
  refine s_vI (As := [AI (xs (i.toInt.toNat + 1))]) (S := []) E (Z_X9_sees_0 l D aC b w (xs (i.toInt.toNat + 1)) hI) cv_L_70 rfl rfl rfl (jv_lt (jv_rfl hI) (by decide)) (Nat.le_of_ble_eq_true rfl) (Nat.le_of_ble_eq_true rfl) ⟨(Nat.le_of_ble_eq_true rfl), (Nat.le_of_ble_eq_true rfl)⟩ (Nat.le_of_ble_eq_true rfl) dL_law_761 (fun r_2 u_3 hp_4 => ?_)
  have hI_5 : Iv u_3 := by rw [← hp_4.2]; exact hI
  have hR_6 : RLs u_3 := rl_k hR (fun c_ _ => by rw [hp_4.2])
  refine s_popI E dL_law_764 ?_
  refine s_aload_n E dL_law_765 rfl rfl ?_
  refine s_xload_n E dL_law_766 rfl rfl ?_
  refine s_iload_n E dL_law_767 rfl rfl ?_
  refine s_iconst (v := 1) E dL_law_768 (by decide) ?_
  refine z_iadd (u := i.toInt) (v := 1) E dL_law_769 rfl (by decide) (by omega) (by omega) (fun z_7 hz_7 => ?_)
  refine s_sld E hX hb0 hb (z_in (u := z_7.toInt) rfl (by omega) (by omega)) dL_law_770 ?_
  refine s_top (y := (xs (i.toInt.toNat + 1))) (congrArg xs (by show z_7.toInt.toNat = _; omega)) ?_
  refine s_vI (As := [AI (xs (i.toInt.toNat + 1))]) (S := []) E (Z_X10_sees_95 l D aC b u_3 (xs (i.toInt.toNat + 1)) hI_5) cv_L_73 rfl rfl rfl (jv_lt (jv_rfl hI_5) (by decide)) (Nat.le_of_ble_eq_true rfl) (Nat.le_of_ble_eq_true rfl) ⟨(Nat.le_of_ble_eq_true rfl), (Nat.le_of_ble_eq_true rfl)⟩ (Nat.le_of_ble_eq_true rfl) dL_law_771 (fun r_8 u_9 hp_10 => ?_)
  have hI_11 : Iv u_9 := hp_10.2.1
  have hR_12 : RLs u_9 := rl_k hR_6 hp_10.2.2.1
  refine s_popI E dL_law_774 ?_
  refine s_goto (tgt := 2492) E dL_law_775 (by decide) ?_
  exact kk u_9 hI_11 hR_12
set_option maxRecDepth 20000 in
set_option maxHeartbeats 2000000 in
theorem lawc_14 {p : Program} {e : Env} {s : State} {m : MethodId} {below : List Frame} {meth : Method} {c : Code} (l : Launch) {b0 b n : Nat} {xs : Nat → Int32} {D : va_G} {aC : Nat → ClassId} (E : EE p s m meth c D aC b 4 cL_law RL ret) (hb : b = s.heap.size) (hX : va_X b0 n xs s s.heap) (hb0 : b0 < s.heap.size) (hn : n ≤ 3072) (w : XW) (hI : Iv w) (hR : RLs w) (i : Int32) (hi : 0 ≤ i.toInt ∧ i.toInt + 6 ≤ (n : Int)) (kk : ∀ u : XW, Iv u → RLs u → Wv p l e room_1 s m #[Value.ref b0] below meth c (lw_Z below #[Value.ref b0] s) D aC b 4 2492 [some (AX (b0 + 1)), some (AR 0), some (AR 95), some (AI i)] [] u 116 6683) : Wv p l e room_1 s m #[Value.ref b0] below meth c (lw_Z below #[Value.ref b0] s) D aC b 4 778 [some (AX (b0 + 1)), some (AR 0), some (AR 95), some (AI i)] [] w 116 6683 := by
  refine s_aload_n E dL_law_778 rfl rfl ?_
  refine s_xload_n E dL_law_779 rfl rfl ?_
  refine s_iload_n E dL_law_780 rfl rfl ?_
  refine s_iconst (v := 1) E dL_law_781 (by decide) ?_
  refine z_iadd (u := i.toInt) (v := 1) E dL_law_782 rfl (by decide) (by omega) (by omega) (fun z_1 hz_1 => ?_)
  refine s_sld E hX hb0 hb (z_in (u := z_1.toInt) rfl (by omega) (by omega)) dL_law_783 ?_
  refine s_top (y := (xs (i.toInt.toNat + 1))) (congrArg xs (by show z_1.toInt.toNat = _; omega)) ?_
  refine s_xload_n E dL_law_784 rfl rfl ?_
  refine s_iload_n E dL_law_785 rfl rfl ?_
  refine s_iconst (v := 2) E dL_law_786 (by decide) ?_
  refine z_iadd (u := i.toInt) (v := 2) E dL_law_787 rfl (by decide) (by omega) (by omega) (fun z_2 hz_2 => ?_)
  refine s_sld E hX hb0 hb (z_in (u := z_2.toInt) rfl (by omega) (by omega)) dL_law_788 ?_
  refine s_top (y := (xs (i.toInt.toNat + 2))) (congrArg xs (by show z_2.toInt.toNat = _; omega)) ?_
  refine s_vI (As := [AI (xs (i.toInt.toNat + 1)), AI (xs (i.toInt.toNat + 2))]) (S := []) E (Z_X9_meets_0 l D aC b w (xs (i.toInt.toNat + 1)) (xs (i.toInt.toNat + 2)) hI) cv_L_74 rfl rfl rfl (jv_lt (jv_rfl hI) (by decide)) (Nat.le_of_ble_eq_true rfl) (Nat.le_of_ble_eq_true rfl) ⟨(Nat.le_of_ble_eq_true rfl), (Nat.le_of_ble_eq_true rfl)⟩ (Nat.le_of_ble_eq_true rfl) dL_law_789 (fun r_3 u_4 hp_5 => ?_)
  have hI_6 : Iv u_4 := by rw [← hp_5.2]; exact hI
  have hR_7 : RLs u_4 := rl_k hR (fun c_ _ => by rw [hp_5.2])
  refine s_popI E dL_law_792 ?_
  refine s_aload_n E dL_law_793 rfl rfl ?_
  refine s_xload_n E dL_law_794 rfl rfl ?_
  refine s_iload_n E dL_law_795 rfl rfl ?_
  refine s_iconst (v := 1) E dL_law_796 (by decide) ?_
  refine z_iadd (u := i.toInt) (v := 1) E dL_law_797 rfl (by decide) (by omega) (by omega) (fun z_8 hz_8 => ?_)
  refine s_sld E hX hb0 hb (z_in (u := z_8.toInt) rfl (by omega) (by omega)) dL_law_798 ?_
  refine s_top (y := (xs (i.toInt.toNat + 1))) (congrArg xs (by show z_8.toInt.toNat = _; omega)) ?_
  refine s_xload_n E dL_law_799 rfl rfl ?_
  refine s_iload_n E dL_law_800 rfl rfl ?_
  refine s_iconst (v := 2) E dL_law_801 (by decide) ?_
  refine z_iadd (u := i.toInt) (v := 2) E dL_law_802 rfl (by decide) (by omega) (by omega) (fun z_9 hz_9 => ?_)
  refine s_sld E hX hb0 hb (z_in (u := z_9.toInt) rfl (by omega) (by omega)) dL_law_803 ?_
  refine s_top (y := (xs (i.toInt.toNat + 2))) (congrArg xs (by show z_9.toInt.toNat = _; omega)) ?_
  refine s_vI (As := [AI (xs (i.toInt.toNat + 1)), AI (xs (i.toInt.toNat + 2))]) (S := []) E (Z_X10_meets_95 l D aC b u_4 (xs (i.toInt.toNat + 1)) (xs (i.toInt.toNat + 2)) hI_6) cv_L_77 rfl rfl rfl (jv_lt (jv_rfl hI_6) (by decide)) (Nat.le_of_ble_eq_true rfl) (Nat.le_of_ble_eq_true rfl) ⟨(Nat.le_of_ble_eq_true rfl), (Nat.le_of_ble_eq_true rfl)⟩ (Nat.le_of_ble_eq_true rfl) dL_law_804 (fun r_10 u_11 hp_12 => ?_)
  have hI_13 : Iv u_11 := hp_12.2.1
  have hR_14 : RLs u_11 := rl_k hR_7 hp_12.2.2.1
  refine s_popI E dL_law_807 ?_
  refine s_goto (tgt := 2492) E dL_law_808 (by decide) ?_
  exact kk u_11 hI_13 hR_14
set_option maxRecDepth 20000 in
set_option maxHeartbeats 2000000 in
theorem lawc_15 {p : Program} {e : Env} {s : State} {m : MethodId} {below : List Frame} {meth : Method} {c : Code} (l : Launch) {b0 b n : Nat} {xs : Nat → Int32} {D : va_G} {aC : Nat → ClassId} (E : EE p s m meth c D aC b 4 cL_law RL ret) (hb : b = s.heap.size) (hX : va_X b0 n xs s s.heap) (hb0 : b0 < s.heap.size) (hn : n ≤ 3072) (w : XW) (hI : Iv w) (hR : RLs w) (i : Int32) (hi : 0 ≤ i.toInt ∧ i.toInt + 6 ≤ (n : Int)) (kk : ∀ u : XW, Iv u → RLs u → Wv p l e room_1 s m #[Value.ref b0] below meth c (lw_Z below #[Value.ref b0] s) D aC b 4 2492 [some (AX (b0 + 1)), some (AR 0), some (AR 95), some (AI i)] [] u 116 6683) : Wv p l e room_1 s m #[Value.ref b0] below meth c (lw_Z below #[Value.ref b0] s) D aC b 4 811 [some (AX (b0 + 1)), some (AR 0), some (AR 95), some (AI i)] [] w 116 6683 := by
  refine s_aload_n E dL_law_811 rfl rfl ?_
  refine s_xload_n E dL_law_812 rfl rfl ?_
  refine s_iload_n E dL_law_813 rfl rfl ?_
  refine s_iconst (v := 1) E dL_law_814 (by decide) ?_
  refine z_iadd (u := i.toInt) (v := 1) E dL_law_815 rfl (by decide) (by omega) (by omega) (fun z_1 hz_1 => ?_)
  refine s_sld E hX hb0 hb (z_in (u := z_1.toInt) rfl (by omega) (by omega)) dL_law_816 ?_
  refine s_top (y := (xs (i.toInt.toNat + 1))) (congrArg xs (by show z_1.toInt.toNat = _; omega)) ?_
  refine s_xload_n E dL_law_817 rfl rfl ?_
  refine s_iload_n E dL_law_818 rfl rfl ?_
  refine s_iconst (v := 2) E dL_law_819 (by decide) ?_
  refine z_iadd (u := i.toInt) (v := 2) E dL_law_820 rfl (by decide) (by omega) (by omega) (fun z_2 hz_2 => ?_)
  refine s_sld E hX hb0 hb (z_in (u := z_2.toInt) rfl (by omega) (by omega)) dL_law_821 ?_
  refine s_top (y := (xs (i.toInt.toNat + 2))) (congrArg xs (by show z_2.toInt.toNat = _; omega)) ?_
  refine s_vI (As := [AI (xs (i.toInt.toNat + 1)), AI (xs (i.toInt.toNat + 2))]) (S := []) E (Z_X9_often_0 l D aC b w (xs (i.toInt.toNat + 1)) (xs (i.toInt.toNat + 2)) hI) cv_L_78 rfl rfl rfl (jv_lt (jv_rfl hI) (by decide)) (Nat.le_of_ble_eq_true rfl) (Nat.le_of_ble_eq_true rfl) ⟨(Nat.le_of_ble_eq_true rfl), (Nat.le_of_ble_eq_true rfl)⟩ (Nat.le_of_ble_eq_true rfl) dL_law_822 (fun r_3 u_4 hp_5 => ?_)
  have hI_6 : Iv u_4 := by rw [← hp_5.2]; exact hI
  have hR_7 : RLs u_4 := rl_k hR (fun c_ _ => by rw [hp_5.2])
  refine s_popI E dL_law_825 ?_
  refine s_aload_n E dL_law_826 rfl rfl ?_
  refine s_xload_n E dL_law_827 rfl rfl ?_
  refine s_iload_n E dL_law_828 rfl rfl ?_
  refine s_iconst (v := 1) E dL_law_829 (by decide) ?_
  refine z_iadd (u := i.toInt) (v := 1) E dL_law_830 rfl (by decide) (by omega) (by omega) (fun z_8 hz_8 => ?_)
  refine s_sld E hX hb0 hb (z_in (u := z_8.toInt) rfl (by omega) (by omega)) dL_law_831 ?_
  refine s_top (y := (xs (i.toInt.toNat + 1))) (congrArg xs (by show z_8.toInt.toNat = _; omega)) ?_
  refine s_xload_n E dL_law_832 rfl rfl ?_
  refine s_iload_n E dL_law_833 rfl rfl ?_
  refine s_iconst (v := 2) E dL_law_834 (by decide) ?_
  refine z_iadd (u := i.toInt) (v := 2) E dL_law_835 rfl (by decide) (by omega) (by omega) (fun z_9 hz_9 => ?_)
  refine s_sld E hX hb0 hb (z_in (u := z_9.toInt) rfl (by omega) (by omega)) dL_law_836 ?_
  refine s_top (y := (xs (i.toInt.toNat + 2))) (congrArg xs (by show z_9.toInt.toNat = _; omega)) ?_
  refine s_vI (As := [AI (xs (i.toInt.toNat + 1)), AI (xs (i.toInt.toNat + 2))]) (S := []) E (Z_X10_often_95 l D aC b u_4 (xs (i.toInt.toNat + 1)) (xs (i.toInt.toNat + 2)) hI_6) cv_L_81 rfl rfl rfl (jv_lt (jv_rfl hI_6) (by decide)) (Nat.le_of_ble_eq_true rfl) (Nat.le_of_ble_eq_true rfl) ⟨(Nat.le_of_ble_eq_true rfl), (Nat.le_of_ble_eq_true rfl)⟩ (Nat.le_of_ble_eq_true rfl) dL_law_837 (fun r_10 u_11 hp_12 => ?_)
  have hI_13 : Iv u_11 := hp_12.2.1
  have hR_14 : RLs u_11 := rl_k hR_7 hp_12.2.2.1
  refine s_popI E dL_law_840 ?_
  refine s_goto (tgt := 2492) E dL_law_841 (by decide) ?_
  exact kk u_11 hI_13 hR_14
set_option maxRecDepth 20000 in
set_option maxHeartbeats 2000000 in
theorem lawc_16 {p : Program} {e : Env} {s : State} {m : MethodId} {below : List Frame} {meth : Method} {c : Code} (l : Launch) {b0 b n : Nat} {xs : Nat → Int32} {D : va_G} {aC : Nat → ClassId} (E : EE p s m meth c D aC b 4 cL_law RL ret) (hb : b = s.heap.size) (hX : va_X b0 n xs s s.heap) (hb0 : b0 < s.heap.size) (hn : n ≤ 3072) (w : XW) (hI : Iv w) (hR : RLs w) (i : Int32) (hi : 0 ≤ i.toInt ∧ i.toInt + 6 ≤ (n : Int)) (kk : ∀ u : XW, Iv u → RLs u → Wv p l e room_1 s m #[Value.ref b0] below meth c (lw_Z below #[Value.ref b0] s) D aC b 4 2492 [some (AX (b0 + 1)), some (AR 0), some (AR 95), some (AI i)] [] u 116 6683) : Wv p l e room_1 s m #[Value.ref b0] below meth c (lw_Z below #[Value.ref b0] s) D aC b 4 844 [some (AX (b0 + 1)), some (AR 0), some (AR 95), some (AI i)] [] w 116 6683 := by
  refine s_aload_n E dL_law_844 rfl rfl ?_
  refine s_xload_n E dL_law_845 rfl rfl ?_
  refine s_iload_n E dL_law_846 rfl rfl ?_
  refine s_iconst (v := 1) E dL_law_847 (by decide) ?_
  refine z_iadd (u := i.toInt) (v := 1) E dL_law_848 rfl (by decide) (by omega) (by omega) (fun z_1 hz_1 => ?_)
  refine s_sld E hX hb0 hb (z_in (u := z_1.toInt) rfl (by omega) (by omega)) dL_law_849 ?_
  refine s_top (y := (xs (i.toInt.toNat + 1))) (congrArg xs (by show z_1.toInt.toNat = _; omega)) ?_
  refine s_vI (As := [AI (xs (i.toInt.toNat + 1))]) (S := []) E (Z_X9_friends_0 l D aC b w (xs (i.toInt.toNat + 1)) hI) cv_L_82 rfl rfl rfl (jv_lt (jv_rfl hI) (by decide)) (Nat.le_of_ble_eq_true rfl) (Nat.le_of_ble_eq_true rfl) ⟨(Nat.le_of_ble_eq_true rfl), (Nat.le_of_ble_eq_true rfl)⟩ (Nat.le_of_ble_eq_true rfl) dL_law_850 (fun r_2 u_3 hp_4 => ?_)
  have hI_5 : Iv u_3 := by rw [← hp_4.2]; exact hI
  have hR_6 : RLs u_3 := rl_k hR (fun c_ _ => by rw [hp_4.2])
  refine s_popI E dL_law_853 ?_
  refine s_aload_n E dL_law_854 rfl rfl ?_
  refine s_xload_n E dL_law_855 rfl rfl ?_
  refine s_iload_n E dL_law_856 rfl rfl ?_
  refine s_iconst (v := 1) E dL_law_857 (by decide) ?_
  refine z_iadd (u := i.toInt) (v := 1) E dL_law_858 rfl (by decide) (by omega) (by omega) (fun z_7 hz_7 => ?_)
  refine s_sld E hX hb0 hb (z_in (u := z_7.toInt) rfl (by omega) (by omega)) dL_law_859 ?_
  refine s_top (y := (xs (i.toInt.toNat + 1))) (congrArg xs (by show z_7.toInt.toNat = _; omega)) ?_
  refine s_vI (As := [AI (xs (i.toInt.toNat + 1))]) (S := []) E (Z_X10_friends_95 l D aC b u_3 (xs (i.toInt.toNat + 1)) hI_5) cv_L_85 rfl rfl rfl (jv_lt (jv_rfl hI_5) (by decide)) (Nat.le_of_ble_eq_true rfl) (Nat.le_of_ble_eq_true rfl) ⟨(Nat.le_of_ble_eq_true rfl), (Nat.le_of_ble_eq_true rfl)⟩ (Nat.le_of_ble_eq_true rfl) dL_law_860 (fun r_8 u_9 hp_10 => ?_)
  have hI_11 : Iv u_9 := hp_10.2.1
  have hR_12 : RLs u_9 := rl_k hR_6 hp_10.2.2.1
  refine s_popI E dL_law_863 ?_
  refine s_goto (tgt := 2492) E dL_law_864 (by decide) ?_
  exact kk u_9 hI_11 hR_12
set_option maxRecDepth 20000 in
set_option maxHeartbeats 2000000 in
theorem lawc_17 {p : Program} {e : Env} {s : State} {m : MethodId} {below : List Frame} {meth : Method} {c : Code} (l : Launch) {b0 b n : Nat} {xs : Nat → Int32} {D : va_G} {aC : Nat → ClassId} (E : EE p s m meth c D aC b 4 cL_law RL ret) (hb : b = s.heap.size) (hX : va_X b0 n xs s s.heap) (hb0 : b0 < s.heap.size) (hn : n ≤ 3072) (w : XW) (hI : Iv w) (hR : RLs w) (i : Int32) (hi : 0 ≤ i.toInt ∧ i.toInt + 6 ≤ (n : Int)) (kk : ∀ u : XW, Iv u → RLs u → Wv p l e room_1 s m #[Value.ref b0] below meth c (lw_Z below #[Value.ref b0] s) D aC b 4 2492 [some (AX (b0 + 1)), some (AR 0), some (AR 95), some (AI i)] [] u 116 6683) : Wv p l e room_1 s m #[Value.ref b0] below meth c (lw_Z below #[Value.ref b0] s) D aC b 4 867 [some (AX (b0 + 1)), some (AR 0), some (AR 95), some (AI i)] [] w 116 6683 := by
  refine s_aload_n E dL_law_867 rfl rfl ?_
  refine s_vI (As := []) (S := []) E (Z_X9_crush_0 l D aC b w  hI) cv_L_86 rfl rfl rfl (jv_lt (jv_rfl hI) (by decide)) (Nat.le_of_ble_eq_true rfl) (Nat.le_of_ble_eq_true rfl) ⟨(Nat.le_of_ble_eq_true rfl), (Nat.le_of_ble_eq_true rfl)⟩ (Nat.le_of_ble_eq_true rfl) dL_law_868 (fun r_1 u_2 hp_3 => ?_)
  have hI_4 : Iv u_2 := by rw [← hp_3.2]; exact hI
  have hR_5 : RLs u_2 := rl_k hR (fun c_ _ => by rw [hp_3.2])
  refine s_popI E dL_law_871 ?_
  refine s_aload_n E dL_law_872 rfl rfl ?_
  refine s_vI (As := []) (S := []) E (Z_X10_crush_95 l D aC b u_2  hI_4) cv_L_89 rfl rfl rfl (jv_lt (jv_rfl hI_4) (by decide)) (Nat.le_of_ble_eq_true rfl) (Nat.le_of_ble_eq_true rfl) ⟨(Nat.le_of_ble_eq_true rfl), (Nat.le_of_ble_eq_true rfl)⟩ (Nat.le_of_ble_eq_true rfl) dL_law_873 (fun r_6 u_7 hp_8 => ?_)
  have hI_9 : Iv u_7 := hp_8.2.1
  have hR_10 : RLs u_7 := rl_k hR_5 hp_8.2.2.1
  refine s_popI E dL_law_876 ?_
  refine s_goto (tgt := 2492) E dL_law_877 (by decide) ?_
  exact kk u_7 hI_9 hR_10
set_option maxRecDepth 20000 in
set_option maxHeartbeats 2000000 in
theorem lawc_18 {p : Program} {e : Env} {s : State} {m : MethodId} {below : List Frame} {meth : Method} {c : Code} (l : Launch) {b0 b n : Nat} {xs : Nat → Int32} {D : va_G} {aC : Nat → ClassId} (E : EE p s m meth c D aC b 4 cL_law RL ret) (hb : b = s.heap.size) (hX : va_X b0 n xs s s.heap) (hb0 : b0 < s.heap.size) (hn : n ≤ 3072) (w : XW) (hI : Iv w) (hR : RLs w) (i : Int32) (hi : 0 ≤ i.toInt ∧ i.toInt + 6 ≤ (n : Int)) (kk : ∀ u : XW, Iv u → RLs u → Wv p l e room_1 s m #[Value.ref b0] below meth c (lw_Z below #[Value.ref b0] s) D aC b 4 2492 [some (AX (b0 + 1)), some (AR 0), some (AR 95), some (AI i)] [] u 116 6683) : Wv p l e room_1 s m #[Value.ref b0] below meth c (lw_Z below #[Value.ref b0] s) D aC b 4 880 [some (AX (b0 + 1)), some (AR 0), some (AR 95), some (AI i)] [] w 116 6683 := by
  refine s_aload_n E dL_law_880 rfl rfl ?_
  refine s_vI (As := []) (S := []) E (Z_X9_crushed_0 l D aC b w  hI) cv_L_90 rfl rfl rfl (jv_lt (jv_rfl hI) (by decide)) (Nat.le_of_ble_eq_true rfl) (Nat.le_of_ble_eq_true rfl) ⟨(Nat.le_of_ble_eq_true rfl), (Nat.le_of_ble_eq_true rfl)⟩ (Nat.le_of_ble_eq_true rfl) dL_law_881 (fun r_1 u_2 hp_3 => ?_)
  have hI_4 : Iv u_2 := by rw [← hp_3.2]; exact hI
  have hR_5 : RLs u_2 := rl_k hR (fun c_ _ => by rw [hp_3.2])
  refine s_popI E dL_law_884 ?_
  refine s_aload_n E dL_law_885 rfl rfl ?_
  refine s_vI (As := []) (S := []) E (Z_X10_crushed_95 l D aC b u_2  hI_4) cv_L_93 rfl rfl rfl (jv_lt (jv_rfl hI_4) (by decide)) (Nat.le_of_ble_eq_true rfl) (Nat.le_of_ble_eq_true rfl) ⟨(Nat.le_of_ble_eq_true rfl), (Nat.le_of_ble_eq_true rfl)⟩ (Nat.le_of_ble_eq_true rfl) dL_law_886 (fun r_6 u_7 hp_8 => ?_)
  have hI_9 : Iv u_7 := hp_8.2.1
  have hR_10 : RLs u_7 := rl_k hR_5 hp_8.2.2.1
  refine s_popI E dL_law_889 ?_
  refine s_goto (tgt := 2492) E dL_law_890 (by decide) ?_
  exact kk u_7 hI_9 hR_10
set_option maxRecDepth 20000 in
set_option maxHeartbeats 2000000 in
theorem lawc_19 {p : Program} {e : Env} {s : State} {m : MethodId} {below : List Frame} {meth : Method} {c : Code} (l : Launch) {b0 b n : Nat} {xs : Nat → Int32} {D : va_G} {aC : Nat → ClassId} (E : EE p s m meth c D aC b 4 cL_law RL ret) (hb : b = s.heap.size) (hX : va_X b0 n xs s s.heap) (hb0 : b0 < s.heap.size) (hn : n ≤ 3072) (w : XW) (hI : Iv w) (hR : RLs w) (i : Int32) (hi : 0 ≤ i.toInt ∧ i.toInt + 6 ≤ (n : Int)) (kk : ∀ u : XW, Iv u → RLs u → Wv p l e room_1 s m #[Value.ref b0] below meth c (lw_Z below #[Value.ref b0] s) D aC b 4 2492 [some (AX (b0 + 1)), some (AR 0), some (AR 95), some (AI i)] [] u 116 6683) : Wv p l e room_1 s m #[Value.ref b0] below meth c (lw_Z below #[Value.ref b0] s) D aC b 4 893 [some (AX (b0 + 1)), some (AR 0), some (AR 95), some (AI i)] [] w 116 6683 := by
  refine s_aload_n E dL_law_893 rfl rfl ?_
  refine s_xload_n E dL_law_894 rfl rfl ?_
  refine s_iload_n E dL_law_895 rfl rfl ?_
  refine s_iconst (v := 1) E dL_law_896 (by decide) ?_
  refine z_iadd (u := i.toInt) (v := 1) E dL_law_897 rfl (by decide) (by omega) (by omega) (fun z_1 hz_1 => ?_)
  refine s_sld E hX hb0 hb (z_in (u := z_1.toInt) rfl (by omega) (by omega)) dL_law_898 ?_
  refine s_top (y := (xs (i.toInt.toNat + 1))) (congrArg xs (by show z_1.toInt.toNat = _; omega)) ?_
  refine s_vI (As := [AI (xs (i.toInt.toNat + 1))]) (S := []) E (Z_X9_likes_0 l D aC b w (xs (i.toInt.toNat + 1)) hI) cv_L_94 rfl rfl rfl (jv_lt (jv_rfl hI) (by decide)) (Nat.le_of_ble_eq_true rfl) (Nat.le_of_ble_eq_true rfl) ⟨(Nat.le_of_ble_eq_true rfl), (Nat.le_of_ble_eq_true rfl)⟩ (Nat.le_of_ble_eq_true rfl) dL_law_899 (fun r_2 u_3 hp_4 => ?_)
  have hI_5 : Iv u_3 := by rw [← hp_4.2]; exact hI
  have hR_6 : RLs u_3 := rl_k hR (fun c_ _ => by rw [hp_4.2])
  refine s_popI E dL_law_902 ?_
  refine s_aload_n E dL_law_903 rfl rfl ?_
  refine s_xload_n E dL_law_904 rfl rfl ?_
  refine s_iload_n E dL_law_905 rfl rfl ?_
  refine s_iconst (v := 1) E dL_law_906 (by decide) ?_
  refine z_iadd (u := i.toInt) (v := 1) E dL_law_907 rfl (by decide) (by omega) (by omega) (fun z_7 hz_7 => ?_)
  refine s_sld E hX hb0 hb (z_in (u := z_7.toInt) rfl (by omega) (by omega)) dL_law_908 ?_
  refine s_top (y := (xs (i.toInt.toNat + 1))) (congrArg xs (by show z_7.toInt.toNat = _; omega)) ?_
  refine s_vI (As := [AI (xs (i.toInt.toNat + 1))]) (S := []) E (Z_X10_likes_95 l D aC b u_3 (xs (i.toInt.toNat + 1)) hI_5) cv_L_97 rfl rfl rfl (jv_lt (jv_rfl hI_5) (by decide)) (Nat.le_of_ble_eq_true rfl) (Nat.le_of_ble_eq_true rfl) ⟨(Nat.le_of_ble_eq_true rfl), (Nat.le_of_ble_eq_true rfl)⟩ (Nat.le_of_ble_eq_true rfl) dL_law_909 (fun r_8 u_9 hp_10 => ?_)
  have hI_11 : Iv u_9 := hp_10.2.1
  have hR_12 : RLs u_9 := rl_k hR_6 hp_10.2.2.1
  refine s_popI E dL_law_912 ?_
  refine s_goto (tgt := 2492) E dL_law_913 (by decide) ?_
  exact kk u_9 hI_11 hR_12
set_option maxRecDepth 20000 in
set_option maxHeartbeats 2000000 in
theorem lawc_20 {p : Program} {e : Env} {s : State} {m : MethodId} {below : List Frame} {meth : Method} {c : Code} (l : Launch) {b0 b n : Nat} {xs : Nat → Int32} {D : va_G} {aC : Nat → ClassId} (E : EE p s m meth c D aC b 4 cL_law RL ret) (hb : b = s.heap.size) (hX : va_X b0 n xs s s.heap) (hb0 : b0 < s.heap.size) (hn : n ≤ 3072) (w : XW) (hI : Iv w) (hR : RLs w) (i : Int32) (hi : 0 ≤ i.toInt ∧ i.toInt + 6 ≤ (n : Int)) (kk : ∀ u : XW, Iv u → RLs u → Wv p l e room_1 s m #[Value.ref b0] below meth c (lw_Z below #[Value.ref b0] s) D aC b 4 2492 [some (AX (b0 + 1)), some (AR 0), some (AR 95), some (AI i)] [] u 116 6683) : Wv p l e room_1 s m #[Value.ref b0] below meth c (lw_Z below #[Value.ref b0] s) D aC b 4 916 [some (AX (b0 + 1)), some (AR 0), some (AR 95), some (AI i)] [] w 116 6683 := by
  refine s_aload_n E dL_law_916 rfl rfl ?_
  refine s_xload_n E dL_law_917 rfl rfl ?_
  refine s_iload_n E dL_law_918 rfl rfl ?_
  refine s_iconst (v := 1) E dL_law_919 (by decide) ?_
  refine z_iadd (u := i.toInt) (v := 1) E dL_law_920 rfl (by decide) (by omega) (by omega) (fun z_1 hz_1 => ?_)
  refine s_sld E hX hb0 hb (z_in (u := z_1.toInt) rfl (by omega) (by omega)) dL_law_921 ?_
  refine s_top (y := (xs (i.toInt.toNat + 1))) (congrArg xs (by show z_1.toInt.toNat = _; omega)) ?_
  refine s_xload_n E dL_law_922 rfl rfl ?_
  refine s_iload_n E dL_law_923 rfl rfl ?_
  refine s_iconst (v := 2) E dL_law_924 (by decide) ?_
  refine z_iadd (u := i.toInt) (v := 2) E dL_law_925 rfl (by decide) (by omega) (by omega) (fun z_2 hz_2 => ?_)
  refine s_sld E hX hb0 hb (z_in (u := z_2.toInt) rfl (by omega) (by omega)) dL_law_926 ?_
  refine s_top (y := (xs (i.toInt.toNat + 2))) (congrArg xs (by show z_2.toInt.toNat = _; omega)) ?_
  refine s_xload_n E dL_law_927 rfl rfl ?_
  refine s_iload_n E dL_law_928 rfl rfl ?_
  refine s_iconst (v := 3) E dL_law_929 (by decide) ?_
  refine z_iadd (u := i.toInt) (v := 3) E dL_law_930 rfl (by decide) (by omega) (by omega) (fun z_3 hz_3 => ?_)
  refine s_sld E hX hb0 hb (z_in (u := z_3.toInt) rfl (by omega) (by omega)) dL_law_931 ?_
  refine s_top (y := (xs (i.toInt.toNat + 3))) (congrArg xs (by show z_3.toInt.toNat = _; omega)) ?_
  refine s_vI (As := [AI (xs (i.toInt.toNat + 1)), AI (xs (i.toInt.toNat + 2)), AI (xs (i.toInt.toNat + 3))]) (S := []) E (Z_X9_apart_0 l D aC b w (xs (i.toInt.toNat + 1)) (xs (i.toInt.toNat + 2)) (xs (i.toInt.toNat + 3)) hI) cv_L_98 rfl rfl rfl (jv_lt (jv_rfl hI) (by decide)) (Nat.le_of_ble_eq_true rfl) (Nat.le_of_ble_eq_true rfl) ⟨(Nat.le_of_ble_eq_true rfl), (Nat.le_of_ble_eq_true rfl)⟩ (Nat.le_of_ble_eq_true rfl) dL_law_932 (fun r_4 u_5 hp_6 => ?_)
  have hI_7 : Iv u_5 := by rw [← hp_6.2]; exact hI
  have hR_8 : RLs u_5 := rl_k hR (fun c_ _ => by rw [hp_6.2])
  refine s_popI E dL_law_935 ?_
  refine s_aload_n E dL_law_936 rfl rfl ?_
  refine s_xload_n E dL_law_937 rfl rfl ?_
  refine s_iload_n E dL_law_938 rfl rfl ?_
  refine s_iconst (v := 1) E dL_law_939 (by decide) ?_
  refine z_iadd (u := i.toInt) (v := 1) E dL_law_940 rfl (by decide) (by omega) (by omega) (fun z_9 hz_9 => ?_)
  refine s_sld E hX hb0 hb (z_in (u := z_9.toInt) rfl (by omega) (by omega)) dL_law_941 ?_
  refine s_top (y := (xs (i.toInt.toNat + 1))) (congrArg xs (by show z_9.toInt.toNat = _; omega)) ?_
  refine s_xload_n E dL_law_942 rfl rfl ?_
  refine s_iload_n E dL_law_943 rfl rfl ?_
  refine s_iconst (v := 2) E dL_law_944 (by decide) ?_
  refine z_iadd (u := i.toInt) (v := 2) E dL_law_945 rfl (by decide) (by omega) (by omega) (fun z_10 hz_10 => ?_)
  refine s_sld E hX hb0 hb (z_in (u := z_10.toInt) rfl (by omega) (by omega)) dL_law_946 ?_
  refine s_top (y := (xs (i.toInt.toNat + 2))) (congrArg xs (by show z_10.toInt.toNat = _; omega)) ?_
  refine s_xload_n E dL_law_947 rfl rfl ?_
  refine s_iload_n E dL_law_948 rfl rfl ?_
  refine s_iconst (v := 3) E dL_law_949 (by decide) ?_
  refine z_iadd (u := i.toInt) (v := 3) E dL_law_950 rfl (by decide) (by omega) (by omega) (fun z_11 hz_11 => ?_)
  refine s_sld E hX hb0 hb (z_in (u := z_11.toInt) rfl (by omega) (by omega)) dL_law_951 ?_
  refine s_top (y := (xs (i.toInt.toNat + 3))) (congrArg xs (by show z_11.toInt.toNat = _; omega)) ?_
  refine s_vI (As := [AI (xs (i.toInt.toNat + 1)), AI (xs (i.toInt.toNat + 2)), AI (xs (i.toInt.toNat + 3))]) (S := []) E (Z_X10_apart_95 l D aC b u_5 (xs (i.toInt.toNat + 1)) (xs (i.toInt.toNat + 2)) (xs (i.toInt.toNat + 3)) hI_7) cv_L_101 rfl rfl rfl (jv_lt (jv_rfl hI_7) (by decide)) (Nat.le_of_ble_eq_true rfl) (Nat.le_of_ble_eq_true rfl) ⟨(Nat.le_of_ble_eq_true rfl), (Nat.le_of_ble_eq_true rfl)⟩ (Nat.le_of_ble_eq_true rfl) dL_law_952 (fun r_12 u_13 hp_14 => ?_)
  have hI_15 : Iv u_13 := hp_14.2.1
  have hR_16 : RLs u_13 := rl_k hR_8 hp_14.2.2.1
  refine s_popI E dL_law_955 ?_
  refine s_goto (tgt := 2492) E dL_law_956 (by decide) ?_
  exact kk u_13 hI_15 hR_16
set_option maxRecDepth 20000 in
set_option maxHeartbeats 2000000 in
theorem lawc_21 {p : Program} {e : Env} {s : State} {m : MethodId} {below : List Frame} {meth : Method} {c : Code} (l : Launch) {b0 b n : Nat} {xs : Nat → Int32} {D : va_G} {aC : Nat → ClassId} (E : EE p s m meth c D aC b 4 cL_law RL ret) (hb : b = s.heap.size) (hX : va_X b0 n xs s s.heap) (hb0 : b0 < s.heap.size) (hn : n ≤ 3072) (w : XW) (hI : Iv w) (hR : RLs w) (i : Int32) (hi : 0 ≤ i.toInt ∧ i.toInt + 6 ≤ (n : Int)) (kk : ∀ u : XW, Iv u → RLs u → Wv p l e room_1 s m #[Value.ref b0] below meth c (lw_Z below #[Value.ref b0] s) D aC b 4 2492 [some (AX (b0 + 1)), some (AR 0), some (AR 95), some (AI i)] [] u 116 6683) : Wv p l e room_1 s m #[Value.ref b0] below meth c (lw_Z below #[Value.ref b0] s) D aC b 4 959 [some (AX (b0 + 1)), some (AR 0), some (AR 95), some (AI i)] [] w 116 6683 := by
  refine s_aload_n E dL_law_959 rfl rfl ?_
  refine s_xload_n E dL_law_960 rfl rfl ?_
  refine s_iload_n E dL_law_961 rfl rfl ?_
  refine s_iconst (v := 1) E dL_law_962 (by decide) ?_
  refine z_iadd (u := i.toInt) (v := 1) E dL_law_963 rfl (by decide) (by omega) (by omega) (fun z_1 hz_1 => ?_)
  refine s_sld E hX hb0 hb (z_in (u := z_1.toInt) rfl (by omega) (by omega)) dL_law_964 ?_
  refine s_top (y := (xs (i.toInt.toNat + 1))) (congrArg xs (by show z_1.toInt.toNat = _; omega)) ?_
  refine s_vI (As := [AI (xs (i.toInt.toNat + 1))]) (S := []) E (Z_X9_alone_0 l D aC b w (xs (i.toInt.toNat + 1)) hI) cv_L_102 rfl rfl rfl (jv_lt (jv_rfl hI) (by decide)) (Nat.le_of_ble_eq_true rfl) (Nat.le_of_ble_eq_true rfl) ⟨(Nat.le_of_ble_eq_true rfl), (Nat.le_of_ble_eq_true rfl)⟩ (Nat.le_of_ble_eq_true rfl) dL_law_965 (fun r_2 u_3 hp_4 => ?_)
  have hI_5 : Iv u_3 := by rw [← hp_4.2]; exact hI
  have hR_6 : RLs u_3 := rl_k hR (fun c_ _ => by rw [hp_4.2])
  refine s_popI E dL_law_968 ?_
  refine s_aload_n E dL_law_969 rfl rfl ?_
  refine s_xload_n E dL_law_970 rfl rfl ?_
  refine s_iload_n E dL_law_971 rfl rfl ?_
  refine s_iconst (v := 1) E dL_law_972 (by decide) ?_
  refine z_iadd (u := i.toInt) (v := 1) E dL_law_973 rfl (by decide) (by omega) (by omega) (fun z_7 hz_7 => ?_)
  refine s_sld E hX hb0 hb (z_in (u := z_7.toInt) rfl (by omega) (by omega)) dL_law_974 ?_
  refine s_top (y := (xs (i.toInt.toNat + 1))) (congrArg xs (by show z_7.toInt.toNat = _; omega)) ?_
  refine s_vI (As := [AI (xs (i.toInt.toNat + 1))]) (S := []) E (Z_X10_alone_95 l D aC b u_3 (xs (i.toInt.toNat + 1)) hI_5) cv_L_105 rfl rfl rfl (jv_lt (jv_rfl hI_5) (by decide)) (Nat.le_of_ble_eq_true rfl) (Nat.le_of_ble_eq_true rfl) ⟨(Nat.le_of_ble_eq_true rfl), (Nat.le_of_ble_eq_true rfl)⟩ (Nat.le_of_ble_eq_true rfl) dL_law_975 (fun r_8 u_9 hp_10 => ?_)
  have hI_11 : Iv u_9 := hp_10.2.1
  have hR_12 : RLs u_9 := rl_k hR_6 hp_10.2.2.1
  refine s_popI E dL_law_978 ?_
  refine s_goto (tgt := 2492) E dL_law_979 (by decide) ?_
  exact kk u_9 hI_11 hR_12
set_option maxRecDepth 20000 in
set_option maxHeartbeats 2000000 in
theorem lawc_22 {p : Program} {e : Env} {s : State} {m : MethodId} {below : List Frame} {meth : Method} {c : Code} (l : Launch) {b0 b n : Nat} {xs : Nat → Int32} {D : va_G} {aC : Nat → ClassId} (E : EE p s m meth c D aC b 4 cL_law RL ret) (hb : b = s.heap.size) (hX : va_X b0 n xs s s.heap) (hb0 : b0 < s.heap.size) (hn : n ≤ 3072) (w : XW) (hI : Iv w) (hR : RLs w) (i : Int32) (hi : 0 ≤ i.toInt ∧ i.toInt + 6 ≤ (n : Int)) (kk : ∀ u : XW, Iv u → RLs u → Wv p l e room_1 s m #[Value.ref b0] below meth c (lw_Z below #[Value.ref b0] s) D aC b 4 2492 [some (AX (b0 + 1)), some (AR 0), some (AR 95), some (AI i)] [] u 116 6683) : Wv p l e room_1 s m #[Value.ref b0] below meth c (lw_Z below #[Value.ref b0] s) D aC b 4 982 [some (AX (b0 + 1)), some (AR 0), some (AR 95), some (AI i)] [] w 116 6683 := by
  refine s_aload_n E dL_law_982 rfl rfl ?_
  refine s_xload_n E dL_law_983 rfl rfl ?_
  refine s_iload_n E dL_law_984 rfl rfl ?_
  refine s_iconst (v := 1) E dL_law_985 (by decide) ?_
  refine z_iadd (u := i.toInt) (v := 1) E dL_law_986 rfl (by decide) (by omega) (by omega) (fun z_1 hz_1 => ?_)
  refine s_sld E hX hb0 hb (z_in (u := z_1.toInt) rfl (by omega) (by omega)) dL_law_987 ?_
  refine s_top (y := (xs (i.toInt.toNat + 1))) (congrArg xs (by show z_1.toInt.toNat = _; omega)) ?_
  refine s_vI (As := [AI (xs (i.toInt.toNat + 1))]) (S := []) E (Z_X9_empty_0 l D aC b w (xs (i.toInt.toNat + 1)) hI) cv_L_106 rfl rfl rfl (jv_lt (jv_rfl hI) (by decide)) (Nat.le_of_ble_eq_true rfl) (Nat.le_of_ble_eq_true rfl) ⟨(Nat.le_of_ble_eq_true rfl), (Nat.le_of_ble_eq_true rfl)⟩ (Nat.le_of_ble_eq_true rfl) dL_law_988 (fun r_2 u_3 hp_4 => ?_)
  have hI_5 : Iv u_3 := by rw [← hp_4.2]; exact hI
  have hR_6 : RLs u_3 := rl_k hR (fun c_ _ => by rw [hp_4.2])
  refine s_popI E dL_law_991 ?_
  refine s_aload_n E dL_law_992 rfl rfl ?_
  refine s_xload_n E dL_law_993 rfl rfl ?_
  refine s_iload_n E dL_law_994 rfl rfl ?_
  refine s_iconst (v := 1) E dL_law_995 (by decide) ?_
  refine z_iadd (u := i.toInt) (v := 1) E dL_law_996 rfl (by decide) (by omega) (by omega) (fun z_7 hz_7 => ?_)
  refine s_sld E hX hb0 hb (z_in (u := z_7.toInt) rfl (by omega) (by omega)) dL_law_997 ?_
  refine s_top (y := (xs (i.toInt.toNat + 1))) (congrArg xs (by show z_7.toInt.toNat = _; omega)) ?_
  refine s_vI (As := [AI (xs (i.toInt.toNat + 1))]) (S := []) E (Z_X10_empty_95 l D aC b u_3 (xs (i.toInt.toNat + 1)) hI_5) cv_L_109 rfl rfl rfl (jv_lt (jv_rfl hI_5) (by decide)) (Nat.le_of_ble_eq_true rfl) (Nat.le_of_ble_eq_true rfl) ⟨(Nat.le_of_ble_eq_true rfl), (Nat.le_of_ble_eq_true rfl)⟩ (Nat.le_of_ble_eq_true rfl) dL_law_998 (fun r_8 u_9 hp_10 => ?_)
  have hI_11 : Iv u_9 := hp_10.2.1
  have hR_12 : RLs u_9 := rl_k hR_6 hp_10.2.2.1
  refine s_popI E dL_law_1001 ?_
  refine s_goto (tgt := 2492) E dL_law_1002 (by decide) ?_
  exact kk u_9 hI_11 hR_12
set_option maxRecDepth 20000 in
set_option maxHeartbeats 2000000 in
theorem lawc_23 {p : Program} {e : Env} {s : State} {m : MethodId} {below : List Frame} {meth : Method} {c : Code} (l : Launch) {b0 b n : Nat} {xs : Nat → Int32} {D : va_G} {aC : Nat → ClassId} (E : EE p s m meth c D aC b 4 cL_law RL ret) (hb : b = s.heap.size) (hX : va_X b0 n xs s s.heap) (hb0 : b0 < s.heap.size) (hn : n ≤ 3072) (w : XW) (hI : Iv w) (hR : RLs w) (i : Int32) (hi : 0 ≤ i.toInt ∧ i.toInt + 6 ≤ (n : Int)) (kk : ∀ u : XW, Iv u → RLs u → Wv p l e room_1 s m #[Value.ref b0] below meth c (lw_Z below #[Value.ref b0] s) D aC b 4 2492 [some (AX (b0 + 1)), some (AR 0), some (AR 95), some (AI i)] [] u 116 6683) : Wv p l e room_1 s m #[Value.ref b0] below meth c (lw_Z below #[Value.ref b0] s) D aC b 4 1005 [some (AX (b0 + 1)), some (AR 0), some (AR 95), some (AI i)] [] w 116 6683 := by
  refine s_aload_n E dL_law_1005 rfl rfl ?_
  refine s_xload_n E dL_law_1006 rfl rfl ?_
  refine s_iload_n E dL_law_1007 rfl rfl ?_
  refine s_iconst (v := 1) E dL_law_1008 (by decide) ?_
  refine z_iadd (u := i.toInt) (v := 1) E dL_law_1009 rfl (by decide) (by omega) (by omega) (fun z_1 hz_1 => ?_)
  refine s_sld E hX hb0 hb (z_in (u := z_1.toInt) rfl (by omega) (by omega)) dL_law_1010 ?_
  refine s_top (y := (xs (i.toInt.toNat + 1))) (congrArg xs (by show z_1.toInt.toNat = _; omega)) ?_
  refine s_vI (As := [AI (xs (i.toInt.toNat + 1))]) (S := []) E (Z_X9_late_0 l D aC b w (xs (i.toInt.toNat + 1)) hI) cv_L_110 rfl rfl rfl (jv_lt (jv_rfl hI) (by decide)) (Nat.le_of_ble_eq_true rfl) (Nat.le_of_ble_eq_true rfl) ⟨(Nat.le_of_ble_eq_true rfl), (Nat.le_of_ble_eq_true rfl)⟩ (Nat.le_of_ble_eq_true rfl) dL_law_1011 (fun r_2 u_3 hp_4 => ?_)
  have hI_5 : Iv u_3 := by rw [← hp_4.2]; exact hI
  have hR_6 : RLs u_3 := rl_k hR (fun c_ _ => by rw [hp_4.2])
  refine s_popI E dL_law_1014 ?_
  refine s_aload_n E dL_law_1015 rfl rfl ?_
  refine s_xload_n E dL_law_1016 rfl rfl ?_
  refine s_iload_n E dL_law_1017 rfl rfl ?_
  refine s_iconst (v := 1) E dL_law_1018 (by decide) ?_
  refine z_iadd (u := i.toInt) (v := 1) E dL_law_1019 rfl (by decide) (by omega) (by omega) (fun z_7 hz_7 => ?_)
  refine s_sld E hX hb0 hb (z_in (u := z_7.toInt) rfl (by omega) (by omega)) dL_law_1020 ?_
  refine s_top (y := (xs (i.toInt.toNat + 1))) (congrArg xs (by show z_7.toInt.toNat = _; omega)) ?_
  refine s_vI (As := [AI (xs (i.toInt.toNat + 1))]) (S := []) E (Z_X10_late_95 l D aC b u_3 (xs (i.toInt.toNat + 1)) hI_5) cv_L_113 rfl rfl rfl (jv_lt (jv_rfl hI_5) (by decide)) (Nat.le_of_ble_eq_true rfl) (Nat.le_of_ble_eq_true rfl) ⟨(Nat.le_of_ble_eq_true rfl), (Nat.le_of_ble_eq_true rfl)⟩ (Nat.le_of_ble_eq_true rfl) dL_law_1021 (fun r_8 u_9 hp_10 => ?_)
  have hI_11 : Iv u_9 := hp_10.2.1
  have hR_12 : RLs u_9 := rl_k hR_6 hp_10.2.2.1
  refine s_popI E dL_law_1024 ?_
  refine s_goto (tgt := 2492) E dL_law_1025 (by decide) ?_
  exact kk u_9 hI_11 hR_12
