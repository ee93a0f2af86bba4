set_option maxRecDepth 20000 in
set_option maxHeartbeats 2000000 in
theorem lawc_48 {p : Program} {e : Env} {s : State} {m : MethodId} {below : List Frame} {meth : Method} {c : Code} (l : Launch) {b0 b n : Nat} {xs : Nat → Int32} {D : va_G} {aC : Nat → ClassId} (E : EE p s m meth c D aC b 4 cL_law RL ret) (hb : b = s.heap.size) (hX : va_X b0 n xs s s.heap) (hb0 : b0 < s.heap.size) (hn : n ≤ 3072) (w : XW) (hI : Iv w) (hR : RLs w) (i : Int32) (hi : 0 ≤ i.toInt ∧ i.toInt + 6 ≤ (n : Int)) (kk : ∀ u : XW, Iv u → RLs u → Wv p l e room_1 s m #[Value.ref b0] below meth c (lw_Z below #[Value.ref b0] s) D aC b 4 2492 [some (AX (b0 + 1)), some (AR 0), some (AR 95), some (AI i)] [] u 116 6683) : Wv p l e room_1 s m #[Value.ref b0] below meth c (lw_Z below #[Value.ref b0] s) D aC b 4 1690 [some (AX (b0 + 1)), some (AR 0), some (AR 95), some (AI i)] [] w 116 6683 := by
  refine s_aload_n E dL_law_1690 rfl rfl ?_
  refine s_xload_n E dL_law_1691 rfl rfl ?_
  refine s_iload_n E dL_law_1692 rfl rfl ?_
  refine s_iconst (v := 1) E dL_law_1693 (by decide) ?_
  refine z_iadd (u := i.toInt) (v := 1) E dL_law_1694 rfl (by decide) (by omega) (by omega) (fun z_1 hz_1 => ?_)
  refine s_sld E hX hb0 hb (z_in (u := z_1.toInt) rfl (by omega) (by omega)) dL_law_1695 ?_
  refine s_top (y := (xs (i.toInt.toNat + 1))) (congrArg xs (by show z_1.toInt.toNat = _; omega)) ?_
  refine s_vI (As := [AI (xs (i.toInt.toNat + 1))]) (S := []) E (Z_X9_under_0 l D aC b w (xs (i.toInt.toNat + 1)) hI) cv_L_211 rfl rfl rfl (jv_lt (jv_rfl hI) (by decide)) (Nat.le_of_ble_eq_true rfl) (Nat.le_of_ble_eq_true rfl) ⟨(Nat.le_of_ble_eq_true rfl), (Nat.le_of_ble_eq_true rfl)⟩ (Nat.le_of_ble_eq_true rfl) dL_law_1696 (fun r_2 u_3 hp_4 => ?_)
  have hI_5 : Iv u_3 := by rw [← hp_4.2]; exact hI
  have hR_6 : RLs u_3 := rl_k hR (fun c_ _ => by rw [hp_4.2])
  refine s_popI E dL_law_1699 ?_
  refine s_aload_n E dL_law_1700 rfl rfl ?_
  refine s_xload_n E dL_law_1701 rfl rfl ?_
  refine s_iload_n E dL_law_1702 rfl rfl ?_
  refine s_iconst (v := 1) E dL_law_1703 (by decide) ?_
  refine z_iadd (u := i.toInt) (v := 1) E dL_law_1704 rfl (by decide) (by omega) (by omega) (fun z_7 hz_7 => ?_)
  refine s_sld E hX hb0 hb (z_in (u := z_7.toInt) rfl (by omega) (by omega)) dL_law_1705 ?_
  refine s_top (y := (xs (i.toInt.toNat + 1))) (congrArg xs (by show z_7.toInt.toNat = _; omega)) ?_
  refine s_vI (As := [AI (xs (i.toInt.toNat + 1))]) (S := []) E (Z_X10_under_95 l D aC b u_3 (xs (i.toInt.toNat + 1)) hI_5) cv_L_214 rfl rfl rfl (jv_lt (jv_rfl hI_5) (by decide)) (Nat.le_of_ble_eq_true rfl) (Nat.le_of_ble_eq_true rfl) ⟨(Nat.le_of_ble_eq_true rfl), (Nat.le_of_ble_eq_true rfl)⟩ (Nat.le_of_ble_eq_true rfl) dL_law_1706 (fun r_8 u_9 hp_10 => ?_)
  have hI_11 : Iv u_9 := hp_10.2.1
  have hR_12 : RLs u_9 := rl_k hR_6 hp_10.2.2.1
  refine s_popI E dL_law_1709 ?_
  refine s_goto (tgt := 2492) E dL_law_1710 (by decide) ?_
  exact kk u_9 hI_11 hR_12
set_option maxRecDepth 20000 in
set_option maxHeartbeats 2000000 in
theorem lawc_49 {p : Program} {e : Env} {s : State} {m : MethodId} {below : List Frame} {meth : Method} {c : Code} (l : Launch) {b0 b n : Nat} {xs : Nat → Int32} {D : va_G} {aC : Nat → ClassId} (E : EE p s m meth c D aC b 4 cL_law RL ret) (hb : b = s.heap.size) (hX : va_X b0 n xs s s.heap) (hb0 : b0 < s.heap.size) (hn : n ≤ 3072) (w : XW) (hI : Iv w) (hR : RLs w) (i : Int32) (hi : 0 ≤ i.toInt ∧ i.toInt + 6 ≤ (n : Int)) (kk : ∀ u : XW, Iv u → RLs u → Wv p l e room_1 s m #[Value.ref b0] below meth c (lw_Z below #[Value.ref b0] s) D aC b 4 2492 [some (AX (b0 + 1)), some (AR 0), some (AR 95), some (AI i)] [] u 116 6683) : Wv p l e room_1 s m #[Value.ref b0] below meth c (lw_Z below #[Value.ref b0] s) D aC b 4 1713 [some (AX (b0 + 1)), some (AR 0), some (AR 95), some (AI i)] [] w 116 6683 := by
  refine s_aload_n E dL_law_1713 rfl rfl ?_
  refine s_xload_n E dL_law_1714 rfl rfl ?_
  refine s_iload_n E dL_law_1715 rfl rfl ?_
  refine s_iconst (v := 1) E dL_law_1716 (by decide) ?_
  refine z_iadd (u := i.toInt) (v := 1) E dL_law_1717 rfl (by decide) (by omega) (by omega) (fun z_1 hz_1 => ?_)
  refine s_sld E hX hb0 hb (z_in (u := z_1.toInt) rfl (by omega) (by omega)) dL_law_1718 ?_
  refine s_top (y := (xs (i.toInt.toNat + 1))) (congrArg xs (by show z_1.toInt.toNat = _; omega)) ?_
  refine s_vI (As := [AI (xs (i.toInt.toNat + 1))]) (S := []) E (Z_X9_holds_0 l D aC b w (xs (i.toInt.toNat + 1)) hI) cv_L_215 rfl rfl rfl (jv_lt (jv_rfl hI) (by decide)) (Nat.le_of_ble_eq_true rfl) (Nat.le_of_ble_eq_true rfl) ⟨(Nat.le_of_ble_eq_true rfl), (Nat.le_of_ble_eq_true rfl)⟩ (Nat.le_of_ble_eq_true rfl) dL_law_1719 (fun r_2 u_3 hp_4 => ?_)
  have hI_5 : Iv u_3 := hp_4.2.1
  have hR_6 : RLs u_3 := rl_k hR hp_4.2.2.1
  refine s_popI E dL_law_1722 ?_
  refine s_aload_n E dL_law_1723 rfl rfl ?_
  refine s_xload_n E dL_law_1724 rfl rfl ?_
  refine s_iload_n E dL_law_1725 rfl rfl ?_
  refine s_iconst (v := 1) E dL_law_1726 (by decide) ?_
  refine z_iadd (u := i.toInt) (v := 1) E dL_law_1727 rfl (by decide) (by omega) (by omega) (fun z_7 hz_7 => ?_)
  refine s_sld E hX hb0 hb (z_in (u := z_7.toInt) rfl (by omega) (by omega)) dL_law_1728 ?_
  refine s_top (y := (xs (i.toInt.toNat + 1))) (congrArg xs (by show z_7.toInt.toNat = _; omega)) ?_
  refine s_vI (As := [AI (xs (i.toInt.toNat + 1))]) (S := []) E (Z_X10_holds_95 l D aC b u_3 (xs (i.toInt.toNat + 1)) hI_5) cv_L_218 rfl rfl rfl (jv_lt (jv_rfl hI_5) (by decide)) (Nat.le_of_ble_eq_true rfl) (Nat.le_of_ble_eq_true rfl) ⟨(Nat.le_of_ble_eq_true rfl), (Nat.le_of_ble_eq_true rfl)⟩ (Nat.le_of_ble_eq_true rfl) dL_law_1729 (fun r_8 u_9 hp_10 => ?_)
  have hI_11 : Iv u_9 := hp_10.2.1
  have hR_12 : RLs u_9 := rl_k hR_6 hp_10.2.2.1
  refine s_popI E dL_law_1732 ?_
  refine s_goto (tgt := 2492) E dL_law_1733 (by decide) ?_
  exact kk u_9 hI_11 hR_12
set_option maxRecDepth 20000 in
set_option maxHeartbeats 2000000 in
theorem lawc_50 {p : Program} {e : Env} {s : State} {m : MethodId} {below : List Frame} {meth : Method} {c : Code} (l : Launch) {b0 b n : Nat} {xs : Nat → Int32} {D : va_G} {aC : Nat → ClassId} (E : EE p s m meth c D aC b 4 cL_law RL ret) (hb : b = s.heap.size) (hX : va_X b0 n xs s s.heap) (hb0 : b0 < s.heap.size) (hn : n ≤ 3072) (w : XW) (hI : Iv w) (hR : RLs w) (i : Int32) (hi : 0 ≤ i.toInt ∧ i.toInt + 6 ≤ (n : Int)) (kk : ∀ u : XW, Iv u → RLs u → Wv p l e room_1 s m #[Value.ref b0] below meth c (lw_Z below #[Value.ref b0] s) D aC b 4 2492 [some (AX (b0 + 1)), some (AR 0), some (AR 95), some (AI i)] [] u 116 6683) : Wv p l e room_1 s m #[Value.ref b0] below meth c (lw_Z below #[Value.ref b0] s) D aC b 4 1736 [some (AX (b0 + 1)), some (AR 0), some (AR 95), some (AI i)] [] w 116 6683 := by
  refine s_aload_n E dL_law_1736 rfl rfl ?_
  refine s_xload_n E dL_law_1737 rfl rfl ?_
  refine s_iload_n E dL_law_1738 rfl rfl ?_
  refine s_iconst (v := 1) E dL_law_1739 (by decide) ?_
  refine z_iadd (u := i.toInt) (v := 1) E dL_law_1740 rfl (by decide) (by omega) (by omega) (fun z_1 hz_1 => ?_)
  refine s_sld E hX hb0 hb (z_in (u := z_1.toInt) rfl (by omega) (by omega)) dL_law_1741 ?_
  refine s_top (y := (xs (i.toInt.toNat + 1))) (congrArg xs (by show z_1.toInt.toNat = _; omega)) ?_
  refine s_vI (As := [AI (xs (i.toInt.toNat + 1))]) (S := []) E (Z_X9_power_0 l D aC b w (xs (i.toInt.toNat + 1)) hI) cv_L_219 rfl rfl rfl (jv_lt (jv_rfl hI) (by decide)) (Nat.le_of_ble_eq_true rfl) (Nat.le_of_ble_eq_true rfl) ⟨(Nat.le_of_ble_eq_true rfl), (Nat.le_of_ble_eq_true rfl)⟩ (Nat.le_of_ble_eq_true rfl) dL_law_1742 (fun r_2 u_3 hp_4 => ?_)
  have hI_5 : Iv u_3 := hp_4.2.1
  have hR_6 : RLs u_3 := rl_k hR hp_4.2.2.1
  refine s_popI E dL_law_1745 ?_
  refine s_aload_n E dL_law_1746 rfl rfl ?_
  refine s_xload_n E dL_law_1747 rfl rfl ?_
  refine s_iload_n E dL_law_1748 rfl rfl ?_
  refine s_iconst (v := 1) E dL_law_1749 (by decide) ?_
  refine z_iadd (u := i.toInt) (v := 1) E dL_law_1750 rfl (by decide) (by omega) (by omega) (fun z_7 hz_7 => ?_)
  refine s_sld E hX hb0 hb (z_in (u := z_7.toInt) rfl (by omega) (by omega)) dL_law_1751 ?_
  refine s_top (y := (xs (i.toInt.toNat + 1))) (congrArg xs (by show z_7.toInt.toNat = _; omega)) ?_
  refine s_vI (As := [AI (xs (i.toInt.toNat + 1))]) (S := []) E (Z_X10_power_95 l D aC b u_3 (xs (i.toInt.toNat + 1)) hI_5) cv_L_222 rfl rfl rfl (jv_lt (jv_rfl hI_5) (by decide)) (Nat.le_of_ble_eq_true rfl) (Nat.le_of_ble_eq_true rfl) ⟨(Nat.le_of_ble_eq_true rfl), (Nat.le_of_ble_eq_true rfl)⟩ (Nat.le_of_ble_eq_true rfl) dL_law_1752 (fun r_8 u_9 hp_10 => ?_)
  have hI_11 : Iv u_9 := hp_10.2.1
  have hR_12 : RLs u_9 := rl_k hR_6 hp_10.2.2.1
  refine s_popI E dL_law_1755 ?_
  refine s_goto (tgt := 2492) E dL_law_1756 (by decide) ?_
  exact kk u_9 hI_11 hR_12
set_option maxRecDepth 20000 in
set_option maxHeartbeats 2000000 in
theorem lawc_51 {p : Program} {e : Env} {s : State} {m : MethodId} {below : List Frame} {meth : Method} {c : Code} (l : Launch) {b0 b n : Nat} {xs : Nat → Int32} {D : va_G} {aC : Nat → ClassId} (E : EE p s m meth c D aC b 4 cL_law RL ret) (hb : b = s.heap.size) (hX : va_X b0 n xs s s.heap) (hb0 : b0 < s.heap.size) (hn : n ≤ 3072) (w : XW) (hI : Iv w) (hR : RLs w) (i : Int32) (hi : 0 ≤ i.toInt ∧ i.toInt + 6 ≤ (n : Int)) (kk : ∀ u : XW, Iv u → RLs u → Wv p l e room_1 s m #[Value.ref b0] below meth c (lw_Z below #[Value.ref b0] s) D aC b 4 2492 [some (AX (b0 + 1)), some (AR 0), some (AR 95), some (AI i)] [] u 116 6683) : Wv p l e room_1 s m #[Value.ref b0] below meth c (lw_Z below #[Value.ref b0] s) D aC b 4 1759 [some (AX (b0 + 1)), some (AR 0), some (AR 95), some (AI i)] [] w 116 6683 := by
  refine s_aload_n E dL_law_1759 rfl rfl ?_
  refine s_xload_n E dL_law_1760 rfl rfl ?_
  refine s_iload_n E dL_law_1761 rfl rfl ?_
  refine s_iconst (v := 1) E dL_law_1762 (by decide) ?_
  refine z_iadd (u := i.toInt) (v := 1) E dL_law_1763 rfl (by decide) (by omega) (by omega) (fun z_1 hz_1 => ?_)
  refine s_sld E hX hb0 hb (z_in (u := z_1.toInt) rfl (by omega) (by omega)) dL_law_1764 ?_
  refine s_top (y := (xs (i.toInt.toNat + 1))) (congrArg xs (by show z_1.toInt.toNat = _; omega)) ?_
  refine s_xload_n E dL_law_1765 rfl rfl ?_
  refine s_iload_n E dL_law_1766 rfl rfl ?_
  refine s_iconst (v := 2) E dL_law_1767 (by decide) ?_
  refine z_iadd (u := i.toInt) (v := 2) E dL_law_1768 rfl (by decide) (by omega) (by omega) (fun z_2 hz_2 => ?_)
  refine s_sld E hX hb0 hb (z_in (u := z_2.toInt) rfl (by omega) (by omega)) dL_law_1769 ?_
  refine s_top (y := (xs (i.toInt.toNat + 2))) (congrArg xs (by show z_2.toInt.toNat = _; omega)) ?_
  refine s_vI (As := [AI (xs (i.toInt.toNat + 1)), AI (xs (i.toInt.toNat + 2))]) (S := []) E (Z_X9_part_0 l D aC b w (xs (i.toInt.toNat + 1)) (xs (i.toInt.toNat + 2)) hI) cv_L_223 rfl rfl rfl (jv_lt (jv_rfl hI) (by decide)) (Nat.le_of_ble_eq_true rfl) (Nat.le_of_ble_eq_true rfl) ⟨(Nat.le_of_ble_eq_true rfl), (Nat.le_of_ble_eq_true rfl)⟩ (Nat.le_of_ble_eq_true rfl) dL_law_1770 (fun r_3 u_4 hp_5 => ?_)
  have hI_6 : Iv u_4 := hp_5.2.1
  have hR_7 : RLs u_4 := rl_k hR hp_5.2.2.1
  refine s_popI E dL_law_1773 ?_
  refine s_aload_n E dL_law_1774 rfl rfl ?_
  refine s_xload_n E dL_law_1775 rfl rfl ?_
  refine s_iload_n E dL_law_1776 rfl rfl ?_
  refine s_iconst (v := 1) E dL_law_1777 (by decide) ?_
  refine z_iadd (u := i.toInt) (v := 1) E dL_law_1778 rfl (by decide) (by omega) (by omega) (fun z_8 hz_8 => ?_)
  refine s_sld E hX hb0 hb (z_in (u := z_8.toInt) rfl (by omega) (by omega)) dL_law_1779 ?_
  refine s_top (y := (xs (i.toInt.toNat + 1))) (congrArg xs (by show z_8.toInt.toNat = _; omega)) ?_
  refine s_xload_n E dL_law_1780 rfl rfl ?_
  refine s_iload_n E dL_law_1781 rfl rfl ?_
  refine s_iconst (v := 2) E dL_law_1782 (by decide) ?_
  refine z_iadd (u := i.toInt) (v := 2) E dL_law_1783 rfl (by decide) (by omega) (by omega) (fun z_9 hz_9 => ?_)
  refine s_sld E hX hb0 hb (z_in (u := z_9.toInt) rfl (by omega) (by omega)) dL_law_1784 ?_
  refine s_top (y := (xs (i.toInt.toNat + 2))) (congrArg xs (by show z_9.toInt.toNat = _; omega)) ?_
  refine s_vI (As := [AI (xs (i.toInt.toNat + 1)), AI (xs (i.toInt.toNat + 2))]) (S := []) E (Z_X10_part_95 l D aC b u_4 (xs (i.toInt.toNat + 1)) (xs (i.toInt.toNat + 2)) hI_6) cv_L_226 rfl rfl rfl (jv_lt (jv_rfl hI_6) (by decide)) (Nat.le_of_ble_eq_true rfl) (Nat.le_of_ble_eq_true rfl) ⟨(Nat.le_of_ble_eq_true rfl), (Nat.le_of_ble_eq_true rfl)⟩ (Nat.le_of_ble_eq_true rfl) dL_law_1785 (fun r_10 u_11 hp_12 => ?_)
  have hI_13 : Iv u_11 := hp_12.2.1
  have hR_14 : RLs u_11 := rl_k hR_7 hp_12.2.2.1
  refine s_popI E dL_law_1788 ?_
  refine s_goto (tgt := 2492) E dL_law_1789 (by decide) ?_
  exact kk u_11 hI_13 hR_14
set_option maxRecDepth 20000 in
set_option maxHeartbeats 2000000 in
theorem lawc_52 {p : Program} {e : Env} {s : State} {m : MethodId} {below : List Frame} {meth : Method} {c : Code} (l : Launch) {b0 b n : Nat} {xs : Nat → Int32} {D : va_G} {aC : Nat → ClassId} (E : EE p s m meth c D aC b 4 cL_law RL ret) (hb : b = s.heap.size) (hX : va_X b0 n xs s s.heap) (hb0 : b0 < s.heap.size) (hn : n ≤ 3072) (w : XW) (hI : Iv w) (hR : RLs w) (i : Int32) (hi : 0 ≤ i.toInt ∧ i.toInt + 6 ≤ (n : Int)) (kk : ∀ u : XW, Iv u → RLs u → Wv p l e room_1 s m #[Value.ref b0] below meth c (lw_Z below #[Value.ref b0] s) D aC b 4 2492 [some (AX (b0 + 1)), some (AR 0), some (AR 95), some (AI i)] [] u 116 6683) : Wv p l e room_1 s m #[Value.ref b0] below meth c (lw_Z below #[Value.ref b0] s) D aC b 4 1792 [some (AX (b0 + 1)), some (AR 0), some (AR 95), some (AI i)] [] w 116 6683 := by
  refine s_aload_n E dL_law_1792 rfl rfl ?_
  refine s_vI (As := []) (S := []) E (Z_X9_cabinet_0 l D aC b w  hI) cv_L_227 rfl rfl rfl (jv_lt (jv_rfl hI) (by decide)) (Nat.le_of_ble_eq_true rfl) (Nat.le_of_ble_eq_true rfl) ⟨(Nat.le_of_ble_eq_true rfl), (Nat.le_of_ble_eq_true rfl)⟩ (Nat.le_of_ble_eq_true rfl) dL_law_1793 (fun r_1 u_2 hp_3 => ?_)
  have hI_4 : Iv u_2 := hp_3.2.1
  have hR_5 : RLs u_2 := rl_k hR hp_3.2.2.1
  refine s_popI E dL_law_1796 ?_
  refine s_aload_n E dL_law_1797 rfl rfl ?_
  refine s_vI (As := []) (S := []) E (Z_X10_cabinet_95 l D aC b u_2  hI_4) cv_L_230 rfl rfl rfl (jv_lt (jv_rfl hI_4) (by decide)) (Nat.le_of_ble_eq_true rfl) (Nat.le_of_ble_eq_true rfl) ⟨(Nat.le_of_ble_eq_true rfl), (Nat.le_of_ble_eq_true rfl)⟩ (Nat.le_of_ble_eq_true rfl) dL_law_1798 (fun r_6 u_7 hp_8 => ?_)
  have hI_9 : Iv u_7 := hp_8.2.1
  have hR_10 : RLs u_7 := rl_k hR_5 hp_8.2.2.1
  refine s_popI E dL_law_1801 ?_
  refine s_goto (tgt := 2492) E dL_law_1802 (by decide) ?_
  exact kk u_7 hI_9 hR_10
set_option maxRecDepth 20000 in
set_option maxHeartbeats 2000000 in
theorem lawc_53 {p : Program} {e : Env} {s : State} {m : MethodId} {below : List Frame} {meth : Method} {c : Code} (l : Launch) {b0 b n : Nat} {xs : Nat → Int32} {D : va_G} {aC : Nat → ClassId} (E : EE p s m meth c D aC b 4 cL_law RL ret) (hb : b = s.heap.size) (hX : va_X b0 n xs s s.heap) (hb0 : b0 < s.heap.size) (hn : n ≤ 3072) (w : XW) (hI : Iv w) (hR : RLs w) (i : Int32) (hi : 0 ≤ i.toInt ∧ i.toInt + 6 ≤ (n : Int)) (kk : ∀ u : XW, Iv u → RLs u → Wv p l e room_1 s m #[Value.ref b0] below meth c (lw_Z below #[Value.ref b0] s) D aC b 4 2492 [some (AX (b0 + 1)), some (AR 0), some (AR 95), some (AI i)] [] u 116 6683) : Wv p l e room_1 s m #[Value.ref b0] below meth c (lw_Z below #[Value.ref b0] s) D aC b 4 1805 [some (AX (b0 + 1)), some (AR 0), some (AR 95), some (AI i)] [] w 116 6683 := by
  refine s_aload_n E dL_law_1805 rfl rfl ?_
  refine s_vI (As := []) (S := []) E (Z_X9_cabinets_0 l D aC b w  hI) cv_L_231 rfl rfl rfl (jv_lt (jv_rfl hI) (by decide)) (Nat.le_of_ble_eq_true rfl) (Nat.le_of_ble_eq_true rfl) ⟨(Nat.le_of_ble_eq_true rfl), (Nat.le_of_ble_eq_true rfl)⟩ (Nat.le_of_ble_eq_true rfl) dL_law_1806 (fun r_1 u_2 hp_3 => ?_)
  have hI_4 : Iv u_2 := hp_3.2.1
  have hR_5 : RLs u_2 := rl_k hR hp_3.2.2.1
  refine s_popI E dL_law_1809 ?_
  refine s_aload_n E dL_law_1810 rfl rfl ?_
  refine s_vI (As := []) (S := []) E (Z_X10_cabinets_95 l D aC b u_2  hI_4) cv_L_234 rfl rfl rfl (jv_lt (jv_rfl hI_4) (by decide)) (Nat.le_of_ble_eq_true rfl) (Nat.le_of_ble_eq_true rfl) ⟨(Nat.le_of_ble_eq_true rfl), (Nat.le_of_ble_eq_true rfl)⟩ (Nat.le_of_ble_eq_true rfl) dL_law_1811 (fun r_6 u_7 hp_8 => ?_)
  have hI_9 : Iv u_7 := hp_8.2.1
  have hR_10 : RLs u_7 := rl_k hR_5 hp_8.2.2.1
  refine s_popI E dL_law_1814 ?_
  refine s_goto (tgt := 2492) E dL_law_1815 (by decide) ?_
  exact kk u_7 hI_9 hR_10
set_option maxRecDepth 20000 in
set_option maxHeartbeats 2000000 in
theorem lawc_54 {p : Program} {e : Env} {s : State} {m : MethodId} {below : List Frame} {meth : Method} {c : Code} (l : Launch) {b0 b n : Nat} {xs : Nat → Int32} {D : va_G} {aC : Nat → ClassId} (E : EE p s m meth c D aC b 4 cL_law RL ret) (hb : b = s.heap.size) (hX : va_X b0 n xs s s.heap) (hb0 : b0 < s.heap.size) (hn : n ≤ 3072) (w : XW) (hI : Iv w) (hR : RLs w) (i : Int32) (hi : 0 ≤ i.toInt ∧ i.toInt + 6 ≤ (n : Int)) (kk : ∀ u : XW, Iv u → RLs u → Wv p l e room_1 s m #[Value.ref b0] below meth c (lw_Z below #[Value.ref b0] s) D aC b 4 2492 [some (AX (b0 + 1)), some (AR 0), some (AR 95), some (AI i)] [] u 116 6683) : Wv p l e room_1 s m #[Value.ref b0] below meth c (lw_Z below #[Value.ref b0] s) D aC b 4 1818 [some (AX (b0 + 1)), some (AR 0), some (AR 95), some (AI i)] [] w 116 6683 := by
  refine s_aload_n E dL_law_1818 rfl rfl ?_
  refine s_vI (As := []) (S := []) E (Z_X9_kingmaker_0 l D aC b w  hI) cv_L_235 rfl rfl rfl (jv_lt (jv_rfl hI) (by decide)) (Nat.le_of_ble_eq_true rfl) (Nat.le_of_ble_eq_true rfl) ⟨(Nat.le_of_ble_eq_true rfl), (Nat.le_of_ble_eq_true rfl)⟩ (Nat.le_of_ble_eq_true rfl) dL_law_1819 (fun r_1 u_2 hp_3 => ?_)
  have hI_4 : Iv u_2 := hp_3.2.1
  have hR_5 : RLs u_2 := rl_k hR hp_3.2.2.1
  refine s_popI E dL_law_1822 ?_
  refine s_aload_n E dL_law_1823 rfl rfl ?_
  refine s_vI (As := []) (S := []) E (Z_X10_kingmaker_95 l D aC b u_2  hI_4) cv_L_238 rfl rfl rfl (jv_lt (jv_rfl hI_4) (by decide)) (Nat.le_of_ble_eq_true rfl) (Nat.le_of_ble_eq_true rfl) ⟨(Nat.le_of_ble_eq_true rfl), (Nat.le_of_ble_eq_true rfl)⟩ (Nat.le_of_ble_eq_true rfl) dL_law_1824 (fun r_6 u_7 hp_8 => ?_)
  have hI_9 : Iv u_7 := hp_8.2.1
  have hR_10 : RLs u_7 := rl_k hR_5 hp_8.2.2.1
  refine s_popI E dL_law_1827 ?_
  refine s_goto (tgt := 2492) E dL_law_1828 (by decide) ?_
  exact kk u_7 hI_9 hR_10
set_option maxRecDepth 20000 in
set_option maxHeartbeats 2000000 in
theorem lawc_55 {p : Program} {e : Env} {s : State} {m : MethodId} {below : List Frame} {meth : Method} {c : Code} (l : Launch) {b0 b n : Nat} {xs : Nat → Int32} {D : va_G} {aC : Nat → ClassId} (E : EE p s m meth c D aC b 4 cL_law RL ret) (hb : b = s.heap.size) (hX : va_X b0 n xs s s.heap) (hb0 : b0 < s.heap.size) (hn : n ≤ 3072) (w : XW) (hI : Iv w) (hR : RLs w) (i : Int32) (hi : 0 ≤ i.toInt ∧ i.toInt + 6 ≤ (n : Int)) (kk : ∀ u : XW, Iv u → RLs u → Wv p l e room_1 s m #[Value.ref b0] below meth c (lw_Z below #[Value.ref b0] s) D aC b 4 2492 [some (AX (b0 + 1)), some (AR 0), some (AR 95), some (AI i)] [] u 116 6683) : Wv p l e room_1 s m #[Value.ref b0] below meth c (lw_Z below #[Value.ref b0] s) D aC b 4 1831 [some (AX (b0 + 1)), some (AR 0), some (AR 95), some (AI i)] [] w 116 6683 := by
  refine s_aload_n E dL_law_1831 rfl rfl ?_
  refine s_xload_n E dL_law_1832 rfl rfl ?_
  refine s_iload_n E dL_law_1833 rfl rfl ?_
  refine s_iconst (v := 1) E dL_law_1834 (by decide) ?_
  refine z_iadd (u := i.toInt) (v := 1) E dL_law_1835 rfl (by decide) (by omega) (by omega) (fun z_1 hz_1 => ?_)
  refine s_sld E hX hb0 hb (z_in (u := z_1.toInt) rfl (by omega) (by omega)) dL_law_1836 ?_
  refine s_top (y := (xs (i.toInt.toNat + 1))) (congrArg xs (by show z_1.toInt.toNat = _; omega)) ?_
  refine s_xload_n E dL_law_1837 rfl rfl ?_
  refine s_iload_n E dL_law_1838 rfl rfl ?_
  refine s_iconst (v := 2) E dL_law_1839 (by decide) ?_
  refine z_iadd (u := i.toInt) (v := 2) E dL_law_1840 rfl (by decide) (by omega) (by omega) (fun z_2 hz_2 => ?_)
  refine s_sld E hX hb0 hb (z_in (u := z_2.toInt) rfl (by omega) (by omega)) dL_law_1841 ?_
  refine s_top (y := (xs (i.toInt.toNat + 2))) (congrArg xs (by show z_2.toInt.toNat = _; omega)) ?_
  refine s_vI (As := [AI (xs (i.toInt.toNat + 1)), AI (xs (i.toInt.toNat + 2))]) (S := []) E (Z_X9_rests_0 l D aC b w (xs (i.toInt.toNat + 1)) (xs (i.toInt.toNat + 2)) hI) cv_L_239 rfl rfl rfl (jv_lt (jv_rfl hI) (by decide)) (Nat.le_of_ble_eq_true rfl) (Nat.le_of_ble_eq_true rfl) ⟨(Nat.le_of_ble_eq_true rfl), (Nat.le_of_ble_eq_true rfl)⟩ (Nat.le_of_ble_eq_true rfl) dL_law_1842 (fun r_3 u_4 hp_5 => ?_)
  have hI_6 : Iv u_4 := hp_5.2.1
  have hR_7 : RLs u_4 := rl_k hR hp_5.2.2.1
  refine s_popI E dL_law_1845 ?_
  refine s_aload_n E dL_law_1846 rfl rfl ?_
  refine s_xload_n E dL_law_1847 rfl rfl ?_
  refine s_iload_n E dL_law_1848 rfl rfl ?_
  refine s_iconst (v := 1) E dL_law_1849 (by decide) ?_
  refine z_iadd (u := i.toInt) (v := 1) E dL_law_1850 rfl (by decide) (by omega) (by omega) (fun z_8 hz_8 => ?_)
  refine s_sld E hX hb0 hb (z_in (u := z_8.toInt) rfl (by omega) (by omega)) dL_law_1851 ?_
  refine s_top (y := (xs (i.toInt.toNat + 1))) (congrArg xs (by show z_8.toInt.toNat = _; omega)) ?_
  refine s_xload_n E dL_law_1852 rfl rfl ?_
  refine s_iload_n E dL_law_1853 rfl rfl ?_
  refine s_iconst (v := 2) E dL_law_1854 (by decide) ?_
  refine z_iadd (u := i.toInt) (v := 2) E dL_law_1855 rfl (by decide) (by omega) (by omega) (fun z_9 hz_9 => ?_)
  refine s_sld E hX hb0 hb (z_in (u := z_9.toInt) rfl (by omega) (by omega)) dL_law_1856 ?_
  refine s_top (y := (xs (i.toInt.toNat + 2))) (congrArg xs (by show z_9.toInt.toNat = _; omega)) ?_
  refine s_vI (As := [AI (xs (i.toInt.toNat + 1)), AI (xs (i.toInt.toNat + 2))]) (S := []) E (Z_X10_rests_95 l D aC b u_4 (xs (i.toInt.toNat + 1)) (xs (i.toInt.toNat + 2)) hI_6) cv_L_242 rfl rfl rfl (jv_lt (jv_rfl hI_6) (by decide)) (Nat.le_of_ble_eq_true rfl) (Nat.le_of_ble_eq_true rfl) ⟨(Nat.le_of_ble_eq_true rfl), (Nat.le_of_ble_eq_true rfl)⟩ (Nat.le_of_ble_eq_true rfl) dL_law_1857 (fun r_10 u_11 hp_12 => ?_)
  have hI_13 : Iv u_11 := hp_12.2.1
  have hR_14 : RLs u_11 := rl_k hR_7 hp_12.2.2.1
  refine s_popI E dL_law_1860 ?_
  refine s_goto (tgt := 2492) E dL_law_1861 (by decide) ?_
  exact kk u_11 hI_13 hR_14
set_option maxRecDepth 20000 in
set_option maxHeartbeats 2000000 in
theorem lawc_56 {p : Program} {e : Env} {s : State} {m : MethodId} {below : List Frame} {meth : Method} {c : Code} (l : Launch) {b0 b n : Nat} {xs : Nat → Int32} {D : va_G} {aC : Nat → ClassId} (E : EE p s m meth c D aC b 4 cL_law RL ret) (hb : b = s.heap.size) (hX : va_X b0 n xs s s.heap) (hb0 : b0 < s.heap.size) (hn : n ≤ 3072) (w : XW) (hI : Iv w) (hR : RLs w) (i : Int32) (hi : 0 ≤ i.toInt ∧ i.toInt + 6 ≤ (n : Int)) (kk : ∀ u : XW, Iv u → RLs u → Wv p l e room_1 s m #[Value.ref b0] below meth c (lw_Z below #[Value.ref b0] s) D aC b 4 2492 [some (AX (b0 + 1)), some (AR 0), some (AR 95), some (AI i)] [] u 116 6683) : Wv p l e room_1 s m #[Value.ref b0] below meth c (lw_Z below #[Value.ref b0] s) D aC b 4 1864 [some (AX (b0 + 1)), some (AR 0), some (AR 95), some (AI i)] [] w 116 6683 := by
  refine s_aload_n E dL_law_1864 rfl rfl ?_
  refine s_xload_n E dL_law_1865 rfl rfl ?_
  refine s_iload_n E dL_law_1866 rfl rfl ?_
  refine s_iconst (v := 1) E dL_law_1867 (by decide) ?_
  refine z_iadd (u := i.toInt) (v := 1) E dL_law_1868 rfl (by decide) (by omega) (by omega) (fun z_1 hz_1 => ?_)
  refine s_sld E hX hb0 hb (z_in (u := z_1.toInt) rfl (by omega) (by omega)) dL_law_1869 ?_
  refine s_top (y := (xs (i.toInt.toNat + 1))) (congrArg xs (by show z_1.toInt.toNat = _; omega)) ?_
  refine s_xload_n E dL_law_1870 rfl rfl ?_
  refine s_iload_n E dL_law_1871 rfl rfl ?_
  refine s_iconst (v := 2) E dL_law_1872 (by decide) ?_
  refine z_iadd (u := i.toInt) (v := 2) E dL_law_1873 rfl (by decide) (by omega) (by omega) (fun z_2 hz_2 => ?_)
  refine s_sld E hX hb0 hb (z_in (u := z_2.toInt) rfl (by omega) (by omega)) dL_law_1874 ?_
  refine s_top (y := (xs (i.toInt.toNat + 2))) (congrArg xs (by show z_2.toInt.toNat = _; omega)) ?_
  refine s_xload_n E dL_law_1875 rfl rfl ?_
  refine s_iload_n E dL_law_1876 rfl rfl ?_
  refine s_iconst (v := 3) E dL_law_1877 (by decide) ?_
  refine z_iadd (u := i.toInt) (v := 3) E dL_law_1878 rfl (by decide) (by omega) (by omega) (fun z_3 hz_3 => ?_)
  refine s_sld E hX hb0 hb (z_in (u := z_3.toInt) rfl (by omega) (by omega)) dL_law_1879 ?_
  refine s_top (y := (xs (i.toInt.toNat + 3))) (congrArg xs (by show z_3.toInt.toNat = _; omega)) ?_
  refine s_xload_n E dL_law_1880 rfl rfl ?_
  refine s_iload_n E dL_law_1881 rfl rfl ?_
  refine s_iconst (v := 4) E dL_law_1882 (by decide) ?_
  refine z_iadd (u := i.toInt) (v := 4) E dL_law_1883 rfl (by decide) (by omega) (by omega) (fun z_4 hz_4 => ?_)
  refine s_sld E hX hb0 hb (z_in (u := z_4.toInt) rfl (by omega) (by omega)) dL_law_1884 ?_
  refine s_top (y := (xs (i.toInt.toNat + 4))) (congrArg xs (by show z_4.toInt.toNat = _; omega)) ?_
  refine s_vI (As := [AI (xs (i.toInt.toNat + 1)), AI (xs (i.toInt.toNat + 2)), AI (xs (i.toInt.toNat + 3)), AI (xs (i.toInt.toNat + 4))]) (S := []) E (Z_X9_gains_0 l D aC b w (xs (i.toInt.toNat + 1)) (xs (i.toInt.toNat + 2)) (xs (i.toInt.toNat + 3)) (xs (i.toInt.toNat + 4)) hI) cv_L_243 rfl rfl rfl (jv_lt (jv_rfl hI) (by decide)) (Nat.le_of_ble_eq_true rfl) (Nat.le_of_ble_eq_true rfl) ⟨(Nat.le_of_ble_eq_true rfl), (Nat.le_of_ble_eq_true rfl)⟩ (Nat.le_of_ble_eq_true rfl) dL_law_1885 (fun r_5 u_6 hp_7 => ?_)
  have hI_8 : Iv u_6 := hp_7.2.1
  have hR_9 : RLs u_6 := rl_k hR hp_7.2.2.1
  refine s_popI E dL_law_1888 ?_
  refine s_aload_n E dL_law_1889 rfl rfl ?_
  refine s_xload_n E dL_law_1890 rfl rfl ?_
  refine s_iload_n E dL_law_1891 rfl rfl ?_
  refine s_iconst (v := 1) E dL_law_1892 (by decide) ?_
  refine z_iadd (u := i.toInt) (v := 1) E dL_law_1893 rfl (by decide) (by omega) (by omega) (fun z_10 hz_10 => ?_)
  refine s_sld E hX hb0 hb (z_in (u := z_10.toInt) rfl (by omega) (by omega)) dL_law_1894 ?_
  refine s_top (y := (xs (i.toInt.toNat + 1))) (congrArg xs (by show z_10.toInt.toNat = _; omega)) ?_
  refine s_xload_n E dL_law_1895 rfl rfl ?_
  refine s_iload_n E dL_law_1896 rfl rfl ?_
  refine s_iconst (v := 2) E dL_law_1897 (by decide) ?_
  refine z_iadd (u := i.toInt) (v := 2) E dL_law_1898 rfl (by decide) (by omega) (by omega) (fun z_11 hz_11 => ?_)
  refine s_sld E hX hb0 hb (z_in (u := z_11.toInt) rfl (by omega) (by omega)) dL_law_1899 ?_
  refine s_top (y := (xs (i.toInt.toNat + 2))) (congrArg xs (by show z_11.toInt.toNat = _; omega)) ?_
  refine s_xload_n E dL_law_1900 rfl rfl ?_
  refine s_iload_n E dL_law_1901 rfl rfl ?_
  refine s_iconst (v := 3) E dL_law_1902 (by decide) ?_
  refine z_iadd (u := i.toInt) (v := 3) E dL_law_1903 rfl (by decide) (by omega) (by omega) (fun z_12 hz_12 => ?_)
  refine s_sld E hX hb0 hb (z_in (u := z_12.toInt) rfl (by omega) (by omega)) dL_law_1904 ?_
  refine s_top (y := (xs (i.toInt.toNat + 3))) (congrArg xs (by show z_12.toInt.toNat = _; omega)) ?_
  refine s_xload_n E dL_law_1905 rfl rfl ?_
  refine s_iload_n E dL_law_1906 rfl rfl ?_
  refine s_iconst (v := 4) E dL_law_1907 (by decide) ?_
  refine z_iadd (u := i.toInt) (v := 4) E dL_law_1908 rfl (by decide) (by omega) (by omega) (fun z_13 hz_13 => ?_)
  refine s_sld E hX hb0 hb (z_in (u := z_13.toInt) rfl (by omega) (by omega)) dL_law_1909 ?_
  refine s_top (y := (xs (i.toInt.toNat + 4))) (congrArg xs (by show z_13.toInt.toNat = _; omega)) ?_
  refine s_vI (As := [AI (xs (i.toInt.toNat + 1)), AI (xs (i.toInt.toNat + 2)), AI (xs (i.toInt.toNat + 3)), AI (xs (i.toInt.toNat + 4))]) (S := []) E (Z_X10_gains_95 l D aC b u_6 (xs (i.toInt.toNat + 1)) (xs (i.toInt.toNat + 2)) (xs (i.toInt.toNat + 3)) (xs (i.toInt.toNat + 4)) hI_8) cv_L_246 rfl rfl rfl (jv_lt (jv_rfl hI_8) (by decide)) (Nat.le_of_ble_eq_true rfl) (Nat.le_of_ble_eq_true rfl) ⟨(Nat.le_of_ble_eq_true rfl), (Nat.le_of_ble_eq_true rfl)⟩ (Nat.le_of_ble_eq_true rfl) dL_law_1910 (fun r_14 u_15 hp_16 => ?_)
  have hI_17 : Iv u_15 := hp_16.2.1
  have hR_18 : RLs u_15 := rl_k hR_9 hp_16.2.2.1
  refine s_popI E dL_law_1913 ?_
  refine s_goto (tgt := 2492) E dL_law_1914 (by decide) ?_
  exact kk u_15 hI_17 hR_18
set_option maxRecDepth 20000 in
set_option maxHeartbeats 2000000 in
theorem lawc_57 {p : Program} {e : Env} {s : State} {m : MethodId} {below : List Frame} {meth : Method} {c : Code} (l : Launch) {b0 b n : Nat} {xs : Nat → Int32} {D : va_G} {aC : Nat → ClassId} (E : EE p s m meth c D aC b 4 cL_law RL ret) (hb : b = s.heap.size) (hX : va_X b0 n xs s s.heap) (hb0 : b0 < s.heap.size) (hn : n ≤ 3072) (w : XW) (hI : Iv w) (hR : RLs w) (i : Int32) (hi : 0 ≤ i.toInt ∧ i.toInt + 6 ≤ (n : Int)) (kk : ∀ u : XW, Iv u → RLs u → Wv p l e room_1 s m #[Value.ref b0] below meth c (lw_Z below #[Value.ref b0] s) D aC b 4 2492 [some (AX (b0 + 1)), some (AR 0), some (AR 95), some (AI i)] [] u 116 6683) : Wv p l e room_1 s m #[Value.ref b0] below meth c (lw_Z below #[Value.ref b0] s) D aC b 4 1917 [some (AX (b0 + 1)), some (AR 0), some (AR 95), some (AI i)] [] w 116 6683 := by
  refine s_aload_n E dL_law_1917 rfl rfl ?_
  refine s_xload_n E dL_law_1918 rfl rfl ?_
  refine s_iload_n E dL_law_1919 rfl rfl ?_
  refine s_iconst (v := 1) E dL_law_1920 (by decide) ?_
  refine z_iadd (u := i.toInt) (v := 1) E dL_law_1921 rfl (by decide) (by omega) (by omega) (fun z_1 hz_1 => ?_)
  refine s_sld E hX hb0 hb (z_in (u := z_1.toInt) rfl (by omega) (by omega)) dL_law_1922 ?_
  refine s_top (y := (xs (i.toInt.toNat + 1))) (congrArg xs (by show z_1.toInt.toNat = _; omega)) ?_
  refine s_xload_n E dL_law_1923 rfl rfl ?_
  refine s_iload_n E dL_law_1924 rfl rfl ?_
  refine s_iconst (v := 2) E dL_law_1925 (by decide) ?_
  refine z_iadd (u := i.toInt) (v := 2) E dL_law_1926 rfl (by decide) (by omega) (by omega) (fun z_2 hz_2 => ?_)
  refine s_sld E hX hb0 hb (z_in (u := z_2.toInt) rfl (by omega) (by omega)) dL_law_1927 ?_
  refine s_top (y := (xs (i.toInt.toNat + 2))) (congrArg xs (by show z_2.toInt.toNat = _; omega)) ?_
  refine s_xload_n E dL_law_1928 rfl rfl ?_
  refine s_iload_n E dL_law_1929 rfl rfl ?_
  refine s_iconst (v := 3) E dL_law_1930 (by decide) ?_
  refine z_iadd (u := i.toInt) (v := 3) E dL_law_1931 rfl (by decide) (by omega) (by omega) (fun z_3 hz_3 => ?_)
  refine s_sld E hX hb0 hb (z_in (u := z_3.toInt) rfl (by omega) (by omega)) dL_law_1932 ?_
  refine s_top (y := (xs (i.toInt.toNat + 3))) (congrArg xs (by show z_3.toInt.toNat = _; omega)) ?_
  refine s_xload_n E dL_law_1933 rfl rfl ?_
  refine s_iload_n E dL_law_1934 rfl rfl ?_
  refine s_iconst (v := 4) E dL_law_1935 (by decide) ?_
  refine z_iadd (u := i.toInt) (v := 4) E dL_law_1936 rfl (by decide) (by omega) (by omega) (fun z_4 hz_4 => ?_)
  refine s_sld E hX hb0 hb (z_in (u := z_4.toInt) rfl (by omega) (by omega)) dL_law_1937 ?_
  refine s_top (y := (xs (i.toInt.toNat + 4))) (congrArg xs (by show z_4.toInt.toNat = _; omega)) ?_
  refine s_vL (As := [AI (xs (i.toInt.toNat + 1)), AI (xs (i.toInt.toNat + 2)), AI (xs (i.toInt.toNat + 3)), AI (xs (i.toInt.toNat + 4))]) (S := []) E (Z_X9_chance_0 l D aC b w (xs (i.toInt.toNat + 1)) (xs (i.toInt.toNat + 2)) (xs (i.toInt.toNat + 3)) (xs (i.toInt.toNat + 4)) hI) cv_L_247 rfl rfl rfl (jv_lt (jv_rfl hI) (by decide)) (Nat.le_of_ble_eq_true rfl) (Nat.le_of_ble_eq_true rfl) ⟨(Nat.le_of_ble_eq_true rfl), (Nat.le_of_ble_eq_true rfl)⟩ (Nat.le_of_ble_eq_true rfl) dL_law_1938 (fun r_5 u_6 hp_7 => ?_)
  have hI_8 : Iv u_6 := hp_7.2.1
  have hR_9 : RLs u_6 := rl_k hR hp_7.2.2.1
  refine s_pop2L E dL_law_1941 ?_
  refine s_aload_n E dL_law_1942 rfl rfl ?_
  refine s_xload_n E dL_law_1943 rfl rfl ?_
  refine s_iload_n E dL_law_1944 rfl rfl ?_
  refine s_iconst (v := 1) E dL_law_1945 (by decide) ?_
  refine z_iadd (u := i.toInt) (v := 1) E dL_law_1946 rfl (by decide) (by omega) (by omega) (fun z_10 hz_10 => ?_)
  refine s_sld E hX hb0 hb (z_in (u := z_10.toInt) rfl (by omega) (by omega)) dL_law_1947 ?_
  refine s_top (y := (xs (i.toInt.toNat + 1))) (congrArg xs (by show z_10.toInt.toNat = _; omega)) ?_
  refine s_xload_n E dL_law_1948 rfl rfl ?_
  refine s_iload_n E dL_law_1949 rfl rfl ?_
  refine s_iconst (v := 2) E dL_law_1950 (by decide) ?_
  refine z_iadd (u := i.toInt) (v := 2) E dL_law_1951 rfl (by decide) (by omega) (by omega) (fun z_11 hz_11 => ?_)
  refine s_sld E hX hb0 hb (z_in (u := z_11.toInt) rfl (by omega) (by omega)) dL_law_1952 ?_
  refine s_top (y := (xs (i.toInt.toNat + 2))) (congrArg xs (by show z_11.toInt.toNat = _; omega)) ?_
  refine s_xload_n E dL_law_1953 rfl rfl ?_
  refine s_iload_n E dL_law_1954 rfl rfl ?_
  refine s_iconst (v := 3) E dL_law_1955 (by decide) ?_
  refine z_iadd (u := i.toInt) (v := 3) E dL_law_1956 rfl (by decide) (by omega) (by omega) (fun z_12 hz_12 => ?_)
  refine s_sld E hX hb0 hb (z_in (u := z_12.toInt) rfl (by omega) (by omega)) dL_law_1957 ?_
  refine s_top (y := (xs (i.toInt.toNat + 3))) (congrArg xs (by show z_12.toInt.toNat = _; omega)) ?_
  refine s_xload_n E dL_law_1958 rfl rfl ?_
  refine s_iload_n E dL_law_1959 rfl rfl ?_
  refine s_iconst (v := 4) E dL_law_1960 (by decide) ?_
  refine z_iadd (u := i.toInt) (v := 4) E dL_law_1961 rfl (by decide) (by omega) (by omega) (fun z_13 hz_13 => ?_)
  refine s_sld E hX hb0 hb (z_in (u := z_13.toInt) rfl (by omega) (by omega)) dL_law_1962 ?_
  refine s_top (y := (xs (i.toInt.toNat + 4))) (congrArg xs (by show z_13.toInt.toNat = _; omega)) ?_
  refine s_vL (As := [AI (xs (i.toInt.toNat + 1)), AI (xs (i.toInt.toNat + 2)), AI (xs (i.toInt.toNat + 3)), AI (xs (i.toInt.toNat + 4))]) (S := []) E (Z_X10_chance_95 l D aC b u_6 (xs (i.toInt.toNat + 1)) (xs (i.toInt.toNat + 2)) (xs (i.toInt.toNat + 3)) (xs (i.toInt.toNat + 4)) hI_8) cv_L_251 rfl rfl rfl (jv_lt (jv_rfl hI_8) (by decide)) (Nat.le_of_ble_eq_true rfl) (Nat.le_of_ble_eq_true rfl) ⟨(Nat.le_of_ble_eq_true rfl), (Nat.le_of_ble_eq_true rfl)⟩ (Nat.le_of_ble_eq_true rfl) dL_law_1963 (fun r_14 u_15 hp_16 => ?_)
  have hI_17 : Iv u_15 := hp_16.2.1
  have hR_18 : RLs u_15 := rl_k hR_9 hp_16.2.2.1
  refine s_pop2L E dL_law_1966 ?_
  refine s_goto (tgt := 2492) E dL_law_1967 (by decide) ?_
  exact kk u_15 hI_17 hR_18
set_option maxRecDepth 20000 in
set_option maxHeartbeats 2000000 in
theorem lawc_58 {p : Program} {e : Env} {s : State} {m : MethodId} {below : List Frame} {meth : Method} {c : Code} (l : Launch) {b0 b n : Nat} {xs : Nat → Int32} {D : va_G} {aC : Nat → ClassId} (E : EE p s m meth c D aC b 4 cL_law RL ret) (hb : b = s.heap.size) (hX : va_X b0 n xs s s.heap) (hb0 : b0 < s.heap.size) (hn : n ≤ 3072) (w : XW) (hI : Iv w) (hR : RLs w) (i : Int32) (hi : 0 ≤ i.toInt ∧ i.toInt + 6 ≤ (n : Int)) (kk : ∀ u : XW, Iv u → RLs u → Wv p l e room_1 s m #[Value.ref b0] below meth c (lw_Z below #[Value.ref b0] s) D aC b 4 2492 [some (AX (b0 + 1)), some (AR 0), some (AR 95), some (AI i)] [] u 116 6683) : Wv p l e room_1 s m #[Value.ref b0] below meth c (lw_Z below #[Value.ref b0] s) D aC b 4 1970 [some (AX (b0 + 1)), some (AR 0), some (AR 95), some (AI i)] [] w 116 6683 := by
  refine s_aload_n E dL_law_1970 rfl rfl ?_
  refine s_xload_n E dL_law_1971 rfl rfl ?_
  refine s_iload_n E dL_law_1972 rfl rfl ?_
  refine s_iconst (v := 1) E dL_law_1973 (by decide) ?_
  refine z_iadd (u := i.toInt) (v := 1) E dL_law_1974 rfl (by decide) (by omega) (by omega) (fun z_1 hz_1 => ?_)
  refine s_sld E hX hb0 hb (z_in (u := z_1.toInt) rfl (by omega) (by omega)) dL_law_1975 ?_
  refine s_top (y := (xs (i.toInt.toNat + 1))) (congrArg xs (by show z_1.toInt.toNat = _; omega)) ?_
  refine s_xload_n E dL_law_1976 rfl rfl ?_
  refine s_iload_n E dL_law_1977 rfl rfl ?_
  refine s_iconst (v := 2) E dL_law_1978 (by decide) ?_
  refine z_iadd (u := i.toInt) (v := 2) E dL_law_1979 rfl (by decide) (by omega) (by omega) (fun z_2 hz_2 => ?_)
  refine s_sld E hX hb0 hb (z_in (u := z_2.toInt) rfl (by omega) (by omega)) dL_law_1980 ?_
  refine s_top (y := (xs (i.toInt.toNat + 2))) (congrArg xs (by show z_2.toInt.toNat = _; omega)) ?_
  refine s_xload_n E dL_law_1981 rfl rfl ?_
  refine s_iload_n E dL_law_1982 rfl rfl ?_
  refine s_iconst (v := 3) E dL_law_1983 (by decide) ?_
  refine z_iadd (u := i.toInt) (v := 3) E dL_law_1984 rfl (by decide) (by omega) (by omega) (fun z_3 hz_3 => ?_)
  refine s_sld E hX hb0 hb (z_in (u := z_3.toInt) rfl (by omega) (by omega)) dL_law_1985 ?_
  refine s_top (y := (xs (i.toInt.toNat + 3))) (congrArg xs (by show z_3.toInt.toNat = _; omega)) ?_
  refine s_vL (As := [AI (xs (i.toInt.toNat + 1)), AI (xs (i.toInt.toNat + 2)), AI (xs (i.toInt.toNat + 3))]) (S := []) E (Z_X9_mean_0 l D aC b w (xs (i.toInt.toNat + 1)) (xs (i.toInt.toNat + 2)) (xs (i.toInt.toNat + 3)) hI) cv_L_252 rfl rfl rfl (jv_lt (jv_rfl hI) (by decide)) (Nat.le_of_ble_eq_true rfl) (Nat.le_of_ble_eq_true rfl) ⟨(Nat.le_of_ble_eq_true rfl), (Nat.le_of_ble_eq_true rfl)⟩ (Nat.le_of_ble_eq_true rfl) dL_law_1986 (fun r_4 u_5 hp_6 => ?_)
  have hI_7 : Iv u_5 := hp_6.2.1
  have hR_8 : RLs u_5 := rl_k hR hp_6.2.2.1
  refine s_pop2L E dL_law_1989 ?_
  refine s_aload_n E dL_law_1990 rfl rfl ?_
  refine s_xload_n E dL_law_1991 rfl rfl ?_
  refine s_iload_n E dL_law_1992 rfl rfl ?_
  refine s_iconst (v := 1) E dL_law_1993 (by decide) ?_
  refine z_iadd (u := i.toInt) (v := 1) E dL_law_1994 rfl (by decide) (by omega) (by omega) (fun z_9 hz_9 => ?_)
  refine s_sld E hX hb0 hb (z_in (u := z_9.toInt) rfl (by omega) (by omega)) dL_law_1995 ?_
  refine s_top (y := (xs (i.toInt.toNat + 1))) (congrArg xs (by show z_9.toInt.toNat = _; omega)) ?_
  refine s_xload_n E dL_law_1996 rfl rfl ?_
  refine s_iload_n E dL_law_1997 rfl rfl ?_
  refine s_iconst (v := 2) E dL_law_1998 (by decide) ?_
  refine z_iadd (u := i.toInt) (v := 2) E dL_law_1999 rfl (by decide) (by omega) (by omega) (fun z_10 hz_10 => ?_)
  refine s_sld E hX hb0 hb (z_in (u := z_10.toInt) rfl (by omega) (by omega)) dL_law_2000 ?_
  refine s_top (y := (xs (i.toInt.toNat + 2))) (congrArg xs (by show z_10.toInt.toNat = _; omega)) ?_
  refine s_xload_n E dL_law_2001 rfl rfl ?_
  refine s_iload_n E dL_law_2002 rfl rfl ?_
  refine s_iconst (v := 3) E dL_law_2003 (by decide) ?_
  refine z_iadd (u := i.toInt) (v := 3) E dL_law_2004 rfl (by decide) (by omega) (by omega) (fun z_11 hz_11 => ?_)
  refine s_sld E hX hb0 hb (z_in (u := z_11.toInt) rfl (by omega) (by omega)) dL_law_2005 ?_
  refine s_top (y := (xs (i.toInt.toNat + 3))) (congrArg xs (by show z_11.toInt.toNat = _; omega)) ?_
  refine s_vL (As := [AI (xs (i.toInt.toNat + 1)), AI (xs (i.toInt.toNat + 2)), AI (xs (i.toInt.toNat + 3))]) (S := []) E (Z_X10_mean_95 l D aC b u_5 (xs (i.toInt.toNat + 1)) (xs (i.toInt.toNat + 2)) (xs (i.toInt.toNat + 3)) hI_7) cv_L_256 rfl rfl rfl (jv_lt (jv_rfl hI_7) (by decide)) (Nat.le_of_ble_eq_true rfl) (Nat.le_of_ble_eq_true rfl) ⟨(Nat.le_of_ble_eq_true rfl), (Nat.le_of_ble_eq_true rfl)⟩ (Nat.le_of_ble_eq_true rfl) dL_law_2006 (fun r_12 u_13 hp_14 => ?_)
  have hI_15 : Iv u_13 := hp_14.2.1
  have hR_16 : RLs u_13 := rl_k hR_8 hp_14.2.2.1
  refine s_pop2L E dL_law_2009 ?_
  refine s_goto (tgt := 2492) E dL_law_2010 (by decide) ?_
  exact kk u_13 hI_15 hR_16
set_option maxRecDepth 20000 in
set_option maxHeartbeats 2000000 in
theorem lawc_59 {p : Program} {e : Env} {s : State} {m : MethodId} {below : List Frame} {meth : Method} {c : Code} (l : Launch) {b0 b n : Nat} {xs : Nat → Int32} {D : va_G} {aC : Nat → ClassId} (E : EE p s m meth c D aC b 4 cL_law RL ret) (hb : b = s.heap.size) (hX : va_X b0 n xs s s.heap) (hb0 : b0 < s.heap.size) (hn : n ≤ 3072) (w : XW) (hI : Iv w) (hR : RLs w) (i : Int32) (hi : 0 ≤ i.toInt ∧ i.toInt + 6 ≤ (n : Int)) (kk : ∀ u : XW, Iv u → RLs u → Wv p l e room_1 s m #[Value.ref b0] below meth c (lw_Z below #[Value.ref b0] s) D aC b 4 2492 [some (AX (b0 + 1)), some (AR 0), some (AR 95), some (AI i)] [] u 116 6683) : Wv p l e room_1 s m #[Value.ref b0] below meth c (lw_Z below #[Value.ref b0] s) D aC b 4 2013 [some (AX (b0 + 1)), some (AR 0), some (AR 95), some (AI i)] [] w 116 6683 := by
  refine s_aload_n E dL_law_2013 rfl rfl ?_
  refine s_xload_n E dL_law_2014 rfl rfl ?_
  refine s_iload_n E dL_law_2015 rfl rfl ?_
  refine s_iconst (v := 1) E dL_law_2016 (by decide) ?_
  refine z_iadd (u := i.toInt) (v := 1) E dL_law_2017 rfl (by decide) (by omega) (by omega) (fun z_1 hz_1 => ?_)
  refine s_sld E hX hb0 hb (z_in (u := z_1.toInt) rfl (by omega) (by omega)) dL_law_2018 ?_
  refine s_top (y := (xs (i.toInt.toNat + 1))) (congrArg xs (by show z_1.toInt.toNat = _; omega)) ?_
  refine s_xload_n E dL_law_2019 rfl rfl ?_
  refine s_iload_n E dL_law_2020 rfl rfl ?_
  refine s_iconst (v := 2) E dL_law_2021 (by decide) ?_
  refine z_iadd (u := i.toInt) (v := 2) E dL_law_2022 rfl (by decide) (by omega) (by omega) (fun z_2 hz_2 => ?_)
  refine s_sld E hX hb0 hb (z_in (u := z_2.toInt) rfl (by omega) (by omega)) dL_law_2023 ?_
  refine s_top (y := (xs (i.toInt.toNat + 2))) (congrArg xs (by show z_2.toInt.toNat = _; omega)) ?_
  refine s_xload_n E dL_law_2024 rfl rfl ?_
  refine s_iload_n E dL_law_2025 rfl rfl ?_
  refine s_iconst (v := 3) E dL_law_2026 (by decide) ?_
  refine z_iadd (u := i.toInt) (v := 3) E dL_law_2027 rfl (by decide) (by omega) (by omega) (fun z_3 hz_3 => ?_)
  refine s_sld E hX hb0 hb (z_in (u := z_3.toInt) rfl (by omega) (by omega)) dL_law_2028 ?_
  refine s_top (y := (xs (i.toInt.toNat + 3))) (congrArg xs (by show z_3.toInt.toNat = _; omega)) ?_
  refine s_vI (As := [AI (xs (i.toInt.toNat + 1)), AI (xs (i.toInt.toNat + 2)), AI (xs (i.toInt.toNat + 3))]) (S := []) E (Z_X9_bid_0 l D aC b w (xs (i.toInt.toNat + 1)) (xs (i.toInt.toNat + 2)) (xs (i.toInt.toNat + 3)) hI) cv_L_257 rfl rfl rfl (jv_lt (jv_rfl hI) (by decide)) (Nat.le_of_ble_eq_true rfl) (Nat.le_of_ble_eq_true rfl) ⟨(Nat.le_of_ble_eq_true rfl), (Nat.le_of_ble_eq_true rfl)⟩ (Nat.le_of_ble_eq_true rfl) dL_law_2029 (fun r_4 u_5 hp_6 => ?_)
  have hI_7 : Iv u_5 := hp_6.2.1
  have hR_8 : RLs u_5 := rl_k hR hp_6.2.2.1
  refine s_popI E dL_law_2032 ?_
  refine s_aload_n E dL_law_2033 rfl rfl ?_
  refine s_xload_n E dL_law_2034 rfl rfl ?_
  refine s_iload_n E dL_law_2035 rfl rfl ?_
  refine s_iconst (v := 1) E dL_law_2036 (by decide) ?_
  refine z_iadd (u := i.toInt) (v := 1) E dL_law_2037 rfl (by decide) (by omega) (by omega) (fun z_9 hz_9 => ?_)
  refine s_sld E hX hb0 hb (z_in (u := z_9.toInt) rfl (by omega) (by omega)) dL_law_2038 ?_
  refine s_top (y := (xs (i.toInt.toNat + 1))) (congrArg xs (by show z_9.toInt.toNat = _; omega)) ?_
  refine s_xload_n E dL_law_2039 rfl rfl ?_
  refine s_iload_n E dL_law_2040 rfl rfl ?_
  refine s_iconst (v := 2) E dL_law_2041 (by decide) ?_
  refine z_iadd (u := i.toInt) (v := 2) E dL_law_2042 rfl (by decide) (by omega) (by omega) (fun z_10 hz_10 => ?_)
  refine s_sld E hX hb0 hb (z_in (u := z_10.toInt) rfl (by omega) (by omega)) dL_law_2043 ?_
  refine s_top (y := (xs (i.toInt.toNat + 2))) (congrArg xs (by show z_10.toInt.toNat = _; omega)) ?_
  refine s_xload_n E dL_law_2044 rfl rfl ?_
  refine s_iload_n E dL_law_2045 rfl rfl ?_
  refine s_iconst (v := 3) E dL_law_2046 (by decide) ?_
  refine z_iadd (u := i.toInt) (v := 3) E dL_law_2047 rfl (by decide) (by omega) (by omega) (fun z_11 hz_11 => ?_)
  refine s_sld E hX hb0 hb (z_in (u := z_11.toInt) rfl (by omega) (by omega)) dL_law_2048 ?_
  refine s_top (y := (xs (i.toInt.toNat + 3))) (congrArg xs (by show z_11.toInt.toNat = _; omega)) ?_
  refine s_vI (As := [AI (xs (i.toInt.toNat + 1)), AI (xs (i.toInt.toNat + 2)), AI (xs (i.toInt.toNat + 3))]) (S := []) E (Z_X10_bid_95 l D aC b u_5 (xs (i.toInt.toNat + 1)) (xs (i.toInt.toNat + 2)) (xs (i.toInt.toNat + 3)) hI_7) cv_L_260 rfl rfl rfl (jv_lt (jv_rfl hI_7) (by decide)) (Nat.le_of_ble_eq_true rfl) (Nat.le_of_ble_eq_true rfl) ⟨(Nat.le_of_ble_eq_true rfl), (Nat.le_of_ble_eq_true rfl)⟩ (Nat.le_of_ble_eq_true rfl) dL_law_2049 (fun r_12 u_13 hp_14 => ?_)
  have hI_15 : Iv u_13 := hp_14.2.1
  have hR_16 : RLs u_13 := rl_k hR_8 hp_14.2.2.1
  refine s_popI E dL_law_2052 ?_
  refine s_goto (tgt := 2492) E dL_law_2053 (by decide) ?_
  exact kk u_13 hI_15 hR_16
