set_option maxRecDepth 20000 in
set_option maxHeartbeats 2000000 in
theorem lawc_48 {p : Program} {e : Env} {s : State} {m : MethodId} {below : List Frame} {meth : Method} {c : Code} (l : Launch) {b0 b : Nat} {xs : Nat → Int32} {D : va_G} {aC : Nat → ClassId} (E : EE p s m meth c D aC b 4 cL_law RL ret) (hb : b = s.heap.size) (hX : va_X b0 6 xs s s.heap) (hb0 : b0 < s.heap.size) : Wv p l e room_1 s m #[Value.ref b0] below meth c (lw_Z below #[Value.ref b0] s) D aC b 4 1690 [some (AX b0), some (AR 0), some (AR 95), some (AI 0)] [] wv_318 116 6683 := by
  refine s_aload_n E dL_law_1690 rfl rfl ?_
  refine s_xload_n E dL_law_1691 rfl rfl ?_
  refine s_iload_n E dL_law_1692 rfl rfl ?_
  refine s_iconst (v := 1) E dL_law_1693 (by decide) ?_
  refine s_iadd E dL_law_1694 ?_
  refine s_top (y := 1) (by decide) ?_
  refine s_sld E hX hb0 hb (vp_c (by decide)) dL_law_1695 ?_
  refine s_top (y := (xs 1)) (congrArg xs (by decide)) ?_
  refine s_vI (As := [AI (xs 1)]) (S := []) E (K_X9_under_0_CRMS l D aC b wv_318 ((xs 1)) FrC_0 RfC_0 FrM_0 RfM_0) cv_L_211 rfl rfl rfl (ltn FrC_0.1 (by decide)) (Nat.le_of_ble_eq_true rfl) (Nat.le_of_ble_eq_true rfl) ⟨(Nat.le_of_ble_eq_true rfl), (Nat.le_of_ble_eq_true rfl)⟩ (Nat.le_of_ble_eq_true rfl) dL_law_1696 (fun r u hp => ?_)
  obtain ⟨rfl, rfl⟩ := hp
  refine s_aload_n E dL_law_1699 rfl rfl ?_
  refine s_xload_n E dL_law_1700 rfl rfl ?_
  refine s_iload_n E dL_law_1701 rfl rfl ?_
  refine s_iconst (v := 1) E dL_law_1702 (by decide) ?_
  refine s_iadd E dL_law_1703 ?_
  refine s_top (y := 1) (by decide) ?_
  refine s_sld E hX hb0 hb (vp_c (by decide)) dL_law_1704 ?_
  refine s_top (y := (xs 1)) (congrArg xs (by decide)) ?_
  refine s_vI (As := [AI (xs 1)]) (S := [AI (-2)]) E (K_X10_under_95_MS l D aC b wv_318 ((xs 1)) FrM_0 RfM_0) cv_L_214 rfl rfl rfl (ltn FrC_0.1 (by decide)) (Nat.le_of_ble_eq_true rfl) (Nat.le_of_ble_eq_true rfl) ⟨(Nat.le_of_ble_eq_true rfl), (Nat.le_of_ble_eq_true rfl)⟩ (Nat.le_of_ble_eq_true rfl) dL_law_1705 (fun r u_1 hp => ?_)
  obtain ⟨rfl, hu_1, hu_2⟩ := hp
  refine s_icmp_eq (tgt := 2494) E dL_law_1708 (by decide) (fun _ => ?_) (fun hh => absurd (by decide) hh)
  exact law_tail l E hb hX hb0 u_1
set_option maxRecDepth 20000 in
set_option maxHeartbeats 2000000 in
theorem lawc_49 {p : Program} {e : Env} {s : State} {m : MethodId} {below : List Frame} {meth : Method} {c : Code} (l : Launch) {b0 b : Nat} {xs : Nat → Int32} {D : va_G} {aC : Nat → ClassId} (E : EE p s m meth c D aC b 4 cL_law RL ret) (hb : b = s.heap.size) (hX : va_X b0 6 xs s s.heap) (hb0 : b0 < s.heap.size) : Wv p l e room_1 s m #[Value.ref b0] below meth c (lw_Z below #[Value.ref b0] s) D aC b 4 1713 [some (AX b0), some (AR 0), some (AR 95), some (AI 0)] [] wv_318 116 6683 := by
  refine s_aload_n E dL_law_1713 rfl rfl ?_
  refine s_xload_n E dL_law_1714 rfl rfl ?_
  refine s_iload_n E dL_law_1715 rfl rfl ?_
  refine s_iconst (v := 1) E dL_law_1716 (by decide) ?_
  refine s_iadd E dL_law_1717 ?_
  refine s_top (y := 1) (by decide) ?_
  refine s_sld E hX hb0 hb (vp_c (by decide)) dL_law_1718 ?_
  refine s_top (y := (xs 1)) (congrArg xs (by decide)) ?_
  refine s_vI (As := [AI (xs 1)]) (S := []) E (K_X9_holds_0_CRMS l D aC b wv_318 ((xs 1)) FrC_0 RfC_0 FrM_0 RfM_0) cv_L_215 rfl rfl rfl (ltn FrC_0.1 (by decide)) (Nat.le_of_ble_eq_true rfl) (Nat.le_of_ble_eq_true rfl) ⟨(Nat.le_of_ble_eq_true rfl), (Nat.le_of_ble_eq_true rfl)⟩ (Nat.le_of_ble_eq_true rfl) dL_law_1719 (fun r u hp => ?_)
  obtain ⟨rfl, rfl⟩ := hp
  refine s_aload_n E dL_law_1722 rfl rfl ?_
  refine s_xload_n E dL_law_1723 rfl rfl ?_
  refine s_iload_n E dL_law_1724 rfl rfl ?_
  refine s_iconst (v := 1) E dL_law_1725 (by decide) ?_
  refine s_iadd E dL_law_1726 ?_
  refine s_top (y := 1) (by decide) ?_
  refine s_sld E hX hb0 hb (vp_c (by decide)) dL_law_1727 ?_
  refine s_top (y := (xs 1)) (congrArg xs (by decide)) ?_
  refine s_vI (As := [AI (xs 1)]) (S := [AI (-2)]) E (K_X10_holds_95_MS l D aC b wv_318 ((xs 1)) FrM_0 RfM_0) cv_L_218 rfl rfl rfl (ltn FrC_0.1 (by decide)) (Nat.le_of_ble_eq_true rfl) (Nat.le_of_ble_eq_true rfl) ⟨(Nat.le_of_ble_eq_true rfl), (Nat.le_of_ble_eq_true rfl)⟩ (Nat.le_of_ble_eq_true rfl) dL_law_1728 (fun r u_1 hp => ?_)
  obtain ⟨rfl, hu_1, hu_2⟩ := hp
  refine s_icmp_eq (tgt := 2494) E dL_law_1731 (by decide) (fun _ => ?_) (fun hh => absurd (by decide) hh)
  exact law_tail l E hb hX hb0 u_1
set_option maxRecDepth 20000 in
set_option maxHeartbeats 2000000 in
theorem lawc_50 {p : Program} {e : Env} {s : State} {m : MethodId} {below : List Frame} {meth : Method} {c : Code} (l : Launch) {b0 b : Nat} {xs : Nat → Int32} {D : va_G} {aC : Nat → ClassId} (E : EE p s m meth c D aC b 4 cL_law RL ret) (hb : b = s.heap.size) (hX : va_X b0 6 xs s s.heap) (hb0 : b0 < s.heap.size) : Wv p l e room_1 s m #[Value.ref b0] below meth c (lw_Z below #[Value.ref b0] s) D aC b 4 1736 [some (AX b0), some (AR 0), some (AR 95), some (AI 0)] [] wv_318 116 6683 := by
  refine s_aload_n E dL_law_1736 rfl rfl ?_
  refine s_xload_n E dL_law_1737 rfl rfl ?_
  refine s_iload_n E dL_law_1738 rfl rfl ?_
  refine s_iconst (v := 1) E dL_law_1739 (by decide) ?_
  refine s_iadd E dL_law_1740 ?_
  refine s_top (y := 1) (by decide) ?_
  refine s_sld E hX hb0 hb (vp_c (by decide)) dL_law_1741 ?_
  refine s_top (y := (xs 1)) (congrArg xs (by decide)) ?_
  refine s_vI (As := [AI (xs 1)]) (S := []) E (K_X9_power_0_CRMS l D aC b wv_318 ((xs 1)) FrC_0 RfC_0 FrM_0 RfM_0) cv_L_219 rfl rfl rfl (ltn FrC_0.1 (by decide)) (Nat.le_of_ble_eq_true rfl) (Nat.le_of_ble_eq_true rfl) ⟨(Nat.le_of_ble_eq_true rfl), (Nat.le_of_ble_eq_true rfl)⟩ (Nat.le_of_ble_eq_true rfl) dL_law_1742 (fun r u hp => ?_)
  obtain ⟨rfl, rfl⟩ := hp
  refine s_aload_n E dL_law_1745 rfl rfl ?_
  refine s_xload_n E dL_law_1746 rfl rfl ?_
  refine s_iload_n E dL_law_1747 rfl rfl ?_
  refine s_iconst (v := 1) E dL_law_1748 (by decide) ?_
  refine s_iadd E dL_law_1749 ?_
  refine s_top (y := 1) (by decide) ?_
  refine s_sld E hX hb0 hb (vp_c (by decide)) dL_law_1750 ?_
  refine s_top (y := (xs 1)) (congrArg xs (by decide)) ?_
  refine s_vI (As := [AI (xs 1)]) (S := [AI (-2)]) E (K_X10_power_95_MS l D aC b wv_318 ((xs 1)) FrM_0 RfM_0) cv_L_222 rfl rfl rfl (ltn FrC_0.1 (by decide)) (Nat.le_of_ble_eq_true rfl) (Nat.le_of_ble_eq_true rfl) ⟨(Nat.le_of_ble_eq_true rfl), (Nat.le_of_ble_eq_true rfl)⟩ (Nat.le_of_ble_eq_true rfl) dL_law_1751 (fun r u_1 hp => ?_)
  obtain ⟨rfl, hu_1, hu_2⟩ := hp
  refine s_icmp_eq (tgt := 2494) E dL_law_1754 (by decide) (fun _ => ?_) (fun hh => absurd (by decide) hh)
  exact law_tail l E hb hX hb0 u_1
set_option maxRecDepth 20000 in
set_option maxHeartbeats 2000000 in
theorem lawc_51 {p : Program} {e : Env} {s : State} {m : MethodId} {below : List Frame} {meth : Method} {c : Code} (l : Launch) {b0 b : Nat} {xs : Nat → Int32} {D : va_G} {aC : Nat → ClassId} (E : EE p s m meth c D aC b 4 cL_law RL ret) (hb : b = s.heap.size) (hX : va_X b0 6 xs s s.heap) (hb0 : b0 < s.heap.size) : Wv p l e room_1 s m #[Value.ref b0] below meth c (lw_Z below #[Value.ref b0] s) D aC b 4 1759 [some (AX b0), some (AR 0), some (AR 95), some (AI 0)] [] wv_318 116 6683 := by
  refine s_aload_n E dL_law_1759 rfl rfl ?_
  refine s_xload_n E dL_law_1760 rfl rfl ?_
  refine s_iload_n E dL_law_1761 rfl rfl ?_
  refine s_iconst (v := 1) E dL_law_1762 (by decide) ?_
  refine s_iadd E dL_law_1763 ?_
  refine s_top (y := 1) (by decide) ?_
  refine s_sld E hX hb0 hb (vp_c (by decide)) dL_law_1764 ?_
  refine s_top (y := (xs 1)) (congrArg xs (by decide)) ?_
  refine s_xload_n E dL_law_1765 rfl rfl ?_
  refine s_iload_n E dL_law_1766 rfl rfl ?_
  refine s_iconst (v := 2) E dL_law_1767 (by decide) ?_
  refine s_iadd E dL_law_1768 ?_
  refine s_top (y := 2) (by decide) ?_
  refine s_sld E hX hb0 hb (vp_c (by decide)) dL_law_1769 ?_
  refine s_top (y := (xs 2)) (congrArg xs (by decide)) ?_
  refine s_vI (As := [AI (xs 1), AI (xs 2)]) (S := []) E (K_X9_part_0_CRMS l D aC b wv_318 ((xs 1)) ((xs 2)) FrC_0 RfC_0 FrM_0 RfM_0) cv_L_223 rfl rfl rfl (ltn FrC_0.1 (by decide)) (Nat.le_of_ble_eq_true rfl) (Nat.le_of_ble_eq_true rfl) ⟨(Nat.le_of_ble_eq_true rfl), (Nat.le_of_ble_eq_true rfl)⟩ (Nat.le_of_ble_eq_true rfl) dL_law_1770 (fun r u hp => ?_)
  obtain ⟨rfl, rfl⟩ := hp
  refine s_aload_n E dL_law_1773 rfl rfl ?_
  refine s_xload_n E dL_law_1774 rfl rfl ?_
  refine s_iload_n E dL_law_1775 rfl rfl ?_
  refine s_iconst (v := 1) E dL_law_1776 (by decide) ?_
  refine s_iadd E dL_law_1777 ?_
  refine s_top (y := 1) (by decide) ?_
  refine s_sld E hX hb0 hb (vp_c (by decide)) dL_law_1778 ?_
  refine s_top (y := (xs 1)) (congrArg xs (by decide)) ?_
  refine s_xload_n E dL_law_1779 rfl rfl ?_
  refine s_iload_n E dL_law_1780 rfl rfl ?_
  refine s_iconst (v := 2) E dL_law_1781 (by decide) ?_
  refine s_iadd E dL_law_1782 ?_
  refine s_top (y := 2) (by decide) ?_
  refine s_sld E hX hb0 hb (vp_c (by decide)) dL_law_1783 ?_
  refine s_top (y := (xs 2)) (congrArg xs (by decide)) ?_
  refine s_vI (As := [AI (xs 1), AI (xs 2)]) (S := [AI (-2)]) E (K_X10_part_95_MS l D aC b wv_318 ((xs 1)) ((xs 2)) FrM_0 RfM_0) cv_L_226 rfl rfl rfl (ltn FrC_0.1 (by decide)) (Nat.le_of_ble_eq_true rfl) (Nat.le_of_ble_eq_true rfl) ⟨(Nat.le_of_ble_eq_true rfl), (Nat.le_of_ble_eq_true rfl)⟩ (Nat.le_of_ble_eq_true rfl) dL_law_1784 (fun r u_1 hp => ?_)
  obtain ⟨rfl, hu_1, hu_2⟩ := hp
  refine s_icmp_eq (tgt := 2494) E dL_law_1787 (by decide) (fun _ => ?_) (fun hh => absurd (by decide) hh)
  exact law_tail l E hb hX hb0 u_1
set_option maxRecDepth 20000 in
set_option maxHeartbeats 2000000 in
theorem lawc_52 {p : Program} {e : Env} {s : State} {m : MethodId} {below : List Frame} {meth : Method} {c : Code} (l : Launch) {b0 b : Nat} {xs : Nat → Int32} {D : va_G} {aC : Nat → ClassId} (E : EE p s m meth c D aC b 4 cL_law RL ret) (hb : b = s.heap.size) (hX : va_X b0 6 xs s s.heap) (hb0 : b0 < s.heap.size) : Wv p l e room_1 s m #[Value.ref b0] below meth c (lw_Z below #[Value.ref b0] s) D aC b 4 1792 [some (AX b0), some (AR 0), some (AR 95), some (AI 0)] [] wv_318 116 6683 := by
  refine s_aload_n E dL_law_1792 rfl rfl ?_
  refine s_vI (As := []) (S := []) E (K_X9_cabinet_0_CRMS l D aC b wv_318  FrC_0 RfC_0 FrM_0 RfM_0) cv_L_227 rfl rfl rfl (ltn FrC_0.1 (by decide)) (Nat.le_of_ble_eq_true rfl) (Nat.le_of_ble_eq_true rfl) ⟨(Nat.le_of_ble_eq_true rfl), (Nat.le_of_ble_eq_true rfl)⟩ (Nat.le_of_ble_eq_true rfl) dL_law_1793 (fun r u hp => ?_)
  obtain ⟨rfl, rfl⟩ := hp
  refine s_aload_n E dL_law_1796 rfl rfl ?_
  refine s_vI (As := []) (S := [AI (-2)]) E (K_X10_cabinet_95_MS l D aC b wv_318  FrM_0 RfM_0) cv_L_230 rfl rfl rfl (ltn FrC_0.1 (by decide)) (Nat.le_of_ble_eq_true rfl) (Nat.le_of_ble_eq_true rfl) ⟨(Nat.le_of_ble_eq_true rfl), (Nat.le_of_ble_eq_true rfl)⟩ (Nat.le_of_ble_eq_true rfl) dL_law_1797 (fun r u_1 hp => ?_)
  obtain ⟨rfl, hu_1, hu_2⟩ := hp
  refine s_icmp_eq (tgt := 2494) E dL_law_1800 (by decide) (fun _ => ?_) (fun hh => absurd (by decide) hh)
  exact law_tail l E hb hX hb0 u_1
set_option maxRecDepth 20000 in
set_option maxHeartbeats 2000000 in
theorem lawc_53 {p : Program} {e : Env} {s : State} {m : MethodId} {below : List Frame} {meth : Method} {c : Code} (l : Launch) {b0 b : Nat} {xs : Nat → Int32} {D : va_G} {aC : Nat → ClassId} (E : EE p s m meth c D aC b 4 cL_law RL ret) (hb : b = s.heap.size) (hX : va_X b0 6 xs s s.heap) (hb0 : b0 < s.heap.size) : Wv p l e room_1 s m #[Value.ref b0] below meth c (lw_Z below #[Value.ref b0] s) D aC b 4 1805 [some (AX b0), some (AR 0), some (AR 95), some (AI 0)] [] wv_318 116 6683 := by
  refine s_aload_n E dL_law_1805 rfl rfl ?_
  refine s_vI (As := []) (S := []) E (K_X9_cabinets_0_CRMS l D aC b wv_318  FrC_0 RfC_0 FrM_0 RfM_0) cv_L_231 rfl rfl rfl (ltn FrC_0.1 (by decide)) (Nat.le_of_ble_eq_true rfl) (Nat.le_of_ble_eq_true rfl) ⟨(Nat.le_of_ble_eq_true rfl), (Nat.le_of_ble_eq_true rfl)⟩ (Nat.le_of_ble_eq_true rfl) dL_law_1806 (fun r u hp => ?_)
  obtain ⟨rfl, rfl⟩ := hp
  refine s_aload_n E dL_law_1809 rfl rfl ?_
  refine s_vI (As := []) (S := [AI (-2)]) E (K_X10_cabinets_95_MS l D aC b wv_318  FrM_0 RfM_0) cv_L_234 rfl rfl rfl (ltn FrC_0.1 (by decide)) (Nat.le_of_ble_eq_true rfl) (Nat.le_of_ble_eq_true rfl) ⟨(Nat.le_of_ble_eq_true rfl), (Nat.le_of_ble_eq_true rfl)⟩ (Nat.le_of_ble_eq_true rfl) dL_law_1810 (fun r u_1 hp => ?_)
  obtain ⟨rfl, hu_1, hu_2⟩ := hp
  refine s_icmp_eq (tgt := 2494) E dL_law_1813 (by decide) (fun _ => ?_) (fun hh => absurd (by decide) hh)
  exact law_tail l E hb hX hb0 u_1
set_option maxRecDepth 20000 in
set_option maxHeartbeats 2000000 in
theorem lawc_54 {p : Program} {e : Env} {s : State} {m : MethodId} {below : List Frame} {meth : Method} {c : Code} (l : Launch) {b0 b : Nat} {xs : Nat → Int32} {D : va_G} {aC : Nat → ClassId} (E : EE p s m meth c D aC b 4 cL_law RL ret) (hb : b = s.heap.size) (hX : va_X b0 6 xs s s.heap) (hb0 : b0 < s.heap.size) : Wv p l e room_1 s m #[Value.ref b0] below meth c (lw_Z below #[Value.ref b0] s) D aC b 4 1818 [some (AX b0), some (AR 0), some (AR 95), some (AI 0)] [] wv_318 116 6683 := by
  refine s_aload_n E dL_law_1818 rfl rfl ?_
  refine s_vI (As := []) (S := []) E (K_X9_kingmaker_0_CRMS l D aC b wv_318  FrC_0 RfC_0 FrM_0 RfM_0) cv_L_235 rfl rfl rfl (ltn FrC_0.1 (by decide)) (Nat.le_of_ble_eq_true rfl) (Nat.le_of_ble_eq_true rfl) ⟨(Nat.le_of_ble_eq_true rfl), (Nat.le_of_ble_eq_true rfl)⟩ (Nat.le_of_ble_eq_true rfl) dL_law_1819 (fun r u hp => ?_)
  obtain ⟨rfl, rfl⟩ := hp
  refine s_aload_n E dL_law_1822 rfl rfl ?_
  refine s_vI (As := []) (S := [AI (-2)]) E (K_X10_kingmaker_95_MS l D aC b wv_318  FrM_0 RfM_0) cv_L_238 rfl rfl rfl (ltn FrC_0.1 (by decide)) (Nat.le_of_ble_eq_true rfl) (Nat.le_of_ble_eq_true rfl) ⟨(Nat.le_of_ble_eq_true rfl), (Nat.le_of_ble_eq_true rfl)⟩ (Nat.le_of_ble_eq_true rfl) dL_law_1823 (fun r u_1 hp => ?_)
  obtain ⟨rfl, hu_1, hu_2⟩ := hp
  refine s_icmp_eq (tgt := 2494) E dL_law_1826 (by decide) (fun _ => ?_) (fun hh => absurd (by decide) hh)
  exact law_tail l E hb hX hb0 u_1
set_option maxRecDepth 20000 in
set_option maxHeartbeats 2000000 in
theorem lawc_55 {p : Program} {e : Env} {s : State} {m : MethodId} {below : List Frame} {meth : Method} {c : Code} (l : Launch) {b0 b : Nat} {xs : Nat → Int32} {D : va_G} {aC : Nat → ClassId} (E : EE p s m meth c D aC b 4 cL_law RL ret) (hb : b = s.heap.size) (hX : va_X b0 6 xs s s.heap) (hb0 : b0 < s.heap.size) : Wv p l e room_1 s m #[Value.ref b0] below meth c (lw_Z below #[Value.ref b0] s) D aC b 4 1831 [some (AX b0), some (AR 0), some (AR 95), some (AI 0)] [] wv_318 116 6683 := by
  refine s_aload_n E dL_law_1831 rfl rfl ?_
  refine s_xload_n E dL_law_1832 rfl rfl ?_
  refine s_iload_n E dL_law_1833 rfl rfl ?_
  refine s_iconst (v := 1) E dL_law_1834 (by decide) ?_
  refine s_iadd E dL_law_1835 ?_
  refine s_top (y := 1) (by decide) ?_
  refine s_sld E hX hb0 hb (vp_c (by decide)) dL_law_1836 ?_
  refine s_top (y := (xs 1)) (congrArg xs (by decide)) ?_
  refine s_xload_n E dL_law_1837 rfl rfl ?_
  refine s_iload_n E dL_law_1838 rfl rfl ?_
  refine s_iconst (v := 2) E dL_law_1839 (by decide) ?_
  refine s_iadd E dL_law_1840 ?_
  refine s_top (y := 2) (by decide) ?_
  refine s_sld E hX hb0 hb (vp_c (by decide)) dL_law_1841 ?_
  refine s_top (y := (xs 2)) (congrArg xs (by decide)) ?_
  refine s_vI (As := [AI (xs 1), AI (xs 2)]) (S := []) E (K_X9_rests_0_CRMS l D aC b wv_318 ((xs 1)) ((xs 2)) FrC_0 RfC_0 FrM_0 RfM_0) cv_L_239 rfl rfl rfl (ltn FrC_0.1 (by decide)) (Nat.le_of_ble_eq_true rfl) (Nat.le_of_ble_eq_true rfl) ⟨(Nat.le_of_ble_eq_true rfl), (Nat.le_of_ble_eq_true rfl)⟩ (Nat.le_of_ble_eq_true rfl) dL_law_1842 (fun r u hp => ?_)
  obtain ⟨rfl, rfl⟩ := hp
  refine s_aload_n E dL_law_1845 rfl rfl ?_
  refine s_xload_n E dL_law_1846 rfl rfl ?_
  refine s_iload_n E dL_law_1847 rfl rfl ?_
  refine s_iconst (v := 1) E dL_law_1848 (by decide) ?_
  refine s_iadd E dL_law_1849 ?_
  refine s_top (y := 1) (by decide) ?_
  refine s_sld E hX hb0 hb (vp_c (by decide)) dL_law_1850 ?_
  refine s_top (y := (xs 1)) (congrArg xs (by decide)) ?_
  refine s_xload_n E dL_law_1851 rfl rfl ?_
  refine s_iload_n E dL_law_1852 rfl rfl ?_
  refine s_iconst (v := 2) E dL_law_1853 (by decide) ?_
  refine s_iadd E dL_law_1854 ?_
  refine s_top (y := 2) (by decide) ?_
  refine s_sld E hX hb0 hb (vp_c (by decide)) dL_law_1855 ?_
  refine s_top (y := (xs 2)) (congrArg xs (by decide)) ?_
  refine s_vI (As := [AI (xs 1), AI (xs 2)]) (S := [AI (-2)]) E (K_X10_rests_95_MS l D aC b wv_318 ((xs 1)) ((xs 2)) FrM_0 RfM_0) cv_L_242 rfl rfl rfl (ltn FrC_0.1 (by decide)) (Nat.le_of_ble_eq_true rfl) (Nat.le_of_ble_eq_true rfl) ⟨(Nat.le_of_ble_eq_true rfl), (Nat.le_of_ble_eq_true rfl)⟩ (Nat.le_of_ble_eq_true rfl) dL_law_1856 (fun r u_1 hp => ?_)
  obtain ⟨rfl, hu_1, hu_2⟩ := hp
  refine s_icmp_eq (tgt := 2494) E dL_law_1859 (by decide) (fun _ => ?_) (fun hh => absurd (by decide) hh)
  exact law_tail l E hb hX hb0 u_1
set_option maxRecDepth 20000 in
set_option maxHeartbeats 2000000 in
theorem lawc_56 {p : Program} {e : Env} {s : State} {m : MethodId} {below : List Frame} {meth : Method} {c : Code} (l : Launch) {b0 b : Nat} {xs : Nat → Int32} {D : va_G} {aC : Nat → ClassId} (E : EE p s m meth c D aC b 4 cL_law RL ret) (hb : b = s.heap.size) (hX : va_X b0 6 xs s s.heap) (hb0 : b0 < s.heap.size) : Wv p l e room_1 s m #[Value.ref b0] below meth c (lw_Z below #[Value.ref b0] s) D aC b 4 1864 [some (AX b0), some (AR 0), some (AR 95), some (AI 0)] [] wv_318 116 6683 := by
  refine s_aload_n E dL_law_1864 rfl rfl ?_
  refine s_xload_n E dL_law_1865 rfl rfl ?_
  refine s_iload_n E dL_law_1866 rfl rfl ?_
  refine s_iconst (v := 1) E dL_law_1867 (by decide) ?_
  refine s_iadd E dL_law_1868 ?_
  refine s_top (y := 1) (by decide) ?_
  refine s_sld E hX hb0 hb (vp_c (by decide)) dL_law_1869 ?_
  refine s_top (y := (xs 1)) (congrArg xs (by decide)) ?_
  refine s_xload_n E dL_law_1870 rfl rfl ?_
  refine s_iload_n E dL_law_1871 rfl rfl ?_
  refine s_iconst (v := 2) E dL_law_1872 (by decide) ?_
  refine s_iadd E dL_law_1873 ?_
  refine s_top (y := 2) (by decide) ?_
  refine s_sld E hX hb0 hb (vp_c (by decide)) dL_law_1874 ?_
  refine s_top (y := (xs 2)) (congrArg xs (by decide)) ?_
  refine s_xload_n E dL_law_1875 rfl rfl ?_
  refine s_iload_n E dL_law_1876 rfl rfl ?_
  refine s_iconst (v := 3) E dL_law_1877 (by decide) ?_
  refine s_iadd E dL_law_1878 ?_
  refine s_top (y := 3) (by decide) ?_
  refine s_sld E hX hb0 hb (vp_c (by decide)) dL_law_1879 ?_
  refine s_top (y := (xs 3)) (congrArg xs (by decide)) ?_
  refine s_xload_n E dL_law_1880 rfl rfl ?_
  refine s_iload_n E dL_law_1881 rfl rfl ?_
  refine s_iconst (v := 4) E dL_law_1882 (by decide) ?_
  refine s_iadd E dL_law_1883 ?_
  refine s_top (y := 4) (by decide) ?_
  refine s_sld E hX hb0 hb (vp_c (by decide)) dL_law_1884 ?_
  refine s_top (y := (xs 4)) (congrArg xs (by decide)) ?_
  refine s_vI (As := [AI (xs 1), AI (xs 2), AI (xs 3), AI (xs 4)]) (S := []) E (K_X9_gains_0_CRMS l D aC b wv_318 ((xs 1)) ((xs 2)) ((xs 3)) ((xs 4)) FrC_0 RfC_0 FrM_0 RfM_0) cv_L_243 rfl rfl rfl (ltn FrC_0.1 (by decide)) (Nat.le_of_ble_eq_true rfl) (Nat.le_of_ble_eq_true rfl) ⟨(Nat.le_of_ble_eq_true rfl), (Nat.le_of_ble_eq_true rfl)⟩ (Nat.le_of_ble_eq_true rfl) dL_law_1885 (fun r u hp => ?_)
  obtain ⟨rfl, rfl⟩ := hp
  refine s_aload_n E dL_law_1888 rfl rfl ?_
  refine s_xload_n E dL_law_1889 rfl rfl ?_
  refine s_iload_n E dL_law_1890 rfl rfl ?_
  refine s_iconst (v := 1) E dL_law_1891 (by decide) ?_
  refine s_iadd E dL_law_1892 ?_
  refine s_top (y := 1) (by decide) ?_
  refine s_sld E hX hb0 hb (vp_c (by decide)) dL_law_1893 ?_
  refine s_top (y := (xs 1)) (congrArg xs (by decide)) ?_
  refine s_xload_n E dL_law_1894 rfl rfl ?_
  refine s_iload_n E dL_law_1895 rfl rfl ?_
  refine s_iconst (v := 2) E dL_law_1896 (by decide) ?_
  refine s_iadd E dL_law_1897 ?_
  refine s_top (y := 2) (by decide) ?_
  refine s_sld E hX hb0 hb (vp_c (by decide)) dL_law_1898 ?_
  refine s_top (y := (xs 2)) (congrArg xs (by decide)) ?_
  refine s_xload_n E dL_law_1899 rfl rfl ?_
  refine s_iload_n E dL_law_1900 rfl rfl ?_
  refine s_iconst (v := 3) E dL_law_1901 (by decide) ?_
  refine s_iadd E dL_law_1902 ?_
  refine s_top (y := 3) (by decide) ?_
  refine s_sld E hX hb0 hb (vp_c (by decide)) dL_law_1903 ?_
  refine s_top (y := (xs 3)) (congrArg xs (by decide)) ?_
  refine s_xload_n E dL_law_1904 rfl rfl ?_
  refine s_iload_n E dL_law_1905 rfl rfl ?_
  refine s_iconst (v := 4) E dL_law_1906 (by decide) ?_
  refine s_iadd E dL_law_1907 ?_
  refine s_top (y := 4) (by decide) ?_
  refine s_sld E hX hb0 hb (vp_c (by decide)) dL_law_1908 ?_
  refine s_top (y := (xs 4)) (congrArg xs (by decide)) ?_
  refine s_vI (As := [AI (xs 1), AI (xs 2), AI (xs 3), AI (xs 4)]) (S := [AI (-1000)]) E (K_X10_gains_95_MS l D aC b wv_318 ((xs 1)) ((xs 2)) ((xs 3)) ((xs 4)) FrM_0 RfM_0) cv_L_246 rfl rfl rfl (ltn FrC_0.1 (by decide)) (Nat.le_of_ble_eq_true rfl) (Nat.le_of_ble_eq_true rfl) ⟨(Nat.le_of_ble_eq_true rfl), (Nat.le_of_ble_eq_true rfl)⟩ (Nat.le_of_ble_eq_true rfl) dL_law_1909 (fun r u_1 hp => ?_)
  obtain ⟨rfl, hu_1, hu_2⟩ := hp
  refine s_icmp_eq (tgt := 2494) E dL_law_1912 (by decide) (fun _ => ?_) (fun hh => absurd (by decide) hh)
  exact law_tail l E hb hX hb0 u_1
set_option maxRecDepth 20000 in
set_option maxHeartbeats 2000000 in
theorem lawc_57 {p : Program} {e : Env} {s : State} {m : MethodId} {below : List Frame} {meth : Method} {c : Code} (l : Launch) {b0 b : Nat} {xs : Nat → Int32} {D : va_G} {aC : Nat → ClassId} (E : EE p s m meth c D aC b 4 cL_law RL ret) (hb : b = s.heap.size) (hX : va_X b0 6 xs s s.heap) (hb0 : b0 < s.heap.size) : Wv p l e room_1 s m #[Value.ref b0] below meth c (lw_Z below #[Value.ref b0] s) D aC b 4 1917 [some (AX b0), some (AR 0), some (AR 95), some (AI 0)] [] wv_318 116 6683 := by
  refine s_aload_n E dL_law_1917 rfl rfl ?_
  refine s_xload_n E dL_law_1918 rfl rfl ?_
  refine s_iload_n E dL_law_1919 rfl rfl ?_
  refine s_iconst (v := 1) E dL_law_1920 (by decide) ?_
  refine s_iadd E dL_law_1921 ?_
  refine s_top (y := 1) (by decide) ?_
  refine s_sld E hX hb0 hb (vp_c (by decide)) dL_law_1922 ?_
  refine s_top (y := (xs 1)) (congrArg xs (by decide)) ?_
  refine s_xload_n E dL_law_1923 rfl rfl ?_
  refine s_iload_n E dL_law_1924 rfl rfl ?_
  refine s_iconst (v := 2) E dL_law_1925 (by decide) ?_
  refine s_iadd E dL_law_1926 ?_
  refine s_top (y := 2) (by decide) ?_
  refine s_sld E hX hb0 hb (vp_c (by decide)) dL_law_1927 ?_
  refine s_top (y := (xs 2)) (congrArg xs (by decide)) ?_
  refine s_xload_n E dL_law_1928 rfl rfl ?_
  refine s_iload_n E dL_law_1929 rfl rfl ?_
  refine s_iconst (v := 3) E dL_law_1930 (by decide) ?_
  refine s_iadd E dL_law_1931 ?_
  refine s_top (y := 3) (by decide) ?_
  refine s_sld E hX hb0 hb (vp_c (by decide)) dL_law_1932 ?_
  refine s_top (y := (xs 3)) (congrArg xs (by decide)) ?_
  refine s_xload_n E dL_law_1933 rfl rfl ?_
  refine s_iload_n E dL_law_1934 rfl rfl ?_
  refine s_iconst (v := 4) E dL_law_1935 (by decide) ?_
  refine s_iadd E dL_law_1936 ?_
  refine s_top (y := 4) (by decide) ?_
  refine s_sld E hX hb0 hb (vp_c (by decide)) dL_law_1937 ?_
  refine s_top (y := (xs 4)) (congrArg xs (by decide)) ?_
  refine s_vL (As := [AI (xs 1), AI (xs 2), AI (xs 3), AI (xs 4)]) (S := []) E (K_X9_chance_0_CRMS l D aC b wv_318 ((xs 1)) ((xs 2)) ((xs 3)) ((xs 4)) FrC_0 RfC_0 FrM_0 RfM_0) cv_L_247 rfl rfl rfl (ltn FrC_0.1 (by decide)) (Nat.le_of_ble_eq_true rfl) (Nat.le_of_ble_eq_true rfl) ⟨(Nat.le_of_ble_eq_true rfl), (Nat.le_of_ble_eq_true rfl)⟩ (Nat.le_of_ble_eq_true rfl) dL_law_1938 (fun r u hp => ?_)
  obtain ⟨rfl, rfl⟩ := hp
  refine s_aload_n E dL_law_1941 rfl rfl ?_
  refine s_xload_n E dL_law_1942 rfl rfl ?_
  refine s_iload_n E dL_law_1943 rfl rfl ?_
  refine s_iconst (v := 1) E dL_law_1944 (by decide) ?_
  refine s_iadd E dL_law_1945 ?_
  refine s_top (y := 1) (by decide) ?_
  refine s_sld E hX hb0 hb (vp_c (by decide)) dL_law_1946 ?_
  refine s_top (y := (xs 1)) (congrArg xs (by decide)) ?_
  refine s_xload_n E dL_law_1947 rfl rfl ?_
  refine s_iload_n E dL_law_1948 rfl rfl ?_
  refine s_iconst (v := 2) E dL_law_1949 (by decide) ?_
  refine s_iadd E dL_law_1950 ?_
  refine s_top (y := 2) (by decide) ?_
  refine s_sld E hX hb0 hb (vp_c (by decide)) dL_law_1951 ?_
  refine s_top (y := (xs 2)) (congrArg xs (by decide)) ?_
  refine s_xload_n E dL_law_1952 rfl rfl ?_
  refine s_iload_n E dL_law_1953 rfl rfl ?_
  refine s_iconst (v := 3) E dL_law_1954 (by decide) ?_
  refine s_iadd E dL_law_1955 ?_
  refine s_top (y := 3) (by decide) ?_
  refine s_sld E hX hb0 hb (vp_c (by decide)) dL_law_1956 ?_
  refine s_top (y := (xs 3)) (congrArg xs (by decide)) ?_
  refine s_xload_n E dL_law_1957 rfl rfl ?_
  refine s_iload_n E dL_law_1958 rfl rfl ?_
  refine s_iconst (v := 4) E dL_law_1959 (by decide) ?_
  refine s_iadd E dL_law_1960 ?_
  refine s_top (y := 4) (by decide) ?_
  refine s_sld E hX hb0 hb (vp_c (by decide)) dL_law_1961 ?_
  refine s_top (y := (xs 4)) (congrArg xs (by decide)) ?_
  refine s_vL (As := [AI (xs 1), AI (xs 2), AI (xs 3), AI (xs 4)]) (S := [AL (-2)]) E (K_X10_chance_95_MS l D aC b wv_318 ((xs 1)) ((xs 2)) ((xs 3)) ((xs 4)) FrM_0 RfM_0) cv_L_251 rfl rfl rfl (ltn FrC_0.1 (by decide)) (Nat.le_of_ble_eq_true rfl) (Nat.le_of_ble_eq_true rfl) ⟨(Nat.le_of_ble_eq_true rfl), (Nat.le_of_ble_eq_true rfl)⟩ (Nat.le_of_ble_eq_true rfl) dL_law_1962 (fun r u_1 hp => ?_)
  obtain ⟨rfl, hu_1, hu_2⟩ := hp
  refine s_lcmp E dL_law_1965 ?_
  refine s_top (y := 0) (by decide) ?_
  refine s_if_eq (tgt := 2494) E dL_law_1966 (by decide) (fun _ => ?_) (fun hh => absurd (by decide) hh)
  exact law_tail l E hb hX hb0 u_1
set_option maxRecDepth 20000 in
set_option maxHeartbeats 2000000 in
theorem lawc_58 {p : Program} {e : Env} {s : State} {m : MethodId} {below : List Frame} {meth : Method} {c : Code} (l : Launch) {b0 b : Nat} {xs : Nat → Int32} {D : va_G} {aC : Nat → ClassId} (E : EE p s m meth c D aC b 4 cL_law RL ret) (hb : b = s.heap.size) (hX : va_X b0 6 xs s s.heap) (hb0 : b0 < s.heap.size) : Wv p l e room_1 s m #[Value.ref b0] below meth c (lw_Z below #[Value.ref b0] s) D aC b 4 1971 [some (AX b0), some (AR 0), some (AR 95), some (AI 0)] [] wv_318 116 6683 := by
  refine s_aload_n E dL_law_1971 rfl rfl ?_
  refine s_xload_n E dL_law_1972 rfl rfl ?_
  refine s_iload_n E dL_law_1973 rfl rfl ?_
  refine s_iconst (v := 1) E dL_law_1974 (by decide) ?_
  refine s_iadd E dL_law_1975 ?_
  refine s_top (y := 1) (by decide) ?_
  refine s_sld E hX hb0 hb (vp_c (by decide)) dL_law_1976 ?_
  refine s_top (y := (xs 1)) (congrArg xs (by decide)) ?_
  refine s_xload_n E dL_law_1977 rfl rfl ?_
  refine s_iload_n E dL_law_1978 rfl rfl ?_
  refine s_iconst (v := 2) E dL_law_1979 (by decide) ?_
  refine s_iadd E dL_law_1980 ?_
  refine s_top (y := 2) (by decide) ?_
  refine s_sld E hX hb0 hb (vp_c (by decide)) dL_law_1981 ?_
  refine s_top (y := (xs 2)) (congrArg xs (by decide)) ?_
  refine s_xload_n E dL_law_1982 rfl rfl ?_
  refine s_iload_n E dL_law_1983 rfl rfl ?_
  refine s_iconst (v := 3) E dL_law_1984 (by decide) ?_
  refine s_iadd E dL_law_1985 ?_
  refine s_top (y := 3) (by decide) ?_
  refine s_sld E hX hb0 hb (vp_c (by decide)) dL_law_1986 ?_
  refine s_top (y := (xs 3)) (congrArg xs (by decide)) ?_
  refine s_vL (As := [AI (xs 1), AI (xs 2), AI (xs 3)]) (S := []) E (K_X9_mean_0_CRMS l D aC b wv_318 ((xs 1)) ((xs 2)) ((xs 3)) FrC_0 RfC_0 FrM_0 RfM_0) cv_L_252 rfl rfl rfl (ltn FrC_0.1 (by decide)) (Nat.le_of_ble_eq_true rfl) (Nat.le_of_ble_eq_true rfl) ⟨(Nat.le_of_ble_eq_true rfl), (Nat.le_of_ble_eq_true rfl)⟩ (Nat.le_of_ble_eq_true rfl) dL_law_1987 (fun r u hp => ?_)
  obtain ⟨rfl, rfl⟩ := hp
  refine s_aload_n E dL_law_1990 rfl rfl ?_
  refine s_xload_n E dL_law_1991 rfl rfl ?_
  refine s_iload_n E dL_law_1992 rfl rfl ?_
  refine s_iconst (v := 1) E dL_law_1993 (by decide) ?_
  refine s_iadd E dL_law_1994 ?_
  refine s_top (y := 1) (by decide) ?_
  refine s_sld E hX hb0 hb (vp_c (by decide)) dL_law_1995 ?_
  refine s_top (y := (xs 1)) (congrArg xs (by decide)) ?_
  refine s_xload_n E dL_law_1996 rfl rfl ?_
  refine s_iload_n E dL_law_1997 rfl rfl ?_
  refine s_iconst (v := 2) E dL_law_1998 (by decide) ?_
  refine s_iadd E dL_law_1999 ?_
  refine s_top (y := 2) (by decide) ?_
  refine s_sld E hX hb0 hb (vp_c (by decide)) dL_law_2000 ?_
  refine s_top (y := (xs 2)) (congrArg xs (by decide)) ?_
  refine s_xload_n E dL_law_2001 rfl rfl ?_
  refine s_iload_n E dL_law_2002 rfl rfl ?_
  refine s_iconst (v := 3) E dL_law_2003 (by decide) ?_
  refine s_iadd E dL_law_2004 ?_
  refine s_top (y := 3) (by decide) ?_
  refine s_sld E hX hb0 hb (vp_c (by decide)) dL_law_2005 ?_
  refine s_top (y := (xs 3)) (congrArg xs (by decide)) ?_
  refine s_vL (As := [AI (xs 1), AI (xs 2), AI (xs 3)]) (S := [AL (-2)]) E (K_X10_mean_95_MS l D aC b wv_318 ((xs 1)) ((xs 2)) ((xs 3)) FrM_0 RfM_0) cv_L_256 rfl rfl rfl (ltn FrC_0.1 (by decide)) (Nat.le_of_ble_eq_true rfl) (Nat.le_of_ble_eq_true rfl) ⟨(Nat.le_of_ble_eq_true rfl), (Nat.le_of_ble_eq_true rfl)⟩ (Nat.le_of_ble_eq_true rfl) dL_law_2006 (fun r u_1 hp => ?_)
  obtain ⟨rfl, hu_1, hu_2⟩ := hp
  refine s_lcmp E dL_law_2009 ?_
  refine s_top (y := 0) (by decide) ?_
  refine s_if_eq (tgt := 2494) E dL_law_2010 (by decide) (fun _ => ?_) (fun hh => absurd (by decide) hh)
  exact law_tail l E hb hX hb0 u_1
set_option maxRecDepth 20000 in
set_option maxHeartbeats 2000000 in
theorem lawc_59 {p : Program} {e : Env} {s : State} {m : MethodId} {below : List Frame} {meth : Method} {c : Code} (l : Launch) {b0 b : Nat} {xs : Nat → Int32} {D : va_G} {aC : Nat → ClassId} (E : EE p s m meth c D aC b 4 cL_law RL ret) (hb : b = s.heap.size) (hX : va_X b0 6 xs s s.heap) (hb0 : b0 < s.heap.size) : Wv p l e room_1 s m #[Value.ref b0] below meth c (lw_Z below #[Value.ref b0] s) D aC b 4 2015 [some (AX b0), some (AR 0), some (AR 95), some (AI 0)] [] wv_318 116 6683 := by
  refine s_aload_n E dL_law_2015 rfl rfl ?_
  refine s_xload_n E dL_law_2016 rfl rfl ?_
  refine s_iload_n E dL_law_2017 rfl rfl ?_
  refine s_iconst (v := 1) E dL_law_2018 (by decide) ?_
  refine s_iadd E dL_law_2019 ?_
  refine s_top (y := 1) (by decide) ?_
  refine s_sld E hX hb0 hb (vp_c (by decide)) dL_law_2020 ?_
  refine s_top (y := (xs 1)) (congrArg xs (by decide)) ?_
  refine s_xload_n E dL_law_2021 rfl rfl ?_
  refine s_iload_n E dL_law_2022 rfl rfl ?_
  refine s_iconst (v := 2) E dL_law_2023 (by decide) ?_
  refine s_iadd E dL_law_2024 ?_
  refine s_top (y := 2) (by decide) ?_
  refine s_sld E hX hb0 hb (vp_c (by decide)) dL_law_2025 ?_
  refine s_top (y := (xs 2)) (congrArg xs (by decide)) ?_
  refine s_xload_n E dL_law_2026 rfl rfl ?_
  refine s_iload_n E dL_law_2027 rfl rfl ?_
  refine s_iconst (v := 3) E dL_law_2028 (by decide) ?_
  refine s_iadd E dL_law_2029 ?_
  refine s_top (y := 3) (by decide) ?_
  refine s_sld E hX hb0 hb (vp_c (by decide)) dL_law_2030 ?_
  refine s_top (y := (xs 3)) (congrArg xs (by decide)) ?_
  refine s_vI (As := [AI (xs 1), AI (xs 2), AI (xs 3)]) (S := []) E (K_X9_bid_0_CRMS l D aC b wv_318 ((xs 1)) ((xs 2)) ((xs 3)) FrC_0 RfC_0 FrM_0 RfM_0) cv_L_257 rfl rfl rfl (ltn FrC_0.1 (by decide)) (Nat.le_of_ble_eq_true rfl) (Nat.le_of_ble_eq_true rfl) ⟨(Nat.le_of_ble_eq_true rfl), (Nat.le_of_ble_eq_true rfl)⟩ (Nat.le_of_ble_eq_true rfl) dL_law_2031 (fun r u hp => ?_)
  obtain ⟨rfl, rfl⟩ := hp
  refine s_aload_n E dL_law_2034 rfl rfl ?_
  refine s_xload_n E dL_law_2035 rfl rfl ?_
  refine s_iload_n E dL_law_2036 rfl rfl ?_
  refine s_iconst (v := 1) E dL_law_2037 (by decide) ?_
  refine s_iadd E dL_law_2038 ?_
  refine s_top (y := 1) (by decide) ?_
  refine s_sld E hX hb0 hb (vp_c (by decide)) dL_law_2039 ?_
  refine s_top (y := (xs 1)) (congrArg xs (by decide)) ?_
  refine s_xload_n E dL_law_2040 rfl rfl ?_
  refine s_iload_n E dL_law_2041 rfl rfl ?_
  refine s_iconst (v := 2) E dL_law_2042 (by decide) ?_
  refine s_iadd E dL_law_2043 ?_
  refine s_top (y := 2) (by decide) ?_
  refine s_sld E hX hb0 hb (vp_c (by decide)) dL_law_2044 ?_
  refine s_top (y := (xs 2)) (congrArg xs (by decide)) ?_
  refine s_xload_n E dL_law_2045 rfl rfl ?_
  refine s_iload_n E dL_law_2046 rfl rfl ?_
  refine s_iconst (v := 3) E dL_law_2047 (by decide) ?_
  refine s_iadd E dL_law_2048 ?_
  refine s_top (y := 3) (by decide) ?_
  refine s_sld E hX hb0 hb (vp_c (by decide)) dL_law_2049 ?_
  refine s_top (y := (xs 3)) (congrArg xs (by decide)) ?_
  refine s_vI (As := [AI (xs 1), AI (xs 2), AI (xs 3)]) (S := [AI (-2)]) E (K_X10_bid_95_MS l D aC b wv_318 ((xs 1)) ((xs 2)) ((xs 3)) FrM_0 RfM_0) cv_L_260 rfl rfl rfl (ltn FrC_0.1 (by decide)) (Nat.le_of_ble_eq_true rfl) (Nat.le_of_ble_eq_true rfl) ⟨(Nat.le_of_ble_eq_true rfl), (Nat.le_of_ble_eq_true rfl)⟩ (Nat.le_of_ble_eq_true rfl) dL_law_2050 (fun r u hp => ?_)
  obtain ⟨rfl, rfl⟩ := hp
  refine s_icmp_eq (tgt := 2494) E dL_law_2053 (by decide) (fun _ => ?_) (fun hh => absurd (by decide) hh)
  exact law_tail l E hb hX hb0 wv_318
set_option maxRecDepth 20000 in
set_option maxHeartbeats 2000000 in
theorem lawc_60 {p : Program} {e : Env} {s : State} {m : MethodId} {below : List Frame} {meth : Method} {c : Code} (l : Launch) {b0 b : Nat} {xs : Nat → Int32} {D : va_G} {aC : Nat → ClassId} (E : EE p s m meth c D aC b 4 cL_law RL ret) (hb : b = s.heap.size) (hX : va_X b0 6 xs s s.heap) (hb0 : b0 < s.heap.size) : Wv p l e room_1 s m #[Value.ref b0] below meth c (lw_Z below #[Value.ref b0] s) D aC b 4 2058 [some (AX b0), some (AR 0), some (AR 95), some (AI 0)] [] wv_318 116 6683 := by
  refine s_aload_n E dL_law_2058 rfl rfl ?_
  refine s_xload_n E dL_law_2059 rfl rfl ?_
  refine s_iload_n E dL_law_2060 rfl rfl ?_
  refine s_iconst (v := 1) E dL_law_2061 (by decide) ?_
  refine s_iadd E dL_law_2062 ?_
  refine s_top (y := 1) (by decide) ?_
  refine s_sld E hX hb0 hb (vp_c (by decide)) dL_law_2063 ?_
  refine s_top (y := (xs 1)) (congrArg xs (by decide)) ?_
  refine s_xload_n E dL_law_2064 rfl rfl ?_
  refine s_iload_n E dL_law_2065 rfl rfl ?_
  refine s_iconst (v := 2) E dL_law_2066 (by decide) ?_
  refine s_iadd E dL_law_2067 ?_
  refine s_top (y := 2) (by decide) ?_
  refine s_sld E hX hb0 hb (vp_c (by decide)) dL_law_2068 ?_
  refine s_top (y := (xs 2)) (congrArg xs (by decide)) ?_
  refine s_vI (As := [AI (xs 1), AI (xs 2)]) (S := []) E (K_X9_move_0_CRMS l D aC b wv_318 ((xs 1)) ((xs 2)) FrC_0 RfC_0 FrM_0 RfM_0) cv_L_261 rfl rfl rfl (ltn FrC_0.1 (by decide)) (Nat.le_of_ble_eq_true rfl) (Nat.le_of_ble_eq_true rfl) ⟨(Nat.le_of_ble_eq_true rfl), (Nat.le_of_ble_eq_true rfl)⟩ (Nat.le_of_ble_eq_true rfl) dL_law_2069 (fun r u hp => ?_)
  obtain ⟨rfl, rfl⟩ := hp
  refine s_aload_n E dL_law_2072 rfl rfl ?_
  refine s_xload_n E dL_law_2073 rfl rfl ?_
  refine s_iload_n E dL_law_2074 rfl rfl ?_
  refine s_iconst (v := 1) E dL_law_2075 (by decide) ?_
  refine s_iadd E dL_law_2076 ?_
  refine s_top (y := 1) (by decide) ?_
  refine s_sld E hX hb0 hb (vp_c (by decide)) dL_law_2077 ?_
  refine s_top (y := (xs 1)) (congrArg xs (by decide)) ?_
  refine s_xload_n E dL_law_2078 rfl rfl ?_
  refine s_iload_n E dL_law_2079 rfl rfl ?_
  refine s_iconst (v := 2) E dL_law_2080 (by decide) ?_
  refine s_iadd E dL_law_2081 ?_
  refine s_top (y := 2) (by decide) ?_
  refine s_sld E hX hb0 hb (vp_c (by decide)) dL_law_2082 ?_
  refine s_top (y := (xs 2)) (congrArg xs (by decide)) ?_
  refine s_vI (As := [AI (xs 1), AI (xs 2)]) (S := [AI (-2)]) E (K_X10_move_95_MS l D aC b wv_318 ((xs 1)) ((xs 2)) FrM_0 RfM_0) cv_L_264 rfl rfl rfl (ltn FrC_0.1 (by decide)) (Nat.le_of_ble_eq_true rfl) (Nat.le_of_ble_eq_true rfl) ⟨(Nat.le_of_ble_eq_true rfl), (Nat.le_of_ble_eq_true rfl)⟩ (Nat.le_of_ble_eq_true rfl) dL_law_2083 (fun r u hp => ?_)
  obtain ⟨rfl, rfl⟩ := hp
  refine s_icmp_eq (tgt := 2494) E dL_law_2086 (by decide) (fun _ => ?_) (fun hh => absurd (by decide) hh)
  exact law_tail l E hb hX hb0 wv_318
set_option maxRecDepth 20000 in
set_option maxHeartbeats 2000000 in
theorem lawc_61 {p : Program} {e : Env} {s : State} {m : MethodId} {below : List Frame} {meth : Method} {c : Code} (l : Launch) {b0 b : Nat} {xs : Nat → Int32} {D : va_G} {aC : Nat → ClassId} (E : EE p s m meth c D aC b 4 cL_law RL ret) (hb : b = s.heap.size) (hX : va_X b0 6 xs s s.heap) (hb0 : b0 < s.heap.size) : Wv p l e room_1 s m #[Value.ref b0] below meth c (lw_Z below #[Value.ref b0] s) D aC b 4 2091 [some (AX b0), some (AR 0), some (AR 95), some (AI 0)] [] wv_318 116 6683 := by
  refine s_aload_n E dL_law_2091 rfl rfl ?_
  refine s_vI (As := []) (S := []) E (K_X9_undo_0_CRMS l D aC b wv_318  FrC_0 RfC_0 FrM_0 RfM_0) cv_L_265 rfl rfl rfl (ltn FrC_0.1 (by decide)) (Nat.le_of_ble_eq_true rfl) (Nat.le_of_ble_eq_true rfl) ⟨(Nat.le_of_ble_eq_true rfl), (Nat.le_of_ble_eq_true rfl)⟩ (Nat.le_of_ble_eq_true rfl) dL_law_2092 (fun r u hp => ?_)
  obtain ⟨rfl, rfl⟩ := hp
  refine s_aload_n E dL_law_2095 rfl rfl ?_
  refine s_vI (As := []) (S := [AI (-2)]) E (K_X10_undo_95_MS l D aC b wv_318  FrM_0 RfM_0) cv_L_268 rfl rfl rfl (ltn FrC_0.1 (by decide)) (Nat.le_of_ble_eq_true rfl) (Nat.le_of_ble_eq_true rfl) ⟨(Nat.le_of_ble_eq_true rfl), (Nat.le_of_ble_eq_true rfl)⟩ (Nat.le_of_ble_eq_true rfl) dL_law_2096 (fun r u hp => ?_)
  obtain ⟨rfl, rfl⟩ := hp
  refine s_icmp_eq (tgt := 2494) E dL_law_2099 (by decide) (fun _ => ?_) (fun hh => absurd (by decide) hh)
  exact law_tail l E hb hX hb0 wv_318
set_option maxRecDepth 20000 in
set_option maxHeartbeats 2000000 in
theorem lawc_62 {p : Program} {e : Env} {s : State} {m : MethodId} {below : List Frame} {meth : Method} {c : Code} (l : Launch) {b0 b : Nat} {xs : Nat → Int32} {D : va_G} {aC : Nat → ClassId} (E : EE p s m meth c D aC b 4 cL_law RL ret) (hb : b = s.heap.size) (hX : va_X b0 6 xs s s.heap) (hb0 : b0 < s.heap.size) : Wv p l e room_1 s m #[Value.ref b0] below meth c (lw_Z below #[Value.ref b0] s) D aC b 4 2104 [some (AX b0), some (AR 0), some (AR 95), some (AI 0)] [] wv_318 116 6683 := by
  refine s_aload_n E dL_law_2104 rfl rfl ?_
  refine s_vI (As := []) (S := []) E (K_X9_anew_0_CRMS l D aC b wv_318  FrC_0 RfC_0 FrM_0 RfM_0) cv_L_269 rfl rfl rfl (ltn FrC_0.1 (by decide)) (Nat.le_of_ble_eq_true rfl) (Nat.le_of_ble_eq_true rfl) ⟨(Nat.le_of_ble_eq_true rfl), (Nat.le_of_ble_eq_true rfl)⟩ (Nat.le_of_ble_eq_true rfl) dL_law_2105 (fun r u hp => ?_)
  obtain ⟨rfl, rfl⟩ := hp
  refine s_aload_n E dL_law_2108 rfl rfl ?_
  refine s_vI (As := []) (S := [AI (-2)]) E (K_X10_anew_95_MS l D aC b wv_318  FrM_0 RfM_0) cv_L_272 rfl rfl rfl (ltn FrC_0.1 (by decide)) (Nat.le_of_ble_eq_true rfl) (Nat.le_of_ble_eq_true rfl) ⟨(Nat.le_of_ble_eq_true rfl), (Nat.le_of_ble_eq_true rfl)⟩ (Nat.le_of_ble_eq_true rfl) dL_law_2109 (fun r u hp => ?_)
  obtain ⟨rfl, rfl⟩ := hp
  refine s_icmp_eq (tgt := 2494) E dL_law_2112 (by decide) (fun _ => ?_) (fun hh => absurd (by decide) hh)
  exact law_tail l E hb hX hb0 wv_318
set_option maxRecDepth 20000 in
set_option maxHeartbeats 2000000 in
theorem lawc_63 {p : Program} {e : Env} {s : State} {m : MethodId} {below : List Frame} {meth : Method} {c : Code} (l : Launch) {b0 b : Nat} {xs : Nat → Int32} {D : va_G} {aC : Nat → ClassId} (E : EE p s m meth c D aC b 4 cL_law RL ret) (hb : b = s.heap.size) (hX : va_X b0 6 xs s s.heap) (hb0 : b0 < s.heap.size) : Wv p l e room_1 s m #[Value.ref b0] below meth c (lw_Z below #[Value.ref b0] s) D aC b 4 2117 [some (AX b0), some (AR 0), some (AR 95), some (AI 0)] [] wv_318 116 6683 := by
  refine s_aload_n E dL_law_2117 rfl rfl ?_
  refine s_xload_n E dL_law_2118 rfl rfl ?_
  refine s_iload_n E dL_law_2119 rfl rfl ?_
  refine s_iconst (v := 1) E dL_law_2120 (by decide) ?_
  refine s_iadd E dL_law_2121 ?_
  refine s_top (y := 1) (by decide) ?_
  refine s_sld E hX hb0 hb (vp_c (by decide)) dL_law_2122 ?_
  refine s_top (y := (xs 1)) (congrArg xs (by decide)) ?_
  refine s_xload_n E dL_law_2123 rfl rfl ?_
  refine s_iload_n E dL_law_2124 rfl rfl ?_
  refine s_iconst (v := 2) E dL_law_2125 (by decide) ?_
  refine s_iadd E dL_law_2126 ?_
  refine s_top (y := 2) (by decide) ?_
  refine s_sld E hX hb0 hb (vp_c (by decide)) dL_law_2127 ?_
  refine s_top (y := (xs 2)) (congrArg xs (by decide)) ?_
  refine s_xload_n E dL_law_2128 rfl rfl ?_
  refine s_iload_n E dL_law_2129 rfl rfl ?_
  refine s_iconst (v := 3) E dL_law_2130 (by decide) ?_
  refine s_iadd E dL_law_2131 ?_
  refine s_top (y := 3) (by decide) ?_
  refine s_sld E hX hb0 hb (vp_c (by decide)) dL_law_2132 ?_
  refine s_top (y := (xs 3)) (congrArg xs (by decide)) ?_
  refine s_vI (As := [AI (xs 1), AI (xs 2), AI (xs 3)]) (S := []) E (K_X9_drawn_0_CRMS l D aC b wv_318 ((xs 1)) ((xs 2)) ((xs 3)) FrC_0 RfC_0 FrM_0 RfM_0) cv_L_273 rfl rfl rfl (ltn FrC_0.1 (by decide)) (Nat.le_of_ble_eq_true rfl) (Nat.le_of_ble_eq_true rfl) ⟨(Nat.le_of_ble_eq_true rfl), (Nat.le_of_ble_eq_true rfl)⟩ (Nat.le_of_ble_eq_true rfl) dL_law_2133 (fun r u hp => ?_)
  obtain ⟨rfl, rfl⟩ := hp
  refine s_aload_n E dL_law_2136 rfl rfl ?_
  refine s_xload_n E dL_law_2137 rfl rfl ?_
  refine s_iload_n E dL_law_2138 rfl rfl ?_
  refine s_iconst (v := 1) E dL_law_2139 (by decide) ?_
  refine s_iadd E dL_law_2140 ?_
  refine s_top (y := 1) (by decide) ?_
  refine s_sld E hX hb0 hb (vp_c (by decide)) dL_law_2141 ?_
  refine s_top (y := (xs 1)) (congrArg xs (by decide)) ?_
  refine s_xload_n E dL_law_2142 rfl rfl ?_
  refine s_iload_n E dL_law_2143 rfl rfl ?_
  refine s_iconst (v := 2) E dL_law_2144 (by decide) ?_
  refine s_iadd E dL_law_2145 ?_
  refine s_top (y := 2) (by decide) ?_
  refine s_sld E hX hb0 hb (vp_c (by decide)) dL_law_2146 ?_
  refine s_top (y := (xs 2)) (congrArg xs (by decide)) ?_
  refine s_xload_n E dL_law_2147 rfl rfl ?_
  refine s_iload_n E dL_law_2148 rfl rfl ?_
  refine s_iconst (v := 3) E dL_law_2149 (by decide) ?_
  refine s_iadd E dL_law_2150 ?_
  refine s_top (y := 3) (by decide) ?_
  refine s_sld E hX hb0 hb (vp_c (by decide)) dL_law_2151 ?_
  refine s_top (y := (xs 3)) (congrArg xs (by decide)) ?_
  refine s_vI (As := [AI (xs 1), AI (xs 2), AI (xs 3)]) (S := [AI (-2)]) E (K_X10_drawn_95_MS l D aC b wv_318 ((xs 1)) ((xs 2)) ((xs 3)) FrM_0 RfM_0) cv_L_276 rfl rfl rfl (ltn FrC_0.1 (by decide)) (Nat.le_of_ble_eq_true rfl) (Nat.le_of_ble_eq_true rfl) ⟨(Nat.le_of_ble_eq_true rfl), (Nat.le_of_ble_eq_true rfl)⟩ (Nat.le_of_ble_eq_true rfl) dL_law_2152 (fun r u hp => ?_)
  obtain ⟨rfl, rfl⟩ := hp
  refine s_icmp_eq (tgt := 2494) E dL_law_2155 (by decide) (fun _ => ?_) (fun hh => absurd (by decide) hh)
  exact law_tail l E hb hX hb0 wv_318
set_option maxRecDepth 20000 in
set_option maxHeartbeats 2000000 in
theorem lawc_64 {p : Program} {e : Env} {s : State} {m : MethodId} {below : List Frame} {meth : Method} {c : Code} (l : Launch) {b0 b : Nat} {xs : Nat → Int32} {D : va_G} {aC : Nat → ClassId} (E : EE p s m meth c D aC b 4 cL_law RL ret) (hb : b = s.heap.size) (hX : va_X b0 6 xs s s.heap) (hb0 : b0 < s.heap.size) : Wv p l e room_1 s m #[Value.ref b0] below meth c (lw_Z below #[Value.ref b0] s) D aC b 4 2160 [some (AX b0), some (AR 0), some (AR 95), some (AI 0)] [] wv_318 116 6683 := by
  refine s_aload_n E dL_law_2160 rfl rfl ?_
  refine s_xload_n E dL_law_2161 rfl rfl ?_
  refine s_iload_n E dL_law_2162 rfl rfl ?_
  refine s_iconst (v := 1) E dL_law_2163 (by decide) ?_
  refine s_iadd E dL_law_2164 ?_
  refine s_top (y := 1) (by decide) ?_
  refine s_sld E hX hb0 hb (vp_c (by decide)) dL_law_2165 ?_
  refine s_top (y := (xs 1)) (congrArg xs (by decide)) ?_
  refine s_xload_n E dL_law_2166 rfl rfl ?_
  refine s_iload_n E dL_law_2167 rfl rfl ?_
  refine s_iconst (v := 2) E dL_law_2168 (by decide) ?_
  refine s_iadd E dL_law_2169 ?_
  refine s_top (y := 2) (by decide) ?_
  refine s_sld E hX hb0 hb (vp_c (by decide)) dL_law_2170 ?_
  refine s_top (y := (xs 2)) (congrArg xs (by decide)) ?_
  refine s_xload_n E dL_law_2171 rfl rfl ?_
  refine s_iload_n E dL_law_2172 rfl rfl ?_
  refine s_iconst (v := 3) E dL_law_2173 (by decide) ?_
  refine s_iadd E dL_law_2174 ?_
  refine s_top (y := 3) (by decide) ?_
  refine s_sld E hX hb0 hb (vp_c (by decide)) dL_law_2175 ?_
  refine s_top (y := (xs 3)) (congrArg xs (by decide)) ?_
  refine s_xload_n E dL_law_2176 rfl rfl ?_
  refine s_iload_n E dL_law_2177 rfl rfl ?_
  refine s_iconst (v := 4) E dL_law_2178 (by decide) ?_
  refine s_iadd E dL_law_2179 ?_
  refine s_top (y := 4) (by decide) ?_
  refine s_sld E hX hb0 hb (vp_c (by decide)) dL_law_2180 ?_
  refine s_top (y := (xs 4)) (congrArg xs (by decide)) ?_
  refine s_vI (As := [AI (xs 1), AI (xs 2), AI (xs 3), AI (xs 4)]) (S := []) E (K_X9_luck_0_CRMS l D aC b wv_318 ((xs 1)) ((xs 2)) ((xs 3)) ((xs 4)) FrC_0 RfC_0 FrM_0 RfM_0) cv_L_277 rfl rfl rfl (ltn FrC_0.1 (by decide)) (Nat.le_of_ble_eq_true rfl) (Nat.le_of_ble_eq_true rfl) ⟨(Nat.le_of_ble_eq_true rfl), (Nat.le_of_ble_eq_true rfl)⟩ (Nat.le_of_ble_eq_true rfl) dL_law_2181 (fun r u hp => ?_)
  obtain ⟨rfl, rfl⟩ := hp
  refine s_aload_n E dL_law_2184 rfl rfl ?_
  refine s_xload_n E dL_law_2185 rfl rfl ?_
  refine s_iload_n E dL_law_2186 rfl rfl ?_
  refine s_iconst (v := 1) E dL_law_2187 (by decide) ?_
  refine s_iadd E dL_law_2188 ?_
  refine s_top (y := 1) (by decide) ?_
  refine s_sld E hX hb0 hb (vp_c (by decide)) dL_law_2189 ?_
  refine s_top (y := (xs 1)) (congrArg xs (by decide)) ?_
  refine s_xload_n E dL_law_2190 rfl rfl ?_
  refine s_iload_n E dL_law_2191 rfl rfl ?_
  refine s_iconst (v := 2) E dL_law_2192 (by decide) ?_
  refine s_iadd E dL_law_2193 ?_
  refine s_top (y := 2) (by decide) ?_
  refine s_sld E hX hb0 hb (vp_c (by decide)) dL_law_2194 ?_
  refine s_top (y := (xs 2)) (congrArg xs (by decide)) ?_
  refine s_xload_n E dL_law_2195 rfl rfl ?_
  refine s_iload_n E dL_law_2196 rfl rfl ?_
  refine s_iconst (v := 3) E dL_law_2197 (by decide) ?_
  refine s_iadd E dL_law_2198 ?_
  refine s_top (y := 3) (by decide) ?_
  refine s_sld E hX hb0 hb (vp_c (by decide)) dL_law_2199 ?_
  refine s_top (y := (xs 3)) (congrArg xs (by decide)) ?_
  refine s_xload_n E dL_law_2200 rfl rfl ?_
  refine s_iload_n E dL_law_2201 rfl rfl ?_
  refine s_iconst (v := 4) E dL_law_2202 (by decide) ?_
  refine s_iadd E dL_law_2203 ?_
  refine s_top (y := 4) (by decide) ?_
  refine s_sld E hX hb0 hb (vp_c (by decide)) dL_law_2204 ?_
  refine s_top (y := (xs 4)) (congrArg xs (by decide)) ?_
  refine s_vI (As := [AI (xs 1), AI (xs 2), AI (xs 3), AI (xs 4)]) (S := [AI (-2)]) E (K_X10_luck_95_MS l D aC b wv_318 ((xs 1)) ((xs 2)) ((xs 3)) ((xs 4)) FrM_0 RfM_0) cv_L_280 rfl rfl rfl (ltn FrC_0.1 (by decide)) (Nat.le_of_ble_eq_true rfl) (Nat.le_of_ble_eq_true rfl) ⟨(Nat.le_of_ble_eq_true rfl), (Nat.le_of_ble_eq_true rfl)⟩ (Nat.le_of_ble_eq_true rfl) dL_law_2205 (fun r u hp => ?_)
  obtain ⟨rfl, rfl⟩ := hp
  refine s_icmp_eq (tgt := 2494) E dL_law_2208 (by decide) (fun _ => ?_) (fun hh => absurd (by decide) hh)
  exact law_tail l E hb hX hb0 wv_318
set_option maxRecDepth 20000 in
set_option maxHeartbeats 2000000 in
theorem lawc_65 {p : Program} {e : Env} {s : State} {m : MethodId} {below : List Frame} {meth : Method} {c : Code} (l : Launch) {b0 b : Nat} {xs : Nat → Int32} {D : va_G} {aC : Nat → ClassId} (E : EE p s m meth c D aC b 4 cL_law RL ret) (hb : b = s.heap.size) (hX : va_X b0 6 xs s s.heap) (hb0 : b0 < s.heap.size) : Wv p l e room_1 s m #[Value.ref b0] below meth c (lw_Z below #[Value.ref b0] s) D aC b 4 2213 [some (AX b0), some (AR 0), some (AR 95), some (AI 0)] [] wv_318 116 6683 := by
  refine s_aload_n E dL_law_2213 rfl rfl ?_
  refine s_xload_n E dL_law_2214 rfl rfl ?_
  refine s_iload_n E dL_law_2215 rfl rfl ?_
  refine s_iconst (v := 1) E dL_law_2216 (by decide) ?_
  refine s_iadd E dL_law_2217 ?_
  refine s_top (y := 1) (by decide) ?_
  refine s_sld E hX hb0 hb (vp_c (by decide)) dL_law_2218 ?_
  refine s_top (y := (xs 1)) (congrArg xs (by decide)) ?_
  refine s_xload_n E dL_law_2219 rfl rfl ?_
  refine s_iload_n E dL_law_2220 rfl rfl ?_
  refine s_iconst (v := 2) E dL_law_2221 (by decide) ?_
  refine s_iadd E dL_law_2222 ?_
  refine s_top (y := 2) (by decide) ?_
  refine s_sld E hX hb0 hb (vp_c (by decide)) dL_law_2223 ?_
  refine s_top (y := (xs 2)) (congrArg xs (by decide)) ?_
  refine s_vI (As := [AI (xs 1), AI (xs 2)]) (S := []) E (K_X9_hang_0_CRMS l D aC b wv_318 ((xs 1)) ((xs 2)) FrC_0 RfC_0 FrM_0 RfM_0) cv_L_281 rfl rfl rfl (ltn FrC_0.1 (by decide)) (Nat.le_of_ble_eq_true rfl) (Nat.le_of_ble_eq_true rfl) ⟨(Nat.le_of_ble_eq_true rfl), (Nat.le_of_ble_eq_true rfl)⟩ (Nat.le_of_ble_eq_true rfl) dL_law_2224 (fun r u hp => ?_)
  obtain ⟨rfl, rfl⟩ := hp
  refine s_aload_n E dL_law_2227 rfl rfl ?_
  refine s_xload_n E dL_law_2228 rfl rfl ?_
  refine s_iload_n E dL_law_2229 rfl rfl ?_
  refine s_iconst (v := 1) E dL_law_2230 (by decide) ?_
  refine s_iadd E dL_law_2231 ?_
  refine s_top (y := 1) (by decide) ?_
  refine s_sld E hX hb0 hb (vp_c (by decide)) dL_law_2232 ?_
  refine s_top (y := (xs 1)) (congrArg xs (by decide)) ?_
  refine s_xload_n E dL_law_2233 rfl rfl ?_
  refine s_iload_n E dL_law_2234 rfl rfl ?_
  refine s_iconst (v := 2) E dL_law_2235 (by decide) ?_
  refine s_iadd E dL_law_2236 ?_
  refine s_top (y := 2) (by decide) ?_
  refine s_sld E hX hb0 hb (vp_c (by decide)) dL_law_2237 ?_
  refine s_top (y := (xs 2)) (congrArg xs (by decide)) ?_
  refine s_vI (As := [AI (xs 1), AI (xs 2)]) (S := [AI (-2)]) E (K_X10_hang_95_MS l D aC b wv_318 ((xs 1)) ((xs 2)) FrM_0 RfM_0) cv_L_284 rfl rfl rfl (ltn FrC_0.1 (by decide)) (Nat.le_of_ble_eq_true rfl) (Nat.le_of_ble_eq_true rfl) ⟨(Nat.le_of_ble_eq_true rfl), (Nat.le_of_ble_eq_true rfl)⟩ (Nat.le_of_ble_eq_true rfl) dL_law_2238 (fun r u hp => ?_)
  obtain ⟨rfl, rfl⟩ := hp
  refine s_icmp_eq (tgt := 2494) E dL_law_2241 (by decide) (fun _ => ?_) (fun hh => absurd (by decide) hh)
  exact law_tail l E hb hX hb0 wv_318
set_option maxRecDepth 20000 in
set_option maxHeartbeats 2000000 in
theorem lawc_66 {p : Program} {e : Env} {s : State} {m : MethodId} {below : List Frame} {meth : Method} {c : Code} (l : Launch) {b0 b : Nat} {xs : Nat → Int32} {D : va_G} {aC : Nat → ClassId} (E : EE p s m meth c D aC b 4 cL_law RL ret) (hb : b = s.heap.size) (hX : va_X b0 6 xs s s.heap) (hb0 : b0 < s.heap.size) : Wv p l e room_1 s m #[Value.ref b0] below meth c (lw_Z below #[Value.ref b0] s) D aC b 4 2246 [some (AX b0), some (AR 0), some (AR 95), some (AI 0)] [] wv_318 116 6683 := by
  refine s_aload_n E dL_law_2246 rfl rfl ?_
  refine s_xload_n E dL_law_2247 rfl rfl ?_
  refine s_iload_n E dL_law_2248 rfl rfl ?_
  refine s_iconst (v := 1) E dL_law_2249 (by decide) ?_
  refine s_iadd E dL_law_2250 ?_
  refine s_top (y := 1) (by decide) ?_
  refine s_sld E hX hb0 hb (vp_c (by decide)) dL_law_2251 ?_
  refine s_top (y := (xs 1)) (congrArg xs (by decide)) ?_
  refine s_vI (As := [AI (xs 1)]) (S := []) E (K_X9_count_0_CRMS l D aC b wv_318 ((xs 1)) FrC_0 RfC_0 FrM_0 RfM_0) cv_L_285 rfl rfl rfl (ltn FrC_0.1 (by decide)) (Nat.le_of_ble_eq_true rfl) (Nat.le_of_ble_eq_true rfl) ⟨(Nat.le_of_ble_eq_true rfl), (Nat.le_of_ble_eq_true rfl)⟩ (Nat.le_of_ble_eq_true rfl) dL_law_2252 (fun r u hp => ?_)
  obtain ⟨rfl, rfl⟩ := hp
  refine s_aload_n E dL_law_2255 rfl rfl ?_
  refine s_xload_n E dL_law_2256 rfl rfl ?_
  refine s_iload_n E dL_law_2257 rfl rfl ?_
  refine s_iconst (v := 1) E dL_law_2258 (by decide) ?_
  refine s_iadd E dL_law_2259 ?_
  refine s_top (y := 1) (by decide) ?_
  refine s_sld E hX hb0 hb (vp_c (by decide)) dL_law_2260 ?_
  refine s_top (y := (xs 1)) (congrArg xs (by decide)) ?_
  refine s_vI (As := [AI (xs 1)]) (S := [AI (sp_count ((xs 1)))]) E (K_X10_count_95_MS l D aC b wv_318 ((xs 1)) FrM_0 RfM_0) cv_L_288 rfl rfl rfl (ltn FrC_0.1 (by decide)) (Nat.le_of_ble_eq_true rfl) (Nat.le_of_ble_eq_true rfl) ⟨(Nat.le_of_ble_eq_true rfl), (Nat.le_of_ble_eq_true rfl)⟩ (Nat.le_of_ble_eq_true rfl) dL_law_2261 (fun r u hp => ?_)
  obtain ⟨rfl, rfl⟩ := hp
  refine s_icmp_eq (tgt := 2494) E dL_law_2264 (by decide) (fun _ => ?_) (fun hh => absurd rfl hh)
  exact law_tail l E hb hX hb0 wv_318
set_option maxRecDepth 20000 in
set_option maxHeartbeats 2000000 in
theorem lawc_67 {p : Program} {e : Env} {s : State} {m : MethodId} {below : List Frame} {meth : Method} {c : Code} (l : Launch) {b0 b : Nat} {xs : Nat → Int32} {D : va_G} {aC : Nat → ClassId} (E : EE p s m meth c D aC b 4 cL_law RL ret) (hb : b = s.heap.size) (hX : va_X b0 6 xs s s.heap) (hb0 : b0 < s.heap.size) : Wv p l e room_1 s m #[Value.ref b0] below meth c (lw_Z below #[Value.ref b0] s) D aC b 4 2269 [some (AX b0), some (AR 0), some (AR 95), some (AI 0)] [] wv_318 116 6683 := by
  refine s_aload_n E dL_law_2269 rfl rfl ?_
  refine s_xload_n E dL_law_2270 rfl rfl ?_
  refine s_iload_n E dL_law_2271 rfl rfl ?_
  refine s_iconst (v := 1) E dL_law_2272 (by decide) ?_
  refine s_iadd E dL_law_2273 ?_
  refine s_top (y := 1) (by decide) ?_
  refine s_sld E hX hb0 hb (vp_c (by decide)) dL_law_2274 ?_
  refine s_top (y := (xs 1)) (congrArg xs (by decide)) ?_
  refine s_vI (As := [AI (xs 1)]) (S := []) E (K_X9_image_0_CRMS l D aC b wv_318 ((xs 1)) FrC_0 RfC_0 FrM_0 RfM_0) cv_L_289 rfl rfl rfl (ltn FrC_0.1 (by decide)) (Nat.le_of_ble_eq_true rfl) (Nat.le_of_ble_eq_true rfl) ⟨(Nat.le_of_ble_eq_true rfl), (Nat.le_of_ble_eq_true rfl)⟩ (Nat.le_of_ble_eq_true rfl) dL_law_2275 (fun r u_1 hp => ?_)
  obtain ⟨rfl, hu_1, hu_2, hu_3⟩ := hp
  refine s_aload_n E dL_law_2278 rfl rfl ?_
  refine s_xload_n E dL_law_2279 rfl rfl ?_
  refine s_iload_n E dL_law_2280 rfl rfl ?_
  refine s_iconst (v := 1) E dL_law_2281 (by decide) ?_
  refine s_iadd E dL_law_2282 ?_
  refine s_top (y := 1) (by decide) ?_
  refine s_sld E hX hb0 hb (vp_c (by decide)) dL_law_2283 ?_
  refine s_top (y := (xs 1)) (congrArg xs (by decide)) ?_
  refine s_vI (As := [AI (xs 1)]) (S := [AI (sp_image ((xs 1)))]) E (K_X10_image_95_MS l D aC b u_1 ((xs 1)) hu_2 hu_3) cv_L_292 rfl rfl rfl (ltn hu_1.1 (by decide)) (Nat.le_of_ble_eq_true rfl) (Nat.le_of_ble_eq_true rfl) ⟨(Nat.le_of_ble_eq_true rfl), (Nat.le_of_ble_eq_true rfl)⟩ (Nat.le_of_ble_eq_true rfl) dL_law_2284 (fun r u_2 hp => ?_)
  obtain ⟨rfl, hu_4⟩ := hp
  refine s_icmp_eq (tgt := 2494) E dL_law_2287 (by decide) (fun _ => ?_) (fun hh => absurd rfl hh)
  exact law_tail l E hb hX hb0 u_2
set_option maxRecDepth 20000 in
set_option maxHeartbeats 2000000 in
theorem lawc_68 {p : Program} {e : Env} {s : State} {m : MethodId} {below : List Frame} {meth : Method} {c : Code} (l : Launch) {b0 b : Nat} {xs : Nat → Int32} {D : va_G} {aC : Nat → ClassId} (E : EE p s m meth c D aC b 4 cL_law RL ret) (hb : b = s.heap.size) (hX : va_X b0 6 xs s s.heap) (hb0 : b0 < s.heap.size) : Wv p l e room_1 s m #[Value.ref b0] below meth c (lw_Z below #[Value.ref b0] s) D aC b 4 2292 [some (AX b0), some (AR 0), some (AR 95), some (AI 0)] [] wv_318 116 6683 := by
  refine s_aload_n E dL_law_2292 rfl rfl ?_
  refine s_xload_n E dL_law_2293 rfl rfl ?_
  refine s_iload_n E dL_law_2294 rfl rfl ?_
  refine s_iconst (v := 1) E dL_law_2295 (by decide) ?_
  refine s_iadd E dL_law_2296 ?_
  refine s_top (y := 1) (by decide) ?_
  refine s_sld E hX hb0 hb (vp_c (by decide)) dL_law_2297 ?_
  refine s_top (y := (xs 1)) (congrArg xs (by decide)) ?_
  refine s_vI (As := [AI (xs 1)]) (S := []) E (K_X9_back_0_CRMS l D aC b wv_318 ((xs 1)) FrC_0 RfC_0 FrM_0 RfM_0) cv_L_293 rfl rfl rfl (ltn FrC_0.1 (by decide)) (Nat.le_of_ble_eq_true rfl) (Nat.le_of_ble_eq_true rfl) ⟨(Nat.le_of_ble_eq_true rfl), (Nat.le_of_ble_eq_true rfl)⟩ (Nat.le_of_ble_eq_true rfl) dL_law_2298 (fun r u hp => ?_)
  obtain ⟨rfl, rfl⟩ := hp
  refine s_aload_n E dL_law_2301 rfl rfl ?_
  refine s_xload_n E dL_law_2302 rfl rfl ?_
  refine s_iload_n E dL_law_2303 rfl rfl ?_
  refine s_iconst (v := 1) E dL_law_2304 (by decide) ?_
  refine s_iadd E dL_law_2305 ?_
  refine s_top (y := 1) (by decide) ?_
  refine s_sld E hX hb0 hb (vp_c (by decide)) dL_law_2306 ?_
  refine s_top (y := (xs 1)) (congrArg xs (by decide)) ?_
  refine s_vI (As := [AI (xs 1)]) (S := [AI (sp_back ((xs 1)))]) E (K_X10_back_95_MS l D aC b wv_318 ((xs 1)) FrM_0 RfM_0) cv_L_296 rfl rfl rfl (ltn FrC_0.1 (by decide)) (Nat.le_of_ble_eq_true rfl) (Nat.le_of_ble_eq_true rfl) ⟨(Nat.le_of_ble_eq_true rfl), (Nat.le_of_ble_eq_true rfl)⟩ (Nat.le_of_ble_eq_true rfl) dL_law_2307 (fun r u hp => ?_)
  obtain ⟨rfl, rfl⟩ := hp
  refine s_icmp_eq (tgt := 2494) E dL_law_2310 (by decide) (fun _ => ?_) (fun hh => absurd rfl hh)
  exact law_tail l E hb hX hb0 wv_318
set_option maxRecDepth 20000 in
set_option maxHeartbeats 2000000 in
theorem lawc_69 {p : Program} {e : Env} {s : State} {m : MethodId} {below : List Frame} {meth : Method} {c : Code} (l : Launch) {b0 b : Nat} {xs : Nat → Int32} {D : va_G} {aC : Nat → ClassId} (E : EE p s m meth c D aC b 4 cL_law RL ret) (hb : b = s.heap.size) (hX : va_X b0 6 xs s s.heap) (hb0 : b0 < s.heap.size) : Wv p l e room_1 s m #[Value.ref b0] below meth c (lw_Z below #[Value.ref b0] s) D aC b 4 2315 [some (AX b0), some (AR 0), some (AR 95), some (AI 0)] [] wv_318 116 6683 := by
  refine s_aload_n E dL_law_2315 rfl rfl ?_
  refine s_xload_n E dL_law_2316 rfl rfl ?_
  refine s_iload_n E dL_law_2317 rfl rfl ?_
  refine s_iconst (v := 1) E dL_law_2318 (by decide) ?_
  refine s_iadd E dL_law_2319 ?_
  refine s_top (y := 1) (by decide) ?_
  refine s_sld E hX hb0 hb (vp_c (by decide)) dL_law_2320 ?_
  refine s_top (y := (xs 1)) (congrArg xs (by decide)) ?_
  refine s_xload_n E dL_law_2321 rfl rfl ?_
  refine s_iload_n E dL_law_2322 rfl rfl ?_
  refine s_iconst (v := 2) E dL_law_2323 (by decide) ?_
  refine s_iadd E dL_law_2324 ?_
  refine s_top (y := 2) (by decide) ?_
  refine s_sld E hX hb0 hb (vp_c (by decide)) dL_law_2325 ?_
  refine s_top (y := (xs 2)) (congrArg xs (by decide)) ?_
  refine s_xload_n E dL_law_2326 rfl rfl ?_
  refine s_iload_n E dL_law_2327 rfl rfl ?_
  refine s_iconst (v := 3) E dL_law_2328 (by decide) ?_
  refine s_iadd E dL_law_2329 ?_
  refine s_top (y := 3) (by decide) ?_
  refine s_sld E hX hb0 hb (vp_c (by decide)) dL_law_2330 ?_
  refine s_top (y := (xs 3)) (congrArg xs (by decide)) ?_
  refine s_vI (As := [AI (xs 1), AI (xs 2), AI (xs 3)]) (S := []) E (K_X9_row_0_CRMS l D aC b wv_318 ((xs 1)) ((xs 2)) ((xs 3)) FrC_0 RfC_0 FrM_0 RfM_0) cv_L_297 rfl rfl rfl (ltn FrC_0.1 (by decide)) (Nat.le_of_ble_eq_true rfl) (Nat.le_of_ble_eq_true rfl) ⟨(Nat.le_of_ble_eq_true rfl), (Nat.le_of_ble_eq_true rfl)⟩ (Nat.le_of_ble_eq_true rfl) dL_law_2331 (fun r u_1 hp => ?_)
  obtain ⟨rfl, hu_1, hu_2, hu_3⟩ := hp
  refine s_aload_n E dL_law_2334 rfl rfl ?_
  refine s_xload_n E dL_law_2335 rfl rfl ?_
  refine s_iload_n E dL_law_2336 rfl rfl ?_
  refine s_iconst (v := 1) E dL_law_2337 (by decide) ?_
  refine s_iadd E dL_law_2338 ?_
  refine s_top (y := 1) (by decide) ?_
  refine s_sld E hX hb0 hb (vp_c (by decide)) dL_law_2339 ?_
  refine s_top (y := (xs 1)) (congrArg xs (by decide)) ?_
  refine s_xload_n E dL_law_2340 rfl rfl ?_
  refine s_iload_n E dL_law_2341 rfl rfl ?_
  refine s_iconst (v := 2) E dL_law_2342 (by decide) ?_
  refine s_iadd E dL_law_2343 ?_
  refine s_top (y := 2) (by decide) ?_
  refine s_sld E hX hb0 hb (vp_c (by decide)) dL_law_2344 ?_
  refine s_top (y := (xs 2)) (congrArg xs (by decide)) ?_
  refine s_xload_n E dL_law_2345 rfl rfl ?_
  refine s_iload_n E dL_law_2346 rfl rfl ?_
  refine s_iconst (v := 3) E dL_law_2347 (by decide) ?_
  refine s_iadd E dL_law_2348 ?_
  refine s_top (y := 3) (by decide) ?_
  refine s_sld E hX hb0 hb (vp_c (by decide)) dL_law_2349 ?_
  refine s_top (y := (xs 3)) (congrArg xs (by decide)) ?_
  refine s_vI (As := [AI (xs 1), AI (xs 2), AI (xs 3)]) (S := [AI (sp_row ((xs 1)) ((xs 2)) ((xs 3)))]) E (K_X10_row_95_MS l D aC b u_1 ((xs 1)) ((xs 2)) ((xs 3)) hu_2 hu_3) cv_L_300 rfl rfl rfl (ltn hu_1.1 (by decide)) (Nat.le_of_ble_eq_true rfl) (Nat.le_of_ble_eq_true rfl) ⟨(Nat.le_of_ble_eq_true rfl), (Nat.le_of_ble_eq_true rfl)⟩ (Nat.le_of_ble_eq_true rfl) dL_law_2350 (fun r u_2 hp => ?_)
  obtain ⟨rfl, hu_4⟩ := hp
  refine s_icmp_eq (tgt := 2494) E dL_law_2353 (by decide) (fun _ => ?_) (fun hh => absurd rfl hh)
  exact law_tail l E hb hX hb0 u_2
set_option maxRecDepth 20000 in
set_option maxHeartbeats 2000000 in
theorem lawc_70 {p : Program} {e : Env} {s : State} {m : MethodId} {below : List Frame} {meth : Method} {c : Code} (l : Launch) {b0 b : Nat} {xs : Nat → Int32} {D : va_G} {aC : Nat → ClassId} (E : EE p s m meth c D aC b 4 cL_law RL ret) (hb : b = s.heap.size) (hX : va_X b0 6 xs s s.heap) (hb0 : b0 < s.heap.size) : Wv p l e room_1 s m #[Value.ref b0] below meth c (lw_Z below #[Value.ref b0] s) D aC b 4 2358 [some (AX b0), some (AR 0), some (AR 95), some (AI 0)] [] wv_318 116 6683 := by
  refine s_aload_n E dL_law_2358 rfl rfl ?_
  refine s_xload_n E dL_law_2359 rfl rfl ?_
  refine s_iload_n E dL_law_2360 rfl rfl ?_
  refine s_iconst (v := 1) E dL_law_2361 (by decide) ?_
  refine s_iadd E dL_law_2362 ?_
  refine s_top (y := 1) (by decide) ?_
  refine s_sld E hX hb0 hb (vp_c (by decide)) dL_law_2363 ?_
  refine s_top (y := (xs 1)) (congrArg xs (by decide)) ?_
  refine s_xload_n E dL_law_2364 rfl rfl ?_
  refine s_iload_n E dL_law_2365 rfl rfl ?_
  refine s_iconst (v := 2) E dL_law_2366 (by decide) ?_
  refine s_iadd E dL_law_2367 ?_
  refine s_top (y := 2) (by decide) ?_
  refine s_sld E hX hb0 hb (vp_c (by decide)) dL_law_2368 ?_
  refine s_top (y := (xs 2)) (congrArg xs (by decide)) ?_
  refine s_xload_n E dL_law_2369 rfl rfl ?_
  refine s_iload_n E dL_law_2370 rfl rfl ?_
  refine s_iconst (v := 3) E dL_law_2371 (by decide) ?_
  refine s_iadd E dL_law_2372 ?_
  refine s_top (y := 3) (by decide) ?_
  refine s_sld E hX hb0 hb (vp_c (by decide)) dL_law_2373 ?_
  refine s_top (y := (xs 3)) (congrArg xs (by decide)) ?_
  refine s_i2l E dL_law_2374 ?_
  refine s_bipush (v := 32) E dL_law_2375 (by decide) ?_
  refine s_lshl E dL_law_2377 ?_
  refine s_xload_n E dL_law_2378 rfl rfl ?_
  refine s_iload_n E dL_law_2379 rfl rfl ?_
  refine s_iconst (v := 4) E dL_law_2380 (by decide) ?_
  refine s_iadd E dL_law_2381 ?_
  refine s_top (y := 4) (by decide) ?_
  refine s_sld E hX hb0 hb (vp_c (by decide)) dL_law_2382 ?_
  refine s_top (y := (xs 4)) (congrArg xs (by decide)) ?_
  refine s_i2l E dL_law_2383 ?_
  refine s_ldc2 E k_1995 rfl dL_law_2384 ?_
  refine s_land E dL_law_2387 ?_
  refine s_lor E dL_law_2388 ?_
  refine s_vI (As := [AI (xs 1), AI (xs 2), AL (((((xs 3) : Int32).toInt64) <<< ((32 : Int32).toInt64 &&& 63)) ||| ((((xs 4) : Int32).toInt64) &&& 4294967295))]) (S := []) E (K_X9_write_0_CRMS l D aC b wv_318 ((xs 1)) ((xs 2)) ((((((xs 3) : Int32).toInt64) <<< ((32 : Int32).toInt64 &&& 63)) ||| ((((xs 4) : Int32).toInt64) &&& 4294967295))) FrC_0 RfC_0 FrM_0 RfM_0) cv_L_303 rfl rfl rfl (ltn FrC_0.1 (by decide)) (Nat.le_of_ble_eq_true rfl) (Nat.le_of_ble_eq_true rfl) ⟨(Nat.le_of_ble_eq_true rfl), (Nat.le_of_ble_eq_true rfl)⟩ (Nat.le_of_ble_eq_true rfl) dL_law_2389 (fun r u hp => ?_)
  obtain ⟨rfl, rfl⟩ := hp
  refine s_aload_n E dL_law_2392 rfl rfl ?_
  refine s_xload_n E dL_law_2393 rfl rfl ?_
  refine s_iload_n E dL_law_2394 rfl rfl ?_
  refine s_iconst (v := 1) E dL_law_2395 (by decide) ?_
  refine s_iadd E dL_law_2396 ?_
  refine s_top (y := 1) (by decide) ?_
  refine s_sld E hX hb0 hb (vp_c (by decide)) dL_law_2397 ?_
  refine s_top (y := (xs 1)) (congrArg xs (by decide)) ?_
  refine s_xload_n E dL_law_2398 rfl rfl ?_
  refine s_iload_n E dL_law_2399 rfl rfl ?_
  refine s_iconst (v := 2) E dL_law_2400 (by decide) ?_
  refine s_iadd E dL_law_2401 ?_
  refine s_top (y := 2) (by decide) ?_
  refine s_sld E hX hb0 hb (vp_c (by decide)) dL_law_2402 ?_
  refine s_top (y := (xs 2)) (congrArg xs (by decide)) ?_
  refine s_xload_n E dL_law_2403 rfl rfl ?_
  refine s_iload_n E dL_law_2404 rfl rfl ?_
  refine s_iconst (v := 3) E dL_law_2405 (by decide) ?_
  refine s_iadd E dL_law_2406 ?_
  refine s_top (y := 3) (by decide) ?_
  refine s_sld E hX hb0 hb (vp_c (by decide)) dL_law_2407 ?_
  refine s_top (y := (xs 3)) (congrArg xs (by decide)) ?_
  refine s_i2l E dL_law_2408 ?_
  refine s_bipush (v := 32) E dL_law_2409 (by decide) ?_
  refine s_lshl E dL_law_2411 ?_
  refine s_xload_n E dL_law_2412 rfl rfl ?_
  refine s_iload_n E dL_law_2413 rfl rfl ?_
  refine s_iconst (v := 4) E dL_law_2414 (by decide) ?_
  refine s_iadd E dL_law_2415 ?_
  refine s_top (y := 4) (by decide) ?_
  refine s_sld E hX hb0 hb (vp_c (by decide)) dL_law_2416 ?_
  refine s_top (y := (xs 4)) (congrArg xs (by decide)) ?_
  refine s_i2l E dL_law_2417 ?_
  refine s_ldc2 E k_1995 rfl dL_law_2418 ?_
  refine s_land E dL_law_2421 ?_
  refine s_lor E dL_law_2422 ?_
  refine s_vI (As := [AI (xs 1), AI (xs 2), AL (((((xs 3) : Int32).toInt64) <<< ((32 : Int32).toInt64 &&& 63)) ||| ((((xs 4) : Int32).toInt64) &&& 4294967295))]) (S := [AI (sp_write ((xs 1)) ((xs 2)) ((((((xs 3) : Int32).toInt64) <<< ((32 : Int32).toInt64 &&& 63)) ||| ((((xs 4) : Int32).toInt64) &&& 4294967295))))]) E (K_X10_write_95_MS l D aC b wv_318 ((xs 1)) ((xs 2)) ((((((xs 3) : Int32).toInt64) <<< ((32 : Int32).toInt64 &&& 63)) ||| ((((xs 4) : Int32).toInt64) &&& 4294967295))) FrM_0 RfM_0) cv_L_307 rfl rfl rfl (ltn FrC_0.1 (by decide)) (Nat.le_of_ble_eq_true rfl) (Nat.le_of_ble_eq_true rfl) ⟨(Nat.le_of_ble_eq_true rfl), (Nat.le_of_ble_eq_true rfl)⟩ (Nat.le_of_ble_eq_true rfl) dL_law_2423 (fun r u hp => ?_)
  obtain ⟨rfl, rfl⟩ := hp
  refine s_icmp_eq (tgt := 2494) E dL_law_2426 (by decide) (fun _ => ?_) (fun hh => absurd rfl hh)
  exact law_tail l E hb hX hb0 wv_318
set_option maxRecDepth 20000 in
set_option maxHeartbeats 2000000 in
theorem lawc_71 {p : Program} {e : Env} {s : State} {m : MethodId} {below : List Frame} {meth : Method} {c : Code} (l : Launch) {b0 b : Nat} {xs : Nat → Int32} {D : va_G} {aC : Nat → ClassId} (E : EE p s m meth c D aC b 4 cL_law RL ret) (hb : b = s.heap.size) (hX : va_X b0 6 xs s s.heap) (hb0 : b0 < s.heap.size) : Wv p l e room_1 s m #[Value.ref b0] below meth c (lw_Z below #[Value.ref b0] s) D aC b 4 2431 [some (AX b0), some (AR 0), some (AR 95), some (AI 0)] [] wv_318 116 6683 := by
  refine s_aload_n E dL_law_2431 rfl rfl ?_
  refine s_xload_n E dL_law_2432 rfl rfl ?_
  refine s_iload_n E dL_law_2433 rfl rfl ?_
  refine s_iconst (v := 1) E dL_law_2434 (by decide) ?_
  refine s_iadd E dL_law_2435 ?_
  refine s_top (y := 1) (by decide) ?_
  refine s_sld E hX hb0 hb (vp_c (by decide)) dL_law_2436 ?_
  refine s_top (y := (xs 1)) (congrArg xs (by decide)) ?_
  refine s_xload_n E dL_law_2437 rfl rfl ?_
  refine s_iload_n E dL_law_2438 rfl rfl ?_
  refine s_iconst (v := 2) E dL_law_2439 (by decide) ?_
  refine s_iadd E dL_law_2440 ?_
  refine s_top (y := 2) (by decide) ?_
  refine s_sld E hX hb0 hb (vp_c (by decide)) dL_law_2441 ?_
  refine s_top (y := (xs 2)) (congrArg xs (by decide)) ?_
  refine s_xload_n E dL_law_2442 rfl rfl ?_
  refine s_iload_n E dL_law_2443 rfl rfl ?_
  refine s_iconst (v := 3) E dL_law_2444 (by decide) ?_
  refine s_iadd E dL_law_2445 ?_
  refine s_top (y := 3) (by decide) ?_
  refine s_sld E hX hb0 hb (vp_c (by decide)) dL_law_2446 ?_
  refine s_top (y := (xs 3)) (congrArg xs (by decide)) ?_
  refine s_xload_n E dL_law_2447 rfl rfl ?_
  refine s_iload_n E dL_law_2448 rfl rfl ?_
  refine s_iconst (v := 4) E dL_law_2449 (by decide) ?_
  refine s_iadd E dL_law_2450 ?_
  refine s_top (y := 4) (by decide) ?_
  refine s_sld E hX hb0 hb (vp_c (by decide)) dL_law_2451 ?_
  refine s_top (y := (xs 4)) (congrArg xs (by decide)) ?_
  refine s_xload_n E dL_law_2452 rfl rfl ?_
  refine s_iload_n E dL_law_2453 rfl rfl ?_
  refine s_iconst (v := 5) E dL_law_2454 (by decide) ?_
  refine s_iadd E dL_law_2455 ?_
  refine s_top (y := 5) (by decide) ?_
  refine s_sld E hX hb0 hb (vp_c (by decide)) dL_law_2456 ?_
  refine s_top (y := (xs 5)) (congrArg xs (by decide)) ?_
  refine s_vI (As := [AI (xs 1), AI (xs 2), AI (xs 3), AI (xs 4), AI (xs 5)]) (S := []) E (K_X9_paste_0_CRMS l D aC b wv_318 ((xs 1)) ((xs 2)) ((xs 3)) ((xs 4)) ((xs 5)) FrC_0 RfC_0 FrM_0 RfM_0) cv_L_308 rfl rfl rfl (ltn FrC_0.1 (by decide)) (Nat.le_of_ble_eq_true rfl) (Nat.le_of_ble_eq_true rfl) ⟨(Nat.le_of_ble_eq_true rfl), (Nat.le_of_ble_eq_true rfl)⟩ (Nat.le_of_ble_eq_true rfl) dL_law_2457 (fun r u hp => ?_)
  obtain ⟨rfl, rfl⟩ := hp
  refine s_aload_n E dL_law_2460 rfl rfl ?_
  refine s_xload_n E dL_law_2461 rfl rfl ?_
  refine s_iload_n E dL_law_2462 rfl rfl ?_
  refine s_iconst (v := 1) E dL_law_2463 (by decide) ?_
  refine s_iadd E dL_law_2464 ?_
  refine s_top (y := 1) (by decide) ?_
  refine s_sld E hX hb0 hb (vp_c (by decide)) dL_law_2465 ?_
  refine s_top (y := (xs 1)) (congrArg xs (by decide)) ?_
  refine s_xload_n E dL_law_2466 rfl rfl ?_
  refine s_iload_n E dL_law_2467 rfl rfl ?_
  refine s_iconst (v := 2) E dL_law_2468 (by decide) ?_
  refine s_iadd E dL_law_2469 ?_
  refine s_top (y := 2) (by decide) ?_
  refine s_sld E hX hb0 hb (vp_c (by decide)) dL_law_2470 ?_
  refine s_top (y := (xs 2)) (congrArg xs (by decide)) ?_
  refine s_xload_n E dL_law_2471 rfl rfl ?_
  refine s_iload_n E dL_law_2472 rfl rfl ?_
  refine s_iconst (v := 3) E dL_law_2473 (by decide) ?_
  refine s_iadd E dL_law_2474 ?_
  refine s_top (y := 3) (by decide) ?_
  refine s_sld E hX hb0 hb (vp_c (by decide)) dL_law_2475 ?_
  refine s_top (y := (xs 3)) (congrArg xs (by decide)) ?_
  refine s_xload_n E dL_law_2476 rfl rfl ?_
  refine s_iload_n E dL_law_2477 rfl rfl ?_
  refine s_iconst (v := 4) E dL_law_2478 (by decide) ?_
  refine s_iadd E dL_law_2479 ?_
  refine s_top (y := 4) (by decide) ?_
  refine s_sld E hX hb0 hb (vp_c (by decide)) dL_law_2480 ?_
  refine s_top (y := (xs 4)) (congrArg xs (by decide)) ?_
  refine s_xload_n E dL_law_2481 rfl rfl ?_
  refine s_iload_n E dL_law_2482 rfl rfl ?_
  refine s_iconst (v := 5) E dL_law_2483 (by decide) ?_
  refine s_iadd E dL_law_2484 ?_
  refine s_top (y := 5) (by decide) ?_
  refine s_sld E hX hb0 hb (vp_c (by decide)) dL_law_2485 ?_
  refine s_top (y := (xs 5)) (congrArg xs (by decide)) ?_
  refine s_vI (As := [AI (xs 1), AI (xs 2), AI (xs 3), AI (xs 4), AI (xs 5)]) (S := [AI (sp_paste ((xs 1)) ((xs 2)) ((xs 3)) ((xs 4)) ((xs 5)))]) E (K_X10_paste_95_MS l D aC b wv_318 ((xs 1)) ((xs 2)) ((xs 3)) ((xs 4)) ((xs 5)) FrM_0 RfM_0) cv_L_311 rfl rfl rfl (ltn FrC_0.1 (by decide)) (Nat.le_of_ble_eq_true rfl) (Nat.le_of_ble_eq_true rfl) ⟨(Nat.le_of_ble_eq_true rfl), (Nat.le_of_ble_eq_true rfl)⟩ (Nat.le_of_ble_eq_true rfl) dL_law_2486 (fun r u hp => ?_)
  obtain ⟨rfl, rfl⟩ := hp
  refine s_icmp_eq (tgt := 2494) E dL_law_2489 (by decide) (fun _ => ?_) (fun hh => absurd rfl hh)
  exact law_tail l E hb hX hb0 wv_318
