set_option maxRecDepth 20000 in
set_option maxHeartbeats 2000000 in
theorem law_tail {p : Program} {e : Env} {s : State} {m : MethodId} {below : List Frame} {meth : Method} {c : Code} (l : Launch) {b0 b : Nat} {xs : Nat → Int32} {D : va_G} {aC : Nat → ClassId} (E : EE p s m meth c D aC b 4 cL_law RL ret) (hb : b = s.heap.size) (hX : va_X b0 6 xs s s.heap) (hb0 : b0 < s.heap.size) (w : XW) : Wv p l e room_1 s m #[Value.ref b0] below meth c (lw_Z below #[Value.ref b0] s) D aC b 4 2494 [some (AX b0), some (AR 0), some (AR 95), some (AI 0)] [] w 116 6683 := by
  refine s_iinc (v := 6) (L2 := [some (AX b0), some (AR 0), some (AR 95), some (AI 6)]) E dL_law_2494 rfl (by decide) (by decide) rfl ?_
  refine s_goto (tgt := 18) E dL_law_2497 (by decide) ?_
  refine s_iload_n E dL_law_18 rfl rfl ?_
  refine s_xload_n E dL_law_19 rfl rfl ?_
  refine s_slen E hX hb0 hb dL_law_20 ?_
  refine s_top (y := 6) rfl ?_
  refine s_bipush (v := 6) E dL_law_21 (by decide) ?_
  refine s_isub E dL_law_23 ?_
  refine s_top (y := 0) (by decide) ?_
  refine s_icmp_gt (tgt := 2500) E dL_law_24 (by decide) (fun _ => ?_) (fun hh => absurd (by decide) hh)
  refine s_iconst (v := 1) E dL_law_2500 (by decide) ?_
  exact r_law E hb dL_law_2501 (Nat.le_of_ble_eq_true rfl) (Nat.le_of_ble_eq_true rfl)
