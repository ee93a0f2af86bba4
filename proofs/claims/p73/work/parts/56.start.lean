set_option maxRecDepth 20000 in
set_option maxHeartbeats 4000000 in
theorem law_known {s : State} {b : Nat} (hts : ∀ w ∈ lw_tbl, w.before #[Value.ref b] s = true) (hgv : (Jvm.Cond.and given_1 narrow_1).before #[Value.ref b] s = true) : ∃ (D : va_G) (aC : Nat → ClassId), va_K D vwCl (xTys aC) s ∧ Gl s ∧ Sx aC s.heap.size s s.heap := by
  obtain ⟨adK, adV, hS⟩ := law_strs hts hgv
  obtain ⟨c0, i0, k0⟩ := u_known (C := RX0) (T := TX0) (N := 10) (n := 10) hts (fun w hw => (CI0.2.2.1 w hw).1) (hts (.instantiable RX0 10) (by decide +kernel))
  obtain ⟨c1, i1, k1⟩ := u_known (C := RX1) (T := TX1) (N := 8) (n := 8) hts (fun w hw => (CI1.2.2.1 w hw).1) (hts (.instantiable RX1 8) (by decide +kernel))
  obtain ⟨c2, i2, k2⟩ := u_known (C := RX2) (T := TX2) (N := 8) (n := 8) hts (fun w hw => (CI2.2.2.1 w hw).1) (hts (.instantiable RX2 8) (by decide +kernel))
  obtain ⟨c3, i3, k3⟩ := u_known (C := RX3) (T := TX3) (N := 3) (n := 3) hts (fun w hw => (CI3.2.2.1 w hw).1) (hts (.instantiable RX3 3) (by decide +kernel))
  obtain ⟨c4, i4, k4⟩ := u_known (C := RX4) (T := TX4) (N := 3) (n := 3) hts (fun w hw => (CI4.2.2.1 w hw).1) (hts (.instantiable RX4 3) (by decide +kernel))
  obtain ⟨c5, i5, k5⟩ := u_known (C := RX5) (T := TX5) (N := 6) (n := 6) hts (fun w hw => (CI5.2.2.1 w hw).1) (hts (.instantiable RX5 6) (by decide +kernel))
  obtain ⟨c6, i6, k6⟩ := u_known (C := RX6) (T := TX6) (N := 8) (n := 8) hts (fun w hw => (CI6.2.2.1 w hw).1) (hts (.instantiable RX6 8) (by decide +kernel))
  obtain ⟨c7, i7, k7⟩ := u_known (C := RX7) (T := TX7) (N := 3) (n := 3) hts (fun w hw => (CI7.2.2.1 w hw).1) (hts (.instantiable RX7 3) (by decide +kernel))
  obtain ⟨c8, i8, k8⟩ := u_known (C := RX8) (T := TX8) (N := 4) (n := 4) hts (fun w hw => (CI8.2.2.1 w hw).1) (hts (.instantiable RX8 4) (by decide +kernel))
  obtain ⟨c9, i9, k9⟩ := u_known (C := RX9) (T := TX9) (N := 15) (n := 15) hts (fun w hw => (CI9.2.2.1 w hw).1) (hts (.instantiable RX9 15) (by decide +kernel))
  obtain ⟨c10, i10, k10⟩ := u_known (C := RX10) (T := TX10) (N := 40) (n := 40) hts (fun w hw => (CI10.2.2.1 w hw).1) (hts (.instantiable RX10 40) (by decide +kernel))
  obtain ⟨a100, b100, d100, e100, f100, g100⟩ := law_arr (hts (.arrayClass .int) (by decide +kernel))
  obtain ⟨a101, b101, d101, e101, f101, g101⟩ := law_arr (hts (.arrayClass .long) (by decide +kernel))
  obtain ⟨a102, b102, d102, e102, f102, g102⟩ := law_arr (hts (.arrayClass .byte) (by decide +kernel))
  obtain ⟨a103, b103, d103, e103, f103, g103⟩ := law_arr (hts (.arrayClass .boolean) (by decide +kernel))
  obtain ⟨a104, b104, d104, e104, f104, g104, j104⟩ := law_arrO (hts (.arrayOver (.object "HoopCabinet$Ball")) (by decide +kernel))
  obtain ⟨a105, b105, d105, e105, f105, g105, j105⟩ := law_arrO (hts (.arrayOver (.object "HoopCabinet$Slot")) (by decide +kernel))
  refine ⟨(fun k => match k with | 0 => c0 | 1 => c1 | 2 => c2 | 3 => c3 | 4 => c4 | 5 => c5 | 6 => c6 | 7 => c7 | 8 => c8 | 9 => c9 | _ => c10, fun k => match k with | 0 => i0 | 1 => i1 | 2 => i2 | 3 => i3 | 4 => i4 | 5 => i5 | 6 => i6 | 7 => i7 | 8 => i8 | 9 => i9 | _ => i10), fun k => if 2000 ≤ k then adV (k - 2000) else if 1000 ≤ k then adK (k - 1000) else match k with | 100 => a100 | 101 => a101 | 102 => a102 | 103 => a103 | 104 => a104 | _ => a105, ⟨fun k q hq => ?_, fun k q hq => ?_⟩, Gl_of hts, ?_⟩
  · match k, hq with
    | 0, hq => cases hq; exact k0
    | 1, hq => cases hq; exact k1
    | 2, hq => cases hq; exact k2
    | 3, hq => cases hq; exact k3
    | 4, hq => cases hq; exact k4
    | 5, hq => cases hq; exact k5
    | 6, hq => cases hq; exact k6
    | 7, hq => cases hq; exact k7
    | 8, hq => cases hq; exact k8
    | 9, hq => cases hq; exact k9
    | 10, hq => cases hq; exact k10
    | k + 11, hq => simp [vwCl] at hq
  · match k, hq with
    | 0, hq => cases hq; exact ⟨fun n z => ⟨fun k h => (by cases h), b100, f100, d100, g100⟩, e100⟩
    | 1, hq => cases hq; exact ⟨fun n z => ⟨fun k h => (by cases h), b101, f101, d101, g101⟩, e101⟩
    | 2, hq => cases hq; exact ⟨fun n z => ⟨fun k h => (by cases h), b102, f102, d102, g102⟩, e102⟩
    | 3, hq => cases hq; exact ⟨fun n z => ⟨fun k h => (by cases h), b103, f103, d103, g103⟩, e103⟩
    | 4, hq => cases hq; exact ⟨fun n z => ⟨fun k h => (by cases h), b104, f104, d104, g104⟩, b104, d104, f104, g104, j104, e104⟩
    | 5, hq => cases hq; exact ⟨fun n z => ⟨fun k h => (by cases h), b105, f105, d105, g105⟩, b105, d105, f105, g105, j105, e105⟩
    | k + 6, hq => simp [xTys] at hq
  · refine sx_of (adK := adK) (adV := adV) (fun i hi => ?_) (fun i hi => ?_) hS
    · show (if 2000 ≤ 1000 + i then _ else if 1000 ≤ 1000 + i then adK (1000 + i - 1000) else _) = adK i
      rw [if_neg (by omega), if_pos (by omega), Nat.add_sub_cancel_left]
    · show (if 2000 ≤ 2000 + i then adV (2000 + i - 2000) else _) = adV i
      rw [if_pos (by omega), Nat.add_sub_cancel_left]
set_option maxRecDepth 20000 in
set_option maxHeartbeats 4000000 in
/-- THE LAW, from its entry -/
theorem whole_start {p : Program} {e : Env} {s : State} {m : MethodId} {below : List Frame} {meth : Method} {c : Code} (l : Launch) {b L : Nat} {xs : Nat → Int32} (hL : L ≤ 3072) (C0 : lw_At p s m meth c b L xs) : W p l e room_1 s m #[Value.ref b] below meth c s.heap [] 0 0 (lw_Z below #[Value.ref b] s) (entryFrame m ([Value.ref b] : List Value).toArray 4) := by
  obtain ⟨hx, hb, hr, hml, hown, hts, hX, hbl, hlocks, hgv⟩ := id C0
  obtain ⟨D, aC, hK, hG, hS⟩ := law_known hts hgv
  have E : EE p s m meth c D aC s.heap.size 4 code RL ret := ⟨hx, hb, hml, hown, hG, hK, hr, hlocks, Nat.le_refl _, hS⟩
  have hl := lv_entry ([Value.ref b]) (n := 4) (Nat.le_of_ble_eq_true rfl)
  rw [lg_entry_eq]
  generalize (lg_sl ([Value.ref b]) ++ List.replicate (4 - (lg_sl ([Value.ref b])).length) Slot.unset).toArray = ls at hl ⊢
  have hH : xH D aC s.heap.size w00 s.heap := ⟨fun k q h => by simp [xL, w00] at h, rfl⟩
  refine law_entry l E rfl ?_ s.heap [] ls hH va_S.rf hl
  exact law_loop l E rfl hX hbl hL iv_0 ⟨by decide +kernel, by decide +kernel, by decide +kernel⟩
