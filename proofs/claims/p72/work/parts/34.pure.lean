/-! reading: is it this word? -/
def isC (w : XW) (si : Nat) : Prop := (w.2.2.1 95 12).toInt = 0 ∧ (w.2.2.1 95 10).toInt = 1 ∧ (w.2.2.1 95 8).toInt - (w.2.2.1 95 9).toInt = ((sLen.getD si 0 : Nat) : Int)
def isE (w : XW) (si k : Nat) : Prop := ∀ j, j < k → w.2.2.1 99 ((w.2.2.1 95 9).toInt.toNat + j) = chS si j
def isP (w : XW) (si : Nat) : Prop := isC w si ∧ isE w si (sLen.getD si 0)
def isL (w : XW) (si : Nat) (f k : Int32) : Prop := (f.toInt = 1 ∧ isC w si ∧ isE w si k.toInt.toNat) ∨ (f.toInt = 0 ∧ ¬ isP w si)
theorem isL_1 {w : XW} {si : Nat} (h1 : (w.2.2.1 95 12).toInt = 0) (h2 : (w.2.2.1 95 10).toInt = 1) (h3 : (w.2.2.1 95 8).toInt - (w.2.2.1 95 9).toInt = ((sLen.getD si 0 : Nat) : Int)) : isL w si 1 0 :=
  Or.inl ⟨by decide, ⟨h1, h2, h3⟩, fun j hj => absurd hj (by have e : (0 : Int32).toInt.toNat = 0 := (by decide); omega)⟩
theorem isL_0 {w : XW} {si : Nat} {k : Int32} (h : ¬ ((w.2.2.1 95 12).toInt = 0 ∧ (w.2.2.1 95 10).toInt = 1 ∧ (w.2.2.1 95 8).toInt - (w.2.2.1 95 9).toInt = ((sLen.getD si 0 : Nat) : Int))) : isL w si 0 k :=
  Or.inr ⟨by decide, fun hp => h hp.1⟩
theorem isL_end {w : XW} {si : Nat} {f k : Int32} (h : isL w si f k) (hk : f.toInt = 0 ∨ ((sLen.getD si 0 : Nat) : Int) ≤ k.toInt) : f.toInt = 1 ↔ isP w si := by
  rcases h with ⟨h1, h2, h3⟩ | ⟨h1, h2⟩
  · exact ⟨fun _ => ⟨h2, fun j hj => h3 j (by omega)⟩, fun _ => h1⟩
  · exact ⟨fun z => by omega, fun z => absurd z h2⟩
theorem isL_m {w : XW} {si : Nat} {tz cz idx k : Int32} (ht : tz = w.2.2.1 99 idx.toNatClampNeg ∧ (-128) ≤ tz.toInt ∧ tz.toInt ≤ 127) (hc : cz = chS si k.toNatClampNeg) (hi : idx.toInt = (w.2.2.1 95 9).toInt + k.toInt) (h0 : 0 ≤ (w.2.2.1 95 9).toInt) (k0 : 0 ≤ k.toInt) : (tz.toInt = cz.toInt) ↔ (w.2.2.1 99 ((w.2.2.1 95 9).toInt.toNat + k.toInt.toNat) = chS si k.toInt.toNat) := by
  have e1 : idx.toNatClampNeg = (w.2.2.1 95 9).toInt.toNat + k.toInt.toNat := by
    have : idx.toNatClampNeg = idx.toInt.toNat := rfl
    omega
  have e2 : k.toNatClampNeg = k.toInt.toNat := rfl
  rw [ht.1, hc, e1, e2]
  exact Int32.toInt_inj
theorem isE_s {w : XW} {si : Nat} {k k2 : Int32} (h : isE w si k.toInt.toNat) (hq : w.2.2.1 99 ((w.2.2.1 95 9).toInt.toNat + k.toInt.toNat) = chS si k.toInt.toNat) (hk2 : k2.toInt = k.toInt + 1) (k0 : 0 ≤ k.toInt) : isE w si k2.toInt.toNat := by
  intro j hj
  by_cases e : j = k.toInt.toNat
  · rw [e]; exact hq
  · exact h j (by omega)
/-! what is read: the ladies' and the doors' entries -/
section XF
variable {w : XW}
theorem f_st {v : XW} {k : Nat} {x : Int32} (h : Jv w v) (hx : inR 101 k x) (hf : (v.2.2.1 95 12).toInt = 0 → okL (upd (v.2.2.1 101) k x) 0) : Jv w (upI v 101 k x) := by
  have hw := jw_up (k := k) (jv_w h) hx ⟨by decide, by decide⟩ (by decide)
  refine ⟨⟨hw.1, ?_, ?_⟩, hw.2⟩
  · unfold Fz
    rw [upI_ne (show 95 ≠ 101 by decide), upI_eq]
    exact hf
  · unfold Dz; rw [upI_ne (show 24 ≠ 101 by decide), upI_ne (show 13 ≠ 101 by decide)]; exact h.1.2.2
theorem in101 {k : Nat} {x : Int32} {a z : Int} (e : wrg k = (a, z)) (hk : k < 104) (h1 : a ≤ x.toInt) (h2 : x.toInt ≤ z) : inR 101 k x := by
  have er : rgo 101 k = wrg k := rfl
  unfold inR
  rw [er, e]
  exact ⟨h1, h2, fun _ hq => by rw [Nat.mod_eq_of_lt (by omega)] at hq; omega⟩
theorem wrg_47 : ∀ n : Nat, n < 6 → wrg (47 + 2 * n) = (0, 9) := by decide
theorem wrg_10 : ∀ n : Nat, n < 12 → wrg (10 + 3 * n) = (0, 7) ∧ wrg (11 + 3 * n) = (0, 7) := by decide
/-- an entry of a lady who is not counted yet -/
theorem wrg_46 : ∀ n : Nat, n < 6 → wrg (46 + 2 * n) = (0, 7) := by decide
theorem ok_lad {f : Nat → Int32} {k n : Nat} {x : Int32} (g : okL f 0) (hn : (f 5).toInt = (n : Int)) (hk : k = 46 + 2 * n ∨ k = 47 + 2 * n) : okL (upd f k x) 0 := by
  refine ⟨fun j hj hlt => ?_, fun j hj hlt => ?_, fun j hj hlt => ?_⟩
  · rw [pk_un (by omega)] at hlt
    have hlt2 : (j : Int) < (f 5).toInt := by simpa using hlt
    rw [pk_un (by omega)]
    exact g.1 j hj hlt
  · rw [pk_un (by omega)] at hlt
    rw [pk_un (by omega), pk_un (by omega)]
    exact g.2.1 j hj hlt
  · rw [pk_un (by omega)] at hlt
    have hlt2 : (j : Int) < (f 5).toInt := by simpa using hlt
    rw [pk_un (by omega), pk_un (by omega)]
    exact g.2.2 j hj hlt
theorem jv_lad {v : XW} {i x : Int32} (h : Jv w v) (hi : i.toInt = 47 + 2 * (v.2.2.1 101 5).toInt) (n0 : 0 ≤ (v.2.2.1 101 5).toInt) (n5 : (v.2.2.1 101 5).toInt ≤ 5) (h1 : 0 ≤ x.toInt) (h2 : x.toInt ≤ 9) : Jv w (upI v 101 i.toNatClampNeg x) := by
  have en : i.toNatClampNeg = 47 + 2 * (v.2.2.1 101 5).toInt.toNat := by
    have : i.toNatClampNeg = i.toInt.toNat := rfl
    omega
  rw [en]
  exact f_st h (in101 (wrg_47 _ (by omega)) (by omega) h1 h2) (fun h0 => ok_lad (n := (v.2.2.1 101 5).toInt.toNat) (h.1.2.1 h0) (by omega) (Or.inr rfl))
theorem jv_lad0 {v : XW} {i x : Int32} (h : Jv w v) (hi : i.toInt = 46 + 2 * (v.2.2.1 101 5).toInt) (n0 : 0 ≤ (v.2.2.1 101 5).toInt) (n5 : (v.2.2.1 101 5).toInt ≤ 5) (h1 : 0 ≤ x.toInt) (h2 : x.toInt ≤ 7) : Jv w (upI v 101 i.toNatClampNeg x) := by
  have en : i.toNatClampNeg = 46 + 2 * (v.2.2.1 101 5).toInt.toNat := by
    have : i.toNatClampNeg = i.toInt.toNat := rfl
    omega
  rw [en]
  exact f_st h (in101 (wrg_46 _ (by omega)) (by omega) h1 h2) (fun h0 => ok_lad (n := (v.2.2.1 101 5).toInt.toNat) (h.1.2.1 h0) (by omega) (Or.inl rfl))
/-- how many rooms: ahead of all ladies -/
theorem jv_rooms {v : XW} {x : Int32} (h : Jv w v) (n0 : (v.2.2.1 101 5).toInt = 0) (h1 : 0 ≤ x.toInt) (h2 : x.toInt ≤ 8) : Jv w (upI v 101 0 x) := by
  refine f_st h (in101 (a := 0) (z := 8) (by decide) (by decide) h1 h2) (fun h0 => ?_)
  have g := h.1.2.1 h0
  refine ⟨fun j hj hlt => ?_, fun j hj hlt => ?_, fun j hj hlt => ?_⟩
  · rw [pk_un (by omega)] at hlt
    rw [pk_un (by omega)]
    exact g.1 j hj hlt
  · rw [pk_un (by omega)] at hlt
    rw [pk_un (by omega), pk_un (by omega)]
    exact g.2.1 j hj hlt
  · rw [pk_un (by omega)] at hlt
    have hlt2 : (j : Int) < (v.2.2.1 101 5).toInt := by simpa using hlt
    omega
/-- she is counted -/
theorem jv_lad5 {v : XW} {x : Int32} (h : Jv w v) (hx : x.toInt = (v.2.2.1 101 5).toInt + 1) (n0 : 0 ≤ (v.2.2.1 101 5).toInt) (n5 : (v.2.2.1 101 5).toInt ≤ 5) (hw : (v.2.2.1 95 12).toInt = 0 → 1 ≤ (v.2.2.1 101 (47 + 2 * (v.2.2.1 101 5).toInt.toNat)).toInt) (hr : (v.2.2.1 95 12).toInt = 0 → (v.2.2.1 101 (46 + 2 * (v.2.2.1 101 5).toInt.toNat)).toInt < (v.2.2.1 101 0).toInt) : Jv w (upI v 101 5 x) := by
  refine f_st h (in101 (a := 0) (z := 6) (by decide) (by decide) (by omega) (by omega)) (fun h0 => ?_)
  have g := h.1.2.1 h0
  refine ⟨fun j hj hlt => ?_, fun j hj hlt => ?_, fun j hj hlt => ?_⟩
  · rw [show (0 : Nat) + 5 = 5 from rfl, pk_us] at hlt
    rw [pk_un (by omega)]
    by_cases e : (j : Int) < (v.2.2.1 101 5).toInt
    · exact g.1 j hj (by simpa using e)
    · have ej : j = (v.2.2.1 101 5).toInt.toNat := by omega
      have := hw h0
      rw [← ej] at this
      simpa using this
  · rw [pk_un (by omega)] at hlt
    rw [pk_un (by omega), pk_un (by omega)]
    exact g.2.1 j hj hlt
  · rw [show (0 : Nat) + 5 = 5 from rfl, pk_us] at hlt
    rw [pk_un (by omega), pk_un (by omega)]
    by_cases e : (j : Int) < (v.2.2.1 101 5).toInt
    · exact g.2.2 j hj (by simpa using e)
    · have ej : j = (v.2.2.1 101 5).toInt.toNat := by omega
      have := hr h0
      rw [← ej] at this
      simpa using this
/-- a room of a door that is not counted yet -/
theorem jv_dor {v : XW} {i x : Int32} (h : Jv w v) (hi : i.toInt = 10 + 3 * (v.2.2.1 101 4).toInt ∨ i.toInt = 11 + 3 * (v.2.2.1 101 4).toInt) (n0 : 0 ≤ (v.2.2.1 101 4).toInt) (n5 : (v.2.2.1 101 4).toInt ≤ 11) (h1 : 0 ≤ x.toInt) (h2 : x.toInt ≤ 7) : Jv w (upI v 101 i.toNatClampNeg x) := by
  have en : i.toNatClampNeg = 10 + 3 * (v.2.2.1 101 4).toInt.toNat ∨ i.toNatClampNeg = 11 + 3 * (v.2.2.1 101 4).toInt.toNat := by
    have : i.toNatClampNeg = i.toInt.toNat := rfl
    omega
  have hw : wrg i.toNatClampNeg = (0, 7) := by
    rcases en with e | e <;> rw [e]
    · exact (wrg_10 _ (by omega)).1
    · exact (wrg_10 _ (by omega)).2
  refine f_st h (in101 hw (by omega) h1 h2) (fun h0 => ?_)
  have g := h.1.2.1 h0
  refine ⟨fun j hj hlt => ?_, fun j hj hlt => ?_, fun j hj hlt => ?_⟩
  · rw [pk_un (by omega)] at hlt
    rw [pk_un (by omega)]
    exact g.1 j hj hlt
  · rw [pk_un (by omega)] at hlt
    have hlt2 : (j : Int) < (v.2.2.1 101 4).toInt := by simpa using hlt
    rw [pk_un (by omega), pk_un (by omega)]
    exact g.2.1 j hj hlt
  · rw [pk_un (by omega)] at hlt
    rw [pk_un (by omega), pk_un (by omega)]
    exact g.2.2 j hj hlt
theorem jv_dor4 {v : XW} {x : Int32} (h : Jv w v) (hx : x.toInt = (v.2.2.1 101 4).toInt + 1) (n0 : 0 ≤ (v.2.2.1 101 4).toInt) (n5 : (v.2.2.1 101 4).toInt ≤ 11) (hw : (v.2.2.1 95 12).toInt = 0 → ¬ (v.2.2.1 101 (10 + 3 * (v.2.2.1 101 4).toInt.toNat)).toInt = (v.2.2.1 101 (11 + 3 * (v.2.2.1 101 4).toInt.toNat)).toInt) : Jv w (upI v 101 4 x) := by
  refine f_st h (in101 (a := 0) (z := 12) (by decide) (by decide) (by omega) (by omega)) (fun h0 => ?_)
  have g := h.1.2.1 h0
  refine ⟨fun j hj hlt => ?_, fun j hj hlt => ?_, fun j hj hlt => ?_⟩
  · rw [pk_un (by omega)] at hlt
    rw [pk_un (by omega)]
    exact g.1 j hj hlt
  · rw [show (0 : Nat) + 4 = 4 from rfl, pk_us] at hlt
    rw [pk_un (by omega), pk_un (by omega)]
    by_cases e : (j : Int) < (v.2.2.1 101 4).toInt
    · exact g.2.1 j hj (by simpa using e)
    · have ej : j = (v.2.2.1 101 4).toInt.toNat := by omega
      have := hw h0
      rw [← ej] at this
      simpa using this
  · rw [pk_un (by omega)] at hlt
    rw [pk_un (by omega), pk_un (by omega)]
    exact g.2.2 j hj hlt
theorem lad_fin2 {u2 u1 : XW} {i1 i2 r1 r2 : Int32} {N : Int} (f2 : u2.2.2.1 101 = (upI u1 101 i1.toNatClampNeg r1).2.2.1 101) (hN : (u2.2.2.1 101 5).toInt = N) (n0 : 0 ≤ N) (h1 : i1.toInt = 46 + 2 * N) (h2 : i2.toInt = 47 + 2 * N) (hr : r1.toInt < (u2.2.2.1 101 0).toInt) : ((upI u2 101 i2.toNatClampNeg r2).2.2.1 101 (46 + 2 * ((upI u2 101 i2.toNatClampNeg r2).2.2.1 101 5).toInt.toNat)).toInt < ((upI u2 101 i2.toNatClampNeg r2).2.2.1 101 0).toInt := by
  have e1 : i1.toNatClampNeg = i1.toInt.toNat := rfl
  have e2 : i2.toNatClampNeg = i2.toInt.toNat := rfl
  have e5 : (upI u2 101 i2.toNatClampNeg r2).2.2.1 101 5 = u2.2.2.1 101 5 := upI_ot (by omega)
  have e0 : (upI u2 101 i2.toNatClampNeg r2).2.2.1 101 0 = u2.2.2.1 101 0 := upI_ot (by omega)
  rw [e5, e0, hN, upI_ot (by omega), show 46 + 2 * N.toNat = i1.toNatClampNeg by omega]
  have q : u2.2.2.1 101 i1.toNatClampNeg = r1 := by rw [f2, upI_at]
  rw [q]
  exact hr
theorem dor_fin {u4 u3 u1 : XW} {i2 i3 r2 r3 k : Int32} {N : Int} (f4 : u4.2.2.1 101 = (upI u3 101 i2.toNatClampNeg r2).2.2.1 101) (f3 : u3.2.2.1 101 = u1.2.2.1 101) (hN : ((upI u4 101 i3.toNatClampNeg r3).2.2.1 101 4).toInt = N) (n0 : 0 ≤ N) (hk : k.toInt = 10 + 3 * N) (h2 : i2.toInt = 11 + 3 * N) (h3 : i3.toInt = 12 + 3 * N) (hne : ¬ (u1.2.2.1 101 k.toNatClampNeg).toInt = r2.toInt) : ¬ ((upI u4 101 i3.toNatClampNeg r3).2.2.1 101 (10 + 3 * ((upI u4 101 i3.toNatClampNeg r3).2.2.1 101 4).toInt.toNat)).toInt = ((upI u4 101 i3.toNatClampNeg r3).2.2.1 101 (11 + 3 * ((upI u4 101 i3.toNatClampNeg r3).2.2.1 101 4).toInt.toNat)).toInt := by
  have ek : k.toNatClampNeg = k.toInt.toNat := rfl
  have e2 : i2.toNatClampNeg = i2.toInt.toNat := rfl
  have e3 : i3.toNatClampNeg = i3.toInt.toNat := rfl
  rw [hN, upI_ot (by omega), upI_ot (by omega), f4, upI_ot (by omega)]
  have ei : 11 + 3 * N.toNat = i2.toNatClampNeg := by omega
  rw [ei, upI_at, f3]
  have ej : 10 + 3 * N.toNat = k.toNatClampNeg := by omega
  rw [ej]
  exact hne
theorem lad_fin {u : XW} {i2 r2 : Int32} (hi : i2.toInt = 47 + 2 * (u.2.2.1 101 5).toInt) (n0 : 0 ≤ (u.2.2.1 101 5).toInt) (h : (u.2.2.1 95 12).toInt = 0 → 1 ≤ r2.toInt) : ((upI u 101 i2.toNatClampNeg r2).2.2.1 95 12).toInt = 0 → 1 ≤ ((upI u 101 i2.toNatClampNeg r2).2.2.1 101 (47 + 2 * ((upI u 101 i2.toNatClampNeg r2).2.2.1 101 5).toInt.toNat)).toInt := by
  have e2 : i2.toNatClampNeg = i2.toInt.toNat := rfl
  intro h0
  rw [upI_ne (show 95 ≠ 101 by decide)] at h0
  have e5 : (upI u 101 i2.toNatClampNeg r2).2.2.1 101 5 = u.2.2.1 101 5 := upI_ot (by omega)
  rw [e5, show 47 + 2 * (u.2.2.1 101 5).toInt.toNat = i2.toNatClampNeg by omega, upI_at]
  exact h h0
end XF
