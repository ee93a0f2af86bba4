/-- cells that are kept, written: the images' and the rows' -/
theorem jv_kp {w v : XW} {c k : Nat} {x : Int32} (h : Jv w v) (hc : c ∈ keepL) (hx : inR c k x) : Jv (upI w c k x) (upI v c k x) := by
  have hne : c ≠ 95 ∧ c ≠ 96 ∧ c ≠ 97 ∧ c ≠ 101 ∧ c ≠ 13 ∧ c ≠ 24 := by
    have h1 := List.all_eq_true.mp (show keepL.all (fun q => decide (q ≠ 95 ∧ q ≠ 96 ∧ q ≠ 97 ∧ q ≠ 101 ∧ q ≠ 13 ∧ q ≠ 24)) = true by decide) c hc
    simpa using h1
  obtain ⟨n1, n2, n3, n4, n5, n6⟩ := hne
  refine ⟨⟨⟨h.1.1.1, h.1.1.2.1, h.1.1.2.2.1, upI_in h.1.1.2.2.2.1 hx, ?_⟩, ?_, ?_⟩, fun q hq => ?_, h.2.2⟩
  · unfold Ex; rw [upI_ne (Ne.symm n2), upI_ne (Ne.symm n3)]; exact h.1.1.2.2.2.2
  · unfold Fz; rw [upI_ne (Ne.symm n1), upI_ne (Ne.symm n4)]; exact h.1.2.1
  · unfold Dz; rw [upI_ne (Ne.symm n6), upI_ne (Ne.symm n5)]; exact h.1.2.2
  · by_cases e : q = c
    · subst e; rw [upI_eq, upI_eq, h.2.1 q hq]
    · rw [upI_ne e, upI_ne e]; exact h.2.1 q hq
theorem img_k {w v : XW} {c : Nat} {i : Int32} (h : Jv w v) (hc : c = 26 ∨ c = 98) : Jv (upI w c i.toNatClampNeg 1) (upI v c i.toNatClampNeg (vp_nar .boolean 1)) := by
  have e : vp_nar .boolean 1 = 1 := by decide
  rw [e]
  rcases hc with rfl | rfl
  · exact jv_kp h (by decide) (in_of (a := 0) (z := 1) rfl (by decide) (by decide) (by decide))
  · exact jv_kp h (by decide) (in_of (a := 0) (z := 1) rfl (by decide) (by decide) (by decide))
/-- what back answers -/
def bkA (w : XW) (c : Nat) (k : Int32) : Int := if 0 ≤ k.toInt ∧ k.toInt ≤ 2 then (if (w.2.2.1 c k.toNatClampNeg).toInt = 0 then -6 else 0) else -2
/-- when a row may be -/
def rwC (s wd n : Int32) : Prop := (0 ≤ s.toInt ∧ s.toInt ≤ 3) ∧ (0 ≤ wd.toInt ∧ wd.toInt ≤ 3) ∧ n.toInt ≤ 60
