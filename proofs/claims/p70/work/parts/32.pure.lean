/-! rows that the reference's loops need, over worlds -/
section XM
variable {w : XW}
theorem rs_v {v : XW} {cl : Nat} (h : Jv w v) (hcl : cl = 96 ∨ cl = 101) (a z : Int) (k0 k1 st : Nat) (i : Int32) (u : Int) (hd : ((List.range (k1 + 1)).all (fun k => !(decide (k0 ≤ k)) || !(decide ((k - k0) % st = 0)) || (decide (a ≤ (wrg k).1) && decide ((wrg k).2 ≤ z)))) = true) (hi : i.toInt = u) (g0 : (k0 : Int) ≤ u) (g1 : u ≤ (k1 : Int)) (g2 : (u - (k0 : Int)) % (st : Int) = 0) : a ≤ (v.2.2.1 cl i.toNatClampNeg).toInt ∧ (v.2.2.1 cl i.toNatClampNeg).toInt ≤ z := by
  have g := rs_w h hcl a z k0 k1 st i u hd hi g0 g1 g2
  exact ⟨g.1, g.2.1⟩
theorem jv_wide {v : XW} (h : Jv w v) (l : Nat) (hl : l < 6) (h5 : (l : Int) < (v.2.2.1 96 5).toInt) : 1 ≤ (v.2.2.1 96 (47 + 2 * l)).toInt := by
  have g := h.1.1.2.2.2.2.1.1 l hl (by simpa using h5)
  simpa using g
theorem jv_door {v : XW} (h : Jv w v) (d : Nat) (hd : d < 12) (h4 : (d : Int) < (v.2.2.1 96 4).toInt) : ¬ (v.2.2.1 96 (10 + 3 * d)).toInt = (v.2.2.1 96 (11 + 3 * d)).toInt := by
  have g := h.1.1.2.2.2.2.1.2.1 d hd (by simpa using h4)
  simpa using g
theorem jv_room {v : XW} (h : Jv w v) (l : Nat) (hl : l < 6) (h5 : (l : Int) < (v.2.2.1 96 5).toInt) : (v.2.2.1 96 (46 + 2 * l)).toInt < (v.2.2.1 96 0).toInt := by
  have g := h.1.1.2.2.2.2.1.2.2 l hl (by simpa using h5)
  simpa using g
theorem y_gwc {f : Nat → Int32} {wd a b a2 b2 : Nat} {r : Int} (h : r = gw f wd a b) (ha : a = a2) (hb : b = b2) : r = gw f wd a2 b2 := by subst ha; subst hb; exact h
theorem y_StC {n m m2 : Nat} {g : Nat → Nat → Int} (h : y_St n m g) (e : m = m2) : y_St n m2 g := e ▸ h
theorem y_sq {i n : Int32} (h : i.toInt = n.toInt * n.toInt) (hn : 0 ≤ n.toInt) : i.toInt.toNat = n.toInt.toNat * n.toInt.toNat := by rw [h, Int.toNat_mul hn hn]
theorem y_LsC {f : Nat → Int32} {n m : Int} (h : y_Ls f n) (hm : m ≤ n) : y_Ls f m := fun wd h1 h2 => h wd h1 (by omega)
theorem y_Ls_next {f : Nat → Int32} {W n : Int} (h : y_Ls f W) (hf : WPg (gw f W.toNat)) (h0 : 0 ≤ W) (h2 : n = W + 1) : y_Ls f n := by
  intro wd g1 g2
  by_cases q : (wd : Int) < W
  · exact h wd g1 q
  · have e : wd = W.toNat := by omega
    rw [e]; exact hf
theorem y_keep {v : XW} {c k : Nat} {x : Int32} {n : Int} (h : y_Ls (v.2.2.1 102) n) (hc : 102 ≠ c) : y_Ls ((upI v c k x).2.2.1 102) n := by rw [upI_ne hc]; exact h
theorem y_keep5 {v : XW} {c k : Nat} {x : Int32} {n : Int} (h : n < (v.2.2.1 96 5).toInt) (hc : 96 ≠ c) : n < ((upI v c k x).2.2.1 96 5).toInt := by rw [upI_ne hc]; exact h
theorem lw26 {v : XW} {i x W q q2 : Int32} (h : y_Ls (v.2.2.1 102) W.toInt ∧ y_In (v.2.2.1 102) W.toInt.toNat q.toInt.toNat) (hW : 0 ≤ W.toInt) (h0 : 0 ≤ q.toInt) (h1 : q.toInt < 64) (hi : i.toInt = 64 * W.toInt + q.toInt) (hq : q2.toInt = q.toInt + 1) (hx : (q.toInt / 8 = q.toInt % 8 ∧ x.toInt = 0) ∨ (¬ q.toInt / 8 = q.toInt % 8 ∧ x.toInt = 1000000000)) : y_Ls ((upI v 102 i.toNatClampNeg x).2.2.1 102) W.toInt ∧ y_In ((upI v 102 i.toNatClampNeg x).2.2.1 102) W.toInt.toNat q2.toInt.toNat := by
  have ei : i.toNatClampNeg = i.toInt.toNat := rfl
  rw [upI_eq]
  refine ⟨y_Ls_up (wd0 := W.toInt.toNat) h.1 (by omega) (by omega), ?_⟩
  have e2 : q2.toInt.toNat = q.toInt.toNat + 1 := by omega
  rw [e2]
  exact y_In_up h.2 (by omega) (by omega) (by omega)
theorem lw70 {v : XW} {i1 i2 W a b : Int32} (h : y_Ls (v.2.2.1 102) W.toInt ∧ y_Dr (gw (v.2.2.1 102) W.toInt.toNat)) (hW : 0 ≤ W.toInt) (a0 : 0 ≤ a.toInt) (a7 : a.toInt ≤ 7) (b0 : 0 ≤ b.toInt) (b7 : b.toInt ≤ 7) (hab : ¬ a.toInt = b.toInt) (h1 : i1.toInt = 64 * W.toInt + 8 * a.toInt + b.toInt) (h2 : i2.toInt = 64 * W.toInt + 8 * b.toInt + a.toInt) : y_Ls ((upI (upI v 102 i1.toNatClampNeg 1) 102 i2.toNatClampNeg 1).2.2.1 102) W.toInt ∧ y_Dr (gw ((upI (upI v 102 i1.toNatClampNeg 1) 102 i2.toNatClampNeg 1).2.2.1 102) W.toInt.toNat) := by
  have e1 : i1.toNatClampNeg = i1.toInt.toNat := rfl
  have e2 : i2.toNatClampNeg = i2.toInt.toNat := rfl
  rw [upI_eq, upI_eq]
  refine ⟨y_Ls_up (wd0 := W.toInt.toNat) (y_Ls_up (wd0 := W.toInt.toNat) h.1 (by omega) (by omega)) (by omega) (by omega), ?_⟩
  refine y_Dr_up (a0 := b.toInt.toNat) (b0 := a.toInt.toNat) (y_Dr_up (a0 := a.toInt.toNat) (b0 := b.toInt.toNat) h.2 (by omega) (by omega) (by omega) (by omega) (by decide)) (by omega) (by omega) (by omega) (by omega) (by decide)
theorem y_divI {i n : Int} (hn : 1 ≤ n) (hn8 : n ≤ 8) (h0 : 0 ≤ i) (hi : i < n * n) : 0 ≤ i / n ∧ i / n < n ∧ 0 ≤ i % n ∧ i % n < n ∧ i = i / n * n + i % n := by
  refine ⟨Int.ediv_nonneg h0 (by omega), Int.ediv_lt_of_lt_mul (by omega) hi, Int.emod_nonneg _ (by omega), Int.emod_lt_of_pos _ (by omega), ?_⟩
  have := Int.mul_ediv_add_emod i n
  rw [Int.mul_comm] at this
  exact this.symm
theorem lw202 {v : XW} {i x W n m q q2 : Int32} {a b : Int} (h : y_Ls (v.2.2.1 102) W.toInt ∧ y_Go (v.2.2.1 102) W.toInt.toNat n.toInt.toNat m.toInt.toNat q.toInt.toNat ∧ q.toInt ≤ n.toInt * n.toInt) (hW : 0 ≤ W.toInt) (hn0 : 0 ≤ n.toInt) (hn8 : n.toInt ≤ 8) (hm0 : 0 ≤ m.toInt) (hmn : m.toInt < n.toInt) (hq0 : 0 ≤ q.toInt) (hq1 : q.toInt < n.toInt * n.toInt) (a0 : 0 ≤ a) (an : a < n.toInt) (b0 : 0 ≤ b) (bn : b < n.toInt) (hqab : q.toInt = a * n.toInt + b) (hi : i.toInt = 64 * W.toInt + 8 * a + b) (hq2 : q2.toInt = q.toInt + 1)
    (hx : (x.toInt = gw (v.2.2.1 102) W.toInt.toNat a.toNat b.toNat ∨ x.toInt = gw (v.2.2.1 102) W.toInt.toNat a.toNat m.toInt.toNat + gw (v.2.2.1 102) W.toInt.toNat m.toInt.toNat b.toNat) ∧ x.toInt ≤ gw (v.2.2.1 102) W.toInt.toNat a.toNat b.toNat ∧ x.toInt ≤ gw (v.2.2.1 102) W.toInt.toNat a.toNat m.toInt.toNat + gw (v.2.2.1 102) W.toInt.toNat m.toInt.toNat b.toNat) :
    y_Ls ((upI v 102 i.toNatClampNeg x).2.2.1 102) W.toInt ∧ y_Go ((upI v 102 i.toNatClampNeg x).2.2.1 102) W.toInt.toNat n.toInt.toNat m.toInt.toNat q2.toInt.toNat ∧ q2.toInt ≤ n.toInt * n.toInt := by
  have ei : i.toNatClampNeg = i.toInt.toNat := rfl
  rw [upI_eq]
  refine ⟨y_Ls_up (wd0 := W.toInt.toNat) h.1 (by omega) (by omega), ?_, by omega⟩
  have e2 : q2.toInt.toNat = q.toInt.toNat + 1 := by omega
  rw [e2]
  refine y_Go_up (a0 := a.toNat) (b0 := b.toNat) (by omega) (by omega) h.2.1 (by omega) (by omega) ?_ (by omega) hx
  have e3 : (a * n.toInt).toNat = a.toNat * n.toInt.toNat := Int.toNat_mul a0 hn0
  have e4 : 0 ≤ a * n.toInt := Int.mul_nonneg a0 hn0
  rw [← e3]
  omega
end XM
