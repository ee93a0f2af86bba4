theorem y_and {x k : Int32} {v : Int} (hk : k.toInt = v) (h0 : 0 ≤ v) : 0 ≤ (x &&& k).toInt ∧ (x &&& k).toInt ≤ v := by
  subst hk
  have e1 : k.toInt = (k.toBitVec.toNat : Int) := by
    have := BitVec.toInt_eq_toNat_cond k.toBitVec
    have g : k.toBitVec.toInt = k.toInt := rfl
    rw [g] at this
    rw [this] at h0 ⊢
    split at h0 <;> split <;> omega
  have hk2 := (z32 k).2
  have e2 : (x &&& k).toBitVec.toNat ≤ k.toBitVec.toNat := by
    show (x.toBitVec &&& k.toBitVec).toNat ≤ _
    rw [BitVec.toNat_and]
    exact Nat.and_le_right
  have e3 : (x &&& k).toInt = ((x &&& k).toBitVec.toNat : Int) := by
    have := BitVec.toInt_eq_toNat_cond (x &&& k).toBitVec
    have g : (x &&& k).toBitVec.toInt = (x &&& k).toInt := rfl
    rw [g] at this
    rw [this]
    split <;> omega
  omega
theorem y_shl1 (n : Nat) {y : Int32} {B : Int} (h1 : 0 ≤ y.toInt) (h2 : y.toInt ≤ (n : Int)) (hn : n ≤ 15) (hB : ((2 ^ n : Nat) : Int) = B) : 1 ≤ ((1 : Int32) <<< (y &&& 31)).toInt ∧ ((1 : Int32) <<< (y &&& 31)).toInt ≤ B := by
  subst hB
  have e := y_asI h1
  have hj : y.toInt.toNat ≤ n := by omega
  generalize y.toInt.toNat = j at e hj
  rw [e]
  have hp : 2 ^ j ≤ 2 ^ n := Nat.pow_le_pow_right (by decide) hj
  have hv : ∀ j : Nat, j < 16 → ((1 : Int32) <<< (nI j &&& 31)).toInt = ((2 ^ j : Nat) : Int) := by decide +kernel
  have hj2 := hv j (by omega)
  have h0 : 1 ≤ 2 ^ j := Nat.one_le_two_pow
  rw [hj2]
  omega
/-- the byte at a place -/
def seeV (f : Nat → Int32) (sz k : Int) : Int := if k < sz then (f k.toNat &&& 255).toInt else -1
theorem see_no {f : Nat → Int32} {sz : Int} {k r : Int32} (h : sz ≤ k.toInt) (hr : r.toInt = -1) : r.toInt = seeV f sz k.toInt := by
  unfold seeV; rw [if_neg (by omega)]; exact hr
theorem see_yes {f : Nat → Int32} {sz : Int} {k r z : Int32} (h : k.toInt < sz) (e : r = z &&& 255 ∧ 0 ≤ r.toInt ∧ r.toInt ≤ 255) (hz : z = f k.toNatClampNeg ∧ -128 ≤ z.toInt ∧ z.toInt ≤ 127) : r.toInt = seeV f sz k.toInt := by
  unfold seeV; rw [if_pos h, e.1, hz.1]; rfl
section XN
variable {w : XW}
theorem gn0_W {v : XW} {q x z : Int32} {first : Int} (h : GN0 (v.2.2.1 107) first q.toInt) (h0 : 0 ≤ q.toInt) (hx : q.toInt = first ∨ x.toInt = -1) (hn : z.toInt = q.toInt + 1) : GN0 ((upI (upI v 107 q.toNatClampNeg x) 108 q.toNatClampNeg (-1)).2.2.1 107) first z.toInt := by
  rw [upI_ne (show 107 ≠ 108 by decide), upI_eq]
  exact gn0_up h h0 hx hn
theorem y_shlF {k z : Int32} (h0 : 0 ≤ k.toInt) (h1 : k.toInt < 32) (e0 : z = 1 <<< (k &&& 31) ∧ 1 ≤ z.toInt ∧ z.toInt ≤ 32) : ∀ o : Nat, o < 6 → bt z o = true → (o : Int) = k.toInt := by
  intro o ho hh
  rw [e0.1] at hh
  exact (y_shl h0 h1 (by omega)).mp hh
theorem y_nb {hv g z r : Int32} {l : Nat} (hb : r.toInt = 1 ↔ bt z l = true) (hr : ¬ r.toInt = 1) (e : z = hv ||| g ∧ (-2147483648) ≤ z.toInt ∧ z.toInt ≤ 2147483647) : ¬ bt hv l = true := fun hh => hr (hb.mpr (by rw [e.1, b_or, hh]; rfl))
theorem gi_upW {v : XW} {l n g hv th t1 t2 : Int32} {first : Int} (h : GI (v.2.2.1 107) (v.2.2.1 108) hv th first n.toInt) (n0 : 0 ≤ n.toInt) (l0 : 0 ≤ l.toInt) (l5 : l.toInt ≤ 5) (hl : ¬ bt hv l.toInt.toNat = true) (hg : 0 ≤ g.toInt ∧ g.toInt ≤ 5 ∧ bt hv g.toInt.toNat = true) (f2 : t2 = th ||| t1 ∧ (-2147483648) ≤ t2.toInt ∧ t2.toInt ≤ 2147483647) (f1 : t1 = 1 <<< (l &&& 31) ∧ 1 ≤ t1.toInt ∧ t1.toInt ≤ 32) : GI ((upI (upI v 107 l.toNatClampNeg n) 108 l.toNatClampNeg g).2.2.1 107) ((upI (upI v 107 l.toNatClampNeg n) 108 l.toNatClampNeg g).2.2.1 108) hv t2 first n.toInt := by
  rw [upI_ne (show 107 ≠ 108 by decide), upI_eq, upI_eq, upI_ne (show 108 ≠ 107 by decide)]
  obtain ⟨e2, -⟩ := f2
  obtain ⟨e1, -⟩ := f1
  subst e2; subst e1
  refine gi_up h rfl n0 l0 l5 hl hg.1 hg.2.1 hg.2.2 (fun o ho hh => ?_) (fun o ho hh => ?_)
  · exact (y_set l0 (by omega) (by omega)).mp hh
  · exact (y_set l0 (by omega) (by omega)).mpr (Or.inl hh)
theorem gn_nextW {v : XW} {k : Nat} {x hv th n z : Int32} {first : Int} (h : GI (v.2.2.1 107) (v.2.2.1 108) hv th first n.toInt) (hz : z.toInt = n.toInt + 1) : GN ((upI v 106 k x).2.2.1 107) ((upI v 106 k x).2.2.1 108) th first z.toInt := by
  rw [upI_ne (show 107 ≠ 106 by decide), upI_ne (show 108 ≠ 106 by decide)]
  exact gn_next h hz
end XN
theorem Z_X10_in (l : Launch) (D : va_G) (aC : Nat → ClassId) (b : Nat) (w : XW) (x1 x2 x3 : Int64) : CnI l D aC b M_X10_in 0 0 0 0 [AL x1, AL x2, AL x3] w (fun r u => (0 ≤ r.toInt ∧ r.toInt ≤ 1 ∧ (r.toInt = 0 ∨ (x2.toInt ≤ x1.toInt ∧ x1.toInt ≤ x3.toInt)) ∧ (¬ r.toInt = 0 ∨ x1.toInt < x2.toInt ∨ x3.toInt < x1.toInt)) ∧ w = u) := by
  refine cn_I (own := RX10) (nm := "in") (L0 := [some (AL x1), none, some (AL x2), none, some (AL x3), none]) (by decide +kernel) rfl rfl (Nat.le_of_ble_eq_true rfl) rfl ?_
  intro p e s m args below meth c E hin
  have e0 : (0 : Int32).toInt = 0 := by decide
  have e1 : (1 : Int32).toInt = 1 := by decide
  refine s_lload_n E dX10_in_0 rfl rfl ?_
  refine s_lload_n E dX10_in_1 rfl rfl ?_
  refine z_lcmp (u := x1.toInt) (v := x2.toInt) E dX10_in_2 rfl rfl (fun z1 h1 => ?_)
  refine z_if_lt (tgt := 17) (u := z1.toInt) E dX10_in_3 (by decide) rfl (fun h2 => ?_) (fun h2 => ?_)
  · refine s_iconst (v := 0) E dX10_in_17 (by decide) ?_
    exact r_bool E dX10_in_18 (Or.inl rfl) ⟨⟨by omega, by omega, by omega, by omega⟩, rfl⟩
  · refine s_lload_n E dX10_in_6 rfl rfl ?_
    refine s_lload E dX10_in_7 rfl ?_
    refine z_lcmp (u := x1.toInt) (v := x3.toInt) E dX10_in_9 rfl rfl (fun z2 h3 => ?_)
    refine z_if_gt (tgt := 17) (u := z2.toInt) E dX10_in_10 (by decide) rfl (fun h4 => ?_) (fun h4 => ?_)
    · refine s_iconst (v := 0) E dX10_in_17 (by decide) ?_
      exact r_bool E dX10_in_18 (Or.inl rfl) ⟨⟨by omega, by omega, by omega, by omega⟩, rfl⟩
    · refine s_iconst (v := 1) E dX10_in_13 (by decide) ?_
      refine s_goto (tgt := 18) E dX10_in_14 (by decide) ?_
      exact r_bool E dX10_in_18 (Or.inr rfl) ⟨⟨by omega, by omega, by omega, by omega⟩, rfl⟩
theorem Z_X10_bit (l : Launch) (D : va_G) (aC : Nat → ClassId) (b : Nat) (w : XW) (x1 x2 : Int32) (hI : Iv w) : CnI l D aC b M_X10_bit 0 0 0 0 [AI x1, AI x2] w (fun r u => (0 ≤ r.toInt ∧ r.toInt ≤ 1) ∧ (0 ≤ x2.toInt → x2.toInt < 32 → (r.toInt = 1 ↔ bt x1 x2.toInt.toNat = true)) ∧ w = u) := by
  refine cn_I (own := RX10) (nm := "bit") (L0 := [some (AI x1), some (AI x2)]) (by decide +kernel) rfl rfl (Nat.le_of_ble_eq_true rfl) rfl ?_
  intro p e s m args below meth c E hin
  refine s_iload_n E dX10_bit_0 rfl rfl ?_
  refine s_iload_n E dX10_bit_1 rfl rfl ?_
  refine s_ishr E dX10_bit_2 ?_
  refine s_iconst (v := 1) E dX10_bit_3 (by decide) ?_
  refine s_iand E dX10_bit_4 ?_
  refine r_int E dX10_bit_5 ⟨?_, fun h0 h1 => y_bit h0 h1, rfl⟩
  obtain ⟨j, hj, e2⟩ := pk_andE (x1 >>> (x2 &&& 31)) (m := 1) 1 (by decide)
  rw [e2, nI_toInt (by omega)]
  omega
