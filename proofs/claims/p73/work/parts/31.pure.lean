/-! bits (rows of kit/laws/BITS.to-paste) -/
def bt (x : Int32) (i : Nat) : Bool := x.toBitVec.getLsbD i
theorem b_or (x y : Int32) (i : Nat) : bt (x ||| y) i = (bt x i || bt y i) := by unfold bt; rw [Int32.toBitVec_or, BitVec.getLsbD_or]
theorem b_0 (i : Nat) : bt 0 i = false := BitVec.getLsbD_zero
theorem s_l : ∀ n, n < 32 → ((nI n &&& 31).toBitVec.smod 32).toNat = n := by decide +kernel
theorem b_shl (n : Nat) (hn : n < 32) (x : Int32) {i : Nat} (hi : i < 32) : bt (x <<< (nI n &&& 31)) i = (decide (n ≤ i) && bt x (i - n)) := by
  unfold bt
  rw [Int32.toBitVec_shiftLeft]
  show (x.toBitVec <<< ((nI n &&& 31).toBitVec.smod 32).toNat).getLsbD i = _
  rw [s_l n hn, BitVec.getLsbD_shiftLeft]
  rcases Nat.lt_or_ge i n with h | h
  · simp [h, Nat.not_le.mpr h]
  · simp [hi, h, Nat.not_lt.mpr h]
theorem b_sshr (n : Nat) (hn : n < 32) (x : Int32) {i : Nat} (hi : i < 32) : bt (x >>> (nI n &&& 31)) i = if n + i < 32 then bt x (n + i) else bt x 31 := by
  unfold bt
  rw [Int32.toBitVec_shiftRight]
  show (x.toBitVec.sshiftRight ((nI n &&& 31).toBitVec.smod 32).toNat).getLsbD i = _
  rw [s_l n hn, BitVec.getLsbD_sshiftRight, BitVec.msb_eq_getLsbD_last]
  simp [hi]
theorem b_1 : ∀ i, i < 32 → bt 1 i = decide (i = 0) := by decide +kernel
theorem y_asI {k : Int32} (h0 : 0 ≤ k.toInt) : k = nI k.toInt.toNat := Int32.toInt_inj.mp (by have := (z32 k).2; rw [nI_toInt (by omega)]; omega)
theorem y_one (x : Int32) : (x &&& 1).toInt = 1 ↔ bt x 0 = true := by
  have e := pk_and x (m := 1) 1 (by decide)
  rw [e, nI_toInt (by omega)]
  show _ ↔ x.toBitVec.toNat.testBit 0 = true
  rw [Nat.testBit_zero, decide_eq_true_eq]
  omega
theorem y_bit {x k : Int32} (h0 : 0 ≤ k.toInt) (h1 : k.toInt < 32) : ((x >>> (k &&& 31)) &&& 1).toInt = 1 ↔ bt x k.toInt.toNat = true := by
  have e := y_asI h0
  have hn : k.toInt.toNat < 32 := by omega
  generalize k.toInt.toNat = n at e hn
  rw [y_one, e, b_sshr n hn x (by decide), if_pos (by omega), Nat.add_zero]
theorem y_shl {k : Int32} (h0 : 0 ≤ k.toInt) (h1 : k.toInt < 32) {o : Nat} (ho : o < 32) : bt ((1 : Int32) <<< (k &&& 31)) o = true ↔ (o : Int) = k.toInt := by
  have e := y_asI h0
  have hn : k.toInt.toNat < 32 := by omega
  have hk : (k.toInt.toNat : Int) = k.toInt := by omega
  rw [← hk]
  generalize k.toInt.toNat = n at e hn
  rw [e, b_shl n hn 1 ho, Bool.and_eq_true, decide_eq_true_eq]
  constructor
  · rintro ⟨a, b⟩
    rw [b_1 _ (by omega), decide_eq_true_eq] at b
    omega
  · intro h
    refine ⟨by omega, ?_⟩
    rw [b_1 _ (by omega), decide_eq_true_eq]
    omega
theorem y_set {x k : Int32} (h0 : 0 ≤ k.toInt) (h1 : k.toInt < 32) {o : Nat} (ho : o < 32) : bt (x ||| ((1 : Int32) <<< (k &&& 31))) o = true ↔ bt x o = true ∨ (o : Int) = k.toInt := by
  rw [b_or, Bool.or_eq_true, y_shl h0 h1 ho]
/-! notes: who has one, from whom -/
def GN0 (f : Nat → Int32) (first n : Int) : Prop := ∀ o : Nat, (o : Int) < n → ¬ (o : Int) = first → (f o).toInt = -1
def GN (ga gi : Nat → Int32) (hv : Int32) (first n : Int) : Prop := (∀ o : Nat, o < 6 → bt hv o = true → (o : Int) = first ∨ (0 ≤ (ga o).toInt ∧ (ga o).toInt < n)) ∧
  (∀ o : Nat, o < 6 → ¬ (o : Int) = first → ¬ (ga o).toInt = -1 → 0 ≤ (gi o).toInt ∧ (gi o).toInt ≤ 5 ∧ bt hv (gi o).toInt.toNat = true ∧ ((gi o).toInt = first ∨ (0 ≤ (ga (gi o).toInt.toNat).toInt ∧ (ga (gi o).toInt.toNat).toInt < (ga o).toInt)))
def GI (ga gi : Nat → Int32) (hv th : Int32) (first n : Int) : Prop := GN ga gi hv first n ∧ (∀ o : Nat, o < 6 → bt th o = true → (o : Int) = first ∨ (0 ≤ (ga o).toInt ∧ (ga o).toInt < n + 1)) ∧ (∀ o : Nat, o < 6 → bt hv o = true → bt th o = true)
def HN (ga gi : Nat → Int32) (first : Int) : Prop := ∀ o : Nat, o < 6 → ¬ (o : Int) = first → ¬ (ga o).toInt = -1 → 0 ≤ (gi o).toInt ∧ (gi o).toInt ≤ 5 ∧ ((gi o).toInt = first ∨ (0 ≤ (ga (gi o).toInt.toNat).toInt ∧ (ga (gi o).toInt.toNat).toInt < (ga o).toInt))
theorem gn0_up {f : Nat → Int32} {first n : Int} {i x : Int32} (h : GN0 f first i.toInt) (h0 : 0 ≤ i.toInt) (hx : i.toInt = first ∨ x.toInt = -1) (hn : n = i.toInt + 1) : GN0 (upd f i.toNatClampNeg x) first n := by
  intro o ho hne
  have e : i.toNatClampNeg = i.toInt.toNat := rfl
  by_cases q : o = i.toNatClampNeg
  · subst q; rw [pk_us]; omega
  · rw [pk_un q]; exact h o (by omega) hne
theorem gn_start {ga gi : Nat → Int32} {hv : Int32} {first n : Int} (h : GN0 ga first n) (hn : 6 ≤ n) (hb : ∀ o : Nat, o < 6 → bt hv o = true → (o : Int) = first) (m : Int) : GN ga gi hv first m :=
  ⟨fun o ho hh => Or.inl (hb o ho hh), fun o ho h1 h2 => absurd (h o (by omega) h1) h2⟩
theorem gi_start {ga gi : Nat → Int32} {hv : Int32} {first n : Int} (h : GN ga gi hv first n) : GI ga gi hv hv first n :=
  ⟨h, fun o ho hh => by rcases h.1 o ho hh with q | q <;> omega, fun _ _ hh => hh⟩
theorem gi_up {ga gi : Nat → Int32} {hv th t2 l n32 g : Int32} {first n : Int} (h : GI ga gi hv th first n) (hn : n32.toInt = n) (n0 : 0 ≤ n) (l0 : 0 ≤ l.toInt) (l5 : l.toInt ≤ 5) (hl : ¬ bt hv l.toInt.toNat = true) (g0 : 0 ≤ g.toInt) (g5 : g.toInt ≤ 5) (hg : bt hv g.toInt.toNat = true) (ht : ∀ o : Nat, o < 6 → bt t2 o = true → bt th o = true ∨ (o : Int) = l.toInt) (ht2 : ∀ o : Nat, o < 6 → bt th o = true → bt t2 o = true) : GI (upd ga l.toNatClampNeg n32) (upd gi l.toNatClampNeg g) hv t2 first n := by
  obtain ⟨⟨h1, h2⟩, h3, h4⟩ := h
  have el : l.toNatClampNeg = l.toInt.toNat := rfl
  have hne : ∀ o : Nat, o < 6 → bt hv o = true → o ≠ l.toNatClampNeg := fun o _ hh e => hl (by rw [← el, ← e]; exact hh)
  refine ⟨⟨fun o ho hh => ?_, fun o ho q1 q2 => ?_⟩, fun o ho hh => ?_, fun o ho hh => ht2 o ho (h4 o ho hh)⟩
  · rw [pk_un (hne o ho hh)]; exact h1 o ho hh
  · by_cases q : o = l.toNatClampNeg
    · subst q
      rw [pk_us, pk_us]
      refine ⟨g0, g5, hg, ?_⟩
      rw [pk_un (hne _ (by omega) hg)]
      rcases h1 g.toInt.toNat (by omega) hg with z | z
      · exact Or.inl (by omega)
      · exact Or.inr (by omega)
    · rw [pk_un q] at q2
      obtain ⟨z1, z2, z3, z4⟩ := h2 o ho q1 q2
      rw [pk_un q, pk_un q, pk_un (hne _ (by omega) z3)]
      exact ⟨z1, z2, z3, z4⟩
  · by_cases q : o = l.toNatClampNeg
    · subst q; rw [pk_us]; exact Or.inr (by omega)
    · rw [pk_un q]
      rcases ht o ho hh with z | z
      · exact h3 o ho z
      · omega
theorem gn_next {ga gi : Nat → Int32} {hv th : Int32} {first n m : Int} (h : GI ga gi hv th first n) (hm : m = n + 1) : GN ga gi th first m := by
  subst hm
  exact ⟨h.2.1, fun o ho q1 q2 => by
    obtain ⟨z1, z2, z3, z4⟩ := h.1.2 o ho q1 q2
    exact ⟨z1, z2, h.2.2 _ (by omega) z3, z4⟩⟩
theorem gn_end {ga gi : Nat → Int32} {hv : Int32} {first n : Int} (h : GN ga gi hv first n) : HN ga gi first := fun o ho q1 q2 => by
  obtain ⟨z1, z2, -, z4⟩ := h.2 o ho q1 q2
  exact ⟨z1, z2, z4⟩
