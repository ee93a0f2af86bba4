/-! what the class keeps of images and rows is what the reference keeps -/
def RLs (w : XW) : Prop := (∀ k : Nat, k < 3 → w.2.2.1 26 k = w.2.2.1 98 k) ∧ (∀ s : Nat, s < 4 → w.2.2.1 (61 + 2 * s) 2 = w.2.2.1 112 s) ∧ ∀ s : Nat, s < 4 → w.2.2.1 (61 + 2 * s) 1 = w.2.2.1 113 s
theorem kl_s {s : Nat} (hs : s < 4) : 61 + 2 * s ∈ keepL := by
  have h : s = 0 ∨ s = 1 ∨ s = 2 ∨ s = 3 := by omega
  rcases h with rfl | rfl | rfl | rfl <;> decide
theorem rl_k {w u : XW} (h : RLs w) (g : ∀ c ∈ keepL, u.2.2.1 c = w.2.2.1 c) : RLs u := by
  refine ⟨fun k hk => ?_, fun s hs => ?_, fun s hs => ?_⟩
  · rw [g 26 (by decide), g 98 (by decide)]; exact h.1 k hk
  · rw [g _ (kl_s hs), g 112 (by decide)]; exact h.2.1 s hs
  · rw [g _ (kl_s hs), g 113 (by decide)]; exact h.2.2 s hs
theorem rl_img {w u v : XW} {k r1 r2 : Int32} (h : RLs w) (h1 : (r1.toInt = -2 ∧ ¬ (0 ≤ k.toInt ∧ k.toInt ≤ 2) ∧ w = u) ∨ (r1.toInt = 0 ∧ (0 ≤ k.toInt ∧ k.toInt ≤ 2) ∧ Jv (upI w 26 k.toNatClampNeg 1) u)) (h2 : (r2.toInt = -2 ∧ ¬ (0 ≤ k.toInt ∧ k.toInt ≤ 2) ∧ u = v) ∨ (r2.toInt = 0 ∧ (0 ≤ k.toInt ∧ k.toInt ≤ 2) ∧ Jv (upI u 98 k.toNatClampNeg 1) v)) : RLs v := by
  rcases h1 with ⟨_, c1, rfl⟩ | ⟨_, c1, g1⟩
  · rcases h2 with ⟨_, c2, rfl⟩ | ⟨_, c2, g2⟩
    · exact h
    · exact absurd c2 c1
  · rcases h2 with ⟨_, c2, rfl⟩ | ⟨_, c2, g2⟩
    · exact absurd c1 c2
    · refine ⟨fun j hj => ?_, fun s hs => ?_, fun s hs => ?_⟩
      · rw [g2.2.1 26 (by decide), upI_ne (show 26 ≠ 98 by decide), g1.2.1 26 (by decide), upI_eq, g2.2.1 98 (by decide), upI_eq, g1.2.1 98 (by decide), upI_ne (show 98 ≠ 26 by decide)]
        by_cases e : j = k.toNatClampNeg
        · subst e; rw [pk_us, pk_us]
        · rw [pk_un e, pk_un e]; exact h.1 j hj
      · rw [g2.2.1 _ (kl_s hs), upI_ne (show 61 + 2 * s ≠ 98 by omega), g1.2.1 _ (kl_s hs), upI_ne (show 61 + 2 * s ≠ 26 by omega), g2.2.1 112 (by decide), upI_ne (show 112 ≠ 98 by decide), g1.2.1 112 (by decide), upI_ne (show 112 ≠ 26 by decide)]
        exact h.2.1 s hs
      · rw [g2.2.1 _ (kl_s hs), upI_ne (show 61 + 2 * s ≠ 98 by omega), g1.2.1 _ (kl_s hs), upI_ne (show 61 + 2 * s ≠ 26 by omega), g2.2.1 113 (by decide), upI_ne (show 113 ≠ 98 by decide), g1.2.1 113 (by decide), upI_ne (show 113 ≠ 26 by decide)]
        exact h.2.2 s hs
theorem rl_row {w u v : XW} {a b n r1 r2 : Int32} (h : RLs w) (h1 : (r1.toInt = -2 ∧ ¬ rwC a b n ∧ w = u) ∨ (r1.toInt = -3 ∧ rwC a b n ∧ n.toInt < 0 ∧ w = u) ∨ (r1.toInt = 0 ∧ rwC a b n ∧ 0 ≤ n.toInt ∧ Jv (upI (upI w (61 + 2 * a.toInt.toNat) 1 b) (61 + 2 * a.toInt.toNat) 2 n) u))
    (h2 : (r2.toInt = -2 ∧ ¬ rwC a b n ∧ u = v) ∨ (r2.toInt = -3 ∧ rwC a b n ∧ n.toInt < 0 ∧ u = v) ∨ (r2.toInt = 0 ∧ rwC a b n ∧ 0 ≤ n.toInt ∧ Jn (upI (upI u 112 a.toNatClampNeg n) 113 a.toNatClampNeg b) v)) : RLs v := by
  rcases h1 with ⟨_, c1, rfl⟩ | ⟨_, c1, d1, rfl⟩ | ⟨_, c1, d1, g1⟩
  · rcases h2 with ⟨_, c2, rfl⟩ | ⟨_, c2, d2, rfl⟩ | ⟨_, c2, d2, g2⟩
    · exact h
    · exact h
    · exact absurd c2 c1
  · rcases h2 with ⟨_, c2, rfl⟩ | ⟨_, c2, d2, rfl⟩ | ⟨_, c2, d2, g2⟩
    · exact h
    · exact h
    · omega
  · rcases h2 with ⟨_, c2, rfl⟩ | ⟨_, c2, d2, rfl⟩ | ⟨_, c2, d2, g2⟩
    · exact absurd c1 c2
    · omega
    · have ea : a.toNatClampNeg = a.toInt.toNat := rfl
      have ha : a.toInt.toNat < 4 := by have := c1.1; omega
      rw [ea] at g2
      refine ⟨fun j hj => ?_, fun s hs => ?_, fun s hs => ?_⟩
      · rw [g2.2 26 (by decide), upI_ne (show 26 ≠ 113 by decide), upI_ne (show 26 ≠ 112 by decide), g1.2.1 26 (by decide), upI_ne (show 26 ≠ 61 + 2 * a.toInt.toNat by omega), upI_ne (show 26 ≠ 61 + 2 * a.toInt.toNat by omega), g2.2 98 (by decide), upI_ne (show 98 ≠ 113 by decide), upI_ne (show 98 ≠ 112 by decide), g1.2.1 98 (by decide), upI_ne (show 98 ≠ 61 + 2 * a.toInt.toNat by omega), upI_ne (show 98 ≠ 61 + 2 * a.toInt.toNat by omega)]
        exact h.1 j hj
      · rw [g2.2 _ (kl_s hs), upI_ne (show 61 + 2 * s ≠ 113 by omega), upI_ne (show 61 + 2 * s ≠ 112 by omega), g1.2.1 _ (kl_s hs), g2.2 112 (by decide), upI_ne (show 112 ≠ 113 by decide), upI_eq]
        by_cases e : s = a.toInt.toNat
        · subst e; rw [pk_us, upI_at]
        · rw [pk_un e, upI_ne (show 61 + 2 * s ≠ 61 + 2 * a.toInt.toNat by omega), upI_ne (show 61 + 2 * s ≠ 61 + 2 * a.toInt.toNat by omega), g1.2.1 112 (by decide), upI_ne (show 112 ≠ 61 + 2 * a.toInt.toNat by omega), upI_ne (show 112 ≠ 61 + 2 * a.toInt.toNat by omega)]
          exact h.2.1 s hs
      · rw [g2.2 _ (kl_s hs), upI_ne (show 61 + 2 * s ≠ 113 by omega), upI_ne (show 61 + 2 * s ≠ 112 by omega), g1.2.1 _ (kl_s hs), g2.2 113 (by decide), upI_eq, upI_ne (show 113 ≠ 112 by decide)]
        by_cases e : s = a.toInt.toNat
        · subst e; rw [pk_us, upI_ot (show 1 ≠ 2 by decide), upI_at]
        · rw [pk_un e, upI_ne (show 61 + 2 * s ≠ 61 + 2 * a.toInt.toNat by omega), upI_ne (show 61 + 2 * s ≠ 61 + 2 * a.toInt.toNat by omega), g1.2.1 113 (by decide), upI_ne (show 113 ≠ 61 + 2 * a.toInt.toNat by omega), upI_ne (show 113 ≠ 61 + 2 * a.toInt.toNat by omega)]
          exact h.2.2 s hs
/-- the same answer -/
theorem bk_eq {w u : XW} {k r1 r2 : Int32} (h : RLs w) (g : ∀ c ∈ keepL, u.2.2.1 c = w.2.2.1 c) (h1 : (¬ (0 ≤ k.toInt ∧ k.toInt ≤ 2) ∧ r1.toInt = -2) ∨ ((0 ≤ k.toInt ∧ k.toInt ≤ 2) ∧ (((w.2.2.1 26 k.toNatClampNeg).toInt = 0 ∧ r1.toInt = -6) ∨ (¬ (w.2.2.1 26 k.toNatClampNeg).toInt = 0 ∧ r1.toInt = 0)))) (h2 : r2.toInt = bkA u 98 k) : r1 = r2 := by
  apply Int32.toInt_inj.mp
  rw [h2]
  unfold bkA
  by_cases c : 0 ≤ k.toInt ∧ k.toInt ≤ 2
  · have hk : k.toNatClampNeg < 3 := by
      have : k.toNatClampNeg = k.toInt.toNat := rfl
      omega
    rw [if_pos c, g 98 (by decide), ← h.1 _ hk]
    split <;> omega
  · rw [if_neg c]; omega
theorem rl_4 {w u : XW} {s : Int32} {j : Nat} (h : RLs w) (g : ∀ c ∈ keepL, u.2.2.1 c = w.2.2.1 c) (hj : s.toInt = (j : Int)) (h4 : j < 4) : (u.2.2.1 112 s.toNatClampNeg).toInt = (w.2.2.1 (61 + 2 * j) 2).toInt ∧ (u.2.2.1 113 s.toNatClampNeg).toInt = (w.2.2.1 (61 + 2 * j) 1).toInt := by
  have e : s.toNatClampNeg = j := by
    have : s.toNatClampNeg = s.toInt.toNat := rfl
    omega
  rw [e, g 112 (by decide), g 113 (by decide), h.2.1 j h4, h.2.2 j h4]
  exact ⟨rfl, rfl⟩
/-- what a write answers -/
def wrP (z x r : Int) : Prop := (z < 0 ∧ r = -6) ∨ (0 ≤ z ∧ ¬ (0 ≤ x ∧ x < z) ∧ r = -7) ∨ (0 ≤ x ∧ x < z ∧ r = 0)
theorem wrP_f {z x a b : Int} (ha : wrP z x a) (hb : wrP z x b) : a = b := by
  rcases ha with ⟨c, e⟩ | ⟨c, d, e⟩ | ⟨c, d, e⟩ <;> rcases hb with ⟨p, q⟩ | ⟨p, o, q⟩ | ⟨p, o, q⟩ <;> first | exact e.trans q.symm | omega
/-- what a paste answers -/
def psP (z1 y1 z2 y2 x2 x4 x5 r : Int) : Prop := ((z1 < 0 ∨ z2 < 0) ∧ r = -6) ∨ (0 ≤ z1 ∧ 0 ≤ z2 ∧ ((¬ y1 = y2 ∧ r = -8) ∨ (y1 = y2 ∧ ((¬ (0 ≤ x2 ∧ 0 ≤ x5 ∧ x2 + x5 ≤ z1 ∧ 0 ≤ x4 ∧ x4 + x5 ≤ z2) ∧ r = -7) ∨ ((0 ≤ x2 ∧ 0 ≤ x5 ∧ x2 + x5 ≤ z1 ∧ 0 ≤ x4 ∧ x4 + x5 ≤ z2) ∧ r = 0)))))
theorem psP_f {z1 y1 z2 y2 x2 x4 x5 a b : Int} (ha : psP z1 y1 z2 y2 x2 x4 x5 a) (hb : psP z1 y1 z2 y2 x2 x4 x5 b) : a = b := by
  rcases ha with ⟨c, e⟩ | ⟨c1, c2, ⟨c3, e⟩ | ⟨c3, ⟨c4, e⟩ | ⟨c4, e⟩⟩⟩ <;> rcases hb with ⟨d, f⟩ | ⟨d1, d2, ⟨d3, f⟩ | ⟨d3, ⟨d4, f⟩ | ⟨d4, f⟩⟩⟩ <;> first | exact e.trans f.symm | exact absurd d4 c4 | exact absurd c4 d4 | exact absurd d3 c3 | exact absurd c3 d3 | omega
theorem sl_4 {x : Int} (h : 0 ≤ x ∧ x ≤ 3) : x = 0 ∨ x = 1 ∨ x = 2 ∨ x = 3 := by omega
theorem wr_eq {w u : XW} {x1 x2 r1 r2 : Int32} (h : RLs w) (g : ∀ c ∈ keepL, u.2.2.1 c = w.2.2.1 c) (h1 : (¬ (0 ≤ x1.toInt ∧ x1.toInt ≤ 3) → r1.toInt = -2) ∧ (x1.toInt = 0 → wrP (w.2.2.1 61 2).toInt x2.toInt r1.toInt) ∧ (x1.toInt = 1 → wrP (w.2.2.1 63 2).toInt x2.toInt r1.toInt) ∧ (x1.toInt = 2 → wrP (w.2.2.1 65 2).toInt x2.toInt r1.toInt) ∧ (x1.toInt = 3 → wrP (w.2.2.1 67 2).toInt x2.toInt r1.toInt)) (h2 : (¬ (0 ≤ x1.toInt ∧ x1.toInt ≤ 3) ∧ r2.toInt = -2) ∨ ((0 ≤ x1.toInt ∧ x1.toInt ≤ 3) ∧ wrP (u.2.2.1 112 x1.toNatClampNeg).toInt x2.toInt r2.toInt)) : r1 = r2 := by
  apply Int32.toInt_inj.mp
  obtain ⟨n, c0, c1, c2, c3⟩ := h1
  rcases h2 with ⟨d, e⟩ | ⟨d, e⟩
  · exact (n d).trans e.symm
  · rcases sl_4 d with k | k | k | k
    · have q : (u.2.2.1 112 x1.toNatClampNeg).toInt = (w.2.2.1 61 2).toInt ∧ (u.2.2.1 113 x1.toNatClampNeg).toInt = (w.2.2.1 61 1).toInt := rl_4 (j := 0) h g (k.trans rfl) (by decide)
      rw [q.1] at e
      exact wrP_f (c0 k) e
    · have q : (u.2.2.1 112 x1.toNatClampNeg).toInt = (w.2.2.1 63 2).toInt ∧ (u.2.2.1 113 x1.toNatClampNeg).toInt = (w.2.2.1 63 1).toInt := rl_4 (j := 1) h g (k.trans rfl) (by decide)
      rw [q.1] at e
      exact wrP_f (c1 k) e
    · have q : (u.2.2.1 112 x1.toNatClampNeg).toInt = (w.2.2.1 65 2).toInt ∧ (u.2.2.1 113 x1.toNatClampNeg).toInt = (w.2.2.1 65 1).toInt := rl_4 (j := 2) h g (k.trans rfl) (by decide)
      rw [q.1] at e
      exact wrP_f (c2 k) e
    · have q : (u.2.2.1 112 x1.toNatClampNeg).toInt = (w.2.2.1 67 2).toInt ∧ (u.2.2.1 113 x1.toNatClampNeg).toInt = (w.2.2.1 67 1).toInt := rl_4 (j := 3) h g (k.trans rfl) (by decide)
      rw [q.1] at e
      exact wrP_f (c3 k) e
theorem ps_eq {w u : XW} {x1 x2 x3 x4 x5 r1 r2 : Int32} (h : RLs w) (g : ∀ c ∈ keepL, u.2.2.1 c = w.2.2.1 c) (h1 : (¬ ((0 ≤ x1.toInt ∧ x1.toInt ≤ 3) ∧ 0 ≤ x3.toInt ∧ x3.toInt ≤ 3) → r1.toInt = -2) ∧ (x1.toInt = 0 → x3.toInt = 0 → psP (w.2.2.1 61 2).toInt (w.2.2.1 61 1).toInt (w.2.2.1 61 2).toInt (w.2.2.1 61 1).toInt x2.toInt x4.toInt x5.toInt r1.toInt) ∧ (x1.toInt = 0 → x3.toInt = 1 → psP (w.2.2.1 61 2).toInt (w.2.2.1 61 1).toInt (w.2.2.1 63 2).toInt (w.2.2.1 63 1).toInt x2.toInt x4.toInt x5.toInt r1.toInt) ∧ (x1.toInt = 0 → x3.toInt = 2 → psP (w.2.2.1 61 2).toInt (w.2.2.1 61 1).toInt (w.2.2.1 65 2).toInt (w.2.2.1 65 1).toInt x2.toInt x4.toInt x5.toInt r1.toInt) ∧ (x1.toInt = 0 → x3.toInt = 3 → psP (w.2.2.1 61 2).toInt (w.2.2.1 61 1).toInt (w.2.2.1 67 2).toInt (w.2.2.1 67 1).toInt x2.toInt x4.toInt x5.toInt r1.toInt) ∧ (x1.toInt = 1 → x3.toInt = 0 → psP (w.2.2.1 63 2).toInt (w.2.2.1 63 1).toInt (w.2.2.1 61 2).toInt (w.2.2.1 61 1).toInt x2.toInt x4.toInt x5.toInt r1.toInt) ∧ (x1.toInt = 1 → x3.toInt = 1 → psP (w.2.2.1 63 2).toInt (w.2.2.1 63 1).toInt (w.2.2.1 63 2).toInt (w.2.2.1 63 1).toInt x2.toInt x4.toInt x5.toInt r1.toInt) ∧ (x1.toInt = 1 → x3.toInt = 2 → psP (w.2.2.1 63 2).toInt (w.2.2.1 63 1).toInt (w.2.2.1 65 2).toInt (w.2.2.1 65 1).toInt x2.toInt x4.toInt x5.toInt r1.toInt) ∧ (x1.toInt = 1 → x3.toInt = 3 → psP (w.2.2.1 63 2).toInt (w.2.2.1 63 1).toInt (w.2.2.1 67 2).toInt (w.2.2.1 67 1).toInt x2.toInt x4.toInt x5.toInt r1.toInt) ∧ (x1.toInt = 2 → x3.toInt = 0 → psP (w.2.2.1 65 2).toInt (w.2.2.1 65 1).toInt (w.2.2.1 61 2).toInt (w.2.2.1 61 1).toInt x2.toInt x4.toInt x5.toInt r1.toInt) ∧ (x1.toInt = 2 → x3.toInt = 1 → psP (w.2.2.1 65 2).toInt (w.2.2.1 65 1).toInt (w.2.2.1 63 2).toInt (w.2.2.1 63 1).toInt x2.toInt x4.toInt x5.toInt r1.toInt) ∧ (x1.toInt = 2 → x3.toInt = 2 → psP (w.2.2.1 65 2).toInt (w.2.2.1 65 1).toInt (w.2.2.1 65 2).toInt (w.2.2.1 65 1).toInt x2.toInt x4.toInt x5.toInt r1.toInt) ∧ (x1.toInt = 2 → x3.toInt = 3 → psP (w.2.2.1 65 2).toInt (w.2.2.1 65 1).toInt (w.2.2.1 67 2).toInt (w.2.2.1 67 1).toInt x2.toInt x4.toInt x5.toInt r1.toInt) ∧ (x1.toInt = 3 → x3.toInt = 0 → psP (w.2.2.1 67 2).toInt (w.2.2.1 67 1).toInt (w.2.2.1 61 2).toInt (w.2.2.1 61 1).toInt x2.toInt x4.toInt x5.toInt r1.toInt) ∧ (x1.toInt = 3 → x3.toInt = 1 → psP (w.2.2.1 67 2).toInt (w.2.2.1 67 1).toInt (w.2.2.1 63 2).toInt (w.2.2.1 63 1).toInt x2.toInt x4.toInt x5.toInt r1.toInt) ∧ (x1.toInt = 3 → x3.toInt = 2 → psP (w.2.2.1 67 2).toInt (w.2.2.1 67 1).toInt (w.2.2.1 65 2).toInt (w.2.2.1 65 1).toInt x2.toInt x4.toInt x5.toInt r1.toInt) ∧ (x1.toInt = 3 → x3.toInt = 3 → psP (w.2.2.1 67 2).toInt (w.2.2.1 67 1).toInt (w.2.2.1 67 2).toInt (w.2.2.1 67 1).toInt x2.toInt x4.toInt x5.toInt r1.toInt)) (h2 : (¬ ((0 ≤ x1.toInt ∧ x1.toInt ≤ 3) ∧ 0 ≤ x3.toInt ∧ x3.toInt ≤ 3) ∧ r2.toInt = -2) ∨ (((0 ≤ x1.toInt ∧ x1.toInt ≤ 3) ∧ 0 ≤ x3.toInt ∧ x3.toInt ≤ 3) ∧ psP (u.2.2.1 112 x1.toNatClampNeg).toInt (u.2.2.1 113 x1.toNatClampNeg).toInt (u.2.2.1 112 x3.toNatClampNeg).toInt (u.2.2.1 113 x3.toNatClampNeg).toInt x2.toInt x4.toInt x5.toInt r2.toInt)) : r1 = r2 := by
  apply Int32.toInt_inj.mp
  obtain ⟨n, c0, c1, c2, c3, c4, c5, c6, c7, c8, c9, c10, c11, c12, c13, c14, c15⟩ := h1
  rcases h2 with ⟨d, e⟩ | ⟨d, e⟩
  · exact (n d).trans e.symm
  · rcases sl_4 d.1 with k | k | k | k <;> rcases sl_4 d.2 with m | m | m | m
    · have q : (u.2.2.1 112 x1.toNatClampNeg).toInt = (w.2.2.1 61 2).toInt ∧ (u.2.2.1 113 x1.toNatClampNeg).toInt = (w.2.2.1 61 1).toInt := rl_4 (j := 0) h g (k.trans rfl) (by decide)
      have t : (u.2.2.1 112 x3.toNatClampNeg).toInt = (w.2.2.1 61 2).toInt ∧ (u.2.2.1 113 x3.toNatClampNeg).toInt = (w.2.2.1 61 1).toInt := rl_4 (j := 0) h g (m.trans rfl) (by decide)
      rw [q.1, q.2, t.1, t.2] at e
      exact psP_f (c0 k m) e
    · have q : (u.2.2.1 112 x1.toNatClampNeg).toInt = (w.2.2.1 61 2).toInt ∧ (u.2.2.1 113 x1.toNatClampNeg).toInt = (w.2.2.1 61 1).toInt := rl_4 (j := 0) h g (k.trans rfl) (by decide)
      have t : (u.2.2.1 112 x3.toNatClampNeg).toInt = (w.2.2.1 63 2).toInt ∧ (u.2.2.1 113 x3.toNatClampNeg).toInt = (w.2.2.1 63 1).toInt := rl_4 (j := 1) h g (m.trans rfl) (by decide)
      rw [q.1, q.2, t.1, t.2] at e
      exact psP_f (c1 k m) e
    · have q : (u.2.2.1 112 x1.toNatClampNeg).toInt = (w.2.2.1 61 2).toInt ∧ (u.2.2.1 113 x1.toNatClampNeg).toInt = (w.2.2.1 61 1).toInt := rl_4 (j := 0) h g (k.trans rfl) (by decide)
      have t : (u.2.2.1 112 x3.toNatClampNeg).toInt = (w.2.2.1 65 2).toInt ∧ (u.2.2.1 113 x3.toNatClampNeg).toInt = (w.2.2.1 65 1).toInt := rl_4 (j := 2) h g (m.trans rfl) (by decide)
      rw [q.1, q.2, t.1, t.2] at e
      exact psP_f (c2 k m) e
    · have q : (u.2.2.1 112 x1.toNatClampNeg).toInt = (w.2.2.1 61 2).toInt ∧ (u.2.2.1 113 x1.toNatClampNeg).toInt = (w.2.2.1 61 1).toInt := rl_4 (j := 0) h g (k.trans rfl) (by decide)
      have t : (u.2.2.1 112 x3.toNatClampNeg).toInt = (w.2.2.1 67 2).toInt ∧ (u.2.2.1 113 x3.toNatClampNeg).toInt = (w.2.2.1 67 1).toInt := rl_4 (j := 3) h g (m.trans rfl) (by decide)
      rw [q.1, q.2, t.1, t.2] at e
      exact psP_f (c3 k m) e
    · have q : (u.2.2.1 112 x1.toNatClampNeg).toInt = (w.2.2.1 63 2).toInt ∧ (u.2.2.1 113 x1.toNatClampNeg).toInt = (w.2.2.1 63 1).toInt := rl_4 (j := 1) h g (k.trans rfl) (by decide)
      have t : (u.2.2.1 112 x3.toNatClampNeg).toInt = (w.2.2.1 61 2).toInt ∧ (u.2.2.1 113 x3.toNatClampNeg).toInt = (w.2.2.1 61 1).toInt := rl_4 (j := 0) h g (m.trans rfl) (by decide)
      rw [q.1, q.2, t.1, t.2] at e
      exact psP_f (c4 k m) e
    · have q : (u.2.2.1 112 x1.toNatClampNeg).toInt = (w.2.2.1 63 2).toInt ∧ (u.2.2.1 113 x1.toNatClampNeg).toInt = (w.2.2.1 63 1).toInt := rl_4 (j := 1) h g (k.trans rfl) (by decide)
      have t : (u.2.2.1 112 x3.toNatClampNeg).toInt = (w.2.2.1 63 2).toInt ∧ (u.2.2.1 113 x3.toNatClampNeg).toInt = (w.2.2.1 63 1).toInt := rl_4 (j := 1) h g (m.trans rfl) (by decide)
      rw [q.1, q.2, t.1, t.2] at e
      exact psP_f (c5 k m) e
    · have q : (u.2.2.1 112 x1.toNatClampNeg).toInt = (w.2.2.1 63 2).toInt ∧ (u.2.2.1 113 x1.toNatClampNeg).toInt = (w.2.2.1 63 1).toInt := rl_4 (j := 1) h g (k.trans rfl) (by decide)
      have t : (u.2.2.1 112 x3.toNatClampNeg).toInt = (w.2.2.1 65 2).toInt ∧ (u.2.2.1 113 x3.toNatClampNeg).toInt = (w.2.2.1 65 1).toInt := rl_4 (j := 2) h g (m.trans rfl) (by decide)
      rw [q.1, q.2, t.1, t.2] at e
      exact psP_f (c6 k m) e
    · have q : (u.2.2.1 112 x1.toNatClampNeg).toInt = (w.2.2.1 63 2).toInt ∧ (u.2.2.1 113 x1.toNatClampNeg).toInt = (w.2.2.1 63 1).toInt := rl_4 (j := 1) h g (k.trans rfl) (by decide)
      have t : (u.2.2.1 112 x3.toNatClampNeg).toInt = (w.2.2.1 67 2).toInt ∧ (u.2.2.1 113 x3.toNatClampNeg).toInt = (w.2.2.1 67 1).toInt := rl_4 (j := 3) h g (m.trans rfl) (by decide)
      rw [q.1, q.2, t.1, t.2] at e
      exact psP_f (c7 k m) e
    · have q : (u.2.2.1 112 x1.toNatClampNeg).toInt = (w.2.2.1 65 2).toInt ∧ (u.2.2.1 113 x1.toNatClampNeg).toInt = (w.2.2.1 65 1).toInt := rl_4 (j := 2) h g (k.trans rfl) (by decide)
      have t : (u.2.2.1 112 x3.toNatClampNeg).toInt = (w.2.2.1 61 2).toInt ∧ (u.2.2.1 113 x3.toNatClampNeg).toInt = (w.2.2.1 61 1).toInt := rl_4 (j := 0) h g (m.trans rfl) (by decide)
      rw [q.1, q.2, t.1, t.2] at e
      exact psP_f (c8 k m) e
    · have q : (u.2.2.1 112 x1.toNatClampNeg).toInt = (w.2.2.1 65 2).toInt ∧ (u.2.2.1 113 x1.toNatClampNeg).toInt = (w.2.2.1 65 1).toInt := rl_4 (j := 2) h g (k.trans rfl) (by decide)
      have t : (u.2.2.1 112 x3.toNatClampNeg).toInt = (w.2.2.1 63 2).toInt ∧ (u.2.2.1 113 x3.toNatClampNeg).toInt = (w.2.2.1 63 1).toInt := rl_4 (j := 1) h g (m.trans rfl) (by decide)
      rw [q.1, q.2, t.1, t.2] at e
      exact psP_f (c9 k m) e
    · have q : (u.2.2.1 112 x1.toNatClampNeg).toInt = (w.2.2.1 65 2).toInt ∧ (u.2.2.1 113 x1.toNatClampNeg).toInt = (w.2.2.1 65 1).toInt := rl_4 (j := 2) h g (k.trans rfl) (by decide)
      have t : (u.2.2.1 112 x3.toNatClampNeg).toInt = (w.2.2.1 65 2).toInt ∧ (u.2.2.1 113 x3.toNatClampNeg).toInt = (w.2.2.1 65 1).toInt := rl_4 (j := 2) h g (m.trans rfl) (by decide)
      rw [q.1, q.2, t.1, t.2] at e
      exact psP_f (c10 k m) e
    · have q : (u.2.2.1 112 x1.toNatClampNeg).toInt = (w.2.2.1 65 2).toInt ∧ (u.2.2.1 113 x1.toNatClampNeg).toInt = (w.2.2.1 65 1).toInt := rl_4 (j := 2) h g (k.trans rfl) (by decide)
      have t : (u.2.2.1 112 x3.toNatClampNeg).toInt = (w.2.2.1 67 2).toInt ∧ (u.2.2.1 113 x3.toNatClampNeg).toInt = (w.2.2.1 67 1).toInt := rl_4 (j := 3) h g (m.trans rfl) (by decide)
      rw [q.1, q.2, t.1, t.2] at e
      exact psP_f (c11 k m) e
    · have q : (u.2.2.1 112 x1.toNatClampNeg).toInt = (w.2.2.1 67 2).toInt ∧ (u.2.2.1 113 x1.toNatClampNeg).toInt = (w.2.2.1 67 1).toInt := rl_4 (j := 3) h g (k.trans rfl) (by decide)
      have t : (u.2.2.1 112 x3.toNatClampNeg).toInt = (w.2.2.1 61 2).toInt ∧ (u.2.2.1 113 x3.toNatClampNeg).toInt = (w.2.2.1 61 1).toInt := rl_4 (j := 0) h g (m.trans rfl) (by decide)
      rw [q.1, q.2, t.1, t.2] at e
      exact psP_f (c12 k m) e
    · have q : (u.2.2.1 112 x1.toNatClampNeg).toInt = (w.2.2.1 67 2).toInt ∧ (u.2.2.1 113 x1.toNatClampNeg).toInt = (w.2.2.1 67 1).toInt := rl_4 (j := 3) h g (k.trans rfl) (by decide)
      have t : (u.2.2.1 112 x3.toNatClampNeg).toInt = (w.2.2.1 63 2).toInt ∧ (u.2.2.1 113 x3.toNatClampNeg).toInt = (w.2.2.1 63 1).toInt := rl_4 (j := 1) h g (m.trans rfl) (by decide)
      rw [q.1, q.2, t.1, t.2] at e
      exact psP_f (c13 k m) e
    · have q : (u.2.2.1 112 x1.toNatClampNeg).toInt = (w.2.2.1 67 2).toInt ∧ (u.2.2.1 113 x1.toNatClampNeg).toInt = (w.2.2.1 67 1).toInt := rl_4 (j := 3) h g (k.trans rfl) (by decide)
      have t : (u.2.2.1 112 x3.toNatClampNeg).toInt = (w.2.2.1 65 2).toInt ∧ (u.2.2.1 113 x3.toNatClampNeg).toInt = (w.2.2.1 65 1).toInt := rl_4 (j := 2) h g (m.trans rfl) (by decide)
      rw [q.1, q.2, t.1, t.2] at e
      exact psP_f (c14 k m) e
    · have q : (u.2.2.1 112 x1.toNatClampNeg).toInt = (w.2.2.1 67 2).toInt ∧ (u.2.2.1 113 x1.toNatClampNeg).toInt = (w.2.2.1 67 1).toInt := rl_4 (j := 3) h g (k.trans rfl) (by decide)
      have t : (u.2.2.1 112 x3.toNatClampNeg).toInt = (w.2.2.1 67 2).toInt ∧ (u.2.2.1 113 x3.toNatClampNeg).toInt = (w.2.2.1 67 1).toInt := rl_4 (j := 3) h g (m.trans rfl) (by decide)
      rw [q.1, q.2, t.1, t.2] at e
      exact psP_f (c15 k m) e
