/-! what the class keeps of images and rows is what the reference keeps -/
def RLs (w : XW) : Prop := (∀ k : Nat, k < 3 → w.2.2.1 26 k = w.2.2.1 98 k) ∧ (∀ s : Nat, s < 4 → w.2.2.1 (61 + 2 * s) 2 = w.2.2.1 112 s) ∧ ∀ s : Nat, s < 4 → w.2.2.1 (61 + 2 * s) 1 = w.2.2.1 113 s
theorem kl_s {s : Nat} (hs : s < 4) : 61 + 2 * s ∈ keepL := by
  have h : s = 0 ∨ s = 1 ∨ s = 2 ∨ s = 3 := by omega
  rcases h with rfl | rfl | rfl | rfl <;> decide
theorem rl_k {w u : XW} (h : RLs w) (g : ∀ c ∈ keepL, u.2.2.1 c = w.2.2.1 c) : RLs u := by
  refine ⟨fun k hk => ?_, fun s hs => ?_, fun s hs => ?_⟩
  · rw [g 26 (by decide), g 98 (by decide)]; exact h.1 k hk
  · rw [g _ (kl_s hs), g 112 (by decide)]; exact h.2.1 s hs
  · rw [g _ (kl_s hs), g 113 (by decide)]; exact h.2.2 s hs
theorem rl_img {w u v : XW} {k r1 r2 : Int32} (h : RLs w) (h1 : (r1.toInt = -2 ∧ ¬ (0 ≤ k.toInt ∧ k.toInt ≤ 2) ∧ w = u) ∨ (r1.toInt = 0 ∧ (0 ≤ k.toInt ∧ k.toInt ≤ 2) ∧ Jv (upI w 26 k.toNatClampNeg 1) u)) (h2 : (r2.toInt = -2 ∧ ¬ (0 ≤ k.toInt ∧ k.toInt ≤ 2) ∧ u = v) ∨ (r2.toInt = 0 ∧ (0 ≤ k.toInt ∧ k.toInt ≤ 2) ∧ Jv (upI u 98 k.toNatClampNeg 1) v)) : RLs v := by
  rcases h1 with ⟨_, c1, rfl⟩ | ⟨_, c1, g1⟩
  · rcases h2 with ⟨_, c2, rfl⟩ | ⟨_, c2, g2⟩
    · exact h
    · exact absurd c2 c1
  · rcases h2 with ⟨_, c2, rfl⟩ | ⟨_, c2, g2⟩
    · exact absurd c1 c2
    · refine ⟨fun j hj => ?_, fun s hs => ?_, fun s hs => ?_⟩
      · rw [g2.2.1 26 (by decide), upI_ne (show 26 ≠ 98 by decide), g1.2.1 26 (by decide), upI_eq, g2.2.1 98 (by decide), upI_eq, g1.2.1 98 (by decide), upI_ne (show 98 ≠ 26 by decide)]
        by_cases e : j = k.toNatClampNeg
        · subst e; rw [pk_us, pk_us]
        · rw [pk_un e, pk_un e]; exact h.1 j hj
      · rw [g2.2.1 _ (kl_s hs), upI_ne (show 61 + 2 * s ≠ 98 by omega), g1.2.1 _ (kl_s hs), upI_ne (show 61 + 2 * s ≠ 26 by omega), g2.2.1 112 (by decide), upI_ne (show 112 ≠ 98 by decide), g1.2.1 112 (by decide), upI_ne (show 112 ≠ 26 by decide)]
        exact h.2.1 s hs
      · rw [g2.2.1 _ (kl_s hs), upI_ne (show 61 + 2 * s ≠ 98 by omega), g1.2.1 _ (kl_s hs), upI_ne (show 61 + 2 * s ≠ 26 by omega), g2.2.1 113 (by decide), upI_ne (show 113 ≠ 98 by decide), g1.2.1 113 (by decide), upI_ne (show 113 ≠ 26 by decide)]
        exact h.2.2 s hs
theorem rl_row {w u v : XW} {a b n r1 r2 : Int32} (h : RLs w) (h1 : (r1.toInt = -2 ∧ ¬ rwC a b n ∧ w = u) ∨ (r1.toInt = -3 ∧ rwC a b n ∧ n.toInt < 0 ∧ w = u) ∨ (r1.toInt = 0 ∧ rwC a b n ∧ 0 ≤ n.toInt ∧ Jv (upI (upI w (61 + 2 * a.toInt.toNat) 1 b) (61 + 2 * a.toInt.toNat) 2 n) u))
    (h2 : (r2.toInt = -2 ∧ ¬ rwC a b n ∧ u = v) ∨ (r2.toInt = -3 ∧ rwC a b n ∧ n.toInt < 0 ∧ u = v) ∨ (r2.toInt = 0 ∧ rwC a b n ∧ 0 ≤ n.toInt ∧ Jn (upI (upI u 112 a.toNatClampNeg n) 113 a.toNatClampNeg b) v)) : RLs v := by
  rcases h1 with ⟨_, c1, rfl⟩ | ⟨_, c1, d1, rfl⟩ | ⟨_, c1, d1, g1⟩
  · rcases h2 with ⟨_, c2, rfl⟩ | ⟨_, c2, d2, rfl⟩ | ⟨_, c2, d2, g2⟩
    · exact h
    · exact h
    · exact absurd c2 c1
  · rcases h2 with ⟨_, c2, rfl⟩ | ⟨_, c2, d2, rfl⟩ | ⟨_, c2, d2, g2⟩
    · exact h
    · exact h
    · omega
  · rcases h2 with ⟨_, c2, rfl⟩ | ⟨_, c2, d2, rfl⟩ | ⟨_, c2, d2, g2⟩
    · exact absurd c1 c2
    · omega
    · have ea : a.toNatClampNeg = a.toInt.toNat := rfl
      have ha : a.toInt.toNat < 4 := by have := c1.1; omega
      rw [ea] at g2
      refine ⟨fun j hj => ?_, fun s hs => ?_, fun s hs => ?_⟩
      · rw [g2.2 26 (by decide), upI_ne (show 26 ≠ 113 by decide), upI_ne (show 26 ≠ 112 by decide), g1.2.1 26 (by decide), upI_ne (show 26 ≠ 61 + 2 * a.toInt.toNat by omega), upI_ne (show 26 ≠ 61 + 2 * a.toInt.toNat by omega), g2.2 98 (by decide), upI_ne (show 98 ≠ 113 by decide), upI_ne (show 98 ≠ 112 by decide), g1.2.1 98 (by decide), upI_ne (show 98 ≠ 61 + 2 * a.toInt.toNat by omega), upI_ne (show 98 ≠ 61 + 2 * a.toInt.toNat by omega)]
        exact h.1 j hj
      · rw [g2.2 _ (kl_s hs), upI_ne (show 61 + 2 * s ≠ 113 by omega), upI_ne (show 61 + 2 * s ≠ 112 by omega), g1.2.1 _ (kl_s hs), g2.2 112 (by decide), upI_ne (show 112 ≠ 113 by decide), upI_eq]
        by_cases e : s = a.toInt.toNat
        · subst e; rw [pk_us, upI_at]
        · rw [pk_un e, upI_ne (show 61 + 2 * s ≠ 61 + 2 * a.toInt.toNat by omega), upI_ne (show 61 + 2 * s ≠ 61 + 2 * a.toInt.toNat by omega), g1.2.1 112 (by decide), upI_ne (show 112 ≠ 61 + 2 * a.toInt.toNat by omega), upI_ne (show 112 ≠ 61 + 2 * a.toInt.toNat by omega)]
          exact h.2.1 s hs
      · rw [g2.2 _ (kl_s hs), upI_ne (show 61 + 2 * s ≠ 113 by omega), upI_ne (show 61 + 2 * s ≠ 112 by omega), g1.2.1 _ (kl_s hs), g2.2 113 (by decide), upI_eq, upI_ne (show 113 ≠ 112 by decide)]
        by_cases e : s = a.toInt.toNat
        · subst e; rw [pk_us, upI_ot (show 1 ≠ 2 by decide), upI_at]
        · rw [pk_un e, upI_ne (show 61 + 2 * s ≠ 61 + 2 * a.toInt.toNat by omega), upI_ne (show 61 + 2 * s ≠ 61 + 2 * a.toInt.toNat by omega), g1.2.1 113 (by decide), upI_ne (show 113 ≠ 61 + 2 * a.toInt.toNat by omega), upI_ne (show 113 ≠ 61 + 2 * a.toInt.toNat by omega)]
          exact h.2.2 s hs
/-- the same answer -/
theorem bk_eq {w u : XW} {k r1 r2 : Int32} (h : RLs w) (g : ∀ c ∈ keepL, u.2.2.1 c = w.2.2.1 c) (h1 : (¬ (0 ≤ k.toInt ∧ k.toInt ≤ 2) ∧ r1.toInt = -2) ∨ ((0 ≤ k.toInt ∧ k.toInt ≤ 2) ∧ (((w.2.2.1 26 k.toNatClampNeg).toInt = 0 ∧ r1.toInt = -6) ∨ (¬ (w.2.2.1 26 k.toNatClampNeg).toInt = 0 ∧ r1.toInt = 0)))) (h2 : r2.toInt = bkA u 98 k) : r1 = r2 := by
  apply Int32.toInt_inj.mp
  rw [h2]
  unfold bkA
  by_cases c : 0 ≤ k.toInt ∧ k.toInt ≤ 2
  · have hk : k.toNatClampNeg < 3 := by
      have : k.toNatClampNeg = k.toInt.toNat := rfl
      omega
    rw [if_pos c, g 98 (by decide), ← h.1 _ hk]
    split <;> omega
  · rw [if_neg c]; omega
theorem rl_4 {w u : XW} {s : Int32} {j : Nat} (h : RLs w) (g : ∀ c ∈ keepL, u.2.2.1 c = w.2.2.1 c) (hj : s.toInt = (j : Int)) (h4 : j < 4) : (u.2.2.1 112 s.toNatClampNeg).toInt = (w.2.2.1 (61 + 2 * j) 2).toInt ∧ (u.2.2.1 113 s.toNatClampNeg).toInt = (w.2.2.1 (61 + 2 * j) 1).toInt := by
  have e : s.toNatClampNeg = j := by
    have : s.toNatClampNeg = s.toInt.toNat := rfl
    omega
  rw [e, g 112 (by decide), g 113 (by decide), h.2.1 j h4, h.2.2 j h4]
  exact ⟨rfl, rfl⟩
