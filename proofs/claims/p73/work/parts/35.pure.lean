theorem y_lrem {x y : Int64} (hy : ¬ y.toInt = 0) : (x - x / y * y).toInt.natAbs < y.toInt.natAbs := by
  have b1 := z64 x
  have b2 := z64 y
  have e : x.toInt - x.toInt.tdiv y.toInt * y.toInt = x.toInt.tmod y.toInt := by rw [Int.tmod_def, Int.mul_comm]
  rw [Int64.toInt_sub, Int64.toInt_mul, Int64.toInt_div, Int.bmod_mul_bmod, Int.sub_bmod_bmod, e]
  have h1 : (x.toInt.tmod y.toInt).natAbs = x.toInt.natAbs % y.toInt.natAbs := Int.natAbs_tmod _ _
  have h2 : x.toInt.natAbs % y.toInt.natAbs < y.toInt.natAbs := Nat.mod_lt _ (by omega)
  generalize x.toInt.tmod y.toInt = t at h1
  have h3 : t.bmod (2 ^ 64) = t := by rw [Int.bmod_def]; split <;> omega
  rw [h3]
  omega
def y_p : Nat → Int
  | 0 => 1
  | n + 1 => 10 * y_p n
theorem y_p_le : ∀ n : Nat, n ≤ 9 → 1 ≤ y_p n ∧ y_p n ≤ 1000000000 := by decide
theorem y_mul {a f : Int} {n : Nat} (h0 : 0 ≤ a) (h1 : a ≤ y_p n) (f0 : 0 ≤ f) (f1 : f ≤ 10) : 0 ≤ a * f ∧ a * f ≤ y_p (n + 1) ∧ (1 ≤ a → 1 ≤ f → 1 ≤ a * f) := by
  refine ⟨Int.mul_nonneg h0 f0, ?_, fun g1 g2 => ?_⟩
  · show a * f ≤ 10 * y_p n
    have q1 : a * f ≤ a * 10 := Int.mul_le_mul_of_nonneg_left f1 h0
    omega
  · have q1 : a * 1 ≤ a * f := Int.mul_le_mul_of_nonneg_left g2 h0
    omega
theorem y_pC {x z : Int} {n m : Nat} (h : x ≤ y_p (n + 1)) (e : n + 1 = m) (hx : z = x) : z ≤ y_p m := by subst e; subst hx; exact h
theorem y_b0 {s : Int32} {n : Nat} (h : s.toInt = 0) : ¬ bt s n = true := by
  have e : s = 0 := Int32.toInt_inj.mp (h.trans (by decide))
  rw [e, b_0]
  decide
theorem y_T8 : ∀ k : Nat, k ≤ 8 → (((2 : Int32) <<< (nI k &&& 31)).toInt = ((2 ^ (k + 1) : Nat) : Int) ∧ 2 ≤ 2 ^ (k + 1) ∧ 2 ^ (k + 1) ≤ 512 ∧ ∀ n : Nat, n ≤ k → bt (nI (2 ^ (k + 1) - 1)) n = true) := by decide +kernel
theorem y_T (y : Int32) (h0 : 0 ≤ y.toInt) (h1 : y.toInt ≤ 8) : ∃ T : Int, ((2 : Int32) <<< (y &&& 31)).toInt = T ∧ 2 ≤ T ∧ T ≤ 512 ∧ ∀ s : Int32, s.toInt = T - 1 → ∀ n : Nat, (n : Int) ≤ y.toInt → bt s n = true := by
  have e := y_asI h0
  have hk : y.toInt.toNat ≤ 8 := by omega
  have hy : (y.toInt.toNat : Int) = y.toInt := by omega
  rw [← hy]
  generalize y.toInt.toNat = k at e hk
  obtain ⟨q1, q2, q3, q4⟩ := y_T8 k hk
  refine ⟨((2 ^ (k + 1) : Nat) : Int), by rw [e]; exact q1, by omega, by omega, fun s hs n hn => ?_⟩
  have es : s = nI (2 ^ (k + 1) - 1) := Int32.toInt_inj.mp (by rw [nI_toInt (by omega)]; omega)
  rw [es]
  exact q4 n (by omega)
/-- the numbers of a row that are told for dances -/
def gdN (f : Nat → Int64) (s : Int) (n : Int) : Prop := ∀ j : Int, 0 ≤ j → j < n → j % 3 = 0 → 0 ≤ (f (60 * s + j + 1).toNat).toInt ∧ (f (60 * s + j + 1).toNat).toInt ≤ 14
theorem gdN_0 {f : Nat → Int64} {s : Int} : gdN f s 0 := fun j h1 h2 => by omega
theorem gdN_s {f : Nat → Int64} {s n m : Int} (h : gdN f s n) (hn : n % 3 = 0) (h1 : 0 ≤ (f (60 * s + n + 1).toNat).toInt ∧ (f (60 * s + n + 1).toNat).toInt ≤ 14) (hm : m = n + 3) : gdN f s m := by
  intro j q1 q2 q3
  by_cases e : j < n
  · exact h j q1 e q3
  · have ej : j = n := by omega
    rw [ej]; exact h1
theorem gdN_le {f : Nat → Int64} {s n m : Int} (h : gdN f s n) (hm : m ≤ n) : gdN f s m := fun j q1 q2 q3 => h j q1 (by omega) q3
/-- as Jv, but for the reference's rows of numbers -/
def Jn (w v : XW) : Prop := Iv v ∧ ∀ c ∈ keepL, v.2.2.1 c = w.2.2.1 c
theorem jn_of {w v : XW} (h : Jv w v) : Jn w v := ⟨h.1, h.2.1⟩
theorem jn_L {w v : XW} {c k : Nat} {x : Int64} (h : Jn w v) : Jn w (upL v c k x) := h
