/-! rows copied: a cell's entries from o on are another's -/
def yP (f g : Nat → Int32) (o n : Nat) : Nat → Int32 := fun j => if o ≤ j ∧ j < o + n then f (j - o) else g j
theorem yP_0 (f g : Nat → Int32) (o : Nat) : yP f g o 0 = g := by funext j; unfold yP; rw [if_neg (by omega)]
theorem yP_s (f g : Nat → Int32) (o n : Nat) : upd (yP f g o n) (o + n) (f n) = yP f g o (n + 1) := by
  funext j
  by_cases e : j = o + n
  · subst e; rw [pk_us]; unfold yP; rw [if_pos (by omega)]; congr 1; omega
  · rw [pk_un e]; unfold yP
    by_cases h : o ≤ j ∧ j < o + n
    · rw [if_pos h, if_pos (by omega)]
    · rw [if_neg h, if_neg (by omega)]
theorem st_self (v : XW) (c : Nat) : stI v c (v.2.2.1 c) = v := by
  obtain ⟨a, b, d, e⟩ := v
  show (a, b, va_up d c (d c), e) = (a, b, d, e)
  congr 2
  congr 1
  funext j
  by_cases h : j = c
  · subst h; simp [va_up]
  · simp [va_up, h]
theorem st_start {v : XW} {c : Nat} {f : Nat → Int32} {o n : Nat} (hn : n = 0) : v = stI v c (yP f (v.2.2.1 c) o n) := by
  rw [hn, yP_0, st_self]
theorem st_next {v : XW} {c : Nat} {f g : Nat → Int32} {o n m k : Nat} {x : Int32} (hk : k = o + n) (hx : x = f n) (hm : m = n + 1) : upI (stI v c (yP f g o n)) c k x = stI v c (yP f g o m) := by
  subst hk; subst hx; subst hm
  obtain ⟨a, b, d, e⟩ := v
  have e1 : (stI (a, b, d, e) c (yP f g o n)).2.2.1 c = yP f g o n := by simp [stI, va_up]
  unfold upI
  rw [e1, yP_s]
  show (a, b, va_up (va_up d c (yP f g o n)) c (yP f g o (n + 1)), e) = (a, b, va_up d c (yP f g o (n + 1)), e)
  rw [bx_uu]
section XC
variable {w : XW}
theorem st_at {v : XW} {c : Nat} {f : Nat → Int32} : (stI v c f).2.2.1 c = f := by simp [stI, va_up]
theorem st_ne {v : XW} {c q : Nat} {f : Nat → Int32} (h : q ≠ c) : (stI v c f).2.2.1 q = v.2.2.1 q := va_up_ne _ _ h
theorem inR_cp {c c2 : Nat} {j k : Nat} {x : Int32} (hc : c = 96 ∨ c = 97 ∨ c = 101) (hc2 : c2 = 96 ∨ c2 = 97 ∨ c2 = 101) (hj : c = 97 ∨ j < 134) (hk : c2 = 97 ∨ k < 134) (he : j % 134 = k % 134) (h : inR c j x) : inR c2 k x := by
  have e1 : ∀ c j : Nat, (c = 96 ∨ c = 97 ∨ c = 101) → (c = 97 ∨ j < 134) → rgo c j = wrg (j % 134) := by
    intro c j h1 h2
    rcases h1 with rfl | rfl | rfl
    · have : j % 134 = j := Nat.mod_eq_of_lt (by omega)
      rw [this]; rfl
    · rfl
    · have : j % 134 = j := Nat.mod_eq_of_lt (by omega)
      rw [this]; rfl
  unfold inR at h ⊢
  rw [e1 c j hc hj] at h
  rw [e1 c2 k hc2 hk, ← he]
  exact ⟨h.1, h.2.1, fun _ q => h.2.2 hc q⟩
/-- the world's entry is any number in the range of a far place: beyond the row nothing is told -/
theorem cp_st {v : XW} {c : Nat} {f : Nat → Int32} (h : Jv w v) (hc : c = 96 ∨ c = 97) (hx : ∀ k, inR c k (f k)) (hE : Ex (stI v c f)) : Jv w (stI v c f) := by
  refine ⟨⟨⟨h.1.1.1, h.1.1.2.1, h.1.1.2.2.1, fun c2 k2 => ?_, hE⟩, ?_, ?_⟩, fun q hq => ?_, h.2.2⟩
  · by_cases e1 : c2 = c
    · subst e1; rw [st_at]; exact hx k2
    · rw [st_ne e1]; exact jv_g h c2 k2
  · unfold Fz; rw [st_ne (by omega), st_ne (by omega)]; exact h.1.2.1
  · unfold Dz; rw [st_ne (by omega), st_ne (by omega)]; exact h.1.2.2
  · have e1 : q ≠ c := by
      have h1 := List.all_eq_true.mp (show keepL.all (fun q => q != 96 && q != 97) = true by decide) q hq
      simp at h1
      omega
    rw [← h.2.1 q hq]
    exact st_ne e1
theorem okL_eq {f g : Nat → Int32} {o p : Nat} (e : ∀ j, j < 134 → f (o + j) = g (p + j)) (h : okL g p) : okL f o := by
  refine ⟨fun j hj q => ?_, fun j hj q => ?_, fun j hj q => ?_⟩
  · rw [e 5 (by omega)] at q
    have e2 := e (47 + 2 * j) (by omega)
    rw [← Nat.add_assoc, ← Nat.add_assoc] at e2
    rw [e2]
    exact h.1 j hj q
  · rw [e 4 (by omega)] at q
    have e2 := e (10 + 3 * j) (by omega)
    have e3 := e (11 + 3 * j) (by omega)
    rw [← Nat.add_assoc, ← Nat.add_assoc] at e2 e3
    rw [e2, e3]
    exact h.2.1 j hj q
  · rw [e 5 (by omega)] at q
    have e2 := e (46 + 2 * j) (by omega)
    rw [← Nat.add_assoc, ← Nat.add_assoc] at e2
    rw [e2, e 0 (by omega)]
    exact h.2.2 j hj q
theorem cp_ball {v : XW} (h : Jv w v) (h0 : (v.2.2.1 95 12).toInt = 0) : Jv w (stI v 96 (yP (v.2.2.1 101) (v.2.2.1 96) 0 134)) := by
  refine cp_st h (Or.inl rfl) (fun k => ?_) ⟨?_, ?_⟩
  · unfold yP
    by_cases q : 0 ≤ k ∧ k < 0 + 134
    · rw [if_pos q]; exact inR_cp (c := 101) (j := k - 0) (by omega) (by omega) (by omega) (by omega) (by simp) (jv_g h 101 _)
    · rw [if_neg q]; exact jv_g h 96 k
  · rw [st_at]
    refine okL_eq (g := v.2.2.1 101) (p := 0) (fun j hj => ?_) (h.1.2.1 h0)
    unfold yP; rw [if_pos (by omega)]; simp
  · rw [st_ne (by decide)]; exact h.1.1.2.2.2.2.2
theorem cp_back {v : XW} (h : Jv w v) {k : Nat} (hk : k < 3) : Jv w (stI v 96 (yP (fun j => v.2.2.1 97 (134 * k + j)) (v.2.2.1 96) 0 134)) := by
  refine cp_st h (Or.inl rfl) (fun j => ?_) ⟨?_, ?_⟩
  · unfold yP
    by_cases q : 0 ≤ j ∧ j < 0 + 134
    · rw [if_pos q]; exact inR_cp (c := 97) (j := 134 * k + (j - 0)) (by omega) (by omega) (by omega) (by omega) (by omega) (jv_g h 97 _)
    · rw [if_neg q]; exact jv_g h 96 j
  · rw [st_at]
    have ho : okL (v.2.2.1 97) (134 * k) := by
      obtain ⟨h1, h2, h3, h4⟩ := h.1.1.2.2.2.2
      match k, hk with
      | 0, _ => exact h2
      | 1, _ => exact h3
      | 2, _ => exact h4
    refine okL_eq (g := v.2.2.1 97) (p := 134 * k) (fun j hj => ?_) ho
    unfold yP; rw [if_pos (by omega)]; simp
  · rw [st_ne (by decide)]; exact h.1.1.2.2.2.2.2
theorem cp_image {v : XW} (h : Jv w v) {k : Nat} (hk : k < 3) : Jv w (stI v 97 (yP (v.2.2.1 96) (v.2.2.1 97) (134 * k) 134)) := by
  have hb : ∀ o : Nat, (o = 0 ∨ o = 134 ∨ o = 268) → okL (v.2.2.1 97) o → okL (yP (v.2.2.1 96) (v.2.2.1 97) (134 * k) 134) o := by
    intro o ho g
    by_cases e : o = 134 * k
    · subst e
      refine okL_eq (g := v.2.2.1 96) (p := 0) (fun j hj => ?_) h.1.1.2.2.2.2.1
      unfold yP; rw [if_pos (by omega), show 134 * k + j - 134 * k = 0 + j by omega]
    · refine okL_eq (g := v.2.2.1 97) (p := o) (fun j hj => ?_) g
      unfold yP; rw [if_neg (by omega)]
  obtain ⟨h1, h2, h3, h4⟩ := h.1.1.2.2.2.2
  refine cp_st h (Or.inr rfl) (fun j => ?_) ⟨?_, ?_, ?_, ?_⟩
  · unfold yP
    by_cases q : 134 * k ≤ j ∧ j < 134 * k + 134
    · rw [if_pos q]; exact inR_cp (c := 96) (j := j - 134 * k) (by omega) (by omega) (by omega) (by omega) (by omega) (jv_g h 96 _)
    · rw [if_neg q]; exact jv_g h 97 j
  · rw [st_ne (by decide)]; exact h1
  · rw [st_at]; exact hb 0 (by omega) h2
  · rw [st_at]; exact hb 134 (by omega) h3
  · rw [st_at]; exact hb 268 (by omega) h4
/-- what is read begins anew -/
theorem jv_anew {v u : XW} (h : Jv w v) (k : Jw w u) (f13 : u.2.2.1 13 = v.2.2.1 13) (f24 : u.2.2.1 24 = v.2.2.1 24) (hz : ∀ j : Nat, j < 134 → u.2.2.1 101 j = 0) : Jv w u := by
  refine ⟨⟨k.1, fun _ => ?_, ?_⟩, k.2⟩
  · refine ⟨fun j hj q => ?_, fun j hj q => ?_, fun j hj q => ?_⟩
    · rw [hz (0 + 5) (by omega)] at q
      rw [show (0 : Int32).toInt = 0 by decide] at q
      omega
    · rw [hz (0 + 4) (by omega)] at q
      rw [show (0 : Int32).toInt = 0 by decide] at q
      omega
    · rw [hz (0 + 5) (by omega)] at q
      rw [show (0 : Int32).toInt = 0 by decide] at q
      omega
  · unfold Dz; rw [f13, f24]; exact h.1.2.2
end XC
theorem cl_step {v : XW} {q z : Int32} (h0 : 0 ≤ q.toInt) (h : ∀ j : Nat, (j : Int) < q.toInt → v.2.2.1 101 j = 0) (hz : z.toInt = q.toInt + 1) : ∀ j : Nat, (j : Int) < z.toInt → (upI v 101 q.toNatClampNeg 0).2.2.1 101 j = 0 := by
  intro j hj
  have e : q.toNatClampNeg = q.toInt.toNat := rfl
  by_cases q1 : j = q.toNatClampNeg
  · rw [q1, upI_at]
  · rw [upI_ot q1]; exact h j (by omega)
theorem cl_jw {w v : XW} {q : Int32} (h : Jw w v) (h0 : 0 ≤ q.toInt) (h1 : q.toInt < 134) : Jw w (upI v 101 q.toNatClampNeg 0) := by
  have e : q.toNatClampNeg = q.toInt.toNat := rfl
  have hr : ∀ k : Nat, k < 134 → (wrg k).1 ≤ 0 ∧ 0 ≤ (wrg k).2 := by decide +kernel
  have g := hr q.toNatClampNeg (by omega)
  refine jw_up h ⟨?_, ?_, fun _ _ => Or.inl (by decide)⟩ ⟨by decide, by decide⟩ (by decide)
  · show (wrg _).1 ≤ (0 : Int32).toInt
    rw [show (0 : Int32).toInt = 0 by decide]; exact g.1
  · show (0 : Int32).toInt ≤ (wrg _).2
    rw [show (0 : Int32).toInt = 0 by decide]; exact g.2
