/-! ways: the stages of the reference's loops (doors counted between rooms), as numbers alone -/
def y_far : Int := 1000000000
/-- between unlike rooms with a way there is a next room -/
def WPg (g : Nat → Nat → Int) : Prop := ∀ a b, a < 8 → b < 8 → a ≠ b → g a b < 1000000000 → ∃ c, c < 8 ∧ g a c = 1 ∧ g c b = g a b - 1
def y_B : Nat → Int
  | 0 => 1
  | m + 1 => 2 * y_B m
theorem y_B_le : ∀ m, m ≤ 8 → 1 ≤ y_B m ∧ y_B m ≤ 256 := by decide
/-- before the stage m -/
def y_St (n m : Nat) (g : Nat → Nat → Int) : Prop :=
  (∀ a b, a < 8 → b < 8 → 0 ≤ g a b ∧ g a b ≤ 1000000000) ∧ (∀ a, a < 8 → g a a = 0) ∧ (∀ a b, a < 8 → b < 8 → a ≠ b → 1 ≤ g a b) ∧
  (∀ a b, a < 8 → b < 8 → g a b < 1000000000 → g a b ≤ y_B m) ∧ (∀ a b c, a < n → b < n → c < m → g a b ≤ g a c + g c b) ∧
  (∀ a b, a < n → b < n → a ≠ b → g a b < 1000000000 → ∃ c, c < n ∧ g a c = 1 ∧ g c b = g a b - 1 ∧ (c = b ∨ c < m)) ∧
  (∀ a b, a < 8 → b < 8 → ¬ (a < n ∧ b < n) → a ≠ b → g a b = 1 ∨ g a b = 1000000000)
/-- within the stage m, i entries are done -/
def y_Mid (n m i : Nat) (G g : Nat → Nat → Int) : Prop := ∀ a b, a < 8 → b < 8 →
  ((a < n ∧ b < n ∧ a * n + b < i) → (g a b = G a b ∨ g a b = G a m + G m b) ∧ g a b ≤ G a b ∧ g a b ≤ G a m + G m b) ∧ (¬ (a < n ∧ b < n ∧ a * n + b < i) → g a b = G a b)
theorem y_done {n m : Nat} {G g : Nat → Nat → Int} (hn : n ≤ 8) (hm : m < n) (h : y_St n m G) (hM : y_Mid n m (n * n) G g) : y_St n (m + 1) g := by
  obtain ⟨h0, h1, h2, h3, hT, hP, hO⟩ := h
  have hin : ∀ a b, a < n → b < n → (g a b = G a b ∨ g a b = G a m + G m b) ∧ g a b ≤ G a b ∧ g a b ≤ G a m + G m b := fun a b ha hb => (hM a b (by omega) (by omega)).1 ⟨ha, hb, by
    have : a * n + n ≤ n * n := by rw [← Nat.succ_mul]; exact Nat.mul_le_mul_right n ha
    omega⟩
  have hout : ∀ a b, a < 8 → b < 8 → ¬ (a < n ∧ b < n) → g a b = G a b := fun a b ha hb hc => (hM a b ha hb).2 (fun z => hc ⟨z.1, z.2.1⟩)
  have hB := y_B_le m (by omega)
  have d0 : ∀ a b, a < 8 → b < 8 → 0 ≤ g a b ∧ g a b ≤ 1000000000 := by
    intro a b ha hb
    have e0 := h0 a b ha hb
    by_cases hc : a < n ∧ b < n
    · have := hin a b hc.1 hc.2
      have e1 := h0 a m ha (by omega)
      have e2 := h0 m b (by omega) hb
      omega
    · rw [hout a b ha hb hc]; exact e0
  have d1 : ∀ a, a < 8 → g a a = 0 := by
    intro a ha
    by_cases hc : a < n ∧ a < n
    · have := hin a a hc.1 hc.1
      have e0 := h1 a ha
      have e1 := h0 a m ha (by omega)
      have e2 := h0 m a (by omega) ha
      omega
    · rw [hout a a ha ha hc]; exact h1 a ha
  have d2 : ∀ a b, a < 8 → b < 8 → a ≠ b → 1 ≤ g a b := by
    intro a b ha hb hab
    by_cases hc : a < n ∧ b < n
    · have := hin a b hc.1 hc.2
      have e0 := h2 a b ha hb hab
      have e1 := h0 a m ha (by omega)
      have e2 := h0 m b (by omega) hb
      by_cases q : a = m
      · subst q
        have := h2 a b ha hb hab
        omega
      · have := h2 a m ha (by omega) q
        omega
    · rw [hout a b ha hb hc]; exact h2 a b ha hb hab
  have dT : ∀ a b c, a < n → b < n → c < m + 1 → g a b ≤ g a c + g c b := by
    intro a b c ha hb hc
    have hcn : c < n := by omega
    have ab := hin a b ha hb
    have ac := hin a c ha hcn
    have cb := hin c b hcn hb
    by_cases q : c = m
    · subst q
      have mm := h1 c (by omega)
      omega
    · have hcm : c < m := by omega
      have t1 := hT a b c ha hb hcm
      have t2 := hT m b c hm hb hcm
      have t3 := hT a m c ha hm hcm
      have p1 := h0 m c (by omega) (by omega)
      have p2 := h0 c m (by omega) (by omega)
      omega
  refine ⟨d0, d1, d2, ?_, dT, ?_, ?_⟩
  · intro a b ha hb hf
    show g a b ≤ 2 * y_B m
    by_cases hc : a < n ∧ b < n
    · have ab := hin a b hc.1 hc.2
      have e0 := h0 a b ha hb
      have e1 := h0 a m ha (by omega)
      have e2 := h0 m b (by omega) hb
      rcases ab.1 with q | q
      · have := h3 a b ha hb (by omega); omega
      · have u1 := h3 a m ha (by omega) (by omega)
        have u2 := h3 m b (by omega) hb (by omega)
        omega
    · have e := hout a b ha hb hc
      have := h3 a b ha hb (by omega)
      omega
  · intro a b ha hb hab hf
    have ab := hin a b ha hb
    by_cases q : G a b ≤ G a m + G m b
    · have e : g a b = G a b := by omega
      obtain ⟨c, hc, c1, c2, c3⟩ := hP a b ha hb hab (by omega)
      have hac : a ≠ c := fun z => by subst z; have := h1 a (by omega); omega
      have ac := hin a c ha hc
      have dac := d2 a c (by omega) (by omega) hac
      refine ⟨c, hc, by omega, ?_, by omega⟩
      rcases c3 with rfl | c3
      · have := d1 c (by omega); have := h1 c (by omega); omega
      · have cb := hin c b hc hb
        have t := hT a m c ha hm c3
        omega
    · have ham : a ≠ m := fun z => by subst z; have := h1 a (by omega); omega
      have e1 := h0 m b (by omega) (by omega)
      have e0 := h0 a b (by omega) (by omega)
      obtain ⟨c, hc, c1, c2, c3⟩ := hP a m ha hm ham (by omega)
      have hac : a ≠ c := fun z => by subst z; have := h1 a (by omega); omega
      have ac := hin a c ha hc
      have dac := d2 a c (by omega) (by omega) hac
      have cb := hin c b hc hb
      have t := dT a b c ha hb (by omega)
      exact ⟨c, hc, by omega, by omega, by omega⟩
  · intro a b ha hb hc hab
    rw [hout a b ha hb hc]
    exact hO a b ha hb hc hab
theorem y_last {n : Nat} {g : Nat → Nat → Int} (hn : n ≤ 8) (h : y_St n n g) : WPg g := by
  obtain ⟨h0, h1, h2, h3, hT, hP, hO⟩ := h
  intro a b ha hb hab hf
  by_cases hc : a < n ∧ b < n
  · obtain ⟨c, c0, c1, c2, -⟩ := hP a b hc.1 hc.2 hab hf
    exact ⟨c, by omega, c1, c2⟩
  · rcases hO a b ha hb hc hab with q | q
    · exact ⟨b, hb, q, by rw [h1 b hb]; omega⟩
    · omega
/-- doors alone -/
def y_Dr (g : Nat → Nat → Int) : Prop := (∀ a, a < 8 → g a a = 0) ∧ ∀ a b, a < 8 → b < 8 → a ≠ b → g a b = 1 ∨ g a b = 1000000000
theorem y_first {n : Nat} {g : Nat → Nat → Int} (hn : n ≤ 8) (h : y_Dr g) : y_St n 0 g := by
  obtain ⟨h1, h2⟩ := h
  refine ⟨fun a b ha hb => ?_, h1, fun a b ha hb hab => ?_, fun a b ha hb hf => ?_, fun a b c _ _ hc => absurd hc (Nat.not_lt_zero _), fun a b ha hb hab hf => ?_, fun a b ha hb _ hab => h2 a b ha hb hab⟩
  · by_cases q : a = b
    · subst q; rw [h1 a ha]; omega
    · rcases h2 a b ha hb q with e | e <;> omega
  · rcases h2 a b ha hb hab with e | e <;> omega
  · show g a b ≤ 1
    by_cases q : a = b
    · subst q; rw [h1 a ha]; omega
    · rcases h2 a b ha hb q with e | e <;> omega
  · rcases h2 a b (by omega) (by omega) hab with e | e
    · exact ⟨b, hb, e, by rw [h1 b (by omega)]; omega, Or.inl rfl⟩
    · omega
/-- a width's block of the array -/
def gw (f : Nat → Int32) (wd a b : Nat) : Int := (f (64 * wd + 8 * a + b)).toInt
theorem gw_up {f : Nat → Int32} {wd a0 b0 : Nat} {x : Int32} (wd2 a b : Nat) (ha : a < 8) (hb : b < 8) (ha0 : a0 < 8) (hb0 : b0 < 8) : gw (upd f (64 * wd + 8 * a0 + b0) x) wd2 a b = if wd2 = wd ∧ a = a0 ∧ b = b0 then x.toInt else gw f wd2 a b := by
  unfold gw
  by_cases q : wd2 = wd ∧ a = a0 ∧ b = b0
  · rw [if_pos q, q.1, q.2.1, q.2.2, pk_us]
  · rw [if_neg q, pk_un (by omega)]
theorem WPg_cong {g g2 : Nat → Nat → Int} (e : ∀ a b, a < 8 → b < 8 → g2 a b = g a b) (h : WPg g) : WPg g2 := by
  intro a b ha hb hab hf
  rw [e a b ha hb] at hf
  obtain ⟨c, c0, c1, c2⟩ := h a b ha hb hab hf
  exact ⟨c, c0, by rw [e a c ha c0]; exact c1, by rw [e c b c0 hb, e a b ha hb]; exact c2⟩
/-- the widths that are laid -/
def y_Ls (f : Nat → Int32) (n : Int) : Prop := ∀ wd : Nat, 1 ≤ wd → (wd : Int) < n → WPg (gw f wd)
theorem y_Ls_up {f : Nat → Int32} {k : Nat} {x : Int32} {n : Int} {wd0 : Nat} (h : y_Ls f n) (hn : n ≤ (wd0 : Int)) (h1 : 64 * wd0 ≤ k) : y_Ls (upd f k x) n := by
  intro wd g1 g2
  refine WPg_cong (fun a b ha hb => ?_) (h wd g1 g2)
  unfold gw
  rw [pk_un (by omega)]
/-- the first loop: entries of their first value -/
def y_In (f : Nat → Int32) (wd i : Nat) : Prop := ∀ a b, a < 8 → b < 8 → 8 * a + b < i → gw f wd a b = if a = b then 0 else 1000000000
theorem y_In_up {f : Nat → Int32} {wd i k : Nat} {x : Int32} (h : y_In f wd i) (hk : k = 64 * wd + i) (hi : i < 64) (hx : (i / 8 = i % 8 ∧ x.toInt = 0) ∨ (¬ i / 8 = i % 8 ∧ x.toInt = 1000000000)) : y_In (upd f k x) wd (i + 1) := by
  intro a b ha hb hlt
  subst hk
  have e : 64 * wd + i = 64 * wd + 8 * (i / 8) + i % 8 := by omega
  rw [e, gw_up wd a b ha hb (by omega) (by omega)]
  by_cases q : a = i / 8 ∧ b = i % 8
  · rw [if_pos ⟨rfl, q⟩]
    by_cases z : a = b
    · rw [if_pos z]; omega
    · rw [if_neg z]; omega
  · rw [if_neg (fun z => q z.2)]
    exact h a b ha hb (by omega)
theorem y_In_Dr {f : Nat → Int32} {wd : Nat} (h : y_In f wd 64) : y_Dr (gw f wd) :=
  ⟨fun a ha => by rw [h a a ha ha (by omega), if_pos rfl], fun a b ha hb hab => Or.inr (by rw [h a b ha hb (by omega), if_neg hab])⟩
theorem y_Dr_up {f : Nat → Int32} {wd a0 b0 k : Nat} {x : Int32} (h : y_Dr (gw f wd)) (ha0 : a0 < 8) (hb0 : b0 < 8) (hne : a0 ≠ b0) (hk : k = 64 * wd + 8 * a0 + b0) (hx : x.toInt = 1) : y_Dr (gw (upd f k x) wd) := by
  subst hk
  refine ⟨fun a ha => ?_, fun a b ha hb hab => ?_⟩
  · rw [gw_up wd a a ha ha ha0 hb0, if_neg (by omega)]
    exact h.1 a ha
  · rw [gw_up wd a b ha hb ha0 hb0]
    by_cases q : wd = wd ∧ a = a0 ∧ b = b0
    · rw [if_pos q]; exact Or.inl hx
    · rw [if_neg q]; exact h.2 a b ha hb hab
/-- a stage's loop -/
def y_Go (f : Nat → Int32) (wd n m i : Nat) : Prop := ∃ G, y_St n m G ∧ y_Mid n m i G (gw f wd)
theorem y_Go_0 {f : Nat → Int32} {wd n m : Nat} (h : y_St n m (gw f wd)) : y_Go f wd n m 0 :=
  ⟨_, h, fun a b ha hb => ⟨fun z => absurd z.2.2 (Nat.not_lt_zero _), fun _ => rfl⟩⟩
theorem y_Go_row {f : Nat → Int32} {wd n m i a : Nat} (hn : n ≤ 8) (hm : m < n) (h : y_Go f wd n m i) (ha : a < n) : ∃ G, y_St n m G ∧ y_Mid n m i G (gw f wd) ∧ (∀ a, a < n → gw f wd a m = G a m) ∧ (∀ b, b < n → gw f wd m b = G m b) := by
  obtain ⟨G, hS, hM⟩ := h
  have mm := hS.2.1 m (by omega)
  refine ⟨G, hS, hM, fun a ha => ?_, fun b hb => ?_⟩
  · by_cases q : a < n ∧ m < n ∧ a * n + m < i
    · have := (hM a m (by omega) (by omega)).1 q; omega
    · exact (hM a m (by omega) (by omega)).2 q
  · by_cases q : m < n ∧ b < n ∧ m * n + b < i
    · have := (hM m b (by omega) (by omega)).1 q; omega
    · exact (hM m b (by omega) (by omega)).2 q
theorem y_Go_up {f : Nat → Int32} {wd n m i a0 b0 k : Nat} {x : Int32} (hn : n ≤ 8) (hm : m < n) (h : y_Go f wd n m i) (ha : a0 < n) (hb : b0 < n) (hi : i = a0 * n + b0) (hk : k = 64 * wd + 8 * a0 + b0) (hx : (x.toInt = gw f wd a0 b0 ∨ x.toInt = gw f wd a0 m + gw f wd m b0) ∧ x.toInt ≤ gw f wd a0 b0 ∧ x.toInt ≤ gw f wd a0 m + gw f wd m b0) : y_Go (upd f k x) wd n m (i + 1) := by
  obtain ⟨G, hS, hM, hr, hc⟩ := y_Go_row hn hm h ha
  have e0 : gw f wd a0 b0 = G a0 b0 := (hM a0 b0 (by omega) (by omega)).2 (by omega)
  rw [e0, hr a0 ha, hc b0 hb] at hx
  subst hk
  refine ⟨G, hS, fun a b ha8 hb8 => ⟨fun q => ?_, fun q => ?_⟩⟩
  · rw [gw_up wd a b ha8 hb8 (by omega) (by omega)]
    by_cases z : wd = wd ∧ a = a0 ∧ b = b0
    · rw [if_pos z, z.2.1, z.2.2]; exact hx
    · rw [if_neg z]
      refine (hM a b ha8 hb8).1 ⟨q.1, q.2.1, ?_⟩
      rcases Nat.lt_or_ge (a * n + b) i with w | w
      · exact w
      · exfalso
        have e : a * n + b = a0 * n + b0 := by omega
        have ea : a = a0 := by
          rcases Nat.lt_trichotomy a a0 with t | t | t
          · have := Nat.mul_le_mul_right n t; rw [Nat.succ_mul] at this; omega
          · exact t
          · have := Nat.mul_le_mul_right n t; rw [Nat.succ_mul] at this; omega
        subst ea
        exact z ⟨rfl, rfl, by omega⟩
  · rw [gw_up wd a b ha8 hb8 (by omega) (by omega), if_neg (fun z => q ⟨by rw [z.2.1]; exact ha, by rw [z.2.2]; exact hb, by rw [z.2.1, z.2.2]; omega⟩)]
    exact (hM a b ha8 hb8).2 (fun z => q ⟨z.1, z.2.1, by omega⟩)
theorem y_Go_end {f : Nat → Int32} {wd n m : Nat} (hn : n ≤ 8) (hm : m < n) (h : y_Go f wd n m (n * n)) : y_St n (m + 1) (gw f wd) := by
  obtain ⟨G, hS, hM⟩ := h
  exact y_done hn hm hS hM
theorem y_divn {n i : Nat} (hn : n ≤ 8) (hi : i < n * n) : i / n < n ∧ i % n < n ∧ i = i / n * n + i % n := by
  have h0 : 0 < n := by
    rcases Nat.eq_zero_or_pos n with q | q
    · subst q; simp at hi
    · exact q
  refine ⟨Nat.div_lt_of_lt_mul hi, Nat.mod_lt _ h0, ?_⟩
  have := Nat.div_add_mod i n
  rw [Nat.mul_comm] at this
  exact this.symm
