section XJ
variable {p : Program} {l : Launch} {e : Env} {R : Room} {s : State} {m : MethodId} {args : Array Value} {below : List Frame} {meth : Method} {c : Code} {Q : State → Prop}
variable {D : va_G} {aC : Nat → ClassId} {b nL : Nat} {cc : ByteArray} {own : String} {ret : Option FieldType}
variable {pc : Nat} {L : List (Option AV)} {S : List AV} {w : XW} {cs sl : Nat}
def rtZ : List (Nat × Nat × Nat) := [(0, 0, 2), (0, 2, 25), (0, 3, 3), (0, 4, 14), (0, 5, 26), (0, 6, 27), (0, 7, 61), (0, 8, 70), (0, 9, 76), (0, 10, 82), (0, 11, 86), (0, 12, 90), (0, 13, 92), (0, 14, 95), (2, 5, 4), (2, 6, 6), (2, 7, 8), (2, 8, 10), (2, 9, 12), (3, 0, 5), (5, 0, 7), (7, 0, 9), (9, 0, 11), (11, 0, 13), (13, 5, 15), (13, 6, 17), (13, 7, 19), (13, 8, 21), (13, 9, 23), (14, 0, 16), (16, 0, 18), (18, 0, 20), (20, 0, 22), (22, 0, 24), (24, 0, 2), (24, 1, 14), (25, 0, 28), (25, 1, 39), (25, 2, 50), (27, 5, 29), (27, 6, 31), (27, 7, 33), (27, 8, 35), (27, 9, 37), (28, 0, 30), (30, 0, 32), (32, 0, 34), (34, 0, 36), (36, 0, 38), (38, 5, 40), (38, 6, 42), (38, 7, 44), (38, 8, 46), (38, 9, 48), (39, 0, 41), (41, 0, 43), (43, 0, 45), (45, 0, 47), (47, 0, 49), (49, 5, 51), (49, 6, 53), (49, 7, 55), (49, 8, 57), (49, 9, 59), (50, 0, 52), (52, 0, 54), (54, 0, 56), (56, 0, 58), (58, 0, 60), (60, 0, 62), (60, 1, 64), (60, 2, 66), (60, 3, 68), (61, 0, 63), (63, 0, 65), (65, 0, 67), (67, 0, 69), (69, 0, 71), (69, 1, 72), (69, 2, 73), (69, 3, 74), (69, 4, 75), (75, 0, 77), (75, 1, 78), (75, 2, 79), (75, 3, 80), (75, 4, 81), (81, 0, 83), (81, 1, 84), (81, 2, 85), (85, 0, 87), (85, 1, 88), (85, 2, 89), (89, 0, 91), (95, 1, 97), (95, 2, 98), (95, 3, 99), (95, 4, 100), (95, 6, 101), (95, 14, 102), (95, 15, 103), (95, 18, 104), (95, 19, 105), (95, 20, 106), (95, 26, 107), (95, 27, 108), (95, 28, 109), (95, 29, 110), (95, 30, 111), (95, 31, 112), (95, 36, 113), (95, 37, 114), (95, 38, 115), (95, 39, 116)]
def rgf : List (Nat × Nat × Int × Int) := [(0, 1, 0, 1000), (2, 1, 0, 8), (2, 2, 0, 14), (3, 1, 12, 12), (3, 2, 3, 3), (3, 3, 0, 12), (5, 1, 6, 6), (5, 2, 2, 2), (5, 3, 0, 6), (7, 1, 8, 8), (7, 2, 2, 2), (7, 3, 0, 8), (9, 1, 10, 10), (9, 2, 3, 3), (9, 3, 0, 10), (11, 1, 30, 30), (11, 2, 4, 4), (11, 3, 0, 30), (14, 1, 12, 12), (14, 2, 3, 3), (14, 3, 0, 12), (16, 1, 6, 6), (16, 2, 2, 2), (16, 3, 0, 6), (18, 1, 8, 8), (18, 2, 2, 2), (18, 3, 0, 8), (20, 1, 10, 10), (20, 2, 3, 3), (20, 3, 0, 10), (22, 1, 30, 30), (22, 2, 4, 4), (22, 3, 0, 30), (24, 2, 0, 1000), (24, 3, 0, 4), (24, 6, 0, 3), (27, 1, 0, 8), (27, 2, 0, 14), (28, 1, 12, 12), (28, 2, 3, 3), (28, 3, 0, 12), (30, 1, 6, 6), (30, 2, 2, 2), (30, 3, 0, 6), (32, 1, 8, 8), (32, 2, 2, 2), (32, 3, 0, 8), (34, 1, 10, 10), (34, 2, 3, 3), (34, 3, 0, 10), (36, 1, 30, 30), (36, 2, 4, 4), (36, 3, 0, 30), (38, 1, 0, 8), (38, 2, 0, 14), (39, 1, 12, 12), (39, 2, 3, 3), (39, 3, 0, 12), (41, 1, 6, 6), (41, 2, 2, 2), (41, 3, 0, 6), (43, 1, 8, 8), (43, 2, 2, 2), (43, 3, 0, 8), (45, 1, 10, 10), (45, 2, 3, 3), (45, 3, 0, 10), (47, 1, 30, 30), (47, 2, 4, 4), (47, 3, 0, 30), (49, 1, 0, 8), (49, 2, 0, 14), (50, 1, 12, 12), (50, 2, 3, 3), (50, 3, 0, 12), (52, 1, 6, 6), (52, 2, 2, 2), (52, 3, 0, 6), (54, 1, 8, 8), (54, 2, 2, 2), (54, 3, 0, 8), (56, 1, 10, 10), (56, 2, 3, 3), (56, 3, 0, 10), (58, 1, 30, 30), (58, 2, 4, 4), (58, 3, 0, 30), (61, 1, 0, 3), (61, 2, (-1), 60), (63, 1, 0, 3), (63, 2, (-1), 60), (65, 1, 0, 3), (65, 2, (-1), 60), (67, 1, 0, 3), (67, 2, (-1), 60), (69, 5, 0, 6), (69, 6, 0, 8), (69, 7, 0, 14), (75, 5, 0, 6), (75, 6, 0, 8), (75, 7, 0, 14), (81, 3, 0, 6), (81, 4, 0, 14), (85, 5, 0, 14), (85, 6, 0, 1), (85, 7, 0, 1), (89, 1, 0, 6), (95, 5, 0, 1000), (95, 7, 0, 1000), (95, 8, 0, 1000), (95, 9, 0, 1000), (95, 10, 0, 4), (95, 11, 0, 99999), (95, 12, 0, 3)]
def rga : List (Nat × Int × Int) := [(1, (-128), 127), (26, 0, 1), (98, 0, 1), (99, (-128), 127), (102, 0, 1000000000), (103, 0, 7), (104, 0, 5), (107, (-1), 14), (108, (-1), 5), (109, 0, 1), (110, 0, 7), (111, (-1), 14), (112, (-1), 60), (113, 0, 3)]
def wrg (k : Nat) : Int × Int :=
  if k < 10 then (0, (#[8, 14, 3, 10, 12, 6, 8, 10, 30, 2147483647] : Array Int).getD k 0)
  else if k < 46 then (0, if (k - 10) % 3 = 2 then 9 else 7)
  else if k < 58 then (0, if (k - 46) % 2 = 1 then 9 else 7)
  else if k < 74 then (0, if (k - 58) % 2 = 1 then 20 else 5)
  else if k < 104 then (0, if (k - 74) % 3 = 0 then 5 else if (k - 74) % 3 = 1 then 7 else 13)
  else (0, 100075)
def rgo (c k : Nat) : Int × Int :=
  if (c == 96 || c == 101) = true then wrg k else if (c == 97) = true then wrg (k % 134) else
  match rga.find? (fun q => q.1 == c) with
  | some q => q.2
  | none => match rgf.find? (fun q => q.1 == c && q.2.1 == k) with
    | some q => q.2.2
    | none => (-2147483648, 2147483647)
/-- an act as it is written -/
def okA (x : Int) : Prop := (x < 100000 ∧ x / 100 % 10 ≤ 7) ∨ (100000 ≤ x ∧ x % 10 ≤ 5)
def inR (c k : Nat) (x : Int32) : Prop := (rgo c k).1 ≤ x.toInt ∧ x.toInt ≤ (rgo c k).2 ∧ ((c = 96 ∨ c = 97 ∨ c = 101) → 104 ≤ k % 134 → okA x.toInt)
def Mz0 (w : XW) : Prop := w.2.1 91 0 = 93 ∧ w.2.1 91 1 = 94
def Mz1 (w : XW) : Prop := w.2.1 91 0 = 94 ∧ w.2.1 91 1 = 93
/-- the ladies who are told have a width; the doors are between unlike rooms -/
def okL (f : Nat → Int32) (o : Nat) : Prop := (∀ j : Nat, j < 6 → (j : Int) < (f (o + 5)).toInt → 1 ≤ (f (o + 47 + 2 * j)).toInt) ∧ (∀ j : Nat, j < 12 → (j : Int) < (f (o + 4)).toInt → ¬ (f (o + 10 + 3 * j)).toInt = (f (o + 11 + 3 * j)).toInt) ∧ ∀ j : Nat, j < 6 → (j : Int) < (f (o + 5)).toInt → (f (o + 46 + 2 * j)).toInt < (f (o + 0)).toInt
def Ex (w : XW) : Prop := okL (w.2.2.1 96) 0 ∧ okL (w.2.2.1 97) 0 ∧ okL (w.2.2.1 97) 134 ∧ okL (w.2.2.1 97) 268
/-- what is read without a fault: the reference's, the class's -/
def Fz (w : XW) : Prop := (w.2.2.1 95 12).toInt = 0 → okL (w.2.2.1 101) 0
def Dz (w : XW) : Prop := (w.2.2.1 24 6).toInt = 0 → (0 ≤ (w.2.2.1 13 1).toInt ∧ (w.2.2.1 13 1).toInt ≤ 8) ∧ 0 ≤ (w.2.2.1 13 2).toInt ∧ (w.2.2.1 13 2).toInt ≤ 14
def keepL : List Nat := [26, 61, 63, 65, 67, 98, 112, 113]
def Iw (w : XW) : Prop := w.1 = 116 ∧ (∀ q ∈ rtZ, w.2.1 q.1 q.2.1 = q.2.2) ∧ (Mz0 w ∨ Mz1 w) ∧ (∀ c k, inR c k (w.2.2.1 c k)) ∧ Ex w
def Iv (w : XW) : Prop := Iw w ∧ Fz w ∧ Dz w
def Kp (w v : XW) : Prop := (∀ c ∈ keepL, v.2.2.1 c = w.2.2.1 c) ∧ v.2.2.2 114 = w.2.2.2 114
def Jv (w v : XW) : Prop := Iv v ∧ Kp w v
def Jw (w v : XW) : Prop := Iw v ∧ Kp w v
theorem jv_w {v : XW} (h : Jv w v) : Jw w v := ⟨h.1.1, h.2⟩
theorem jv_rfl (h : Iv w) : Jv w w := ⟨h, fun _ _ => rfl, rfl⟩
theorem jv_trans {v u : XW} (h : Jv w v) (g : Jv v u) : Jv w u := ⟨g.1, fun c hc => (g.2.1 c hc).trans (h.2.1 c hc), g.2.2.trans h.2.2⟩
theorem jw_lt {v : XW} (h : Jw w v) {q : Nat} (hq : q < 116) : q < v.1 := by rw [h.1.1]; exact hq
theorem jw_r {v : XW} (h : Jw w v) {c k r : Nat} (hm : (c, k, r) ∈ rtZ) : v.2.1 c k = r := h.1.2.1 _ hm
theorem jw_g {v : XW} (h : Jw w v) (c k : Nat) : inR c k (v.2.2.1 c k) := h.1.2.2.2.1 c k
theorem jv_lt {v : XW} (h : Jv w v) {q : Nat} (hq : q < 116) : q < v.1 := jw_lt (jv_w h) hq
theorem jv_r {v : XW} (h : Jv w v) {c k r : Nat} (hm : (c, k, r) ∈ rtZ) : v.2.1 c k = r := jw_r (jv_w h) hm
theorem jv_mz {v : XW} (h : Jv w v) : Mz0 v ∨ Mz1 v := h.1.1.2.2.1
theorem jv_g {v : XW} (h : Jv w v) (c k : Nat) : inR c k (v.2.2.1 c k) := jw_g (jv_w h) c k
theorem upI_ne {v : XW} {c k q : Nat} {x : Int32} (h : q ≠ c) : (upI v c k x).2.2.1 q = v.2.2.1 q := va_up_ne _ _ h
theorem upI_eq {v : XW} {c k : Nat} {x : Int32} : (upI v c k x).2.2.1 c = upd (v.2.2.1 c) k x := by simp [upI, va_up]
theorem upI_at {v : XW} {c k : Nat} {x : Int32} : (upI v c k x).2.2.1 c k = x := by rw [upI_eq]; exact pk_us
theorem upI_ot {v : XW} {c k j : Nat} {x : Int32} (h : j ≠ k) : (upI v c k x).2.2.1 c j = v.2.2.1 c j := by rw [upI_eq]; exact pk_un h
theorem upI_in {v : XW} {c k : Nat} {x : Int32} (h : ∀ c k, inR c k (v.2.2.1 c k)) (hx : inR c k x) : ∀ c2 k2, inR c2 k2 ((upI v c k x).2.2.1 c2 k2) := by
  intro c2 k2
  by_cases e1 : c2 = c
  · subst e1
    by_cases e2 : k2 = k
    · subst e2; rw [upI_at]; exact hx
    · rw [upI_ot e2]; exact h c2 k2
  · rw [upI_ne e1]; exact h c2 k2
theorem okL_up {f : Nat → Int32} {o k : Nat} {x : Int32} (h : okL f o) (h0 : k ≠ o + 0) (h4 : k ≠ o + 4) (h5 : k ≠ o + 5) (ho : ∀ j, j < 6 → k ≠ o + 47 + 2 * j ∧ k ≠ o + 46 + 2 * j) (hd : ∀ j, j < 12 → k ≠ o + 10 + 3 * j ∧ k ≠ o + 11 + 3 * j) : okL (upd f k x) o := by
  refine ⟨fun j hj h1 => ?_, fun j hj h1 => ?_, fun j hj h1 => ?_⟩
  · rw [pk_un (Ne.symm h5)] at h1
    rw [pk_un (Ne.symm (ho j hj).1)]
    exact h.1 j hj h1
  · rw [pk_un (Ne.symm h4)] at h1
    rw [pk_un (Ne.symm (hd j hj).1), pk_un (Ne.symm (hd j hj).2)]
    exact h.2.1 j hj h1
  · rw [pk_un (Ne.symm h5)] at h1
    rw [pk_un (Ne.symm (ho j hj).2), pk_un (Ne.symm h0)]
    exact h.2.2 j hj h1
/-- a store into a cell of which no more is known than ranges -/
def exC : List Nat := [95, 96, 97, 101, 13, 24]
theorem jw_up {v : XW} {c k : Nat} {x : Int32} (h : Jw w v) (hx : inR c k x) (hc : c ≠ 96 ∧ c ≠ 97) (hk : keepL.all (fun q => q != c) = true) : Jw w (upI v c k x) := by
  refine ⟨⟨h.1.1, h.1.2.1, h.1.2.2.1, upI_in h.1.2.2.2.1 hx, ?_⟩, fun q hq => ?_, h.2.2⟩
  · unfold Ex
    rw [upI_ne (Ne.symm hc.1), upI_ne (Ne.symm hc.2)]
    exact h.1.2.2.2.2
  · have e1 : q ≠ c := by have := List.all_eq_true.mp hk q hq; simpa using this
    rw [← h.2.1 q hq]
    exact upI_ne e1
theorem jv_up {v : XW} {c k : Nat} {x : Int32} (h : Jv w v) (hx : inR c k x) (hc : exC.all (fun q => q != c) = true) (hk : keepL.all (fun q => q != c) = true) : Jv w (upI v c k x) := by
  have n1 : 95 ≠ c := by have := List.all_eq_true.mp hc 95 (by decide); simpa using this
  have n2 : 96 ≠ c := by have := List.all_eq_true.mp hc 96 (by decide); simpa using this
  have n3 : 97 ≠ c := by have := List.all_eq_true.mp hc 97 (by decide); simpa using this
  have n4 : 101 ≠ c := by have := List.all_eq_true.mp hc 101 (by decide); simpa using this
  have n5 : 13 ≠ c := by have := List.all_eq_true.mp hc 13 (by decide); simpa using this
  have n6 : 24 ≠ c := by have := List.all_eq_true.mp hc 24 (by decide); simpa using this
  have hw := jw_up (k := k) (x := x) (jv_w h) hx ⟨Ne.symm n2, Ne.symm n3⟩ hk
  refine ⟨⟨hw.1, ?_, ?_⟩, hw.2⟩
  · unfold Fz
    rw [upI_ne n1, upI_ne n4]
    exact h.1.2.1
  · unfold Dz
    rw [upI_ne n6, upI_ne n5]
    exact h.1.2.2
/-- a field of the reference, but for the fault's kind -/
theorem jv_up95 {v : XW} {k : Nat} {x : Int32} (h : Jv w v) (hx : inR 95 k x) (hk : k ≠ 12) : Jv w (upI v 95 k x) := by
  have hw := jw_up (jv_w h) hx ⟨by decide, by decide⟩ (by decide)
  refine ⟨⟨hw.1, ?_, ?_⟩, hw.2⟩
  · unfold Fz
    rw [upI_ot (Ne.symm hk), upI_ne (by decide)]
    exact h.1.2.1
  · unfold Dz
    rw [upI_ne (by decide), upI_ne (by decide)]
    exact h.1.2.2
theorem jv_f_95_12 {v : XW} {x : Int32} (h : Jv w v) (h1 : 1 ≤ x.toInt) (h2 : x.toInt ≤ 3) : Jv w (upI v 95 12 x) := by
  have hw := jw_up (c := 95) (k := 12) (x := x) (jv_w h) ⟨by rw [show rgo 95 12 = (0, 3) by decide +kernel]; show (0 : Int) ≤ _; omega, by rw [show rgo 95 12 = (0, 3) by decide +kernel]; exact h2, by omega⟩ ⟨by decide, by decide⟩ (by decide)
  refine ⟨⟨hw.1, ?_, ?_⟩, hw.2⟩
  · unfold Fz
    rw [upI_at]
    intro h0
    omega
  · unfold Dz
    rw [upI_ne (by decide), upI_ne (by decide)]
    exact h.1.2.2
/-- fields of the draft and of the reader -/
theorem jv_up13 {v : XW} {k : Nat} {x : Int32} (h : Jv w v) (hx : inR 13 k x) (hk : k ≠ 1 ∧ k ≠ 2) : Jv w (upI v 13 k x) := by
  have hw := jw_up (jv_w h) hx ⟨by decide, by decide⟩ (by decide)
  refine ⟨⟨hw.1, ?_, ?_⟩, hw.2⟩
  · unfold Fz
    rw [upI_ne (by decide), upI_ne (by decide)]
    exact h.1.2.1
  · unfold Dz
    rw [upI_ne (by decide), upI_ot (Ne.symm hk.1), upI_ot (Ne.symm hk.2)]
    exact h.1.2.2
theorem in13 {k : Nat} {x : Int32} (hk : k = 0 ∨ k = 1 ∨ k = 2 ∨ k = 3 ∨ k = 4) : inR 13 k x := by
  have e : rgo 13 k = (-2147483648, 2147483647) := by rcases hk with rfl | rfl | rfl | rfl | rfl <;> decide +kernel
  unfold inR
  rw [e]
  exact ⟨(z32 x).1, (z32 x).2, by omega⟩
theorem jv_f_13_1 {v : XW} {x : Int32} (h : Jv w v) (hx : (v.2.2.1 24 6).toInt = 0 → 0 ≤ x.toInt ∧ x.toInt ≤ 8) : Jv w (upI v 13 1 x) := by
  have hw := jw_up (c := 13) (k := 1) (x := x) (jv_w h) (in13 (by omega)) ⟨by decide, by decide⟩ (by decide)
  refine ⟨⟨hw.1, ?_, ?_⟩, hw.2⟩
  · unfold Fz
    rw [upI_ne (by decide), upI_ne (by decide)]
    exact h.1.2.1
  · unfold Dz
    rw [upI_ne (by decide), upI_at, upI_ot (by decide)]
    exact fun h0 => ⟨hx h0, (h.1.2.2 h0).2⟩
theorem jv_f_13_2 {v : XW} {x : Int32} (h : Jv w v) (hx : (v.2.2.1 24 6).toInt = 0 → 0 ≤ x.toInt ∧ x.toInt ≤ 14) : Jv w (upI v 13 2 x) := by
  have hw := jw_up (c := 13) (k := 2) (x := x) (jv_w h) (in13 (by omega)) ⟨by decide, by decide⟩ (by decide)
  refine ⟨⟨hw.1, ?_, ?_⟩, hw.2⟩
  · unfold Fz
    rw [upI_ne (by decide), upI_ne (by decide)]
    exact h.1.2.1
  · unfold Dz
    rw [upI_ne (by decide), upI_at, upI_ot (by decide)]
    exact fun h0 => ⟨(h.1.2.2 h0).1, hx h0⟩
theorem jv_up24 {v : XW} {k : Nat} {x : Int32} (h : Jv w v) (hx : inR 24 k x) (hk : k ≠ 6) : Jv w (upI v 24 k x) := by
  have hw := jw_up (jv_w h) hx ⟨by decide, by decide⟩ (by decide)
  refine ⟨⟨hw.1, ?_, ?_⟩, hw.2⟩
  · unfold Fz
    rw [upI_ne (by decide), upI_ne (by decide)]
    exact h.1.2.1
  · unfold Dz
    rw [upI_ot (Ne.symm hk), upI_ne (by decide)]
    exact h.1.2.2
theorem jv_f_24_6 {v : XW} {x : Int32} (h : Jv w v) (h1 : 0 ≤ x.toInt) (h2 : x.toInt ≤ 3) (hx : x.toInt = 0 → (0 ≤ (v.2.2.1 13 1).toInt ∧ (v.2.2.1 13 1).toInt ≤ 8) ∧ 0 ≤ (v.2.2.1 13 2).toInt ∧ (v.2.2.1 13 2).toInt ≤ 14) : Jv w (upI v 24 6 x) := by
  have hw := jw_up (c := 24) (k := 6) (x := x) (jv_w h) ⟨by rw [show rgo 24 6 = (0, 3) by decide +kernel]; exact h1, by rw [show rgo 24 6 = (0, 3) by decide +kernel]; exact h2, by omega⟩ ⟨by decide, by decide⟩ (by decide)
  refine ⟨⟨hw.1, ?_, ?_⟩, hw.2⟩
  · unfold Fz
    rw [upI_ne (by decide), upI_ne (by decide)]
    exact h.1.2.1
  · unfold Dz
    rw [upI_at, upI_ne (by decide)]
    exact hx
/-- a store into the reference's world, away from the ladies -/
theorem jv_a_96 {v : XW} {i x : Int32} (h : Jv w v) (a z : Int) (k0 k1 st : Nat) (u : Int) (hd : ((List.range (k1 + 1)).all (fun k => !(decide (k0 ≤ k)) || !(decide ((k - k0) % st = 0)) || (decide ((wrg k).1 ≤ a) && decide (z ≤ (wrg k).2) && decide (k ≠ 0 ∧ k ≠ 4 ∧ k ≠ 5) && !(decide (46 ≤ k ∧ k ≤ 57)) && !(decide (10 ≤ k ∧ k < 46 ∧ (k - 10) % 3 ≠ 2))))) = true) (hb : k1 < 134) (hi : i.toInt = u) (g0 : (k0 : Int) ≤ u) (g1 : u ≤ (k1 : Int)) (g2 : (u - (k0 : Int)) % (st : Int) = 0) (h1 : a ≤ x.toInt) (h2 : x.toInt ≤ z) (h3 : 104 ≤ u → okA x.toInt) : Jv w (upI v 96 i.toNatClampNeg x) := by
  have en : i.toNatClampNeg = u.toNat := by rw [← hi]; rfl
  generalize i.toNatClampNeg = k at en
  have hk := List.all_eq_true.mp hd k (List.mem_range.mpr (by omega))
  have m1 : (k - k0) % st = 0 := by
    have e : ((k - k0 : Nat) : Int) = u - (k0 : Int) := by omega
    have : (((k - k0) % st : Nat) : Int) = 0 := by rw [Int.natCast_emod, e]; exact g2
    omega
  simp only [show decide (k0 ≤ k) = true from decide_eq_true (by omega), m1, decide_true, Bool.not_true, Bool.false_or, Bool.and_eq_true, decide_eq_true_eq, Bool.not_eq_true', decide_eq_false_iff_not] at hk
  obtain ⟨⟨⟨⟨q1, q2⟩, q3⟩, q4⟩, q5⟩ := hk
  have hx : inR 96 k x := ⟨(show (wrg k).1 ≤ x.toInt by omega), (show x.toInt ≤ (wrg k).2 by omega), fun _ hq => h3 (by rw [Nat.mod_eq_of_lt (by omega)] at hq; omega)⟩
  have ho : okL ((upI v 96 k x).2.2.1 96) 0 := by rw [upI_eq]; exact okL_up h.1.1.2.2.2.2.1 (by omega) (by omega) (by omega) (fun j hj => by omega) (fun j hj => by omega)
  refine ⟨⟨⟨h.1.1.1, h.1.1.2.1, h.1.1.2.2.1, upI_in h.1.1.2.2.2.1 hx, ho, ?_⟩, ?_, ?_⟩, fun q hq => ?_, h.2.2⟩
  · rw [upI_ne (by decide)]; exact h.1.1.2.2.2.2.2
  · unfold Fz; rw [upI_ne (by decide), upI_ne (by decide)]; exact h.1.2.1
  · unfold Dz; rw [upI_ne (by decide), upI_ne (by decide)]; exact h.1.2.2
  · have e1 : q ≠ 96 := by have := List.all_eq_true.mp (show keepL.all (fun q => q != 96) = true by decide) q hq; simpa using this
    rw [← h.2.1 q hq]; exact upI_ne e1
/-- a store into what is read, away from the ladies -/
theorem jv_a_101 {v : XW} {i x : Int32} (h : Jv w v) (a z : Int) (k0 k1 st : Nat) (u : Int) (hd : ((List.range (k1 + 1)).all (fun k => !(decide (k0 ≤ k)) || !(decide ((k - k0) % st = 0)) || (decide ((wrg k).1 ≤ a) && decide (z ≤ (wrg k).2) && decide (k ≠ 0 ∧ k ≠ 4 ∧ k ≠ 5) && !(decide (46 ≤ k ∧ k ≤ 57)) && !(decide (10 ≤ k ∧ k < 46 ∧ (k - 10) % 3 ≠ 2))))) = true) (hb : k1 < 104) (hi : i.toInt = u) (g0 : (k0 : Int) ≤ u) (g1 : u ≤ (k1 : Int)) (g2 : (u - (k0 : Int)) % (st : Int) = 0) (h1 : a ≤ x.toInt) (h2 : x.toInt ≤ z) : Jv w (upI v 101 i.toNatClampNeg x) := by
  have en : i.toNatClampNeg = u.toNat := by rw [← hi]; rfl
  generalize i.toNatClampNeg = k at en
  have hk := List.all_eq_true.mp hd k (List.mem_range.mpr (by omega))
  have m1 : (k - k0) % st = 0 := by
    have e : ((k - k0 : Nat) : Int) = u - (k0 : Int) := by omega
    have : (((k - k0) % st : Nat) : Int) = 0 := by rw [Int.natCast_emod, e]; exact g2
    omega
  simp only [show decide (k0 ≤ k) = true from decide_eq_true (by omega), m1, decide_true, Bool.not_true, Bool.false_or, Bool.and_eq_true, decide_eq_true_eq, Bool.not_eq_true', decide_eq_false_iff_not] at hk
  obtain ⟨⟨⟨⟨q1, q2⟩, q3⟩, q4⟩, q5⟩ := hk
  have hx : inR 101 k x := ⟨(show (wrg k).1 ≤ x.toInt by omega), (show x.toInt ≤ (wrg k).2 by omega), fun _ hq => by rw [Nat.mod_eq_of_lt (by omega)] at hq; omega⟩
  have hw := jw_up (k := k) (jv_w h) hx ⟨by decide, by decide⟩ (by decide)
  refine ⟨⟨hw.1, ?_, ?_⟩, hw.2⟩
  · unfold Fz
    rw [upI_ne (by decide), upI_eq]
    exact fun h0 => okL_up (h.1.2.1 h0) (by omega) (by omega) (by omega) (fun j hj => by omega) (fun j hj => by omega)
  · unfold Dz; rw [upI_ne (by decide), upI_ne (by decide)]; exact h.1.2.2
/-- reading the reference's world, what is read, its images, by places -/
theorem rs_w {v : XW} {cl : Nat} (h : Jv w v) (hcl : cl = 96 ∨ cl = 101) (a z : Int) (k0 k1 st : Nat) (i : Int32) (u : Int) (hd : ((List.range (k1 + 1)).all (fun k => !(decide (k0 ≤ k)) || !(decide ((k - k0) % st = 0)) || (decide (a ≤ (wrg k).1) && decide ((wrg k).2 ≤ z)))) = true) (hi : i.toInt = u) (g0 : (k0 : Int) ≤ u) (g1 : u ≤ (k1 : Int)) (g2 : (u - (k0 : Int)) % (st : Int) = 0) : a ≤ (v.2.2.1 cl i.toNatClampNeg).toInt ∧ (v.2.2.1 cl i.toNatClampNeg).toInt ≤ z ∧ (104 ≤ u → u < 134 → okA (v.2.2.1 cl i.toNatClampNeg).toInt) := by
  have en : i.toNatClampNeg = u.toNat := by rw [← hi]; rfl
  generalize i.toNatClampNeg = k at en
  have hk := List.all_eq_true.mp hd k (List.mem_range.mpr (by omega))
  have m1 : (k - k0) % st = 0 := by
    have e : ((k - k0 : Nat) : Int) = u - (k0 : Int) := by omega
    have : (((k - k0) % st : Nat) : Int) = 0 := by rw [Int.natCast_emod, e]; exact g2
    omega
  simp only [show decide (k0 ≤ k) = true from decide_eq_true (by omega), m1, decide_true, Bool.not_true, Bool.false_or, Bool.and_eq_true, decide_eq_true_eq] at hk
  have g := jv_g h cl k
  have er : rgo cl k = wrg k := by rcases hcl with rfl | rfl <;> rfl
  rw [inR, er] at g
  exact ⟨by omega, by omega, fun q1 q2 => g.2.2 (by omega) (by rw [Nat.mod_eq_of_lt (by omega)]; omega)⟩
theorem jv_st {v : XW} {c : Nat} {f : Nat → Int32} (h : Jv w v) (hx : ∀ k, inR c k (f k)) (hc : exC.all (fun q => q != c) = true) (hk : keepL.all (fun q => q != c) = true) : Jv w (stI v c f) := by
  have n1 : 95 ≠ c := by have := List.all_eq_true.mp hc 95 (by decide); simpa using this
  have n2 : 96 ≠ c := by have := List.all_eq_true.mp hc 96 (by decide); simpa using this
  have n3 : 97 ≠ c := by have := List.all_eq_true.mp hc 97 (by decide); simpa using this
  have n4 : 101 ≠ c := by have := List.all_eq_true.mp hc 101 (by decide); simpa using this
  have n5 : 13 ≠ c := by have := List.all_eq_true.mp hc 13 (by decide); simpa using this
  have n6 : 24 ≠ c := by have := List.all_eq_true.mp hc 24 (by decide); simpa using this
  have ne : ∀ q, q ≠ c → (stI v c f).2.2.1 q = v.2.2.1 q := fun q hq => va_up_ne _ _ hq
  refine ⟨⟨⟨h.1.1.1, h.1.1.2.1, h.1.1.2.2.1, fun c2 k2 => ?_, ?_⟩, ?_, ?_⟩, fun q hq => ?_, h.2.2⟩
  · by_cases e1 : c2 = c
    · subst e1
      have : (stI v c2 f).2.2.1 c2 = f := by simp [stI, va_up]
      rw [this]; exact hx k2
    · rw [ne c2 e1]; exact jv_g h c2 k2
  · unfold Ex; rw [ne 96 n2, ne 97 n3]; exact h.1.1.2.2.2.2
  · unfold Fz; rw [ne 95 n1, ne 101 n4]; exact h.1.2.1
  · unfold Dz; rw [ne 24 n6, ne 13 n5]; exact h.1.2.2
  · have e1 : q ≠ c := by have := List.all_eq_true.mp hk q hq; simpa using this
    rw [← h.2.1 q hq]
    exact ne q e1
theorem jv_L {v : XW} {c k : Nat} {x : Int64} (h : Jv w v) (hc : 114 ≠ c) : Jv w (upL v c k x) := ⟨h.1, h.2.1, (va_up_ne _ _ hc).trans h.2.2⟩
theorem jv_SL {v : XW} {c : Nat} {f : Nat → Int64} (h : Jv w v) (hc : 114 ≠ c) : Jv w (stL v c f) := ⟨h.1, h.2.1, (va_up_ne _ _ hc).trans h.2.2⟩
theorem nar_byte (x : Int32) : -128 ≤ (vp_nar .byte x).toInt ∧ (vp_nar .byte x).toInt ≤ 127 := by
  have e : vp_nar .byte x = x.toInt8.toInt32 := rfl
  rw [e, Int8.toInt_toInt32]
  have h1 := Int8.le_toInt x.toInt8
  have h2 := Int8.toInt_lt x.toInt8
  omega
theorem nar_bool {x : Int32} (h : x = 0 ∨ x = 1) : 0 ≤ (vp_nar .boolean x).toInt ∧ (vp_nar .boolean x).toInt ≤ 1 := by
  rcases h with rfl | rfl <;> decide
theorem z_pt {x y : Int32} {n : Int} (hy : y.toInt = n) (h : n ≤ x.toInt ∧ x.toInt ≤ n) : x = y := Int32.toInt_inj.mp (by omega)
theorem z_ne {x : Int32} {u : Int} (hx : x.toInt = u) (h : ¬ u = 0) : ¬ x = 0 := fun e => h (by rw [← hx, e]; rfl)
theorem z_neL {x : Int64} {u : Int} (hx : x.toInt = u) (h : ¬ u = 0) : ¬ x = 0 := fun e => h (by rw [← hx, e]; rfl)
theorem z_bool {x : Int32} (h1 : 0 ≤ x.toInt) (h2 : x.toInt ≤ 1) : x = 0 ∨ x = 1 := by
  rcases (show x.toInt = 0 ∨ x.toInt = 1 by omega) with h | h
  · exact Or.inl (Int32.toInt_inj.mp (h.trans (by decide)))
  · exact Or.inr (Int32.toInt_inj.mp (h.trans (by decide)))
theorem keep_ne {v : XW} {c k : Nat} {i x : Int32} {u : Int} (hi : i.toInt = u) (h0 : 0 ≤ u) (h : ¬ u = (k : Int)) : ((upI v c i.toNatClampNeg x).2.2.1 c k).toInt = (v.2.2.1 c k).toInt := by
  have hne : ¬ k = i.toNatClampNeg := fun e => by
    have : i.toNatClampNeg = i.toInt.toNat := rfl
    rw [this] at e
    omega
  rw [upI_ot hne]
theorem jv_k {v : XW} (h : Jv w v) {c : Nat} (hc : c ∈ keepL) (k : Nat) : (v.2.2.1 c k).toInt = (w.2.2.1 c k).toInt := by rw [h.2.1 c hc]
theorem dz_1 {v : XW} (h : Jv w v) (h0 : (v.2.2.1 24 6).toInt = 0) : 0 ≤ (v.2.2.1 13 1).toInt ∧ (v.2.2.1 13 1).toInt ≤ 8 := (h.1.2.2 h0).1
theorem dz_2 {v : XW} (h : Jv w v) (h0 : (v.2.2.1 24 6).toInt = 0) : 0 ≤ (v.2.2.1 13 2).toInt ∧ (v.2.2.1 13 2).toInt ≤ 14 := (h.1.2.2 h0).2
theorem in_of {c k : Nat} {x : Int32} {a z : Int} (e : rgo c k = (a, z)) (hc : ¬ (c = 96 ∨ c = 97 ∨ c = 101)) (h1 : a ≤ x.toInt) (h2 : x.toInt ≤ z) : inR c k x := by
  unfold inR; rw [e]; exact ⟨h1, h2, fun h => absurd h hc⟩
theorem jv_swap0 {v : XW} (h : Jv w v) (_ : Mz0 v) : Jv w (upR (upR v 91 0 94) 91 1 93) ∧ Mz1 (upR (upR v 91 0 94) 91 1 93) := by
  have hm : Mz1 (upR (upR v 91 0 94) 91 1 93) := ⟨rfl, rfl⟩
  refine ⟨⟨⟨⟨h.1.1.1, fun q hq => ?_, Or.inr hm, h.1.1.2.2.2.1, h.1.1.2.2.2.2⟩, h.1.2⟩, h.2⟩, hm⟩
  have hne : ¬ q.1 = 91 := by
    have := List.all_eq_true.mp (show rtZ.all (fun q => q.1 != 91) = true by decide +kernel) q hq
    simpa using this
  rw [← h.1.1.2.1 q hq]
  simp [upR, va_up, hne]
theorem jv_swap1 {v : XW} (h : Jv w v) (_ : Mz1 v) : Jv w (upR (upR v 91 0 93) 91 1 94) ∧ Mz0 (upR (upR v 91 0 93) 91 1 94) := by
  have hm : Mz0 (upR (upR v 91 0 93) 91 1 94) := ⟨rfl, rfl⟩
  refine ⟨⟨⟨⟨h.1.1.1, fun q hq => ?_, Or.inl hm, h.1.1.2.2.2.1, h.1.1.2.2.2.2⟩, h.1.2⟩, h.2⟩, hm⟩
  have hne : ¬ q.1 = 91 := by
    have := List.all_eq_true.mp (show rtZ.all (fun q => q.1 != 91) = true by decide +kernel) q hq
    simpa using this
  rw [← h.1.1.2.1 q hq]
  simp [upR, va_up, hne]
theorem rg_0_1 {v : XW} (h : Jv w v) : 0 ≤ (v.2.2.1 0 1).toInt ∧ (v.2.2.1 0 1).toInt ≤ 1000 := by have g := jv_g h 0 1; rw [inR, show rgo 0 1 = (0, 1000) by decide +kernel] at g; exact ⟨g.1, g.2.1⟩
theorem rg_2_1 {v : XW} (h : Jv w v) : 0 ≤ (v.2.2.1 2 1).toInt ∧ (v.2.2.1 2 1).toInt ≤ 8 := by have g := jv_g h 2 1; rw [inR, show rgo 2 1 = (0, 8) by decide +kernel] at g; exact ⟨g.1, g.2.1⟩
theorem rg_2_2 {v : XW} (h : Jv w v) : 0 ≤ (v.2.2.1 2 2).toInt ∧ (v.2.2.1 2 2).toInt ≤ 14 := by have g := jv_g h 2 2; rw [inR, show rgo 2 2 = (0, 14) by decide +kernel] at g; exact ⟨g.1, g.2.1⟩
theorem rg_3_1 {v : XW} (h : Jv w v) : 12 ≤ (v.2.2.1 3 1).toInt ∧ (v.2.2.1 3 1).toInt ≤ 12 := by have g := jv_g h 3 1; rw [inR, show rgo 3 1 = (12, 12) by decide +kernel] at g; exact ⟨g.1, g.2.1⟩
theorem rg_3_2 {v : XW} (h : Jv w v) : 3 ≤ (v.2.2.1 3 2).toInt ∧ (v.2.2.1 3 2).toInt ≤ 3 := by have g := jv_g h 3 2; rw [inR, show rgo 3 2 = (3, 3) by decide +kernel] at g; exact ⟨g.1, g.2.1⟩
theorem rg_3_3 {v : XW} (h : Jv w v) : 0 ≤ (v.2.2.1 3 3).toInt ∧ (v.2.2.1 3 3).toInt ≤ 12 := by have g := jv_g h 3 3; rw [inR, show rgo 3 3 = (0, 12) by decide +kernel] at g; exact ⟨g.1, g.2.1⟩
theorem rg_5_1 {v : XW} (h : Jv w v) : 6 ≤ (v.2.2.1 5 1).toInt ∧ (v.2.2.1 5 1).toInt ≤ 6 := by have g := jv_g h 5 1; rw [inR, show rgo 5 1 = (6, 6) by decide +kernel] at g; exact ⟨g.1, g.2.1⟩
theorem rg_5_2 {v : XW} (h : Jv w v) : 2 ≤ (v.2.2.1 5 2).toInt ∧ (v.2.2.1 5 2).toInt ≤ 2 := by have g := jv_g h 5 2; rw [inR, show rgo 5 2 = (2, 2) by decide +kernel] at g; exact ⟨g.1, g.2.1⟩
theorem rg_5_3 {v : XW} (h : Jv w v) : 0 ≤ (v.2.2.1 5 3).toInt ∧ (v.2.2.1 5 3).toInt ≤ 6 := by have g := jv_g h 5 3; rw [inR, show rgo 5 3 = (0, 6) by decide +kernel] at g; exact ⟨g.1, g.2.1⟩
theorem rg_7_1 {v : XW} (h : Jv w v) : 8 ≤ (v.2.2.1 7 1).toInt ∧ (v.2.2.1 7 1).toInt ≤ 8 := by have g := jv_g h 7 1; rw [inR, show rgo 7 1 = (8, 8) by decide +kernel] at g; exact ⟨g.1, g.2.1⟩
theorem rg_7_2 {v : XW} (h : Jv w v) : 2 ≤ (v.2.2.1 7 2).toInt ∧ (v.2.2.1 7 2).toInt ≤ 2 := by have g := jv_g h 7 2; rw [inR, show rgo 7 2 = (2, 2) by decide +kernel] at g; exact ⟨g.1, g.2.1⟩
theorem rg_7_3 {v : XW} (h : Jv w v) : 0 ≤ (v.2.2.1 7 3).toInt ∧ (v.2.2.1 7 3).toInt ≤ 8 := by have g := jv_g h 7 3; rw [inR, show rgo 7 3 = (0, 8) by decide +kernel] at g; exact ⟨g.1, g.2.1⟩
theorem rg_9_1 {v : XW} (h : Jv w v) : 10 ≤ (v.2.2.1 9 1).toInt ∧ (v.2.2.1 9 1).toInt ≤ 10 := by have g := jv_g h 9 1; rw [inR, show rgo 9 1 = (10, 10) by decide +kernel] at g; exact ⟨g.1, g.2.1⟩
theorem rg_9_2 {v : XW} (h : Jv w v) : 3 ≤ (v.2.2.1 9 2).toInt ∧ (v.2.2.1 9 2).toInt ≤ 3 := by have g := jv_g h 9 2; rw [inR, show rgo 9 2 = (3, 3) by decide +kernel] at g; exact ⟨g.1, g.2.1⟩
theorem rg_9_3 {v : XW} (h : Jv w v) : 0 ≤ (v.2.2.1 9 3).toInt ∧ (v.2.2.1 9 3).toInt ≤ 10 := by have g := jv_g h 9 3; rw [inR, show rgo 9 3 = (0, 10) by decide +kernel] at g; exact ⟨g.1, g.2.1⟩
theorem rg_11_1 {v : XW} (h : Jv w v) : 30 ≤ (v.2.2.1 11 1).toInt ∧ (v.2.2.1 11 1).toInt ≤ 30 := by have g := jv_g h 11 1; rw [inR, show rgo 11 1 = (30, 30) by decide +kernel] at g; exact ⟨g.1, g.2.1⟩
theorem rg_11_2 {v : XW} (h : Jv w v) : 4 ≤ (v.2.2.1 11 2).toInt ∧ (v.2.2.1 11 2).toInt ≤ 4 := by have g := jv_g h 11 2; rw [inR, show rgo 11 2 = (4, 4) by decide +kernel] at g; exact ⟨g.1, g.2.1⟩
theorem rg_11_3 {v : XW} (h : Jv w v) : 0 ≤ (v.2.2.1 11 3).toInt ∧ (v.2.2.1 11 3).toInt ≤ 30 := by have g := jv_g h 11 3; rw [inR, show rgo 11 3 = (0, 30) by decide +kernel] at g; exact ⟨g.1, g.2.1⟩
theorem rg_14_1 {v : XW} (h : Jv w v) : 12 ≤ (v.2.2.1 14 1).toInt ∧ (v.2.2.1 14 1).toInt ≤ 12 := by have g := jv_g h 14 1; rw [inR, show rgo 14 1 = (12, 12) by decide +kernel] at g; exact ⟨g.1, g.2.1⟩
theorem rg_14_2 {v : XW} (h : Jv w v) : 3 ≤ (v.2.2.1 14 2).toInt ∧ (v.2.2.1 14 2).toInt ≤ 3 := by have g := jv_g h 14 2; rw [inR, show rgo 14 2 = (3, 3) by decide +kernel] at g; exact ⟨g.1, g.2.1⟩
theorem rg_14_3 {v : XW} (h : Jv w v) : 0 ≤ (v.2.2.1 14 3).toInt ∧ (v.2.2.1 14 3).toInt ≤ 12 := by have g := jv_g h 14 3; rw [inR, show rgo 14 3 = (0, 12) by decide +kernel] at g; exact ⟨g.1, g.2.1⟩
theorem rg_16_1 {v : XW} (h : Jv w v) : 6 ≤ (v.2.2.1 16 1).toInt ∧ (v.2.2.1 16 1).toInt ≤ 6 := by have g := jv_g h 16 1; rw [inR, show rgo 16 1 = (6, 6) by decide +kernel] at g; exact ⟨g.1, g.2.1⟩
theorem rg_16_2 {v : XW} (h : Jv w v) : 2 ≤ (v.2.2.1 16 2).toInt ∧ (v.2.2.1 16 2).toInt ≤ 2 := by have g := jv_g h 16 2; rw [inR, show rgo 16 2 = (2, 2) by decide +kernel] at g; exact ⟨g.1, g.2.1⟩
theorem rg_16_3 {v : XW} (h : Jv w v) : 0 ≤ (v.2.2.1 16 3).toInt ∧ (v.2.2.1 16 3).toInt ≤ 6 := by have g := jv_g h 16 3; rw [inR, show rgo 16 3 = (0, 6) by decide +kernel] at g; exact ⟨g.1, g.2.1⟩
theorem rg_18_1 {v : XW} (h : Jv w v) : 8 ≤ (v.2.2.1 18 1).toInt ∧ (v.2.2.1 18 1).toInt ≤ 8 := by have g := jv_g h 18 1; rw [inR, show rgo 18 1 = (8, 8) by decide +kernel] at g; exact ⟨g.1, g.2.1⟩
theorem rg_18_2 {v : XW} (h : Jv w v) : 2 ≤ (v.2.2.1 18 2).toInt ∧ (v.2.2.1 18 2).toInt ≤ 2 := by have g := jv_g h 18 2; rw [inR, show rgo 18 2 = (2, 2) by decide +kernel] at g; exact ⟨g.1, g.2.1⟩
theorem rg_18_3 {v : XW} (h : Jv w v) : 0 ≤ (v.2.2.1 18 3).toInt ∧ (v.2.2.1 18 3).toInt ≤ 8 := by have g := jv_g h 18 3; rw [inR, show rgo 18 3 = (0, 8) by decide +kernel] at g; exact ⟨g.1, g.2.1⟩
theorem rg_20_1 {v : XW} (h : Jv w v) : 10 ≤ (v.2.2.1 20 1).toInt ∧ (v.2.2.1 20 1).toInt ≤ 10 := by have g := jv_g h 20 1; rw [inR, show rgo 20 1 = (10, 10) by decide +kernel] at g; exact ⟨g.1, g.2.1⟩
theorem rg_20_2 {v : XW} (h : Jv w v) : 3 ≤ (v.2.2.1 20 2).toInt ∧ (v.2.2.1 20 2).toInt ≤ 3 := by have g := jv_g h 20 2; rw [inR, show rgo 20 2 = (3, 3) by decide +kernel] at g; exact ⟨g.1, g.2.1⟩
theorem rg_20_3 {v : XW} (h : Jv w v) : 0 ≤ (v.2.2.1 20 3).toInt ∧ (v.2.2.1 20 3).toInt ≤ 10 := by have g := jv_g h 20 3; rw [inR, show rgo 20 3 = (0, 10) by decide +kernel] at g; exact ⟨g.1, g.2.1⟩
theorem rg_22_1 {v : XW} (h : Jv w v) : 30 ≤ (v.2.2.1 22 1).toInt ∧ (v.2.2.1 22 1).toInt ≤ 30 := by have g := jv_g h 22 1; rw [inR, show rgo 22 1 = (30, 30) by decide +kernel] at g; exact ⟨g.1, g.2.1⟩
theorem rg_22_2 {v : XW} (h : Jv w v) : 4 ≤ (v.2.2.1 22 2).toInt ∧ (v.2.2.1 22 2).toInt ≤ 4 := by have g := jv_g h 22 2; rw [inR, show rgo 22 2 = (4, 4) by decide +kernel] at g; exact ⟨g.1, g.2.1⟩
theorem rg_22_3 {v : XW} (h : Jv w v) : 0 ≤ (v.2.2.1 22 3).toInt ∧ (v.2.2.1 22 3).toInt ≤ 30 := by have g := jv_g h 22 3; rw [inR, show rgo 22 3 = (0, 30) by decide +kernel] at g; exact ⟨g.1, g.2.1⟩
theorem rg_24_2 {v : XW} (h : Jv w v) : 0 ≤ (v.2.2.1 24 2).toInt ∧ (v.2.2.1 24 2).toInt ≤ 1000 := by have g := jv_g h 24 2; rw [inR, show rgo 24 2 = (0, 1000) by decide +kernel] at g; exact ⟨g.1, g.2.1⟩
theorem rg_24_3 {v : XW} (h : Jv w v) : 0 ≤ (v.2.2.1 24 3).toInt ∧ (v.2.2.1 24 3).toInt ≤ 4 := by have g := jv_g h 24 3; rw [inR, show rgo 24 3 = (0, 4) by decide +kernel] at g; exact ⟨g.1, g.2.1⟩
theorem rg_24_6 {v : XW} (h : Jv w v) : 0 ≤ (v.2.2.1 24 6).toInt ∧ (v.2.2.1 24 6).toInt ≤ 3 := by have g := jv_g h 24 6; rw [inR, show rgo 24 6 = (0, 3) by decide +kernel] at g; exact ⟨g.1, g.2.1⟩
theorem rg_27_1 {v : XW} (h : Jv w v) : 0 ≤ (v.2.2.1 27 1).toInt ∧ (v.2.2.1 27 1).toInt ≤ 8 := by have g := jv_g h 27 1; rw [inR, show rgo 27 1 = (0, 8) by decide +kernel] at g; exact ⟨g.1, g.2.1⟩
theorem rg_27_2 {v : XW} (h : Jv w v) : 0 ≤ (v.2.2.1 27 2).toInt ∧ (v.2.2.1 27 2).toInt ≤ 14 := by have g := jv_g h 27 2; rw [inR, show rgo 27 2 = (0, 14) by decide +kernel] at g; exact ⟨g.1, g.2.1⟩
theorem rg_28_1 {v : XW} (h : Jv w v) : 12 ≤ (v.2.2.1 28 1).toInt ∧ (v.2.2.1 28 1).toInt ≤ 12 := by have g := jv_g h 28 1; rw [inR, show rgo 28 1 = (12, 12) by decide +kernel] at g; exact ⟨g.1, g.2.1⟩
theorem rg_28_2 {v : XW} (h : Jv w v) : 3 ≤ (v.2.2.1 28 2).toInt ∧ (v.2.2.1 28 2).toInt ≤ 3 := by have g := jv_g h 28 2; rw [inR, show rgo 28 2 = (3, 3) by decide +kernel] at g; exact ⟨g.1, g.2.1⟩
theorem rg_28_3 {v : XW} (h : Jv w v) : 0 ≤ (v.2.2.1 28 3).toInt ∧ (v.2.2.1 28 3).toInt ≤ 12 := by have g := jv_g h 28 3; rw [inR, show rgo 28 3 = (0, 12) by decide +kernel] at g; exact ⟨g.1, g.2.1⟩
theorem rg_30_1 {v : XW} (h : Jv w v) : 6 ≤ (v.2.2.1 30 1).toInt ∧ (v.2.2.1 30 1).toInt ≤ 6 := by have g := jv_g h 30 1; rw [inR, show rgo 30 1 = (6, 6) by decide +kernel] at g; exact ⟨g.1, g.2.1⟩
theorem rg_30_2 {v : XW} (h : Jv w v) : 2 ≤ (v.2.2.1 30 2).toInt ∧ (v.2.2.1 30 2).toInt ≤ 2 := by have g := jv_g h 30 2; rw [inR, show rgo 30 2 = (2, 2) by decide +kernel] at g; exact ⟨g.1, g.2.1⟩
theorem rg_30_3 {v : XW} (h : Jv w v) : 0 ≤ (v.2.2.1 30 3).toInt ∧ (v.2.2.1 30 3).toInt ≤ 6 := by have g := jv_g h 30 3; rw [inR, show rgo 30 3 = (0, 6) by decide +kernel] at g; exact ⟨g.1, g.2.1⟩
theorem rg_32_1 {v : XW} (h : Jv w v) : 8 ≤ (v.2.2.1 32 1).toInt ∧ (v.2.2.1 32 1).toInt ≤ 8 := by have g := jv_g h 32 1; rw [inR, show rgo 32 1 = (8, 8) by decide +kernel] at g; exact ⟨g.1, g.2.1⟩
theorem rg_32_2 {v : XW} (h : Jv w v) : 2 ≤ (v.2.2.1 32 2).toInt ∧ (v.2.2.1 32 2).toInt ≤ 2 := by have g := jv_g h 32 2; rw [inR, show rgo 32 2 = (2, 2) by decide +kernel] at g; exact ⟨g.1, g.2.1⟩
theorem rg_32_3 {v : XW} (h : Jv w v) : 0 ≤ (v.2.2.1 32 3).toInt ∧ (v.2.2.1 32 3).toInt ≤ 8 := by have g := jv_g h 32 3; rw [inR, show rgo 32 3 = (0, 8) by decide +kernel] at g; exact ⟨g.1, g.2.1⟩
theorem rg_34_1 {v : XW} (h : Jv w v) : 10 ≤ (v.2.2.1 34 1).toInt ∧ (v.2.2.1 34 1).toInt ≤ 10 := by have g := jv_g h 34 1; rw [inR, show rgo 34 1 = (10, 10) by decide +kernel] at g; exact ⟨g.1, g.2.1⟩
theorem rg_34_2 {v : XW} (h : Jv w v) : 3 ≤ (v.2.2.1 34 2).toInt ∧ (v.2.2.1 34 2).toInt ≤ 3 := by have g := jv_g h 34 2; rw [inR, show rgo 34 2 = (3, 3) by decide +kernel] at g; exact ⟨g.1, g.2.1⟩
theorem rg_34_3 {v : XW} (h : Jv w v) : 0 ≤ (v.2.2.1 34 3).toInt ∧ (v.2.2.1 34 3).toInt ≤ 10 := by have g := jv_g h 34 3; rw [inR, show rgo 34 3 = (0, 10) by decide +kernel] at g; exact ⟨g.1, g.2.1⟩
theorem rg_36_1 {v : XW} (h : Jv w v) : 30 ≤ (v.2.2.1 36 1).toInt ∧ (v.2.2.1 36 1).toInt ≤ 30 := by have g := jv_g h 36 1; rw [inR, show rgo 36 1 = (30, 30) by decide +kernel] at g; exact ⟨g.1, g.2.1⟩
theorem rg_36_2 {v : XW} (h : Jv w v) : 4 ≤ (v.2.2.1 36 2).toInt ∧ (v.2.2.1 36 2).toInt ≤ 4 := by have g := jv_g h 36 2; rw [inR, show rgo 36 2 = (4, 4) by decide +kernel] at g; exact ⟨g.1, g.2.1⟩
theorem rg_36_3 {v : XW} (h : Jv w v) : 0 ≤ (v.2.2.1 36 3).toInt ∧ (v.2.2.1 36 3).toInt ≤ 30 := by have g := jv_g h 36 3; rw [inR, show rgo 36 3 = (0, 30) by decide +kernel] at g; exact ⟨g.1, g.2.1⟩
theorem rg_38_1 {v : XW} (h : Jv w v) : 0 ≤ (v.2.2.1 38 1).toInt ∧ (v.2.2.1 38 1).toInt ≤ 8 := by have g := jv_g h 38 1; rw [inR, show rgo 38 1 = (0, 8) by decide +kernel] at g; exact ⟨g.1, g.2.1⟩
theorem rg_38_2 {v : XW} (h : Jv w v) : 0 ≤ (v.2.2.1 38 2).toInt ∧ (v.2.2.1 38 2).toInt ≤ 14 := by have g := jv_g h 38 2; rw [inR, show rgo 38 2 = (0, 14) by decide +kernel] at g; exact ⟨g.1, g.2.1⟩
theorem rg_39_1 {v : XW} (h : Jv w v) : 12 ≤ (v.2.2.1 39 1).toInt ∧ (v.2.2.1 39 1).toInt ≤ 12 := by have g := jv_g h 39 1; rw [inR, show rgo 39 1 = (12, 12) by decide +kernel] at g; exact ⟨g.1, g.2.1⟩
theorem rg_39_2 {v : XW} (h : Jv w v) : 3 ≤ (v.2.2.1 39 2).toInt ∧ (v.2.2.1 39 2).toInt ≤ 3 := by have g := jv_g h 39 2; rw [inR, show rgo 39 2 = (3, 3) by decide +kernel] at g; exact ⟨g.1, g.2.1⟩
theorem rg_39_3 {v : XW} (h : Jv w v) : 0 ≤ (v.2.2.1 39 3).toInt ∧ (v.2.2.1 39 3).toInt ≤ 12 := by have g := jv_g h 39 3; rw [inR, show rgo 39 3 = (0, 12) by decide +kernel] at g; exact ⟨g.1, g.2.1⟩
theorem rg_41_1 {v : XW} (h : Jv w v) : 6 ≤ (v.2.2.1 41 1).toInt ∧ (v.2.2.1 41 1).toInt ≤ 6 := by have g := jv_g h 41 1; rw [inR, show rgo 41 1 = (6, 6) by decide +kernel] at g; exact ⟨g.1, g.2.1⟩
theorem rg_41_2 {v : XW} (h : Jv w v) : 2 ≤ (v.2.2.1 41 2).toInt ∧ (v.2.2.1 41 2).toInt ≤ 2 := by have g := jv_g h 41 2; rw [inR, show rgo 41 2 = (2, 2) by decide +kernel] at g; exact ⟨g.1, g.2.1⟩
theorem rg_41_3 {v : XW} (h : Jv w v) : 0 ≤ (v.2.2.1 41 3).toInt ∧ (v.2.2.1 41 3).toInt ≤ 6 := by have g := jv_g h 41 3; rw [inR, show rgo 41 3 = (0, 6) by decide +kernel] at g; exact ⟨g.1, g.2.1⟩
theorem rg_43_1 {v : XW} (h : Jv w v) : 8 ≤ (v.2.2.1 43 1).toInt ∧ (v.2.2.1 43 1).toInt ≤ 8 := by have g := jv_g h 43 1; rw [inR, show rgo 43 1 = (8, 8) by decide +kernel] at g; exact ⟨g.1, g.2.1⟩
theorem rg_43_2 {v : XW} (h : Jv w v) : 2 ≤ (v.2.2.1 43 2).toInt ∧ (v.2.2.1 43 2).toInt ≤ 2 := by have g := jv_g h 43 2; rw [inR, show rgo 43 2 = (2, 2) by decide +kernel] at g; exact ⟨g.1, g.2.1⟩
theorem rg_43_3 {v : XW} (h : Jv w v) : 0 ≤ (v.2.2.1 43 3).toInt ∧ (v.2.2.1 43 3).toInt ≤ 8 := by have g := jv_g h 43 3; rw [inR, show rgo 43 3 = (0, 8) by decide +kernel] at g; exact ⟨g.1, g.2.1⟩
theorem rg_45_1 {v : XW} (h : Jv w v) : 10 ≤ (v.2.2.1 45 1).toInt ∧ (v.2.2.1 45 1).toInt ≤ 10 := by have g := jv_g h 45 1; rw [inR, show rgo 45 1 = (10, 10) by decide +kernel] at g; exact ⟨g.1, g.2.1⟩
theorem rg_45_2 {v : XW} (h : Jv w v) : 3 ≤ (v.2.2.1 45 2).toInt ∧ (v.2.2.1 45 2).toInt ≤ 3 := by have g := jv_g h 45 2; rw [inR, show rgo 45 2 = (3, 3) by decide +kernel] at g; exact ⟨g.1, g.2.1⟩
theorem rg_45_3 {v : XW} (h : Jv w v) : 0 ≤ (v.2.2.1 45 3).toInt ∧ (v.2.2.1 45 3).toInt ≤ 10 := by have g := jv_g h 45 3; rw [inR, show rgo 45 3 = (0, 10) by decide +kernel] at g; exact ⟨g.1, g.2.1⟩
theorem rg_47_1 {v : XW} (h : Jv w v) : 30 ≤ (v.2.2.1 47 1).toInt ∧ (v.2.2.1 47 1).toInt ≤ 30 := by have g := jv_g h 47 1; rw [inR, show rgo 47 1 = (30, 30) by decide +kernel] at g; exact ⟨g.1, g.2.1⟩
theorem rg_47_2 {v : XW} (h : Jv w v) : 4 ≤ (v.2.2.1 47 2).toInt ∧ (v.2.2.1 47 2).toInt ≤ 4 := by have g := jv_g h 47 2; rw [inR, show rgo 47 2 = (4, 4) by decide +kernel] at g; exact ⟨g.1, g.2.1⟩
theorem rg_47_3 {v : XW} (h : Jv w v) : 0 ≤ (v.2.2.1 47 3).toInt ∧ (v.2.2.1 47 3).toInt ≤ 30 := by have g := jv_g h 47 3; rw [inR, show rgo 47 3 = (0, 30) by decide +kernel] at g; exact ⟨g.1, g.2.1⟩
theorem rg_49_1 {v : XW} (h : Jv w v) : 0 ≤ (v.2.2.1 49 1).toInt ∧ (v.2.2.1 49 1).toInt ≤ 8 := by have g := jv_g h 49 1; rw [inR, show rgo 49 1 = (0, 8) by decide +kernel] at g; exact ⟨g.1, g.2.1⟩
theorem rg_49_2 {v : XW} (h : Jv w v) : 0 ≤ (v.2.2.1 49 2).toInt ∧ (v.2.2.1 49 2).toInt ≤ 14 := by have g := jv_g h 49 2; rw [inR, show rgo 49 2 = (0, 14) by decide +kernel] at g; exact ⟨g.1, g.2.1⟩
theorem rg_50_1 {v : XW} (h : Jv w v) : 12 ≤ (v.2.2.1 50 1).toInt ∧ (v.2.2.1 50 1).toInt ≤ 12 := by have g := jv_g h 50 1; rw [inR, show rgo 50 1 = (12, 12) by decide +kernel] at g; exact ⟨g.1, g.2.1⟩
theorem rg_50_2 {v : XW} (h : Jv w v) : 3 ≤ (v.2.2.1 50 2).toInt ∧ (v.2.2.1 50 2).toInt ≤ 3 := by have g := jv_g h 50 2; rw [inR, show rgo 50 2 = (3, 3) by decide +kernel] at g; exact ⟨g.1, g.2.1⟩
theorem rg_50_3 {v : XW} (h : Jv w v) : 0 ≤ (v.2.2.1 50 3).toInt ∧ (v.2.2.1 50 3).toInt ≤ 12 := by have g := jv_g h 50 3; rw [inR, show rgo 50 3 = (0, 12) by decide +kernel] at g; exact ⟨g.1, g.2.1⟩
theorem rg_52_1 {v : XW} (h : Jv w v) : 6 ≤ (v.2.2.1 52 1).toInt ∧ (v.2.2.1 52 1).toInt ≤ 6 := by have g := jv_g h 52 1; rw [inR, show rgo 52 1 = (6, 6) by decide +kernel] at g; exact ⟨g.1, g.2.1⟩
theorem rg_52_2 {v : XW} (h : Jv w v) : 2 ≤ (v.2.2.1 52 2).toInt ∧ (v.2.2.1 52 2).toInt ≤ 2 := by have g := jv_g h 52 2; rw [inR, show rgo 52 2 = (2, 2) by decide +kernel] at g; exact ⟨g.1, g.2.1⟩
theorem rg_52_3 {v : XW} (h : Jv w v) : 0 ≤ (v.2.2.1 52 3).toInt ∧ (v.2.2.1 52 3).toInt ≤ 6 := by have g := jv_g h 52 3; rw [inR, show rgo 52 3 = (0, 6) by decide +kernel] at g; exact ⟨g.1, g.2.1⟩
theorem rg_54_1 {v : XW} (h : Jv w v) : 8 ≤ (v.2.2.1 54 1).toInt ∧ (v.2.2.1 54 1).toInt ≤ 8 := by have g := jv_g h 54 1; rw [inR, show rgo 54 1 = (8, 8) by decide +kernel] at g; exact ⟨g.1, g.2.1⟩
theorem rg_54_2 {v : XW} (h : Jv w v) : 2 ≤ (v.2.2.1 54 2).toInt ∧ (v.2.2.1 54 2).toInt ≤ 2 := by have g := jv_g h 54 2; rw [inR, show rgo 54 2 = (2, 2) by decide +kernel] at g; exact ⟨g.1, g.2.1⟩
theorem rg_54_3 {v : XW} (h : Jv w v) : 0 ≤ (v.2.2.1 54 3).toInt ∧ (v.2.2.1 54 3).toInt ≤ 8 := by have g := jv_g h 54 3; rw [inR, show rgo 54 3 = (0, 8) by decide +kernel] at g; exact ⟨g.1, g.2.1⟩
theorem rg_56_1 {v : XW} (h : Jv w v) : 10 ≤ (v.2.2.1 56 1).toInt ∧ (v.2.2.1 56 1).toInt ≤ 10 := by have g := jv_g h 56 1; rw [inR, show rgo 56 1 = (10, 10) by decide +kernel] at g; exact ⟨g.1, g.2.1⟩
theorem rg_56_2 {v : XW} (h : Jv w v) : 3 ≤ (v.2.2.1 56 2).toInt ∧ (v.2.2.1 56 2).toInt ≤ 3 := by have g := jv_g h 56 2; rw [inR, show rgo 56 2 = (3, 3) by decide +kernel] at g; exact ⟨g.1, g.2.1⟩
theorem rg_56_3 {v : XW} (h : Jv w v) : 0 ≤ (v.2.2.1 56 3).toInt ∧ (v.2.2.1 56 3).toInt ≤ 10 := by have g := jv_g h 56 3; rw [inR, show rgo 56 3 = (0, 10) by decide +kernel] at g; exact ⟨g.1, g.2.1⟩
theorem rg_58_1 {v : XW} (h : Jv w v) : 30 ≤ (v.2.2.1 58 1).toInt ∧ (v.2.2.1 58 1).toInt ≤ 30 := by have g := jv_g h 58 1; rw [inR, show rgo 58 1 = (30, 30) by decide +kernel] at g; exact ⟨g.1, g.2.1⟩
theorem rg_58_2 {v : XW} (h : Jv w v) : 4 ≤ (v.2.2.1 58 2).toInt ∧ (v.2.2.1 58 2).toInt ≤ 4 := by have g := jv_g h 58 2; rw [inR, show rgo 58 2 = (4, 4) by decide +kernel] at g; exact ⟨g.1, g.2.1⟩
theorem rg_58_3 {v : XW} (h : Jv w v) : 0 ≤ (v.2.2.1 58 3).toInt ∧ (v.2.2.1 58 3).toInt ≤ 30 := by have g := jv_g h 58 3; rw [inR, show rgo 58 3 = (0, 30) by decide +kernel] at g; exact ⟨g.1, g.2.1⟩
theorem rg_61_1 {v : XW} (h : Jv w v) : 0 ≤ (v.2.2.1 61 1).toInt ∧ (v.2.2.1 61 1).toInt ≤ 3 := by have g := jv_g h 61 1; rw [inR, show rgo 61 1 = (0, 3) by decide +kernel] at g; exact ⟨g.1, g.2.1⟩
theorem rg_61_2 {v : XW} (h : Jv w v) : (-1) ≤ (v.2.2.1 61 2).toInt ∧ (v.2.2.1 61 2).toInt ≤ 60 := by have g := jv_g h 61 2; rw [inR, show rgo 61 2 = ((-1), 60) by decide +kernel] at g; exact ⟨g.1, g.2.1⟩
theorem rg_63_1 {v : XW} (h : Jv w v) : 0 ≤ (v.2.2.1 63 1).toInt ∧ (v.2.2.1 63 1).toInt ≤ 3 := by have g := jv_g h 63 1; rw [inR, show rgo 63 1 = (0, 3) by decide +kernel] at g; exact ⟨g.1, g.2.1⟩
theorem rg_63_2 {v : XW} (h : Jv w v) : (-1) ≤ (v.2.2.1 63 2).toInt ∧ (v.2.2.1 63 2).toInt ≤ 60 := by have g := jv_g h 63 2; rw [inR, show rgo 63 2 = ((-1), 60) by decide +kernel] at g; exact ⟨g.1, g.2.1⟩
theorem rg_65_1 {v : XW} (h : Jv w v) : 0 ≤ (v.2.2.1 65 1).toInt ∧ (v.2.2.1 65 1).toInt ≤ 3 := by have g := jv_g h 65 1; rw [inR, show rgo 65 1 = (0, 3) by decide +kernel] at g; exact ⟨g.1, g.2.1⟩
theorem rg_65_2 {v : XW} (h : Jv w v) : (-1) ≤ (v.2.2.1 65 2).toInt ∧ (v.2.2.1 65 2).toInt ≤ 60 := by have g := jv_g h 65 2; rw [inR, show rgo 65 2 = ((-1), 60) by decide +kernel] at g; exact ⟨g.1, g.2.1⟩
theorem rg_67_1 {v : XW} (h : Jv w v) : 0 ≤ (v.2.2.1 67 1).toInt ∧ (v.2.2.1 67 1).toInt ≤ 3 := by have g := jv_g h 67 1; rw [inR, show rgo 67 1 = (0, 3) by decide +kernel] at g; exact ⟨g.1, g.2.1⟩
theorem rg_67_2 {v : XW} (h : Jv w v) : (-1) ≤ (v.2.2.1 67 2).toInt ∧ (v.2.2.1 67 2).toInt ≤ 60 := by have g := jv_g h 67 2; rw [inR, show rgo 67 2 = ((-1), 60) by decide +kernel] at g; exact ⟨g.1, g.2.1⟩
theorem rg_69_5 {v : XW} (h : Jv w v) : 0 ≤ (v.2.2.1 69 5).toInt ∧ (v.2.2.1 69 5).toInt ≤ 6 := by have g := jv_g h 69 5; rw [inR, show rgo 69 5 = (0, 6) by decide +kernel] at g; exact ⟨g.1, g.2.1⟩
theorem rg_69_6 {v : XW} (h : Jv w v) : 0 ≤ (v.2.2.1 69 6).toInt ∧ (v.2.2.1 69 6).toInt ≤ 8 := by have g := jv_g h 69 6; rw [inR, show rgo 69 6 = (0, 8) by decide +kernel] at g; exact ⟨g.1, g.2.1⟩
theorem rg_69_7 {v : XW} (h : Jv w v) : 0 ≤ (v.2.2.1 69 7).toInt ∧ (v.2.2.1 69 7).toInt ≤ 14 := by have g := jv_g h 69 7; rw [inR, show rgo 69 7 = (0, 14) by decide +kernel] at g; exact ⟨g.1, g.2.1⟩
theorem rg_75_5 {v : XW} (h : Jv w v) : 0 ≤ (v.2.2.1 75 5).toInt ∧ (v.2.2.1 75 5).toInt ≤ 6 := by have g := jv_g h 75 5; rw [inR, show rgo 75 5 = (0, 6) by decide +kernel] at g; exact ⟨g.1, g.2.1⟩
theorem rg_75_6 {v : XW} (h : Jv w v) : 0 ≤ (v.2.2.1 75 6).toInt ∧ (v.2.2.1 75 6).toInt ≤ 8 := by have g := jv_g h 75 6; rw [inR, show rgo 75 6 = (0, 8) by decide +kernel] at g; exact ⟨g.1, g.2.1⟩
theorem rg_75_7 {v : XW} (h : Jv w v) : 0 ≤ (v.2.2.1 75 7).toInt ∧ (v.2.2.1 75 7).toInt ≤ 14 := by have g := jv_g h 75 7; rw [inR, show rgo 75 7 = (0, 14) by decide +kernel] at g; exact ⟨g.1, g.2.1⟩
theorem rg_81_3 {v : XW} (h : Jv w v) : 0 ≤ (v.2.2.1 81 3).toInt ∧ (v.2.2.1 81 3).toInt ≤ 6 := by have g := jv_g h 81 3; rw [inR, show rgo 81 3 = (0, 6) by decide +kernel] at g; exact ⟨g.1, g.2.1⟩
theorem rg_81_4 {v : XW} (h : Jv w v) : 0 ≤ (v.2.2.1 81 4).toInt ∧ (v.2.2.1 81 4).toInt ≤ 14 := by have g := jv_g h 81 4; rw [inR, show rgo 81 4 = (0, 14) by decide +kernel] at g; exact ⟨g.1, g.2.1⟩
theorem rg_85_5 {v : XW} (h : Jv w v) : 0 ≤ (v.2.2.1 85 5).toInt ∧ (v.2.2.1 85 5).toInt ≤ 14 := by have g := jv_g h 85 5; rw [inR, show rgo 85 5 = (0, 14) by decide +kernel] at g; exact ⟨g.1, g.2.1⟩
theorem rg_85_6 {v : XW} (h : Jv w v) : 0 ≤ (v.2.2.1 85 6).toInt ∧ (v.2.2.1 85 6).toInt ≤ 1 := by have g := jv_g h 85 6; rw [inR, show rgo 85 6 = (0, 1) by decide +kernel] at g; exact ⟨g.1, g.2.1⟩
theorem rg_85_7 {v : XW} (h : Jv w v) : 0 ≤ (v.2.2.1 85 7).toInt ∧ (v.2.2.1 85 7).toInt ≤ 1 := by have g := jv_g h 85 7; rw [inR, show rgo 85 7 = (0, 1) by decide +kernel] at g; exact ⟨g.1, g.2.1⟩
theorem rg_89_1 {v : XW} (h : Jv w v) : 0 ≤ (v.2.2.1 89 1).toInt ∧ (v.2.2.1 89 1).toInt ≤ 6 := by have g := jv_g h 89 1; rw [inR, show rgo 89 1 = (0, 6) by decide +kernel] at g; exact ⟨g.1, g.2.1⟩
theorem rg_95_5 {v : XW} (h : Jv w v) : 0 ≤ (v.2.2.1 95 5).toInt ∧ (v.2.2.1 95 5).toInt ≤ 1000 := by have g := jv_g h 95 5; rw [inR, show rgo 95 5 = (0, 1000) by decide +kernel] at g; exact ⟨g.1, g.2.1⟩
theorem rg_95_7 {v : XW} (h : Jv w v) : 0 ≤ (v.2.2.1 95 7).toInt ∧ (v.2.2.1 95 7).toInt ≤ 1000 := by have g := jv_g h 95 7; rw [inR, show rgo 95 7 = (0, 1000) by decide +kernel] at g; exact ⟨g.1, g.2.1⟩
theorem rg_95_8 {v : XW} (h : Jv w v) : 0 ≤ (v.2.2.1 95 8).toInt ∧ (v.2.2.1 95 8).toInt ≤ 1000 := by have g := jv_g h 95 8; rw [inR, show rgo 95 8 = (0, 1000) by decide +kernel] at g; exact ⟨g.1, g.2.1⟩
theorem rg_95_9 {v : XW} (h : Jv w v) : 0 ≤ (v.2.2.1 95 9).toInt ∧ (v.2.2.1 95 9).toInt ≤ 1000 := by have g := jv_g h 95 9; rw [inR, show rgo 95 9 = (0, 1000) by decide +kernel] at g; exact ⟨g.1, g.2.1⟩
theorem rg_95_10 {v : XW} (h : Jv w v) : 0 ≤ (v.2.2.1 95 10).toInt ∧ (v.2.2.1 95 10).toInt ≤ 4 := by have g := jv_g h 95 10; rw [inR, show rgo 95 10 = (0, 4) by decide +kernel] at g; exact ⟨g.1, g.2.1⟩
theorem rg_95_11 {v : XW} (h : Jv w v) : 0 ≤ (v.2.2.1 95 11).toInt ∧ (v.2.2.1 95 11).toInt ≤ 99999 := by have g := jv_g h 95 11; rw [inR, show rgo 95 11 = (0, 99999) by decide +kernel] at g; exact ⟨g.1, g.2.1⟩
theorem rg_95_12 {v : XW} (h : Jv w v) : 0 ≤ (v.2.2.1 95 12).toInt ∧ (v.2.2.1 95 12).toInt ≤ 3 := by have g := jv_g h 95 12; rw [inR, show rgo 95 12 = (0, 3) by decide +kernel] at g; exact ⟨g.1, g.2.1⟩
theorem rw_96_0 {v : XW} (h : Jv w v) : 0 ≤ (v.2.2.1 96 0).toInt ∧ (v.2.2.1 96 0).toInt ≤ 8 := by have g := jv_g h 96 0; rw [inR, show rgo 96 0 = (0, 8) by decide +kernel] at g; exact ⟨g.1, g.2.1⟩
theorem rw_96_1 {v : XW} (h : Jv w v) : 0 ≤ (v.2.2.1 96 1).toInt ∧ (v.2.2.1 96 1).toInt ≤ 14 := by have g := jv_g h 96 1; rw [inR, show rgo 96 1 = (0, 14) by decide +kernel] at g; exact ⟨g.1, g.2.1⟩
theorem rw_96_2 {v : XW} (h : Jv w v) : 0 ≤ (v.2.2.1 96 2).toInt ∧ (v.2.2.1 96 2).toInt ≤ 3 := by have g := jv_g h 96 2; rw [inR, show rgo 96 2 = (0, 3) by decide +kernel] at g; exact ⟨g.1, g.2.1⟩
theorem rw_96_3 {v : XW} (h : Jv w v) : 0 ≤ (v.2.2.1 96 3).toInt ∧ (v.2.2.1 96 3).toInt ≤ 10 := by have g := jv_g h 96 3; rw [inR, show rgo 96 3 = (0, 10) by decide +kernel] at g; exact ⟨g.1, g.2.1⟩
theorem rw_96_4 {v : XW} (h : Jv w v) : 0 ≤ (v.2.2.1 96 4).toInt ∧ (v.2.2.1 96 4).toInt ≤ 12 := by have g := jv_g h 96 4; rw [inR, show rgo 96 4 = (0, 12) by decide +kernel] at g; exact ⟨g.1, g.2.1⟩
theorem rw_96_5 {v : XW} (h : Jv w v) : 0 ≤ (v.2.2.1 96 5).toInt ∧ (v.2.2.1 96 5).toInt ≤ 6 := by have g := jv_g h 96 5; rw [inR, show rgo 96 5 = (0, 6) by decide +kernel] at g; exact ⟨g.1, g.2.1⟩
theorem rw_96_6 {v : XW} (h : Jv w v) : 0 ≤ (v.2.2.1 96 6).toInt ∧ (v.2.2.1 96 6).toInt ≤ 8 := by have g := jv_g h 96 6; rw [inR, show rgo 96 6 = (0, 8) by decide +kernel] at g; exact ⟨g.1, g.2.1⟩
theorem rw_96_7 {v : XW} (h : Jv w v) : 0 ≤ (v.2.2.1 96 7).toInt ∧ (v.2.2.1 96 7).toInt ≤ 10 := by have g := jv_g h 96 7; rw [inR, show rgo 96 7 = (0, 10) by decide +kernel] at g; exact ⟨g.1, g.2.1⟩
theorem rw_96_8 {v : XW} (h : Jv w v) : 0 ≤ (v.2.2.1 96 8).toInt ∧ (v.2.2.1 96 8).toInt ≤ 30 := by have g := jv_g h 96 8; rw [inR, show rgo 96 8 = (0, 30) by decide +kernel] at g; exact ⟨g.1, g.2.1⟩
theorem rw_96_9 {v : XW} (h : Jv w v) : 0 ≤ (v.2.2.1 96 9).toInt ∧ (v.2.2.1 96 9).toInt ≤ 2147483647 := by have g := jv_g h 96 9; rw [inR, show rgo 96 9 = (0, 2147483647) by decide +kernel] at g; exact ⟨g.1, g.2.1⟩
theorem rw_97_0 {v : XW} (h : Jv w v) : 0 ≤ (v.2.2.1 97 0).toInt ∧ (v.2.2.1 97 0).toInt ≤ 8 := by have g := jv_g h 97 0; rw [inR, show rgo 97 0 = (0, 8) by decide +kernel] at g; exact ⟨g.1, g.2.1⟩
theorem rw_97_1 {v : XW} (h : Jv w v) : 0 ≤ (v.2.2.1 97 1).toInt ∧ (v.2.2.1 97 1).toInt ≤ 14 := by have g := jv_g h 97 1; rw [inR, show rgo 97 1 = (0, 14) by decide +kernel] at g; exact ⟨g.1, g.2.1⟩
theorem rw_97_2 {v : XW} (h : Jv w v) : 0 ≤ (v.2.2.1 97 2).toInt ∧ (v.2.2.1 97 2).toInt ≤ 3 := by have g := jv_g h 97 2; rw [inR, show rgo 97 2 = (0, 3) by decide +kernel] at g; exact ⟨g.1, g.2.1⟩
theorem rw_97_3 {v : XW} (h : Jv w v) : 0 ≤ (v.2.2.1 97 3).toInt ∧ (v.2.2.1 97 3).toInt ≤ 10 := by have g := jv_g h 97 3; rw [inR, show rgo 97 3 = (0, 10) by decide +kernel] at g; exact ⟨g.1, g.2.1⟩
theorem rw_97_4 {v : XW} (h : Jv w v) : 0 ≤ (v.2.2.1 97 4).toInt ∧ (v.2.2.1 97 4).toInt ≤ 12 := by have g := jv_g h 97 4; rw [inR, show rgo 97 4 = (0, 12) by decide +kernel] at g; exact ⟨g.1, g.2.1⟩
theorem rw_97_5 {v : XW} (h : Jv w v) : 0 ≤ (v.2.2.1 97 5).toInt ∧ (v.2.2.1 97 5).toInt ≤ 6 := by have g := jv_g h 97 5; rw [inR, show rgo 97 5 = (0, 6) by decide +kernel] at g; exact ⟨g.1, g.2.1⟩
theorem rw_97_6 {v : XW} (h : Jv w v) : 0 ≤ (v.2.2.1 97 6).toInt ∧ (v.2.2.1 97 6).toInt ≤ 8 := by have g := jv_g h 97 6; rw [inR, show rgo 97 6 = (0, 8) by decide +kernel] at g; exact ⟨g.1, g.2.1⟩
theorem rw_97_7 {v : XW} (h : Jv w v) : 0 ≤ (v.2.2.1 97 7).toInt ∧ (v.2.2.1 97 7).toInt ≤ 10 := by have g := jv_g h 97 7; rw [inR, show rgo 97 7 = (0, 10) by decide +kernel] at g; exact ⟨g.1, g.2.1⟩
theorem rw_97_8 {v : XW} (h : Jv w v) : 0 ≤ (v.2.2.1 97 8).toInt ∧ (v.2.2.1 97 8).toInt ≤ 30 := by have g := jv_g h 97 8; rw [inR, show rgo 97 8 = (0, 30) by decide +kernel] at g; exact ⟨g.1, g.2.1⟩
theorem rw_97_9 {v : XW} (h : Jv w v) : 0 ≤ (v.2.2.1 97 9).toInt ∧ (v.2.2.1 97 9).toInt ≤ 2147483647 := by have g := jv_g h 97 9; rw [inR, show rgo 97 9 = (0, 2147483647) by decide +kernel] at g; exact ⟨g.1, g.2.1⟩
theorem rw_101_0 {v : XW} (h : Jv w v) : 0 ≤ (v.2.2.1 101 0).toInt ∧ (v.2.2.1 101 0).toInt ≤ 8 := by have g := jv_g h 101 0; rw [inR, show rgo 101 0 = (0, 8) by decide +kernel] at g; exact ⟨g.1, g.2.1⟩
theorem rw_101_1 {v : XW} (h : Jv w v) : 0 ≤ (v.2.2.1 101 1).toInt ∧ (v.2.2.1 101 1).toInt ≤ 14 := by have g := jv_g h 101 1; rw [inR, show rgo 101 1 = (0, 14) by decide +kernel] at g; exact ⟨g.1, g.2.1⟩
theorem rw_101_2 {v : XW} (h : Jv w v) : 0 ≤ (v.2.2.1 101 2).toInt ∧ (v.2.2.1 101 2).toInt ≤ 3 := by have g := jv_g h 101 2; rw [inR, show rgo 101 2 = (0, 3) by decide +kernel] at g; exact ⟨g.1, g.2.1⟩
theorem rw_101_3 {v : XW} (h : Jv w v) : 0 ≤ (v.2.2.1 101 3).toInt ∧ (v.2.2.1 101 3).toInt ≤ 10 := by have g := jv_g h 101 3; rw [inR, show rgo 101 3 = (0, 10) by decide +kernel] at g; exact ⟨g.1, g.2.1⟩
theorem rw_101_4 {v : XW} (h : Jv w v) : 0 ≤ (v.2.2.1 101 4).toInt ∧ (v.2.2.1 101 4).toInt ≤ 12 := by have g := jv_g h 101 4; rw [inR, show rgo 101 4 = (0, 12) by decide +kernel] at g; exact ⟨g.1, g.2.1⟩
theorem rw_101_5 {v : XW} (h : Jv w v) : 0 ≤ (v.2.2.1 101 5).toInt ∧ (v.2.2.1 101 5).toInt ≤ 6 := by have g := jv_g h 101 5; rw [inR, show rgo 101 5 = (0, 6) by decide +kernel] at g; exact ⟨g.1, g.2.1⟩
theorem rw_101_6 {v : XW} (h : Jv w v) : 0 ≤ (v.2.2.1 101 6).toInt ∧ (v.2.2.1 101 6).toInt ≤ 8 := by have g := jv_g h 101 6; rw [inR, show rgo 101 6 = (0, 8) by decide +kernel] at g; exact ⟨g.1, g.2.1⟩
theorem rw_101_7 {v : XW} (h : Jv w v) : 0 ≤ (v.2.2.1 101 7).toInt ∧ (v.2.2.1 101 7).toInt ≤ 10 := by have g := jv_g h 101 7; rw [inR, show rgo 101 7 = (0, 10) by decide +kernel] at g; exact ⟨g.1, g.2.1⟩
theorem rw_101_8 {v : XW} (h : Jv w v) : 0 ≤ (v.2.2.1 101 8).toInt ∧ (v.2.2.1 101 8).toInt ≤ 30 := by have g := jv_g h 101 8; rw [inR, show rgo 101 8 = (0, 30) by decide +kernel] at g; exact ⟨g.1, g.2.1⟩
theorem rw_101_9 {v : XW} (h : Jv w v) : 0 ≤ (v.2.2.1 101 9).toInt ∧ (v.2.2.1 101 9).toInt ≤ 2147483647 := by have g := jv_g h 101 9; rw [inR, show rgo 101 9 = (0, 2147483647) by decide +kernel] at g; exact ⟨g.1, g.2.1⟩
theorem ra_1 {v : XW} (h : Jv w v) (k : Nat) : (-128) ≤ (v.2.2.1 1 k).toInt ∧ (v.2.2.1 1 k).toInt ≤ 127 := by have g := jv_g h 1 k; rw [inR, show rgo 1 k = ((-128), 127) from rfl] at g; exact ⟨g.1, g.2.1⟩
theorem ra_26 {v : XW} (h : Jv w v) (k : Nat) : 0 ≤ (v.2.2.1 26 k).toInt ∧ (v.2.2.1 26 k).toInt ≤ 1 := by have g := jv_g h 26 k; rw [inR, show rgo 26 k = (0, 1) from rfl] at g; exact ⟨g.1, g.2.1⟩
theorem ra_98 {v : XW} (h : Jv w v) (k : Nat) : 0 ≤ (v.2.2.1 98 k).toInt ∧ (v.2.2.1 98 k).toInt ≤ 1 := by have g := jv_g h 98 k; rw [inR, show rgo 98 k = (0, 1) from rfl] at g; exact ⟨g.1, g.2.1⟩
theorem ra_99 {v : XW} (h : Jv w v) (k : Nat) : (-128) ≤ (v.2.2.1 99 k).toInt ∧ (v.2.2.1 99 k).toInt ≤ 127 := by have g := jv_g h 99 k; rw [inR, show rgo 99 k = ((-128), 127) from rfl] at g; exact ⟨g.1, g.2.1⟩
theorem ra_102 {v : XW} (h : Jv w v) (k : Nat) : 0 ≤ (v.2.2.1 102 k).toInt ∧ (v.2.2.1 102 k).toInt ≤ 1000000000 := by have g := jv_g h 102 k; rw [inR, show rgo 102 k = (0, 1000000000) from rfl] at g; exact ⟨g.1, g.2.1⟩
theorem ra_103 {v : XW} (h : Jv w v) (k : Nat) : 0 ≤ (v.2.2.1 103 k).toInt ∧ (v.2.2.1 103 k).toInt ≤ 7 := by have g := jv_g h 103 k; rw [inR, show rgo 103 k = (0, 7) from rfl] at g; exact ⟨g.1, g.2.1⟩
theorem ra_104 {v : XW} (h : Jv w v) (k : Nat) : 0 ≤ (v.2.2.1 104 k).toInt ∧ (v.2.2.1 104 k).toInt ≤ 5 := by have g := jv_g h 104 k; rw [inR, show rgo 104 k = (0, 5) from rfl] at g; exact ⟨g.1, g.2.1⟩
theorem ra_107 {v : XW} (h : Jv w v) (k : Nat) : (-1) ≤ (v.2.2.1 107 k).toInt ∧ (v.2.2.1 107 k).toInt ≤ 14 := by have g := jv_g h 107 k; rw [inR, show rgo 107 k = ((-1), 14) from rfl] at g; exact ⟨g.1, g.2.1⟩
theorem ra_108 {v : XW} (h : Jv w v) (k : Nat) : (-1) ≤ (v.2.2.1 108 k).toInt ∧ (v.2.2.1 108 k).toInt ≤ 5 := by have g := jv_g h 108 k; rw [inR, show rgo 108 k = ((-1), 5) from rfl] at g; exact ⟨g.1, g.2.1⟩
theorem ra_109 {v : XW} (h : Jv w v) (k : Nat) : 0 ≤ (v.2.2.1 109 k).toInt ∧ (v.2.2.1 109 k).toInt ≤ 1 := by have g := jv_g h 109 k; rw [inR, show rgo 109 k = (0, 1) from rfl] at g; exact ⟨g.1, g.2.1⟩
theorem ra_110 {v : XW} (h : Jv w v) (k : Nat) : 0 ≤ (v.2.2.1 110 k).toInt ∧ (v.2.2.1 110 k).toInt ≤ 7 := by have g := jv_g h 110 k; rw [inR, show rgo 110 k = (0, 7) from rfl] at g; exact ⟨g.1, g.2.1⟩
theorem ra_111 {v : XW} (h : Jv w v) (k : Nat) : (-1) ≤ (v.2.2.1 111 k).toInt ∧ (v.2.2.1 111 k).toInt ≤ 14 := by have g := jv_g h 111 k; rw [inR, show rgo 111 k = ((-1), 14) from rfl] at g; exact ⟨g.1, g.2.1⟩
theorem ra_112 {v : XW} (h : Jv w v) (k : Nat) : (-1) ≤ (v.2.2.1 112 k).toInt ∧ (v.2.2.1 112 k).toInt ≤ 60 := by have g := jv_g h 112 k; rw [inR, show rgo 112 k = ((-1), 60) from rfl] at g; exact ⟨g.1, g.2.1⟩
theorem ra_113 {v : XW} (h : Jv w v) (k : Nat) : 0 ≤ (v.2.2.1 113 k).toInt ∧ (v.2.2.1 113 k).toInt ≤ 3 := by have g := jv_g h 113 k; rw [inR, show rgo 113 k = (0, 3) from rfl] at g; exact ⟨g.1, g.2.1⟩
theorem jv_f_0_1 {v : XW} {x : Int32} (h : Jv w v) (h1 : 0 ≤ x.toInt) (h2 : x.toInt ≤ 1000) : Jv w (upI v 0 1 x) := jv_up h (in_of (by decide +kernel) (by decide) h1 h2) (by decide) (by decide)
theorem jv_f_2_0 {v : XW} {x : Int32} (h : Jv w v) (h1 : (-2147483648) ≤ x.toInt) (h2 : x.toInt ≤ 2147483647) : Jv w (upI v 2 0 x) := jv_up h (in_of (by decide +kernel) (by decide) h1 h2) (by decide) (by decide)
theorem jv_f_2_1 {v : XW} {x : Int32} (h : Jv w v) (h1 : 0 ≤ x.toInt) (h2 : x.toInt ≤ 8) : Jv w (upI v 2 1 x) := jv_up h (in_of (by decide +kernel) (by decide) h1 h2) (by decide) (by decide)
theorem jv_f_2_2 {v : XW} {x : Int32} (h : Jv w v) (h1 : 0 ≤ x.toInt) (h2 : x.toInt ≤ 14) : Jv w (upI v 2 2 x) := jv_up h (in_of (by decide +kernel) (by decide) h1 h2) (by decide) (by decide)
theorem jv_f_2_3 {v : XW} {x : Int32} (h : Jv w v) (h1 : (-2147483648) ≤ x.toInt) (h2 : x.toInt ≤ 2147483647) : Jv w (upI v 2 3 x) := jv_up h (in_of (by decide +kernel) (by decide) h1 h2) (by decide) (by decide)
theorem jv_f_2_4 {v : XW} {x : Int32} (h : Jv w v) (h1 : (-2147483648) ≤ x.toInt) (h2 : x.toInt ≤ 2147483647) : Jv w (upI v 2 4 x) := jv_up h (in_of (by decide +kernel) (by decide) h1 h2) (by decide) (by decide)
theorem jv_f_3_1 {v : XW} {x : Int32} (h : Jv w v) (h1 : 12 ≤ x.toInt) (h2 : x.toInt ≤ 12) : Jv w (upI v 3 1 x) := jv_up h (in_of (by decide +kernel) (by decide) h1 h2) (by decide) (by decide)
theorem jv_f_3_2 {v : XW} {x : Int32} (h : Jv w v) (h1 : 3 ≤ x.toInt) (h2 : x.toInt ≤ 3) : Jv w (upI v 3 2 x) := jv_up h (in_of (by decide +kernel) (by decide) h1 h2) (by decide) (by decide)
theorem jv_f_3_3 {v : XW} {x : Int32} (h : Jv w v) (h1 : 0 ≤ x.toInt) (h2 : x.toInt ≤ 12) : Jv w (upI v 3 3 x) := jv_up h (in_of (by decide +kernel) (by decide) h1 h2) (by decide) (by decide)
theorem jv_f_5_1 {v : XW} {x : Int32} (h : Jv w v) (h1 : 6 ≤ x.toInt) (h2 : x.toInt ≤ 6) : Jv w (upI v 5 1 x) := jv_up h (in_of (by decide +kernel) (by decide) h1 h2) (by decide) (by decide)
theorem jv_f_5_2 {v : XW} {x : Int32} (h : Jv w v) (h1 : 2 ≤ x.toInt) (h2 : x.toInt ≤ 2) : Jv w (upI v 5 2 x) := jv_up h (in_of (by decide +kernel) (by decide) h1 h2) (by decide) (by decide)
theorem jv_f_5_3 {v : XW} {x : Int32} (h : Jv w v) (h1 : 0 ≤ x.toInt) (h2 : x.toInt ≤ 6) : Jv w (upI v 5 3 x) := jv_up h (in_of (by decide +kernel) (by decide) h1 h2) (by decide) (by decide)
theorem jv_f_7_1 {v : XW} {x : Int32} (h : Jv w v) (h1 : 8 ≤ x.toInt) (h2 : x.toInt ≤ 8) : Jv w (upI v 7 1 x) := jv_up h (in_of (by decide +kernel) (by decide) h1 h2) (by decide) (by decide)
theorem jv_f_7_2 {v : XW} {x : Int32} (h : Jv w v) (h1 : 2 ≤ x.toInt) (h2 : x.toInt ≤ 2) : Jv w (upI v 7 2 x) := jv_up h (in_of (by decide +kernel) (by decide) h1 h2) (by decide) (by decide)
theorem jv_f_7_3 {v : XW} {x : Int32} (h : Jv w v) (h1 : 0 ≤ x.toInt) (h2 : x.toInt ≤ 8) : Jv w (upI v 7 3 x) := jv_up h (in_of (by decide +kernel) (by decide) h1 h2) (by decide) (by decide)
theorem jv_f_9_1 {v : XW} {x : Int32} (h : Jv w v) (h1 : 10 ≤ x.toInt) (h2 : x.toInt ≤ 10) : Jv w (upI v 9 1 x) := jv_up h (in_of (by decide +kernel) (by decide) h1 h2) (by decide) (by decide)
theorem jv_f_9_2 {v : XW} {x : Int32} (h : Jv w v) (h1 : 3 ≤ x.toInt) (h2 : x.toInt ≤ 3) : Jv w (upI v 9 2 x) := jv_up h (in_of (by decide +kernel) (by decide) h1 h2) (by decide) (by decide)
theorem jv_f_9_3 {v : XW} {x : Int32} (h : Jv w v) (h1 : 0 ≤ x.toInt) (h2 : x.toInt ≤ 10) : Jv w (upI v 9 3 x) := jv_up h (in_of (by decide +kernel) (by decide) h1 h2) (by decide) (by decide)
theorem jv_f_11_1 {v : XW} {x : Int32} (h : Jv w v) (h1 : 30 ≤ x.toInt) (h2 : x.toInt ≤ 30) : Jv w (upI v 11 1 x) := jv_up h (in_of (by decide +kernel) (by decide) h1 h2) (by decide) (by decide)
theorem jv_f_11_2 {v : XW} {x : Int32} (h : Jv w v) (h1 : 4 ≤ x.toInt) (h2 : x.toInt ≤ 4) : Jv w (upI v 11 2 x) := jv_up h (in_of (by decide +kernel) (by decide) h1 h2) (by decide) (by decide)
theorem jv_f_11_3 {v : XW} {x : Int32} (h : Jv w v) (h1 : 0 ≤ x.toInt) (h2 : x.toInt ≤ 30) : Jv w (upI v 11 3 x) := jv_up h (in_of (by decide +kernel) (by decide) h1 h2) (by decide) (by decide)
theorem jv_f_13_0 {v : XW} {x : Int32} (h : Jv w v) (h1 : (-2147483648) ≤ x.toInt) (h2 : x.toInt ≤ 2147483647) : Jv w (upI v 13 0 x) := jv_up13 h (in_of (by decide +kernel) (by decide) h1 h2) (by decide)
-- its own: jv_f_13_1
-- its own: jv_f_13_2
theorem jv_f_13_3 {v : XW} {x : Int32} (h : Jv w v) (h1 : (-2147483648) ≤ x.toInt) (h2 : x.toInt ≤ 2147483647) : Jv w (upI v 13 3 x) := jv_up13 h (in_of (by decide +kernel) (by decide) h1 h2) (by decide)
theorem jv_f_13_4 {v : XW} {x : Int32} (h : Jv w v) (h1 : (-2147483648) ≤ x.toInt) (h2 : x.toInt ≤ 2147483647) : Jv w (upI v 13 4 x) := jv_up13 h (in_of (by decide +kernel) (by decide) h1 h2) (by decide)
theorem jv_f_14_1 {v : XW} {x : Int32} (h : Jv w v) (h1 : 12 ≤ x.toInt) (h2 : x.toInt ≤ 12) : Jv w (upI v 14 1 x) := jv_up h (in_of (by decide +kernel) (by decide) h1 h2) (by decide) (by decide)
theorem jv_f_14_2 {v : XW} {x : Int32} (h : Jv w v) (h1 : 3 ≤ x.toInt) (h2 : x.toInt ≤ 3) : Jv w (upI v 14 2 x) := jv_up h (in_of (by decide +kernel) (by decide) h1 h2) (by decide) (by decide)
theorem jv_f_14_3 {v : XW} {x : Int32} (h : Jv w v) (h1 : 0 ≤ x.toInt) (h2 : x.toInt ≤ 12) : Jv w (upI v 14 3 x) := jv_up h (in_of (by decide +kernel) (by decide) h1 h2) (by decide) (by decide)
theorem jv_f_16_1 {v : XW} {x : Int32} (h : Jv w v) (h1 : 6 ≤ x.toInt) (h2 : x.toInt ≤ 6) : Jv w (upI v 16 1 x) := jv_up h (in_of (by decide +kernel) (by decide) h1 h2) (by decide) (by decide)
theorem jv_f_16_2 {v : XW} {x : Int32} (h : Jv w v) (h1 : 2 ≤ x.toInt) (h2 : x.toInt ≤ 2) : Jv w (upI v 16 2 x) := jv_up h (in_of (by decide +kernel) (by decide) h1 h2) (by decide) (by decide)
theorem jv_f_16_3 {v : XW} {x : Int32} (h : Jv w v) (h1 : 0 ≤ x.toInt) (h2 : x.toInt ≤ 6) : Jv w (upI v 16 3 x) := jv_up h (in_of (by decide +kernel) (by decide) h1 h2) (by decide) (by decide)
theorem jv_f_18_1 {v : XW} {x : Int32} (h : Jv w v) (h1 : 8 ≤ x.toInt) (h2 : x.toInt ≤ 8) : Jv w (upI v 18 1 x) := jv_up h (in_of (by decide +kernel) (by decide) h1 h2) (by decide) (by decide)
theorem jv_f_18_2 {v : XW} {x : Int32} (h : Jv w v) (h1 : 2 ≤ x.toInt) (h2 : x.toInt ≤ 2) : Jv w (upI v 18 2 x) := jv_up h (in_of (by decide +kernel) (by decide) h1 h2) (by decide) (by decide)
theorem jv_f_18_3 {v : XW} {x : Int32} (h : Jv w v) (h1 : 0 ≤ x.toInt) (h2 : x.toInt ≤ 8) : Jv w (upI v 18 3 x) := jv_up h (in_of (by decide +kernel) (by decide) h1 h2) (by decide) (by decide)
theorem jv_f_20_1 {v : XW} {x : Int32} (h : Jv w v) (h1 : 10 ≤ x.toInt) (h2 : x.toInt ≤ 10) : Jv w (upI v 20 1 x) := jv_up h (in_of (by decide +kernel) (by decide) h1 h2) (by decide) (by decide)
theorem jv_f_20_2 {v : XW} {x : Int32} (h : Jv w v) (h1 : 3 ≤ x.toInt) (h2 : x.toInt ≤ 3) : Jv w (upI v 20 2 x) := jv_up h (in_of (by decide +kernel) (by decide) h1 h2) (by decide) (by decide)
theorem jv_f_20_3 {v : XW} {x : Int32} (h : Jv w v) (h1 : 0 ≤ x.toInt) (h2 : x.toInt ≤ 10) : Jv w (upI v 20 3 x) := jv_up h (in_of (by decide +kernel) (by decide) h1 h2) (by decide) (by decide)
theorem jv_f_22_1 {v : XW} {x : Int32} (h : Jv w v) (h1 : 30 ≤ x.toInt) (h2 : x.toInt ≤ 30) : Jv w (upI v 22 1 x) := jv_up h (in_of (by decide +kernel) (by decide) h1 h2) (by decide) (by decide)
theorem jv_f_22_2 {v : XW} {x : Int32} (h : Jv w v) (h1 : 4 ≤ x.toInt) (h2 : x.toInt ≤ 4) : Jv w (upI v 22 2 x) := jv_up h (in_of (by decide +kernel) (by decide) h1 h2) (by decide) (by decide)
theorem jv_f_22_3 {v : XW} {x : Int32} (h : Jv w v) (h1 : 0 ≤ x.toInt) (h2 : x.toInt ≤ 30) : Jv w (upI v 22 3 x) := jv_up h (in_of (by decide +kernel) (by decide) h1 h2) (by decide) (by decide)
theorem jv_f_24_2 {v : XW} {x : Int32} (h : Jv w v) (h1 : 0 ≤ x.toInt) (h2 : x.toInt ≤ 1000) : Jv w (upI v 24 2 x) := jv_up24 h (in_of (by decide +kernel) (by decide) h1 h2) (by decide)
theorem jv_f_24_3 {v : XW} {x : Int32} (h : Jv w v) (h1 : 0 ≤ x.toInt) (h2 : x.toInt ≤ 4) : Jv w (upI v 24 3 x) := jv_up24 h (in_of (by decide +kernel) (by decide) h1 h2) (by decide)
theorem jv_f_24_4 {v : XW} {x : Int32} (h : Jv w v) (h1 : (-2147483648) ≤ x.toInt) (h2 : x.toInt ≤ 2147483647) : Jv w (upI v 24 4 x) := jv_up24 h (in_of (by decide +kernel) (by decide) h1 h2) (by decide)
theorem jv_f_24_5 {v : XW} {x : Int32} (h : Jv w v) (h1 : (-2147483648) ≤ x.toInt) (h2 : x.toInt ≤ 2147483647) : Jv w (upI v 24 5 x) := jv_up24 h (in_of (by decide +kernel) (by decide) h1 h2) (by decide)
-- its own: jv_f_24_6
theorem jv_f_24_7 {v : XW} {x : Int32} (h : Jv w v) (h1 : (-2147483648) ≤ x.toInt) (h2 : x.toInt ≤ 2147483647) : Jv w (upI v 24 7 x) := jv_up24 h (in_of (by decide +kernel) (by decide) h1 h2) (by decide)
theorem jv_f_27_0 {v : XW} {x : Int32} (h : Jv w v) (h1 : (-2147483648) ≤ x.toInt) (h2 : x.toInt ≤ 2147483647) : Jv w (upI v 27 0 x) := jv_up h (in_of (by decide +kernel) (by decide) h1 h2) (by decide) (by decide)
theorem jv_f_27_1 {v : XW} {x : Int32} (h : Jv w v) (h1 : 0 ≤ x.toInt) (h2 : x.toInt ≤ 8) : Jv w (upI v 27 1 x) := jv_up h (in_of (by decide +kernel) (by decide) h1 h2) (by decide) (by decide)
theorem jv_f_27_2 {v : XW} {x : Int32} (h : Jv w v) (h1 : 0 ≤ x.toInt) (h2 : x.toInt ≤ 14) : Jv w (upI v 27 2 x) := jv_up h (in_of (by decide +kernel) (by decide) h1 h2) (by decide) (by decide)
theorem jv_f_27_3 {v : XW} {x : Int32} (h : Jv w v) (h1 : (-2147483648) ≤ x.toInt) (h2 : x.toInt ≤ 2147483647) : Jv w (upI v 27 3 x) := jv_up h (in_of (by decide +kernel) (by decide) h1 h2) (by decide) (by decide)
theorem jv_f_27_4 {v : XW} {x : Int32} (h : Jv w v) (h1 : (-2147483648) ≤ x.toInt) (h2 : x.toInt ≤ 2147483647) : Jv w (upI v 27 4 x) := jv_up h (in_of (by decide +kernel) (by decide) h1 h2) (by decide) (by decide)
theorem jv_f_28_1 {v : XW} {x : Int32} (h : Jv w v) (h1 : 12 ≤ x.toInt) (h2 : x.toInt ≤ 12) : Jv w (upI v 28 1 x) := jv_up h (in_of (by decide +kernel) (by decide) h1 h2) (by decide) (by decide)
theorem jv_f_28_2 {v : XW} {x : Int32} (h : Jv w v) (h1 : 3 ≤ x.toInt) (h2 : x.toInt ≤ 3) : Jv w (upI v 28 2 x) := jv_up h (in_of (by decide +kernel) (by decide) h1 h2) (by decide) (by decide)
theorem jv_f_28_3 {v : XW} {x : Int32} (h : Jv w v) (h1 : 0 ≤ x.toInt) (h2 : x.toInt ≤ 12) : Jv w (upI v 28 3 x) := jv_up h (in_of (by decide +kernel) (by decide) h1 h2) (by decide) (by decide)
theorem jv_f_30_1 {v : XW} {x : Int32} (h : Jv w v) (h1 : 6 ≤ x.toInt) (h2 : x.toInt ≤ 6) : Jv w (upI v 30 1 x) := jv_up h (in_of (by decide +kernel) (by decide) h1 h2) (by decide) (by decide)
theorem jv_f_30_2 {v : XW} {x : Int32} (h : Jv w v) (h1 : 2 ≤ x.toInt) (h2 : x.toInt ≤ 2) : Jv w (upI v 30 2 x) := jv_up h (in_of (by decide +kernel) (by decide) h1 h2) (by decide) (by decide)
theorem jv_f_30_3 {v : XW} {x : Int32} (h : Jv w v) (h1 : 0 ≤ x.toInt) (h2 : x.toInt ≤ 6) : Jv w (upI v 30 3 x) := jv_up h (in_of (by decide +kernel) (by decide) h1 h2) (by decide) (by decide)
theorem jv_f_32_1 {v : XW} {x : Int32} (h : Jv w v) (h1 : 8 ≤ x.toInt) (h2 : x.toInt ≤ 8) : Jv w (upI v 32 1 x) := jv_up h (in_of (by decide +kernel) (by decide) h1 h2) (by decide) (by decide)
theorem jv_f_32_2 {v : XW} {x : Int32} (h : Jv w v) (h1 : 2 ≤ x.toInt) (h2 : x.toInt ≤ 2) : Jv w (upI v 32 2 x) := jv_up h (in_of (by decide +kernel) (by decide) h1 h2) (by decide) (by decide)
theorem jv_f_32_3 {v : XW} {x : Int32} (h : Jv w v) (h1 : 0 ≤ x.toInt) (h2 : x.toInt ≤ 8) : Jv w (upI v 32 3 x) := jv_up h (in_of (by decide +kernel) (by decide) h1 h2) (by decide) (by decide)
theorem jv_f_34_1 {v : XW} {x : Int32} (h : Jv w v) (h1 : 10 ≤ x.toInt) (h2 : x.toInt ≤ 10) : Jv w (upI v 34 1 x) := jv_up h (in_of (by decide +kernel) (by decide) h1 h2) (by decide) (by decide)
theorem jv_f_34_2 {v : XW} {x : Int32} (h : Jv w v) (h1 : 3 ≤ x.toInt) (h2 : x.toInt ≤ 3) : Jv w (upI v 34 2 x) := jv_up h (in_of (by decide +kernel) (by decide) h1 h2) (by decide) (by decide)
theorem jv_f_34_3 {v : XW} {x : Int32} (h : Jv w v) (h1 : 0 ≤ x.toInt) (h2 : x.toInt ≤ 10) : Jv w (upI v 34 3 x) := jv_up h (in_of (by decide +kernel) (by decide) h1 h2) (by decide) (by decide)
theorem jv_f_36_1 {v : XW} {x : Int32} (h : Jv w v) (h1 : 30 ≤ x.toInt) (h2 : x.toInt ≤ 30) : Jv w (upI v 36 1 x) := jv_up h (in_of (by decide +kernel) (by decide) h1 h2) (by decide) (by decide)
theorem jv_f_36_2 {v : XW} {x : Int32} (h : Jv w v) (h1 : 4 ≤ x.toInt) (h2 : x.toInt ≤ 4) : Jv w (upI v 36 2 x) := jv_up h (in_of (by decide +kernel) (by decide) h1 h2) (by decide) (by decide)
theorem jv_f_36_3 {v : XW} {x : Int32} (h : Jv w v) (h1 : 0 ≤ x.toInt) (h2 : x.toInt ≤ 30) : Jv w (upI v 36 3 x) := jv_up h (in_of (by decide +kernel) (by decide) h1 h2) (by decide) (by decide)
theorem jv_f_38_0 {v : XW} {x : Int32} (h : Jv w v) (h1 : (-2147483648) ≤ x.toInt) (h2 : x.toInt ≤ 2147483647) : Jv w (upI v 38 0 x) := jv_up h (in_of (by decide +kernel) (by decide) h1 h2) (by decide) (by decide)
theorem jv_f_38_1 {v : XW} {x : Int32} (h : Jv w v) (h1 : 0 ≤ x.toInt) (h2 : x.toInt ≤ 8) : Jv w (upI v 38 1 x) := jv_up h (in_of (by decide +kernel) (by decide) h1 h2) (by decide) (by decide)
theorem jv_f_38_2 {v : XW} {x : Int32} (h : Jv w v) (h1 : 0 ≤ x.toInt) (h2 : x.toInt ≤ 14) : Jv w (upI v 38 2 x) := jv_up h (in_of (by decide +kernel) (by decide) h1 h2) (by decide) (by decide)
theorem jv_f_38_3 {v : XW} {x : Int32} (h : Jv w v) (h1 : (-2147483648) ≤ x.toInt) (h2 : x.toInt ≤ 2147483647) : Jv w (upI v 38 3 x) := jv_up h (in_of (by decide +kernel) (by decide) h1 h2) (by decide) (by decide)
theorem jv_f_38_4 {v : XW} {x : Int32} (h : Jv w v) (h1 : (-2147483648) ≤ x.toInt) (h2 : x.toInt ≤ 2147483647) : Jv w (upI v 38 4 x) := jv_up h (in_of (by decide +kernel) (by decide) h1 h2) (by decide) (by decide)
theorem jv_f_39_1 {v : XW} {x : Int32} (h : Jv w v) (h1 : 12 ≤ x.toInt) (h2 : x.toInt ≤ 12) : Jv w (upI v 39 1 x) := jv_up h (in_of (by decide +kernel) (by decide) h1 h2) (by decide) (by decide)
theorem jv_f_39_2 {v : XW} {x : Int32} (h : Jv w v) (h1 : 3 ≤ x.toInt) (h2 : x.toInt ≤ 3) : Jv w (upI v 39 2 x) := jv_up h (in_of (by decide +kernel) (by decide) h1 h2) (by decide) (by decide)
theorem jv_f_39_3 {v : XW} {x : Int32} (h : Jv w v) (h1 : 0 ≤ x.toInt) (h2 : x.toInt ≤ 12) : Jv w (upI v 39 3 x) := jv_up h (in_of (by decide +kernel) (by decide) h1 h2) (by decide) (by decide)
theorem jv_f_41_1 {v : XW} {x : Int32} (h : Jv w v) (h1 : 6 ≤ x.toInt) (h2 : x.toInt ≤ 6) : Jv w (upI v 41 1 x) := jv_up h (in_of (by decide +kernel) (by decide) h1 h2) (by decide) (by decide)
theorem jv_f_41_2 {v : XW} {x : Int32} (h : Jv w v) (h1 : 2 ≤ x.toInt) (h2 : x.toInt ≤ 2) : Jv w (upI v 41 2 x) := jv_up h (in_of (by decide +kernel) (by decide) h1 h2) (by decide) (by decide)
theorem jv_f_41_3 {v : XW} {x : Int32} (h : Jv w v) (h1 : 0 ≤ x.toInt) (h2 : x.toInt ≤ 6) : Jv w (upI v 41 3 x) := jv_up h (in_of (by decide +kernel) (by decide) h1 h2) (by decide) (by decide)
theorem jv_f_43_1 {v : XW} {x : Int32} (h : Jv w v) (h1 : 8 ≤ x.toInt) (h2 : x.toInt ≤ 8) : Jv w (upI v 43 1 x) := jv_up h (in_of (by decide +kernel) (by decide) h1 h2) (by decide) (by decide)
theorem jv_f_43_2 {v : XW} {x : Int32} (h : Jv w v) (h1 : 2 ≤ x.toInt) (h2 : x.toInt ≤ 2) : Jv w (upI v 43 2 x) := jv_up h (in_of (by decide +kernel) (by decide) h1 h2) (by decide) (by decide)
theorem jv_f_43_3 {v : XW} {x : Int32} (h : Jv w v) (h1 : 0 ≤ x.toInt) (h2 : x.toInt ≤ 8) : Jv w (upI v 43 3 x) := jv_up h (in_of (by decide +kernel) (by decide) h1 h2) (by decide) (by decide)
theorem jv_f_45_1 {v : XW} {x : Int32} (h : Jv w v) (h1 : 10 ≤ x.toInt) (h2 : x.toInt ≤ 10) : Jv w (upI v 45 1 x) := jv_up h (in_of (by decide +kernel) (by decide) h1 h2) (by decide) (by decide)
theorem jv_f_45_2 {v : XW} {x : Int32} (h : Jv w v) (h1 : 3 ≤ x.toInt) (h2 : x.toInt ≤ 3) : Jv w (upI v 45 2 x) := jv_up h (in_of (by decide +kernel) (by decide) h1 h2) (by decide) (by decide)
theorem jv_f_45_3 {v : XW} {x : Int32} (h : Jv w v) (h1 : 0 ≤ x.toInt) (h2 : x.toInt ≤ 10) : Jv w (upI v 45 3 x) := jv_up h (in_of (by decide +kernel) (by decide) h1 h2) (by decide) (by decide)
theorem jv_f_47_1 {v : XW} {x : Int32} (h : Jv w v) (h1 : 30 ≤ x.toInt) (h2 : x.toInt ≤ 30) : Jv w (upI v 47 1 x) := jv_up h (in_of (by decide +kernel) (by decide) h1 h2) (by decide) (by decide)
theorem jv_f_47_2 {v : XW} {x : Int32} (h : Jv w v) (h1 : 4 ≤ x.toInt) (h2 : x.toInt ≤ 4) : Jv w (upI v 47 2 x) := jv_up h (in_of (by decide +kernel) (by decide) h1 h2) (by decide) (by decide)
theorem jv_f_47_3 {v : XW} {x : Int32} (h : Jv w v) (h1 : 0 ≤ x.toInt) (h2 : x.toInt ≤ 30) : Jv w (upI v 47 3 x) := jv_up h (in_of (by decide +kernel) (by decide) h1 h2) (by decide) (by decide)
theorem jv_f_49_0 {v : XW} {x : Int32} (h : Jv w v) (h1 : (-2147483648) ≤ x.toInt) (h2 : x.toInt ≤ 2147483647) : Jv w (upI v 49 0 x) := jv_up h (in_of (by decide +kernel) (by decide) h1 h2) (by decide) (by decide)
theorem jv_f_49_1 {v : XW} {x : Int32} (h : Jv w v) (h1 : 0 ≤ x.toInt) (h2 : x.toInt ≤ 8) : Jv w (upI v 49 1 x) := jv_up h (in_of (by decide +kernel) (by decide) h1 h2) (by decide) (by decide)
theorem jv_f_49_2 {v : XW} {x : Int32} (h : Jv w v) (h1 : 0 ≤ x.toInt) (h2 : x.toInt ≤ 14) : Jv w (upI v 49 2 x) := jv_up h (in_of (by decide +kernel) (by decide) h1 h2) (by decide) (by decide)
theorem jv_f_49_3 {v : XW} {x : Int32} (h : Jv w v) (h1 : (-2147483648) ≤ x.toInt) (h2 : x.toInt ≤ 2147483647) : Jv w (upI v 49 3 x) := jv_up h (in_of (by decide +kernel) (by decide) h1 h2) (by decide) (by decide)
theorem jv_f_49_4 {v : XW} {x : Int32} (h : Jv w v) (h1 : (-2147483648) ≤ x.toInt) (h2 : x.toInt ≤ 2147483647) : Jv w (upI v 49 4 x) := jv_up h (in_of (by decide +kernel) (by decide) h1 h2) (by decide) (by decide)
theorem jv_f_50_1 {v : XW} {x : Int32} (h : Jv w v) (h1 : 12 ≤ x.toInt) (h2 : x.toInt ≤ 12) : Jv w (upI v 50 1 x) := jv_up h (in_of (by decide +kernel) (by decide) h1 h2) (by decide) (by decide)
theorem jv_f_50_2 {v : XW} {x : Int32} (h : Jv w v) (h1 : 3 ≤ x.toInt) (h2 : x.toInt ≤ 3) : Jv w (upI v 50 2 x) := jv_up h (in_of (by decide +kernel) (by decide) h1 h2) (by decide) (by decide)
theorem jv_f_50_3 {v : XW} {x : Int32} (h : Jv w v) (h1 : 0 ≤ x.toInt) (h2 : x.toInt ≤ 12) : Jv w (upI v 50 3 x) := jv_up h (in_of (by decide +kernel) (by decide) h1 h2) (by decide) (by decide)
theorem jv_f_52_1 {v : XW} {x : Int32} (h : Jv w v) (h1 : 6 ≤ x.toInt) (h2 : x.toInt ≤ 6) : Jv w (upI v 52 1 x) := jv_up h (in_of (by decide +kernel) (by decide) h1 h2) (by decide) (by decide)
theorem jv_f_52_2 {v : XW} {x : Int32} (h : Jv w v) (h1 : 2 ≤ x.toInt) (h2 : x.toInt ≤ 2) : Jv w (upI v 52 2 x) := jv_up h (in_of (by decide +kernel) (by decide) h1 h2) (by decide) (by decide)
theorem jv_f_52_3 {v : XW} {x : Int32} (h : Jv w v) (h1 : 0 ≤ x.toInt) (h2 : x.toInt ≤ 6) : Jv w (upI v 52 3 x) := jv_up h (in_of (by decide +kernel) (by decide) h1 h2) (by decide) (by decide)
theorem jv_f_54_1 {v : XW} {x : Int32} (h : Jv w v) (h1 : 8 ≤ x.toInt) (h2 : x.toInt ≤ 8) : Jv w (upI v 54 1 x) := jv_up h (in_of (by decide +kernel) (by decide) h1 h2) (by decide) (by decide)
theorem jv_f_54_2 {v : XW} {x : Int32} (h : Jv w v) (h1 : 2 ≤ x.toInt) (h2 : x.toInt ≤ 2) : Jv w (upI v 54 2 x) := jv_up h (in_of (by decide +kernel) (by decide) h1 h2) (by decide) (by decide)
theorem jv_f_54_3 {v : XW} {x : Int32} (h : Jv w v) (h1 : 0 ≤ x.toInt) (h2 : x.toInt ≤ 8) : Jv w (upI v 54 3 x) := jv_up h (in_of (by decide +kernel) (by decide) h1 h2) (by decide) (by decide)
theorem jv_f_56_1 {v : XW} {x : Int32} (h : Jv w v) (h1 : 10 ≤ x.toInt) (h2 : x.toInt ≤ 10) : Jv w (upI v 56 1 x) := jv_up h (in_of (by decide +kernel) (by decide) h1 h2) (by decide) (by decide)
theorem jv_f_56_2 {v : XW} {x : Int32} (h : Jv w v) (h1 : 3 ≤ x.toInt) (h2 : x.toInt ≤ 3) : Jv w (upI v 56 2 x) := jv_up h (in_of (by decide +kernel) (by decide) h1 h2) (by decide) (by decide)
theorem jv_f_56_3 {v : XW} {x : Int32} (h : Jv w v) (h1 : 0 ≤ x.toInt) (h2 : x.toInt ≤ 10) : Jv w (upI v 56 3 x) := jv_up h (in_of (by decide +kernel) (by decide) h1 h2) (by decide) (by decide)
theorem jv_f_58_1 {v : XW} {x : Int32} (h : Jv w v) (h1 : 30 ≤ x.toInt) (h2 : x.toInt ≤ 30) : Jv w (upI v 58 1 x) := jv_up h (in_of (by decide +kernel) (by decide) h1 h2) (by decide) (by decide)
theorem jv_f_58_2 {v : XW} {x : Int32} (h : Jv w v) (h1 : 4 ≤ x.toInt) (h2 : x.toInt ≤ 4) : Jv w (upI v 58 2 x) := jv_up h (in_of (by decide +kernel) (by decide) h1 h2) (by decide) (by decide)
theorem jv_f_58_3 {v : XW} {x : Int32} (h : Jv w v) (h1 : 0 ≤ x.toInt) (h2 : x.toInt ≤ 30) : Jv w (upI v 58 3 x) := jv_up h (in_of (by decide +kernel) (by decide) h1 h2) (by decide) (by decide)
-- its own: jv_f_61_1
-- its own: jv_f_61_2
-- its own: jv_f_63_1
-- its own: jv_f_63_2
-- its own: jv_f_65_1
-- its own: jv_f_65_2
-- its own: jv_f_67_1
-- its own: jv_f_67_2
theorem jv_f_69_5 {v : XW} {x : Int32} (h : Jv w v) (h1 : 0 ≤ x.toInt) (h2 : x.toInt ≤ 6) : Jv w (upI v 69 5 x) := jv_up h (in_of (by decide +kernel) (by decide) h1 h2) (by decide) (by decide)
theorem jv_f_69_6 {v : XW} {x : Int32} (h : Jv w v) (h1 : 0 ≤ x.toInt) (h2 : x.toInt ≤ 8) : Jv w (upI v 69 6 x) := jv_up h (in_of (by decide +kernel) (by decide) h1 h2) (by decide) (by decide)
theorem jv_f_69_7 {v : XW} {x : Int32} (h : Jv w v) (h1 : 0 ≤ x.toInt) (h2 : x.toInt ≤ 14) : Jv w (upI v 69 7 x) := jv_up h (in_of (by decide +kernel) (by decide) h1 h2) (by decide) (by decide)
theorem jv_f_75_5 {v : XW} {x : Int32} (h : Jv w v) (h1 : 0 ≤ x.toInt) (h2 : x.toInt ≤ 6) : Jv w (upI v 75 5 x) := jv_up h (in_of (by decide +kernel) (by decide) h1 h2) (by decide) (by decide)
theorem jv_f_75_6 {v : XW} {x : Int32} (h : Jv w v) (h1 : 0 ≤ x.toInt) (h2 : x.toInt ≤ 8) : Jv w (upI v 75 6 x) := jv_up h (in_of (by decide +kernel) (by decide) h1 h2) (by decide) (by decide)
theorem jv_f_75_7 {v : XW} {x : Int32} (h : Jv w v) (h1 : 0 ≤ x.toInt) (h2 : x.toInt ≤ 14) : Jv w (upI v 75 7 x) := jv_up h (in_of (by decide +kernel) (by decide) h1 h2) (by decide) (by decide)
theorem jv_f_81_3 {v : XW} {x : Int32} (h : Jv w v) (h1 : 0 ≤ x.toInt) (h2 : x.toInt ≤ 6) : Jv w (upI v 81 3 x) := jv_up h (in_of (by decide +kernel) (by decide) h1 h2) (by decide) (by decide)
theorem jv_f_81_4 {v : XW} {x : Int32} (h : Jv w v) (h1 : 0 ≤ x.toInt) (h2 : x.toInt ≤ 14) : Jv w (upI v 81 4 x) := jv_up h (in_of (by decide +kernel) (by decide) h1 h2) (by decide) (by decide)
theorem jv_f_81_5 {v : XW} {x : Int32} (h : Jv w v) (h1 : (-2147483648) ≤ x.toInt) (h2 : x.toInt ≤ 2147483647) : Jv w (upI v 81 5 x) := jv_up h (in_of (by decide +kernel) (by decide) h1 h2) (by decide) (by decide)
theorem jv_f_85_3 {v : XW} {x : Int32} (h : Jv w v) (h1 : (-2147483648) ≤ x.toInt) (h2 : x.toInt ≤ 2147483647) : Jv w (upI v 85 3 x) := jv_up h (in_of (by decide +kernel) (by decide) h1 h2) (by decide) (by decide)
theorem jv_f_85_4 {v : XW} {x : Int32} (h : Jv w v) (h1 : (-2147483648) ≤ x.toInt) (h2 : x.toInt ≤ 2147483647) : Jv w (upI v 85 4 x) := jv_up h (in_of (by decide +kernel) (by decide) h1 h2) (by decide) (by decide)
theorem jv_f_85_5 {v : XW} {x : Int32} (h : Jv w v) (h1 : 0 ≤ x.toInt) (h2 : x.toInt ≤ 14) : Jv w (upI v 85 5 x) := jv_up h (in_of (by decide +kernel) (by decide) h1 h2) (by decide) (by decide)
theorem jv_f_85_6 {v : XW} {x : Int32} (h : Jv w v) (h1 : 0 ≤ x.toInt) (h2 : x.toInt ≤ 1) : Jv w (upI v 85 6 x) := jv_up h (in_of (by decide +kernel) (by decide) h1 h2) (by decide) (by decide)
theorem jv_f_85_7 {v : XW} {x : Int32} (h : Jv w v) (h1 : 0 ≤ x.toInt) (h2 : x.toInt ≤ 1) : Jv w (upI v 85 7 x) := jv_up h (in_of (by decide +kernel) (by decide) h1 h2) (by decide) (by decide)
theorem jv_f_89_1 {v : XW} {x : Int32} (h : Jv w v) (h1 : 0 ≤ x.toInt) (h2 : x.toInt ≤ 6) : Jv w (upI v 89 1 x) := jv_up h (in_of (by decide +kernel) (by decide) h1 h2) (by decide) (by decide)
theorem jv_f_89_2 {v : XW} {x : Int32} (h : Jv w v) (h1 : (-2147483648) ≤ x.toInt) (h2 : x.toInt ≤ 2147483647) : Jv w (upI v 89 2 x) := jv_up h (in_of (by decide +kernel) (by decide) h1 h2) (by decide) (by decide)
theorem jv_f_95_0 {v : XW} {x : Int32} (h : Jv w v) (h1 : (-2147483648) ≤ x.toInt) (h2 : x.toInt ≤ 2147483647) : Jv w (upI v 95 0 x) := jv_up95 h (in_of (by decide +kernel) (by decide) h1 h2) (by decide)
theorem jv_f_95_5 {v : XW} {x : Int32} (h : Jv w v) (h1 : 0 ≤ x.toInt) (h2 : x.toInt ≤ 1000) : Jv w (upI v 95 5 x) := jv_up95 h (in_of (by decide +kernel) (by decide) h1 h2) (by decide)
theorem jv_f_95_7 {v : XW} {x : Int32} (h : Jv w v) (h1 : 0 ≤ x.toInt) (h2 : x.toInt ≤ 1000) : Jv w (upI v 95 7 x) := jv_up95 h (in_of (by decide +kernel) (by decide) h1 h2) (by decide)
theorem jv_f_95_8 {v : XW} {x : Int32} (h : Jv w v) (h1 : 0 ≤ x.toInt) (h2 : x.toInt ≤ 1000) : Jv w (upI v 95 8 x) := jv_up95 h (in_of (by decide +kernel) (by decide) h1 h2) (by decide)
theorem jv_f_95_9 {v : XW} {x : Int32} (h : Jv w v) (h1 : 0 ≤ x.toInt) (h2 : x.toInt ≤ 1000) : Jv w (upI v 95 9 x) := jv_up95 h (in_of (by decide +kernel) (by decide) h1 h2) (by decide)
theorem jv_f_95_10 {v : XW} {x : Int32} (h : Jv w v) (h1 : 0 ≤ x.toInt) (h2 : x.toInt ≤ 4) : Jv w (upI v 95 10 x) := jv_up95 h (in_of (by decide +kernel) (by decide) h1 h2) (by decide)
theorem jv_f_95_11 {v : XW} {x : Int32} (h : Jv w v) (h1 : 0 ≤ x.toInt) (h2 : x.toInt ≤ 99999) : Jv w (upI v 95 11 x) := jv_up95 h (in_of (by decide +kernel) (by decide) h1 h2) (by decide)
-- its own: jv_f_95_12
theorem jv_f_95_13 {v : XW} {x : Int32} (h : Jv w v) (h1 : (-2147483648) ≤ x.toInt) (h2 : x.toInt ≤ 2147483647) : Jv w (upI v 95 13 x) := jv_up95 h (in_of (by decide +kernel) (by decide) h1 h2) (by decide)
theorem jv_f_95_16 {v : XW} {x : Int32} (h : Jv w v) (h1 : (-2147483648) ≤ x.toInt) (h2 : x.toInt ≤ 2147483647) : Jv w (upI v 95 16 x) := jv_up95 h (in_of (by decide +kernel) (by decide) h1 h2) (by decide)
theorem jv_f_95_17 {v : XW} {x : Int32} (h : Jv w v) (h1 : (-2147483648) ≤ x.toInt) (h2 : x.toInt ≤ 2147483647) : Jv w (upI v 95 17 x) := jv_up95 h (in_of (by decide +kernel) (by decide) h1 h2) (by decide)
theorem jv_f_95_21 {v : XW} {x : Int32} (h : Jv w v) (h1 : (-2147483648) ≤ x.toInt) (h2 : x.toInt ≤ 2147483647) : Jv w (upI v 95 21 x) := jv_up95 h (in_of (by decide +kernel) (by decide) h1 h2) (by decide)
theorem jv_f_95_22 {v : XW} {x : Int32} (h : Jv w v) (h1 : (-2147483648) ≤ x.toInt) (h2 : x.toInt ≤ 2147483647) : Jv w (upI v 95 22 x) := jv_up95 h (in_of (by decide +kernel) (by decide) h1 h2) (by decide)
theorem jv_f_95_23 {v : XW} {x : Int32} (h : Jv w v) (h1 : (-2147483648) ≤ x.toInt) (h2 : x.toInt ≤ 2147483647) : Jv w (upI v 95 23 x) := jv_up95 h (in_of (by decide +kernel) (by decide) h1 h2) (by decide)
theorem jv_f_95_24 {v : XW} {x : Int32} (h : Jv w v) (h1 : (-2147483648) ≤ x.toInt) (h2 : x.toInt ≤ 2147483647) : Jv w (upI v 95 24 x) := jv_up95 h (in_of (by decide +kernel) (by decide) h1 h2) (by decide)
theorem jv_f_95_25 {v : XW} {x : Int32} (h : Jv w v) (h1 : (-2147483648) ≤ x.toInt) (h2 : x.toInt ≤ 2147483647) : Jv w (upI v 95 25 x) := jv_up95 h (in_of (by decide +kernel) (by decide) h1 h2) (by decide)
theorem jv_f_95_32 {v : XW} {x : Int32} (h : Jv w v) (h1 : (-2147483648) ≤ x.toInt) (h2 : x.toInt ≤ 2147483647) : Jv w (upI v 95 32 x) := jv_up95 h (in_of (by decide +kernel) (by decide) h1 h2) (by decide)
theorem jv_a_4 {v : XW} {k : Nat} {x : Int32} (h : Jv w v) (h1 : (-2147483648) ≤ x.toInt) (h2 : x.toInt ≤ 2147483647) : Jv w (upI v 4 k x) := jv_up h (in_of (show rgo 4 k = ((-2147483648), 2147483647) from rfl) (by decide) h1 h2) (by decide) (by decide)
theorem jv_a_6 {v : XW} {k : Nat} {x : Int32} (h : Jv w v) (h1 : (-2147483648) ≤ x.toInt) (h2 : x.toInt ≤ 2147483647) : Jv w (upI v 6 k x) := jv_up h (in_of (show rgo 6 k = ((-2147483648), 2147483647) from rfl) (by decide) h1 h2) (by decide) (by decide)
theorem jv_a_8 {v : XW} {k : Nat} {x : Int32} (h : Jv w v) (h1 : (-2147483648) ≤ x.toInt) (h2 : x.toInt ≤ 2147483647) : Jv w (upI v 8 k x) := jv_up h (in_of (show rgo 8 k = ((-2147483648), 2147483647) from rfl) (by decide) h1 h2) (by decide) (by decide)
theorem jv_a_10 {v : XW} {k : Nat} {x : Int32} (h : Jv w v) (h1 : (-2147483648) ≤ x.toInt) (h2 : x.toInt ≤ 2147483647) : Jv w (upI v 10 k x) := jv_up h (in_of (show rgo 10 k = ((-2147483648), 2147483647) from rfl) (by decide) h1 h2) (by decide) (by decide)
theorem jv_a_12 {v : XW} {k : Nat} {x : Int32} (h : Jv w v) (h1 : (-2147483648) ≤ x.toInt) (h2 : x.toInt ≤ 2147483647) : Jv w (upI v 12 k x) := jv_up h (in_of (show rgo 12 k = ((-2147483648), 2147483647) from rfl) (by decide) h1 h2) (by decide) (by decide)
theorem jv_a_15 {v : XW} {k : Nat} {x : Int32} (h : Jv w v) (h1 : (-2147483648) ≤ x.toInt) (h2 : x.toInt ≤ 2147483647) : Jv w (upI v 15 k x) := jv_up h (in_of (show rgo 15 k = ((-2147483648), 2147483647) from rfl) (by decide) h1 h2) (by decide) (by decide)
theorem jv_a_17 {v : XW} {k : Nat} {x : Int32} (h : Jv w v) (h1 : (-2147483648) ≤ x.toInt) (h2 : x.toInt ≤ 2147483647) : Jv w (upI v 17 k x) := jv_up h (in_of (show rgo 17 k = ((-2147483648), 2147483647) from rfl) (by decide) h1 h2) (by decide) (by decide)
theorem jv_a_19 {v : XW} {k : Nat} {x : Int32} (h : Jv w v) (h1 : (-2147483648) ≤ x.toInt) (h2 : x.toInt ≤ 2147483647) : Jv w (upI v 19 k x) := jv_up h (in_of (show rgo 19 k = ((-2147483648), 2147483647) from rfl) (by decide) h1 h2) (by decide) (by decide)
theorem jv_a_21 {v : XW} {k : Nat} {x : Int32} (h : Jv w v) (h1 : (-2147483648) ≤ x.toInt) (h2 : x.toInt ≤ 2147483647) : Jv w (upI v 21 k x) := jv_up h (in_of (show rgo 21 k = ((-2147483648), 2147483647) from rfl) (by decide) h1 h2) (by decide) (by decide)
theorem jv_a_23 {v : XW} {k : Nat} {x : Int32} (h : Jv w v) (h1 : (-2147483648) ≤ x.toInt) (h2 : x.toInt ≤ 2147483647) : Jv w (upI v 23 k x) := jv_up h (in_of (show rgo 23 k = ((-2147483648), 2147483647) from rfl) (by decide) h1 h2) (by decide) (by decide)
theorem jv_a_29 {v : XW} {k : Nat} {x : Int32} (h : Jv w v) (h1 : (-2147483648) ≤ x.toInt) (h2 : x.toInt ≤ 2147483647) : Jv w (upI v 29 k x) := jv_up h (in_of (show rgo 29 k = ((-2147483648), 2147483647) from rfl) (by decide) h1 h2) (by decide) (by decide)
theorem jv_a_31 {v : XW} {k : Nat} {x : Int32} (h : Jv w v) (h1 : (-2147483648) ≤ x.toInt) (h2 : x.toInt ≤ 2147483647) : Jv w (upI v 31 k x) := jv_up h (in_of (show rgo 31 k = ((-2147483648), 2147483647) from rfl) (by decide) h1 h2) (by decide) (by decide)
theorem jv_a_33 {v : XW} {k : Nat} {x : Int32} (h : Jv w v) (h1 : (-2147483648) ≤ x.toInt) (h2 : x.toInt ≤ 2147483647) : Jv w (upI v 33 k x) := jv_up h (in_of (show rgo 33 k = ((-2147483648), 2147483647) from rfl) (by decide) h1 h2) (by decide) (by decide)
theorem jv_a_35 {v : XW} {k : Nat} {x : Int32} (h : Jv w v) (h1 : (-2147483648) ≤ x.toInt) (h2 : x.toInt ≤ 2147483647) : Jv w (upI v 35 k x) := jv_up h (in_of (show rgo 35 k = ((-2147483648), 2147483647) from rfl) (by decide) h1 h2) (by decide) (by decide)
theorem jv_a_37 {v : XW} {k : Nat} {x : Int32} (h : Jv w v) (h1 : (-2147483648) ≤ x.toInt) (h2 : x.toInt ≤ 2147483647) : Jv w (upI v 37 k x) := jv_up h (in_of (show rgo 37 k = ((-2147483648), 2147483647) from rfl) (by decide) h1 h2) (by decide) (by decide)
theorem jv_a_40 {v : XW} {k : Nat} {x : Int32} (h : Jv w v) (h1 : (-2147483648) ≤ x.toInt) (h2 : x.toInt ≤ 2147483647) : Jv w (upI v 40 k x) := jv_up h (in_of (show rgo 40 k = ((-2147483648), 2147483647) from rfl) (by decide) h1 h2) (by decide) (by decide)
theorem jv_a_42 {v : XW} {k : Nat} {x : Int32} (h : Jv w v) (h1 : (-2147483648) ≤ x.toInt) (h2 : x.toInt ≤ 2147483647) : Jv w (upI v 42 k x) := jv_up h (in_of (show rgo 42 k = ((-2147483648), 2147483647) from rfl) (by decide) h1 h2) (by decide) (by decide)
theorem jv_a_44 {v : XW} {k : Nat} {x : Int32} (h : Jv w v) (h1 : (-2147483648) ≤ x.toInt) (h2 : x.toInt ≤ 2147483647) : Jv w (upI v 44 k x) := jv_up h (in_of (show rgo 44 k = ((-2147483648), 2147483647) from rfl) (by decide) h1 h2) (by decide) (by decide)
theorem jv_a_46 {v : XW} {k : Nat} {x : Int32} (h : Jv w v) (h1 : (-2147483648) ≤ x.toInt) (h2 : x.toInt ≤ 2147483647) : Jv w (upI v 46 k x) := jv_up h (in_of (show rgo 46 k = ((-2147483648), 2147483647) from rfl) (by decide) h1 h2) (by decide) (by decide)
theorem jv_a_48 {v : XW} {k : Nat} {x : Int32} (h : Jv w v) (h1 : (-2147483648) ≤ x.toInt) (h2 : x.toInt ≤ 2147483647) : Jv w (upI v 48 k x) := jv_up h (in_of (show rgo 48 k = ((-2147483648), 2147483647) from rfl) (by decide) h1 h2) (by decide) (by decide)
theorem jv_a_51 {v : XW} {k : Nat} {x : Int32} (h : Jv w v) (h1 : (-2147483648) ≤ x.toInt) (h2 : x.toInt ≤ 2147483647) : Jv w (upI v 51 k x) := jv_up h (in_of (show rgo 51 k = ((-2147483648), 2147483647) from rfl) (by decide) h1 h2) (by decide) (by decide)
theorem jv_a_53 {v : XW} {k : Nat} {x : Int32} (h : Jv w v) (h1 : (-2147483648) ≤ x.toInt) (h2 : x.toInt ≤ 2147483647) : Jv w (upI v 53 k x) := jv_up h (in_of (show rgo 53 k = ((-2147483648), 2147483647) from rfl) (by decide) h1 h2) (by decide) (by decide)
theorem jv_a_55 {v : XW} {k : Nat} {x : Int32} (h : Jv w v) (h1 : (-2147483648) ≤ x.toInt) (h2 : x.toInt ≤ 2147483647) : Jv w (upI v 55 k x) := jv_up h (in_of (show rgo 55 k = ((-2147483648), 2147483647) from rfl) (by decide) h1 h2) (by decide) (by decide)
theorem jv_a_57 {v : XW} {k : Nat} {x : Int32} (h : Jv w v) (h1 : (-2147483648) ≤ x.toInt) (h2 : x.toInt ≤ 2147483647) : Jv w (upI v 57 k x) := jv_up h (in_of (show rgo 57 k = ((-2147483648), 2147483647) from rfl) (by decide) h1 h2) (by decide) (by decide)
theorem jv_a_59 {v : XW} {k : Nat} {x : Int32} (h : Jv w v) (h1 : (-2147483648) ≤ x.toInt) (h2 : x.toInt ≤ 2147483647) : Jv w (upI v 59 k x) := jv_up h (in_of (show rgo 59 k = ((-2147483648), 2147483647) from rfl) (by decide) h1 h2) (by decide) (by decide)
theorem jv_a_70 {v : XW} {k : Nat} {x : Int32} (h : Jv w v) (h1 : (-2147483648) ≤ x.toInt) (h2 : x.toInt ≤ 2147483647) : Jv w (upI v 70 k x) := jv_up h (in_of (show rgo 70 k = ((-2147483648), 2147483647) from rfl) (by decide) h1 h2) (by decide) (by decide)
theorem jv_a_71 {v : XW} {k : Nat} {x : Int32} (h : Jv w v) (h1 : (-2147483648) ≤ x.toInt) (h2 : x.toInt ≤ 2147483647) : Jv w (upI v 71 k x) := jv_up h (in_of (show rgo 71 k = ((-2147483648), 2147483647) from rfl) (by decide) h1 h2) (by decide) (by decide)
theorem jv_a_72 {v : XW} {k : Nat} {x : Int32} (h : Jv w v) (h1 : (-2147483648) ≤ x.toInt) (h2 : x.toInt ≤ 2147483647) : Jv w (upI v 72 k x) := jv_up h (in_of (show rgo 72 k = ((-2147483648), 2147483647) from rfl) (by decide) h1 h2) (by decide) (by decide)
theorem jv_a_73 {v : XW} {k : Nat} {x : Int32} (h : Jv w v) (h1 : (-2147483648) ≤ x.toInt) (h2 : x.toInt ≤ 2147483647) : Jv w (upI v 73 k x) := jv_up h (in_of (show rgo 73 k = ((-2147483648), 2147483647) from rfl) (by decide) h1 h2) (by decide) (by decide)
theorem jv_a_74 {v : XW} {k : Nat} {x : Int32} (h : Jv w v) (h1 : (-2147483648) ≤ x.toInt) (h2 : x.toInt ≤ 2147483647) : Jv w (upI v 74 k x) := jv_up h (in_of (show rgo 74 k = ((-2147483648), 2147483647) from rfl) (by decide) h1 h2) (by decide) (by decide)
theorem jv_a_76 {v : XW} {k : Nat} {x : Int32} (h : Jv w v) (h1 : (-2147483648) ≤ x.toInt) (h2 : x.toInt ≤ 2147483647) : Jv w (upI v 76 k x) := jv_up h (in_of (show rgo 76 k = ((-2147483648), 2147483647) from rfl) (by decide) h1 h2) (by decide) (by decide)
theorem jv_a_77 {v : XW} {k : Nat} {x : Int32} (h : Jv w v) (h1 : (-2147483648) ≤ x.toInt) (h2 : x.toInt ≤ 2147483647) : Jv w (upI v 77 k x) := jv_up h (in_of (show rgo 77 k = ((-2147483648), 2147483647) from rfl) (by decide) h1 h2) (by decide) (by decide)
theorem jv_a_78 {v : XW} {k : Nat} {x : Int32} (h : Jv w v) (h1 : (-2147483648) ≤ x.toInt) (h2 : x.toInt ≤ 2147483647) : Jv w (upI v 78 k x) := jv_up h (in_of (show rgo 78 k = ((-2147483648), 2147483647) from rfl) (by decide) h1 h2) (by decide) (by decide)
theorem jv_a_79 {v : XW} {k : Nat} {x : Int32} (h : Jv w v) (h1 : (-2147483648) ≤ x.toInt) (h2 : x.toInt ≤ 2147483647) : Jv w (upI v 79 k x) := jv_up h (in_of (show rgo 79 k = ((-2147483648), 2147483647) from rfl) (by decide) h1 h2) (by decide) (by decide)
theorem jv_a_80 {v : XW} {k : Nat} {x : Int32} (h : Jv w v) (h1 : (-2147483648) ≤ x.toInt) (h2 : x.toInt ≤ 2147483647) : Jv w (upI v 80 k x) := jv_up h (in_of (show rgo 80 k = ((-2147483648), 2147483647) from rfl) (by decide) h1 h2) (by decide) (by decide)
theorem jv_a_82 {v : XW} {k : Nat} {x : Int32} (h : Jv w v) (h1 : (-2147483648) ≤ x.toInt) (h2 : x.toInt ≤ 2147483647) : Jv w (upI v 82 k x) := jv_up h (in_of (show rgo 82 k = ((-2147483648), 2147483647) from rfl) (by decide) h1 h2) (by decide) (by decide)
theorem jv_a_83 {v : XW} {k : Nat} {x : Int32} (h : Jv w v) (h1 : (-2147483648) ≤ x.toInt) (h2 : x.toInt ≤ 2147483647) : Jv w (upI v 83 k x) := jv_up h (in_of (show rgo 83 k = ((-2147483648), 2147483647) from rfl) (by decide) h1 h2) (by decide) (by decide)
theorem jv_a_84 {v : XW} {k : Nat} {x : Int32} (h : Jv w v) (h1 : (-2147483648) ≤ x.toInt) (h2 : x.toInt ≤ 2147483647) : Jv w (upI v 84 k x) := jv_up h (in_of (show rgo 84 k = ((-2147483648), 2147483647) from rfl) (by decide) h1 h2) (by decide) (by decide)
theorem jv_a_86 {v : XW} {k : Nat} {x : Int32} (h : Jv w v) (h1 : (-2147483648) ≤ x.toInt) (h2 : x.toInt ≤ 2147483647) : Jv w (upI v 86 k x) := jv_up h (in_of (show rgo 86 k = ((-2147483648), 2147483647) from rfl) (by decide) h1 h2) (by decide) (by decide)
theorem jv_a_87 {v : XW} {k : Nat} {x : Int32} (h : Jv w v) (h1 : (-2147483648) ≤ x.toInt) (h2 : x.toInt ≤ 2147483647) : Jv w (upI v 87 k x) := jv_up h (in_of (show rgo 87 k = ((-2147483648), 2147483647) from rfl) (by decide) h1 h2) (by decide) (by decide)
theorem jv_a_88 {v : XW} {k : Nat} {x : Int32} (h : Jv w v) (h1 : (-2147483648) ≤ x.toInt) (h2 : x.toInt ≤ 2147483647) : Jv w (upI v 88 k x) := jv_up h (in_of (show rgo 88 k = ((-2147483648), 2147483647) from rfl) (by decide) h1 h2) (by decide) (by decide)
theorem jv_a_90 {v : XW} {k : Nat} {x : Int32} (h : Jv w v) (h1 : (-2147483648) ≤ x.toInt) (h2 : x.toInt ≤ 2147483647) : Jv w (upI v 90 k x) := jv_up h (in_of (show rgo 90 k = ((-2147483648), 2147483647) from rfl) (by decide) h1 h2) (by decide) (by decide)
theorem jv_a_94 {v : XW} {k : Nat} {x : Int32} (h : Jv w v) (h1 : (-2147483648) ≤ x.toInt) (h2 : x.toInt ≤ 2147483647) : Jv w (upI v 94 k x) := jv_up h (in_of (show rgo 94 k = ((-2147483648), 2147483647) from rfl) (by decide) h1 h2) (by decide) (by decide)
theorem jv_a_100 {v : XW} {k : Nat} {x : Int32} (h : Jv w v) (h1 : (-2147483648) ≤ x.toInt) (h2 : x.toInt ≤ 2147483647) : Jv w (upI v 100 k x) := jv_up h (in_of (show rgo 100 k = ((-2147483648), 2147483647) from rfl) (by decide) h1 h2) (by decide) (by decide)
theorem jv_a_102 {v : XW} {k : Nat} {x : Int32} (h : Jv w v) (h1 : 0 ≤ x.toInt) (h2 : x.toInt ≤ 1000000000) : Jv w (upI v 102 k x) := jv_up h (in_of (show rgo 102 k = (0, 1000000000) from rfl) (by decide) h1 h2) (by decide) (by decide)
theorem jv_a_103 {v : XW} {k : Nat} {x : Int32} (h : Jv w v) (h1 : 0 ≤ x.toInt) (h2 : x.toInt ≤ 7) : Jv w (upI v 103 k x) := jv_up h (in_of (show rgo 103 k = (0, 7) from rfl) (by decide) h1 h2) (by decide) (by decide)
theorem jv_a_104 {v : XW} {k : Nat} {x : Int32} (h : Jv w v) (h1 : 0 ≤ x.toInt) (h2 : x.toInt ≤ 5) : Jv w (upI v 104 k x) := jv_up h (in_of (show rgo 104 k = (0, 5) from rfl) (by decide) h1 h2) (by decide) (by decide)
theorem jv_a_105 {v : XW} {k : Nat} {x : Int32} (h : Jv w v) (h1 : (-2147483648) ≤ x.toInt) (h2 : x.toInt ≤ 2147483647) : Jv w (upI v 105 k x) := jv_up h (in_of (show rgo 105 k = ((-2147483648), 2147483647) from rfl) (by decide) h1 h2) (by decide) (by decide)
theorem jv_a_106 {v : XW} {k : Nat} {x : Int32} (h : Jv w v) (h1 : (-2147483648) ≤ x.toInt) (h2 : x.toInt ≤ 2147483647) : Jv w (upI v 106 k x) := jv_up h (in_of (show rgo 106 k = ((-2147483648), 2147483647) from rfl) (by decide) h1 h2) (by decide) (by decide)
theorem jv_a_107 {v : XW} {k : Nat} {x : Int32} (h : Jv w v) (h1 : (-1) ≤ x.toInt) (h2 : x.toInt ≤ 14) : Jv w (upI v 107 k x) := jv_up h (in_of (show rgo 107 k = ((-1), 14) from rfl) (by decide) h1 h2) (by decide) (by decide)
theorem jv_a_108 {v : XW} {k : Nat} {x : Int32} (h : Jv w v) (h1 : (-1) ≤ x.toInt) (h2 : x.toInt ≤ 5) : Jv w (upI v 108 k x) := jv_up h (in_of (show rgo 108 k = ((-1), 5) from rfl) (by decide) h1 h2) (by decide) (by decide)
theorem jv_a_110 {v : XW} {k : Nat} {x : Int32} (h : Jv w v) (h1 : 0 ≤ x.toInt) (h2 : x.toInt ≤ 7) : Jv w (upI v 110 k x) := jv_up h (in_of (show rgo 110 k = (0, 7) from rfl) (by decide) h1 h2) (by decide) (by decide)
theorem jv_a_111 {v : XW} {k : Nat} {x : Int32} (h : Jv w v) (h1 : (-1) ≤ x.toInt) (h2 : x.toInt ≤ 14) : Jv w (upI v 111 k x) := jv_up h (in_of (show rgo 111 k = ((-1), 14) from rfl) (by decide) h1 h2) (by decide) (by decide)
-- its own: jv_a_112
-- its own: jv_a_113
theorem jv_c_4_29 {v : XW} {x y n : Nat} (h : Jv w v) : Jv w (stI v 29 (va_cpy (v.2.2.1 4) (v.2.2.1 29) x y n)) := jv_st h (fun k => in_of (show rgo 29 k = (-2147483648, 2147483647) from rfl) (by decide) (z32 _).1 (z32 _).2) (by decide) (by decide)
theorem jv_c_4_40 {v : XW} {x y n : Nat} (h : Jv w v) : Jv w (stI v 40 (va_cpy (v.2.2.1 4) (v.2.2.1 40) x y n)) := jv_st h (fun k => in_of (show rgo 40 k = (-2147483648, 2147483647) from rfl) (by decide) (z32 _).1 (z32 _).2) (by decide) (by decide)
theorem jv_c_4_51 {v : XW} {x y n : Nat} (h : Jv w v) : Jv w (stI v 51 (va_cpy (v.2.2.1 4) (v.2.2.1 51) x y n)) := jv_st h (fun k => in_of (show rgo 51 k = (-2147483648, 2147483647) from rfl) (by decide) (z32 _).1 (z32 _).2) (by decide) (by decide)
theorem jv_c_6_31 {v : XW} {x y n : Nat} (h : Jv w v) : Jv w (stI v 31 (va_cpy (v.2.2.1 6) (v.2.2.1 31) x y n)) := jv_st h (fun k => in_of (show rgo 31 k = (-2147483648, 2147483647) from rfl) (by decide) (z32 _).1 (z32 _).2) (by decide) (by decide)
theorem jv_c_6_42 {v : XW} {x y n : Nat} (h : Jv w v) : Jv w (stI v 42 (va_cpy (v.2.2.1 6) (v.2.2.1 42) x y n)) := jv_st h (fun k => in_of (show rgo 42 k = (-2147483648, 2147483647) from rfl) (by decide) (z32 _).1 (z32 _).2) (by decide) (by decide)
theorem jv_c_6_53 {v : XW} {x y n : Nat} (h : Jv w v) : Jv w (stI v 53 (va_cpy (v.2.2.1 6) (v.2.2.1 53) x y n)) := jv_st h (fun k => in_of (show rgo 53 k = (-2147483648, 2147483647) from rfl) (by decide) (z32 _).1 (z32 _).2) (by decide) (by decide)
theorem jv_c_8_33 {v : XW} {x y n : Nat} (h : Jv w v) : Jv w (stI v 33 (va_cpy (v.2.2.1 8) (v.2.2.1 33) x y n)) := jv_st h (fun k => in_of (show rgo 33 k = (-2147483648, 2147483647) from rfl) (by decide) (z32 _).1 (z32 _).2) (by decide) (by decide)
theorem jv_c_8_44 {v : XW} {x y n : Nat} (h : Jv w v) : Jv w (stI v 44 (va_cpy (v.2.2.1 8) (v.2.2.1 44) x y n)) := jv_st h (fun k => in_of (show rgo 44 k = (-2147483648, 2147483647) from rfl) (by decide) (z32 _).1 (z32 _).2) (by decide) (by decide)
theorem jv_c_8_55 {v : XW} {x y n : Nat} (h : Jv w v) : Jv w (stI v 55 (va_cpy (v.2.2.1 8) (v.2.2.1 55) x y n)) := jv_st h (fun k => in_of (show rgo 55 k = (-2147483648, 2147483647) from rfl) (by decide) (z32 _).1 (z32 _).2) (by decide) (by decide)
theorem jv_c_10_35 {v : XW} {x y n : Nat} (h : Jv w v) : Jv w (stI v 35 (va_cpy (v.2.2.1 10) (v.2.2.1 35) x y n)) := jv_st h (fun k => in_of (show rgo 35 k = (-2147483648, 2147483647) from rfl) (by decide) (z32 _).1 (z32 _).2) (by decide) (by decide)
theorem jv_c_10_46 {v : XW} {x y n : Nat} (h : Jv w v) : Jv w (stI v 46 (va_cpy (v.2.2.1 10) (v.2.2.1 46) x y n)) := jv_st h (fun k => in_of (show rgo 46 k = (-2147483648, 2147483647) from rfl) (by decide) (z32 _).1 (z32 _).2) (by decide) (by decide)
theorem jv_c_10_57 {v : XW} {x y n : Nat} (h : Jv w v) : Jv w (stI v 57 (va_cpy (v.2.2.1 10) (v.2.2.1 57) x y n)) := jv_st h (fun k => in_of (show rgo 57 k = (-2147483648, 2147483647) from rfl) (by decide) (z32 _).1 (z32 _).2) (by decide) (by decide)
theorem jv_c_12_37 {v : XW} {x y n : Nat} (h : Jv w v) : Jv w (stI v 37 (va_cpy (v.2.2.1 12) (v.2.2.1 37) x y n)) := jv_st h (fun k => in_of (show rgo 37 k = (-2147483648, 2147483647) from rfl) (by decide) (z32 _).1 (z32 _).2) (by decide) (by decide)
theorem jv_c_12_48 {v : XW} {x y n : Nat} (h : Jv w v) : Jv w (stI v 48 (va_cpy (v.2.2.1 12) (v.2.2.1 48) x y n)) := jv_st h (fun k => in_of (show rgo 48 k = (-2147483648, 2147483647) from rfl) (by decide) (z32 _).1 (z32 _).2) (by decide) (by decide)
theorem jv_c_12_59 {v : XW} {x y n : Nat} (h : Jv w v) : Jv w (stI v 59 (va_cpy (v.2.2.1 12) (v.2.2.1 59) x y n)) := jv_st h (fun k => in_of (show rgo 59 k = (-2147483648, 2147483647) from rfl) (by decide) (z32 _).1 (z32 _).2) (by decide) (by decide)
theorem jv_c_15_4 {v : XW} {x y n : Nat} (h : Jv w v) : Jv w (stI v 4 (va_cpy (v.2.2.1 15) (v.2.2.1 4) x y n)) := jv_st h (fun k => in_of (show rgo 4 k = (-2147483648, 2147483647) from rfl) (by decide) (z32 _).1 (z32 _).2) (by decide) (by decide)
theorem jv_c_17_6 {v : XW} {x y n : Nat} (h : Jv w v) : Jv w (stI v 6 (va_cpy (v.2.2.1 17) (v.2.2.1 6) x y n)) := jv_st h (fun k => in_of (show rgo 6 k = (-2147483648, 2147483647) from rfl) (by decide) (z32 _).1 (z32 _).2) (by decide) (by decide)
theorem jv_c_19_8 {v : XW} {x y n : Nat} (h : Jv w v) : Jv w (stI v 8 (va_cpy (v.2.2.1 19) (v.2.2.1 8) x y n)) := jv_st h (fun k => in_of (show rgo 8 k = (-2147483648, 2147483647) from rfl) (by decide) (z32 _).1 (z32 _).2) (by decide) (by decide)
theorem jv_c_21_10 {v : XW} {x y n : Nat} (h : Jv w v) : Jv w (stI v 10 (va_cpy (v.2.2.1 21) (v.2.2.1 10) x y n)) := jv_st h (fun k => in_of (show rgo 10 k = (-2147483648, 2147483647) from rfl) (by decide) (z32 _).1 (z32 _).2) (by decide) (by decide)
theorem jv_c_23_12 {v : XW} {x y n : Nat} (h : Jv w v) : Jv w (stI v 12 (va_cpy (v.2.2.1 23) (v.2.2.1 12) x y n)) := jv_st h (fun k => in_of (show rgo 12 k = (-2147483648, 2147483647) from rfl) (by decide) (z32 _).1 (z32 _).2) (by decide) (by decide)
theorem jv_c_29_4 {v : XW} {x y n : Nat} (h : Jv w v) : Jv w (stI v 4 (va_cpy (v.2.2.1 29) (v.2.2.1 4) x y n)) := jv_st h (fun k => in_of (show rgo 4 k = (-2147483648, 2147483647) from rfl) (by decide) (z32 _).1 (z32 _).2) (by decide) (by decide)
theorem jv_c_31_6 {v : XW} {x y n : Nat} (h : Jv w v) : Jv w (stI v 6 (va_cpy (v.2.2.1 31) (v.2.2.1 6) x y n)) := jv_st h (fun k => in_of (show rgo 6 k = (-2147483648, 2147483647) from rfl) (by decide) (z32 _).1 (z32 _).2) (by decide) (by decide)
theorem jv_c_33_8 {v : XW} {x y n : Nat} (h : Jv w v) : Jv w (stI v 8 (va_cpy (v.2.2.1 33) (v.2.2.1 8) x y n)) := jv_st h (fun k => in_of (show rgo 8 k = (-2147483648, 2147483647) from rfl) (by decide) (z32 _).1 (z32 _).2) (by decide) (by decide)
theorem jv_c_35_10 {v : XW} {x y n : Nat} (h : Jv w v) : Jv w (stI v 10 (va_cpy (v.2.2.1 35) (v.2.2.1 10) x y n)) := jv_st h (fun k => in_of (show rgo 10 k = (-2147483648, 2147483647) from rfl) (by decide) (z32 _).1 (z32 _).2) (by decide) (by decide)
theorem jv_c_37_12 {v : XW} {x y n : Nat} (h : Jv w v) : Jv w (stI v 12 (va_cpy (v.2.2.1 37) (v.2.2.1 12) x y n)) := jv_st h (fun k => in_of (show rgo 12 k = (-2147483648, 2147483647) from rfl) (by decide) (z32 _).1 (z32 _).2) (by decide) (by decide)
theorem jv_c_40_4 {v : XW} {x y n : Nat} (h : Jv w v) : Jv w (stI v 4 (va_cpy (v.2.2.1 40) (v.2.2.1 4) x y n)) := jv_st h (fun k => in_of (show rgo 4 k = (-2147483648, 2147483647) from rfl) (by decide) (z32 _).1 (z32 _).2) (by decide) (by decide)
theorem jv_c_42_6 {v : XW} {x y n : Nat} (h : Jv w v) : Jv w (stI v 6 (va_cpy (v.2.2.1 42) (v.2.2.1 6) x y n)) := jv_st h (fun k => in_of (show rgo 6 k = (-2147483648, 2147483647) from rfl) (by decide) (z32 _).1 (z32 _).2) (by decide) (by decide)
theorem jv_c_44_8 {v : XW} {x y n : Nat} (h : Jv w v) : Jv w (stI v 8 (va_cpy (v.2.2.1 44) (v.2.2.1 8) x y n)) := jv_st h (fun k => in_of (show rgo 8 k = (-2147483648, 2147483647) from rfl) (by decide) (z32 _).1 (z32 _).2) (by decide) (by decide)
theorem jv_c_46_10 {v : XW} {x y n : Nat} (h : Jv w v) : Jv w (stI v 10 (va_cpy (v.2.2.1 46) (v.2.2.1 10) x y n)) := jv_st h (fun k => in_of (show rgo 10 k = (-2147483648, 2147483647) from rfl) (by decide) (z32 _).1 (z32 _).2) (by decide) (by decide)
theorem jv_c_48_12 {v : XW} {x y n : Nat} (h : Jv w v) : Jv w (stI v 12 (va_cpy (v.2.2.1 48) (v.2.2.1 12) x y n)) := jv_st h (fun k => in_of (show rgo 12 k = (-2147483648, 2147483647) from rfl) (by decide) (z32 _).1 (z32 _).2) (by decide) (by decide)
theorem jv_c_51_4 {v : XW} {x y n : Nat} (h : Jv w v) : Jv w (stI v 4 (va_cpy (v.2.2.1 51) (v.2.2.1 4) x y n)) := jv_st h (fun k => in_of (show rgo 4 k = (-2147483648, 2147483647) from rfl) (by decide) (z32 _).1 (z32 _).2) (by decide) (by decide)
theorem jv_c_53_6 {v : XW} {x y n : Nat} (h : Jv w v) : Jv w (stI v 6 (va_cpy (v.2.2.1 53) (v.2.2.1 6) x y n)) := jv_st h (fun k => in_of (show rgo 6 k = (-2147483648, 2147483647) from rfl) (by decide) (z32 _).1 (z32 _).2) (by decide) (by decide)
theorem jv_c_55_8 {v : XW} {x y n : Nat} (h : Jv w v) : Jv w (stI v 8 (va_cpy (v.2.2.1 55) (v.2.2.1 8) x y n)) := jv_st h (fun k => in_of (show rgo 8 k = (-2147483648, 2147483647) from rfl) (by decide) (z32 _).1 (z32 _).2) (by decide) (by decide)
theorem jv_c_57_10 {v : XW} {x y n : Nat} (h : Jv w v) : Jv w (stI v 10 (va_cpy (v.2.2.1 57) (v.2.2.1 10) x y n)) := jv_st h (fun k => in_of (show rgo 10 k = (-2147483648, 2147483647) from rfl) (by decide) (z32 _).1 (z32 _).2) (by decide) (by decide)
theorem jv_c_59_12 {v : XW} {x y n : Nat} (h : Jv w v) : Jv w (stI v 12 (va_cpy (v.2.2.1 59) (v.2.2.1 12) x y n)) := jv_st h (fun k => in_of (show rgo 12 k = (-2147483648, 2147483647) from rfl) (by decide) (z32 _).1 (z32 _).2) (by decide) (by decide)
theorem jv_c_70_76 {v : XW} {x y n : Nat} (h : Jv w v) : Jv w (stI v 76 (va_cpy (v.2.2.1 70) (v.2.2.1 76) x y n)) := jv_st h (fun k => in_of (show rgo 76 k = (-2147483648, 2147483647) from rfl) (by decide) (z32 _).1 (z32 _).2) (by decide) (by decide)
theorem jv_c_73_79 {v : XW} {x y n : Nat} (h : Jv w v) : Jv w (stI v 79 (va_cpy (v.2.2.1 73) (v.2.2.1 79) x y n)) := jv_st h (fun k => in_of (show rgo 79 k = (-2147483648, 2147483647) from rfl) (by decide) (z32 _).1 (z32 _).2) (by decide) (by decide)
theorem jv_c_74_80 {v : XW} {x y n : Nat} (h : Jv w v) : Jv w (stI v 80 (va_cpy (v.2.2.1 74) (v.2.2.1 80) x y n)) := jv_st h (fun k => in_of (show rgo 80 k = (-2147483648, 2147483647) from rfl) (by decide) (z32 _).1 (z32 _).2) (by decide) (by decide)
theorem jv_b_1 {v : XW} {k : Nat} {x : Int32} (h : Jv w v) : Jv w (upI v 1 k (vp_nar .byte x)) := jv_up h (in_of (show rgo 1 k = (-128, 127) from rfl) (by decide) (nar_byte x).1 (nar_byte x).2) (by decide) (by decide)
-- its own: jv_b_26
-- its own: jv_b_98
theorem jv_b_99 {v : XW} {k : Nat} {x : Int32} (h : Jv w v) : Jv w (upI v 99 k (vp_nar .byte x)) := jv_up h (in_of (show rgo 99 k = (-128, 127) from rfl) (by decide) (nar_byte x).1 (nar_byte x).2) (by decide) (by decide)
theorem jv_b_109 {v : XW} {k : Nat} {x : Int32} (h : Jv w v) (h1 : x = 0 ∨ x = 1) : Jv w (upI v 109 k (vp_nar .boolean x)) := jv_up h (in_of (show rgo 109 k = (0, 1) from rfl) (by decide) (nar_bool h1).1 (nar_bool h1).2) (by decide) (by decide)
end XJ
