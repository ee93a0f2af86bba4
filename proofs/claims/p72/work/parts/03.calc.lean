/-! ===== the calculus: worlds by number =====
A world w = (n, refs, ints, longs): n cells at the addresses b, b + 1, ..; cell c has the shape xS c; what it holds: refs (0 null, q + 1 the cell q), ints, longs. A value on the stack: AI an int, AL a long, AR a cell, AX an address outside. -/
abbrev XW : Type := Nat × (Nat → Nat → Nat) × (Nat → Nat → Int32) × (Nat → Nat → Int64)
abbrev AV : Type := Int32 ⊕ Int64 ⊕ Nat ⊕ Nat
abbrev AI (x : Int32) : AV := .inl x
abbrev AL (x : Int64) : AV := .inr (.inl x)
abbrev AR (c : Nat) : AV := .inr (.inr (.inl c))
abbrev AX (a : Nat) : AV := .inr (.inr (.inr a))
def cv (b : Nat) : AV → Value
  | .inl x => .int x
  | .inr (.inl x) => .long x
  | .inr (.inr (.inl c)) => .ref (b + c)
  | .inr (.inr (.inr 0)) => .null
  | .inr (.inr (.inr (a + 1))) => .ref a
def rv (b : Nat) : Nat → Option Nat
  | 0 => none
  | q + 1 => some (b + q)
def isI : FieldType → Bool
  | .long => false
  | .object _ => false
  | .array _ => false
  | _ => true
def isRf : FieldType → Bool
  | .object _ => true
  | .array _ => true
  | _ => false
def xF (b : Nat) (w : XW) (c : Nat) (t : FieldType) (k : Nat) : Value := match t with
  | .long => .long (w.2.2.2 c k)
  | .object _ => va_rf (rv b (w.2.1 c k))
  | .array _ => va_rf (rv b (w.2.1 c k))
  | _ => .int (w.2.2.1 c k)
def xE (aC : Nat → ClassId) (b : Nat) (w : XW) (c : Nat) : va_E :=
  if (xS c).1 < 100 then .inr ((xS c).1, (List.range (xS c).2).map (fun k => xF b w c (xT (xS c).1 k) k))
  else .inl (aC (xS c).1, (xS c).2, if (xS c).1 = 101 then .inr (.inl (w.2.2.2 c)) else if (xS c).1 < 104 then .inl (w.2.2.1 c) else .inr (.inr (.inr (.inr (fun j => rv b (w.2.1 c j))))))
def xL (aC : Nat → ClassId) (b : Nat) (w : XW) : va_W := (List.range w.1).map (fun c => (b + c, xE aC b w c))
def xTys (aC : Nat → ClassId) : List (ClassId × FieldType) := [(aC 100, .int), (aC 101, .long), (aC 102, .byte), (aC 103, .boolean), (aC 104, .object "HoopCabinet$Ball"), (aC 105, .object "HoopCabinet$Slot")]
abbrev xA (b : Nat) : Nat → Prop := fun q => b ≤ q
theorem xL_at {aC : Nat → ClassId} {b : Nat} {w : XW} {c : Nat} (h : c < w.1) : (xL aC b w)[c]? = some (b + c, xE aC b w c) := by
  simp [xL, h]
theorem xL_lt {aC : Nat → ClassId} {b : Nat} {w : XW} {c : Nat} {q : Nat × va_E} (h : (xL aC b w)[c]? = some q) : c < w.1 ∧ q = (b + c, xE aC b w c) := by
  have hl : c < (xL aC b w).length := (List.getElem?_eq_some_iff.mp h).1
  have hl2 : c < w.1 := by simpa [xL] using hl
  rw [xL_at hl2] at h
  exact ⟨hl2, (Option.some.inj h).symm⟩
theorem xL_D {aC : Nat → ClassId} {b : Nat} {w : XW} : va_D (xA b) (xL aC b w) := by
  refine ⟨fun i j p q hi hj hpq => ?_, fun k q hk => ?_⟩
  · obtain ⟨-, rfl⟩ := xL_lt hi
    obtain ⟨-, rfl⟩ := xL_lt hj
    exact Nat.add_left_cancel hpq
  · obtain ⟨-, rfl⟩ := xL_lt hk
    exact Nat.le_add_right b k
theorem xL_set {aC : Nat → ClassId} {b : Nat} {w w' : XW} {c : Nat} {e : va_E} (hE : xE aC b w' c = e) (hn : w'.1 = w.1) (ho : ∀ j, j ≠ c → xE aC b w' j = xE aC b w j) : (xL aC b w).set c (b + c, e) = xL aC b w' := by
  apply List.ext_getElem?
  intro j
  by_cases hj : j < w.1
  · rw [xL_at (w := w') (by rw [hn]; exact hj)]
    by_cases hc : c = j
    · subst hc
      rw [List.getElem?_set_self (by simpa [xL] using hj), hE]
    · rw [List.getElem?_set_ne hc, xL_at hj, ho j (fun z => hc z.symm)]
  · rw [List.getElem?_eq_none (by simp [xL]; omega), List.getElem?_eq_none (by simp [xL, hn]; omega)]
def upI (w : XW) (c k : Nat) (x : Int32) : XW := (w.1, w.2.1, va_up w.2.2.1 c (upd (w.2.2.1 c) k x), w.2.2.2)
def upL (w : XW) (c k : Nat) (x : Int64) : XW := (w.1, w.2.1, w.2.2.1, va_up w.2.2.2 c (vp_updL (w.2.2.2 c) k x))
def upR (w : XW) (c k : Nat) (x : Nat) : XW := (w.1, va_up w.2.1 c (va_up (w.2.1 c) k x), w.2.2.1, w.2.2.2)
def stI (w : XW) (c : Nat) (f : Nat → Int32) : XW := (w.1, w.2.1, va_up w.2.2.1 c f, w.2.2.2)
def stL (w : XW) (c : Nat) (f : Nat → Int64) : XW := (w.1, w.2.1, w.2.2.1, va_up w.2.2.2 c f)
theorem xE_obj {aC : Nat → ClassId} {b : Nat} {w : XW} {c ci N : Nat} (h : xS c = (ci, N)) (hc : ci < 100) : xE aC b w c = .inr (ci, (List.range N).map (fun k => xF b w c (xT ci k) k)) := by
  unfold xE; rw [h]; exact if_pos hc
theorem xE_ai {aC : Nat → ClassId} {b : Nat} {w : XW} {c kd N : Nat} (h : xS c = (kd, N)) (hk : kd = 100 ∨ kd = 102 ∨ kd = 103) : xE aC b w c = .inl (aC kd, N, .inl (w.2.2.1 c)) := by
  unfold xE; rw [h]
  show (if kd < 100 then _ else _) = _
  rw [if_neg (by omega)]
  show Sum.inl (aC kd, N, if kd = 101 then _ else if kd < 104 then _ else _) = _
  rw [if_neg (by omega), if_pos (by omega)]
theorem xE_al {aC : Nat → ClassId} {b : Nat} {w : XW} {c N : Nat} (h : xS c = (101, N)) : xE aC b w c = .inl (aC 101, N, .inr (.inl (w.2.2.2 c))) := by
  unfold xE; rw [h]; rfl
theorem xE_ar {aC : Nat → ClassId} {b : Nat} {w : XW} {c kd N : Nat} (h : xS c = (kd, N)) (hk : kd = 104 ∨ kd = 105) : xE aC b w c = .inl (aC kd, N, .inr (.inr (.inr (.inr (fun j => rv b (w.2.1 c j)))))) := by
  unfold xE; rw [h]
  show (if kd < 100 then _ else _) = _
  rw [if_neg (by omega)]
  show Sum.inl (aC kd, N, if kd = 101 then _ else if kd < 104 then _ else _) = _
  rw [if_neg (by omega), if_neg (by omega)]
theorem xE_other {aC : Nat → ClassId} {b : Nat} {w w' : XW} {j : Nat} (hr : w'.2.1 j = w.2.1 j) (hi : w'.2.2.1 j = w.2.2.1 j) (hl : w'.2.2.2 j = w.2.2.2 j) : xE aC b w' j = xE aC b w j := by
  have hF : ∀ (t : FieldType) (k : Nat), xF b w' j t k = xF b w j t k := by
    intro t k
    unfold xF
    rw [hr, hi, hl]
  unfold xE
  simp only [hF, hr, hi, hl]
theorem xF_int {b : Nat} {w : XW} {c : Nat} {t : FieldType} {k : Nat} (h : isI t = true) : xF b w c t k = .int (w.2.2.1 c k) := by
  unfold xF
  split <;> first | rfl | (simp [isI] at h)
theorem xF_long {b : Nat} {w : XW} {c : Nat} {k : Nat} : xF b w c .long k = .long (w.2.2.2 c k) := rfl
theorem xF_ref {b : Nat} {w : XW} {c : Nat} {t : FieldType} {k : Nat} (h : isRf t = true) : xF b w c t k = va_rf (rv b (w.2.1 c k)) := by
  unfold xF
  split <;> first | rfl | (simp [isRf] at h)
/-- the world at a heap, at a state -/
def xH (D : va_G) (aC : Nat → ClassId) (b : Nat) (w : XW) (H : Heap) : Prop := va_P D vwCl (xL aC b w) H ∧ H.size = b + w.1
def isNest : Cond → Bool
  | .fieldLinkNest _ _ _ _ _ _ => true
  | .methodLinkNest _ _ _ _ => true
  | .arrayOver (.object _) => true
  | _ => false
def okW (w : Cond) : Bool := goodWord w || isNest w
/-- the tables' words, at a state -/
def Gl (U : State) : Prop := ∀ w ∈ lw_tbl, okW w = true → ∀ A : Array Value, w.before A U = true
theorem Gl.warm {s U : State} (hW : s.WarmedH U.vm) (h : Gl s) : Gl U := by
  intro w hw ho A
  unfold okW at ho
  cases hg : goodWord w with
  | true => exact word_at hW (good_of_word hg) (h w hw (by unfold okW; rw [hg]; rfl) #[])
  | false =>
    rw [hg] at ho
    have hn : isNest w = true := by simpa using ho
    have h0 := h w hw (by unfold okW; rw [hn]; simp) #[]
    match w, hn, h0 with
    | .fieldLinkNest _ _ _ _ _ _, _, h0 => exact va_Nw.use rfl (va_Nw.warmF hW (va_Nw.of rfl h0))
    | .methodLinkNest _ _ _ _, _, h0 => exact va_Nw.use rfl (va_Nw.warmM hW (va_Nw.of rfl h0))
    | .arrayOver (.object _), _, h0 => exact va_AO.use (va_AO.moved hW.alike (va_AO.of h0))
/-! String constants: the i-th lies at aC (1000 + i), its bytes at aC (2000 + i) -/
def sNm : List (String × Nat × String) := [("HoopCabinet$Reader", 89, "ball"), ("HoopCabinet$Reader", 94, "rooms"), ("HoopCabinet$Reader", 101, "dances"), ("HoopCabinet$Reader", 105, "law"), ("HoopCabinet$Reader", 109, "odds"), ("HoopCabinet$Reader", 61, "door"), ("HoopCabinet$Reader", 124, "to"), ("HoopCabinet$Reader", 130, "wide"), ("HoopCabinet$Reader", 70, "lady"), ("HoopCabinet$Reader", 141, "in"), ("HoopCabinet$Reader", 75, "minister"), ("HoopCabinet$Reader", 146, "under"), ("HoopCabinet$Reader", 151, "seats"), ("HoopCabinet$Reader", 80, "bid"), ("HoopCabinet$Reader", 156, "at"), ("HoopCabinetModel", 168, "ball"), ("HoopCabinetModel", 170, "rooms"), ("HoopCabinetModel", 172, "dances"), ("HoopCabinetModel", 174, "law"), ("HoopCabinetModel", 176, "odds"), ("HoopCabinetModel", 187, "door"), ("HoopCabinetModel", 189, "lady"), ("HoopCabinetModel", 191, "minister"), ("HoopCabinetModel", 193, "bid"), ("HoopCabinetModel", 178, "to"), ("HoopCabinetModel", 180, "wide"), ("HoopCabinetModel", 201, "in"), ("HoopCabinetModel", 202, "under"), ("HoopCabinetModel", 204, "seats"), ("HoopCabinetModel", 186, "at")]
def sLen : List Nat := [4, 5, 6, 3, 4, 4, 2, 4, 4, 2, 8, 5, 5, 3, 2, 4, 5, 6, 3, 4, 4, 4, 8, 3, 2, 4, 2, 5, 5, 2]
def sByt : List (List Int32) := [[98, 97, 108, 108], [114, 111, 111, 109, 115], [100, 97, 110, 99, 101, 115], [108, 97, 119], [111, 100, 100, 115], [100, 111, 111, 114], [116, 111], [119, 105, 100, 101], [108, 97, 100, 121], [105, 110], [109, 105, 110, 105, 115, 116, 101, 114], [117, 110, 100, 101, 114], [115, 101, 97, 116, 115], [98, 105, 100], [97, 116], [98, 97, 108, 108], [114, 111, 111, 109, 115], [100, 97, 110, 99, 101, 115], [108, 97, 119], [111, 100, 100, 115], [100, 111, 111, 114], [108, 97, 100, 121], [109, 105, 110, 105, 115, 116, 101, 114], [98, 105, 100], [116, 111], [119, 105, 100, 101], [105, 110], [117, 110, 100, 101, 114], [115, 101, 97, 116, 115], [97, 116]]
/-- the char at k -/
def chS (i k : Nat) : Int32 := (sByt.getD i []).getD k 0 &&& 255
abbrev sA (aC : Nat → ClassId) (i : Nat) : Nat := aC (1000 + i) + 1
def Sx1 (aC : Nat → ClassId) (b : Nat) (U : State) (H : Heap) (i : Nat) : Prop := va_O "java/lang/String" (aC (1000 + i)) (xA b) U H ∧ va_OF "java/lang/String" "coder" "B" (.int 0) (aC (1000 + i)) (xA b) U H ∧ va_OF "java/lang/String" "value" "[B" (.ref (aC (2000 + i))) (aC (1000 + i)) (xA b) U H ∧ va_T .byte (aC (2000 + i)) (sLen.getD i 0) (fun j => .int ((sByt.getD i []).getD j 0)) (xA b) U H
def Sx (aC : Nat → ClassId) (b : Nat) (U : State) (H : Heap) : Prop := (∀ i, i < 30 → Sx1 aC b U H i ∧ vk_R (sNm.getD i ("", 0, "")).1 (sNm.getD i ("", 0, "")).2.1 (sNm.getD i ("", 0, "")).2.2 (aC (1000 + i)) U) ∧ va_Z "java/lang/String" "COMPACT_STRINGS" "Z" (.int 1) (xA b) U H ∧ va_Zq "jdk/internal/util/Preconditions" "SIOOBE_FORMATTER" "Ljava/util/function/BiFunction;" (xA b) U H
theorem Sx.warm {aC : Nat → ClassId} {b : Nat} {u U : State} {H : Heap} (hW : u.WarmedH U.vm) (hq : ∀ a : Nat, a < u.heap.size → ¬ xA b a → H[a]? = u.heap[a]?) (h : Sx aC b u u.heap) : Sx aC b U H :=
  ⟨fun i hi => ⟨⟨(va_O.moved hW.alike (h.1 i hi).1.1).kept hq, (va_OF.moved hW.alike (h.1 i hi).1.2.1).kept hq, (va_OF.moved hW.alike (h.1 i hi).1.2.2.1).kept hq, (va_T.moved hW.alike (h.1 i hi).1.2.2.2).kept hq⟩, vk_R.warm hW (h.1 i hi).2⟩, (va_Z.moved hW.alike h.2.1).kept hq, (va_Zq.moved hW.alike h.2.2).kept hq⟩
def xU (D : va_G) (aC : Nat → ClassId) (b : Nat) (w : XW) (U : State) : Prop := xH D aC b w U.heap ∧ va_K D vwCl (xTys aC) U ∧ Gl U ∧ Sx aC b U U.heap
theorem xU.blind {D : va_G} {aC : Nat → ClassId} {b : Nat} {w : XW} {U : State} (g : JFrame) (mk : MethodId) (a : Array Value) (h : xU D aC b w U) : xU D aC b w (U.calling g mk a) :=
  ⟨h.1, va_K.moved (u := U) (U := U.calling g mk a) (Vm.Alike.refl U.vm) h.2.1, Gl.warm (s := U) (U := U.calling g mk a) (State.WarmedH.refl U) h.2.2.1, Sx.warm (u := U) (U := U.calling g mk a) (State.WarmedH.refl U) (fun _ _ _ => rfl) h.2.2.2⟩
/-- locals: by their places -/
def lvl (b : Nat) : Nat → List (Option AV) → List (Nat × Value)
  | _, [] => []
  | i, none :: r => lvl b (i + 1) r
  | i, some v :: r => (i, cv b v) :: lvl b (i + 1) r
theorem lvl_mem {b : Nat} {q : Nat × Value} : ∀ {L : List (Option AV)} {i : Nat}, q ∈ lvl b i L ↔ ∃ (j : Nat) (v : AV), L[j]? = some (some v) ∧ q = (i + j, cv b v)
  | [], i => by simp [lvl]
  | none :: r, i => by
    rw [lvl, lvl_mem (L := r) (i := i + 1)]
    constructor
    · rintro ⟨j, v, h1, h2⟩
      exact ⟨j + 1, v, by simpa using h1, by rw [h2]; congr 1; omega⟩
    · rintro ⟨j, v, h1, h2⟩
      cases j with
      | zero => simp at h1
      | succ j => exact ⟨j, v, by simpa using h1, by rw [h2]; congr 1; omega⟩
  | some u :: r, i => by
    rw [lvl, List.mem_cons, lvl_mem (L := r) (i := i + 1)]
    constructor
    · rintro (h | ⟨j, v, h1, h2⟩)
      · exact ⟨0, u, by simp, by rw [h]; rfl⟩
      · exact ⟨j + 1, v, by simpa using h1, by rw [h2]; congr 1; omega⟩
    · rintro ⟨j, v, h1, h2⟩
      cases j with
      | zero =>
        left
        simp at h1
        rw [h2, h1]; rfl
      | succ j => exact Or.inr ⟨j, v, by simpa using h1, by rw [h2]; congr 1; omega⟩
def xl (b : Nat) (ls : Array Slot) (nL : Nat) (L : List (Option AV)) : Prop := lv_has ls nL (lvl b 0 L)
theorem xl_at {b : Nat} {ls : Array Slot} {nL : Nat} {L : List (Option AV)} (h : xl b ls nL L) {i : Nat} {v : AV} (hi : L[i]? = some (some v)) : ls[i]? = some (.val (cv b v)) :=
  h.2.2 (i, cv b v) (lvl_mem.mpr ⟨i, v, hi, by rw [Nat.zero_add]⟩)
def isLg : Option (Option AV) → Bool
  | some (some (.inr (.inl _))) => true
  | _ => false
def st0 (L : List (Option AV)) (i : Nat) : List (Option AV) := match isLg L[i - 1]? with
  | true => L.set (i - 1) none
  | false => L
def st1 (L : List (Option AV)) (i : Nat) (v : AV) : List (Option AV) := (st0 L i).set i (some v)
def st2 (L : List (Option AV)) (i : Nat) (v : AV) : List (Option AV) := ((st0 L i).set i (some v)).set (i + 1) none
theorem st0_get {L : List (Option AV)} {i j : Nat} {u : AV} (h : (st0 L i)[j]? = some (some u)) : L[j]? = some (some u) ∧ ¬ (j + 1 = i ∧ ∃ x, u = AL x) := by
  unfold st0 at h
  cases hg : isLg L[i - 1]? with
  | true =>
    rw [hg] at h
    have h : (L.set (i - 1) none)[j]? = some (some u) := h
    by_cases hj : i - 1 = j
    · subst hj
      rw [List.getElem?_set] at h
      simp at h
    · rw [List.getElem?_set_ne hj] at h
      exact ⟨h, fun ⟨h1, _⟩ => hj (by omega)⟩
  | false =>
    rw [hg] at h
    have h : L[j]? = some (some u) := h
    refine ⟨h, fun ⟨h1, x, h2⟩ => ?_⟩
    subst h1
    rw [Nat.add_sub_cancel, h, h2] at hg
    simp [isLg] at hg
theorem cv_cat2 {b : Nat} {u : AV} (h : (cv b u).category = 2) : ∃ x, u = AL x := by
  match u, h with
  | .inl x, h => simp [cv, Value.category] at h
  | .inr (.inl x), _ => exact ⟨x, rfl⟩
  | .inr (.inr (.inl x)), h => simp [cv, Value.category] at h
  | .inr (.inr (.inr 0)), h => simp [cv, Value.category] at h
  | .inr (.inr (.inr (x + 1))), h => simp [cv, Value.category] at h
theorem xl_st1 {b : Nat} {ls : Array Slot} {nL : Nat} {L : List (Option AV)} {i : Nat} {v : AV} (h : lv_has ls nL ((i, cv b v) :: (lvl b 0 L).filter (fun q => !(q.1 == i) && !(q.1 + 1 == i && q.2.category == 2)))) : xl b ls nL (st1 L i v) := by
  refine ⟨h.1, h.2.1, fun q hq => h.2.2 q ?_⟩
  obtain ⟨j, u, hj, rfl⟩ := lvl_mem.mp hq
  rw [Nat.zero_add]
  by_cases hji : i = j
  · subst hji
    unfold st1 at hj
    rw [List.getElem?_set] at hj
    simp at hj
    rw [hj.2]
    exact List.mem_cons_self
  · unfold st1 at hj
    rw [List.getElem?_set_ne hji] at hj
    obtain ⟨h1, h2⟩ := st0_get hj
    refine List.mem_cons_of_mem _ (List.mem_filter.mpr ⟨lvl_mem.mpr ⟨j, u, h1, by rw [Nat.zero_add]⟩, ?_⟩)
    by_cases h3 : j + 1 = i ∧ (cv b u).category = 2
    · exact absurd ⟨h3.1, cv_cat2 h3.2⟩ h2
    · by_cases h4 : j + 1 = i
      · have h5 : ¬ (cv b u).category = 2 := fun z => h3 ⟨h4, z⟩
        simp [h5, Ne.symm hji]
      · simp [h4, Ne.symm hji]
theorem xl_st2 {b : Nat} {ls : Array Slot} {nL : Nat} {L : List (Option AV)} {i : Nat} {v : AV} (h : lv_has ls nL ((i, cv b v) :: (lvl b 0 L).filter (fun q => !(q.1 == i) && (!(q.1 == i + 1) && !(q.1 + 1 == i && q.2.category == 2))))) : xl b ls nL (st2 L i v) := by
  refine ⟨h.1, h.2.1, fun q hq => h.2.2 q ?_⟩
  obtain ⟨j, u, hj, rfl⟩ := lvl_mem.mp hq
  rw [Nat.zero_add]
  unfold st2 at hj
  by_cases hj2 : i + 1 = j
  · subst hj2
    rw [List.getElem?_set] at hj
    simp at hj
  · rw [List.getElem?_set_ne hj2] at hj
    by_cases hji : i = j
    · subst hji
      rw [List.getElem?_set] at hj
      simp at hj
      rw [hj.2]
      exact List.mem_cons_self
    · rw [List.getElem?_set_ne hji] at hj
      obtain ⟨h1, h2⟩ := st0_get hj
      refine List.mem_cons_of_mem _ (List.mem_filter.mpr ⟨lvl_mem.mpr ⟨j, u, h1, by rw [Nat.zero_add]⟩, ?_⟩)
      by_cases h3 : j + 1 = i ∧ (cv b u).category = 2
      · exact absurd ⟨h3.1, cv_cat2 h3.2⟩ h2
      · by_cases h4 : j + 1 = i
        · have h5 : ¬ (cv b u).category = 2 := fun z => h3 ⟨h4, z⟩
          simp [h5, Ne.symm hji, Ne.symm hj2]
        · simp [h4, Ne.symm hji, Ne.symm hj2]
def entL : List AV → List (Option AV)
  | [] => []
  | .inr (.inl x) :: r => some (AL x) :: none :: entL r
  | v :: r => some v :: entL r
theorem lvl_none {b : Nat} : ∀ (n i : Nat), lvl b i (List.replicate n none) = []
  | 0, i => rfl
  | n + 1, i => by rw [List.replicate_succ, lvl]; exact lvl_none n (i + 1)
theorem lvl_ent {b n : Nat} : ∀ (A : List AV) (i : Nat), lvl b i (entL A ++ List.replicate n none) = lv_args i (A.map (cv b))
  | [], i => by simp [entL, lv_args, lvl_none]
  | .inl x :: r, i => by
    show (i, cv b (AI x)) :: lvl b (i + 1) (entL r ++ List.replicate n none) = _
    rw [lvl_ent r (i + 1)]; rfl
  | .inr (.inl x) :: r, i => by
    show (i, cv b (AL x)) :: lvl b (i + 1 + 1) (entL r ++ List.replicate n none) = _
    rw [lvl_ent r (i + 1 + 1)]; rfl
  | .inr (.inr (.inl x)) :: r, i => by
    show (i, cv b (AR x)) :: lvl b (i + 1) (entL r ++ List.replicate n none) = _
    rw [lvl_ent r (i + 1)]; rfl
  | .inr (.inr (.inr 0)) :: r, i => by
    show (i, cv b (AX 0)) :: lvl b (i + 1) (entL r ++ List.replicate n none) = _
    rw [lvl_ent r (i + 1)]; rfl
  | .inr (.inr (.inr (x + 1))) :: r, i => by
    show (i, cv b (AX (x + 1))) :: lvl b (i + 1) (entL r ++ List.replicate n none) = _
    rw [lvl_ent r (i + 1)]; rfl
theorem lg_ent {b : Nat} : ∀ (A : List AV), (lg_sl (A.map (cv b))).length = (entL A).length
  | [] => rfl
  | .inl x :: r => by
    show (lg_sl (r.map (cv b))).length + 1 = _
    rw [lg_ent r]; rfl
  | .inr (.inl x) :: r => by
    show (lg_sl (r.map (cv b))).length + 1 + 1 = _
    rw [lg_ent r]; rfl
  | .inr (.inr (.inl x)) :: r => by
    show (lg_sl (r.map (cv b))).length + 1 = _
    rw [lg_ent r]; rfl
  | .inr (.inr (.inr 0)) :: r => by
    show (lg_sl (r.map (cv b))).length + 1 = _
    rw [lg_ent r]; rfl
  | .inr (.inr (.inr (x + 1))) :: r => by
    show (lg_sl (r.map (cv b))).length + 1 = _
    rw [lg_ent r]; rfl
