section XS
variable {p : Program} {l : Launch} {e : Env} {R : Room} {s : State} {m : MethodId} {args : Array Value} {below : List Frame} {meth : Method} {c : Code} {Q : State → Prop}
variable {D : va_G} {aC : Nat → ClassId} {b nL : Nat} {cc : ByteArray} {own : String} {ret : Option FieldType}
variable {pc : Nat} {L : List (Option AV)} {S : List AV} {w : XW} {cs sl : Nat}
theorem s_topR {x y : Nat} (h : x = y) (kk : Wv p l e R s m args below meth c Q D aC b nL pc L (AR y :: S) w cs sl) : Wv p l e R s m args below meth c Q D aC b nL pc L (AR x :: S) w cs sl := h ▸ kk
theorem vp_c {i : Int32} {n : Nat} (h : ¬ (i < 0 ∨ n ≤ i.toNatClampNeg)) : vp_in i n := h
theorem ltn {n q : Nat} (hn : w.1 = n) (h : q < n) : q < w.1 := by rw [hn]; exact h
theorem cn_I {y : MethodName} {cod : ByteArray} {mL fr lo mc ms : Nat} {nm : String} {A : List AV} {L0 : List (Option AV)} {post : Int32 → XW → Prop} (hy : plainName y.cls = true) (ho : y.cls = own) (hn : y.name = nm) (hA : (entL A).length ≤ mL) (hL : entL A ++ List.replicate (mL - (entL A).length) none = L0)
    (body : ∀ (p : Program) (e : Env) (s : State) (m : MethodId) (args : Array Value) (below : List Frame) (meth : Method) (c : Code), EE p s m meth c D aC b mL cod own ret → meth.name = nm → Wv p l e (rmF fr lo mc ms) s m args below meth c (MQ below (va_Qi post (xU D aC b) (xA b)) args s mc ms (xA b)) D aC b mL 0 L0 [] w 0 0) : CnI l D aC b (y, cod, mL, ret) fr lo mc ms A w post := by
  subst ho; subst hn
  exact cn_body (M := (y, cod, mL, ret)) hy hA hL body
theorem cn_L {y : MethodName} {cod : ByteArray} {mL fr lo mc ms : Nat} {nm : String} {A : List AV} {L0 : List (Option AV)} {post : Int64 → XW → Prop} (hy : plainName y.cls = true) (ho : y.cls = own) (hn : y.name = nm) (hA : (entL A).length ≤ mL) (hL : entL A ++ List.replicate (mL - (entL A).length) none = L0)
    (body : ∀ (p : Program) (e : Env) (s : State) (m : MethodId) (args : Array Value) (below : List Frame) (meth : Method) (c : Code), EE p s m meth c D aC b mL cod own ret → meth.name = nm → Wv p l e (rmF fr lo mc ms) s m args below meth c (MQ below (va_Ql post (xU D aC b) (xA b)) args s mc ms (xA b)) D aC b mL 0 L0 [] w 0 0) : CnL l D aC b (y, cod, mL, ret) fr lo mc ms A w post := by
  subst ho; subst hn
  exact cn_body (M := (y, cod, mL, ret)) hy hA hL body
theorem cn_V {y : MethodName} {cod : ByteArray} {mL fr lo mc ms : Nat} {nm : String} {A : List AV} {L0 : List (Option AV)} {post : XW → Prop} (hy : plainName y.cls = true) (ho : y.cls = own) (hn : y.name = nm) (hA : (entL A).length ≤ mL) (hL : entL A ++ List.replicate (mL - (entL A).length) none = L0)
    (body : ∀ (p : Program) (e : Env) (s : State) (m : MethodId) (args : Array Value) (below : List Frame) (meth : Method) (c : Code), EE p s m meth c D aC b mL cod own ret → meth.name = nm → Wv p l e (rmF fr lo mc ms) s m args below meth c (MQ below (va_Qv post (xU D aC b) (xA b)) args s mc ms (xA b)) D aC b mL 0 L0 [] w 0 0) : CnV l D aC b (y, cod, mL, ret) fr lo mc ms A w post := by
  subst ho; subst hn
  exact cn_body (M := (y, cod, mL, ret)) hy hA hL body
/-- what is known of a world: how many cells; references; ints; cells that are all 0 -/
def Fc (n : Nat) (rt : List (Nat × Nat × Nat)) (it : List (Nat × Nat × Int32)) (zt : List (Nat × Nat)) (w : XW) : Prop := w.1 = n ∧ (∀ q ∈ rt, w.2.1 q.1 q.2.1 = q.2.2) ∧ (∀ q ∈ it, w.2.2.1 q.1 q.2.1 = q.2.2) ∧ (∀ q ∈ zt, ∀ k, k < q.2 → w.2.2.1 q.1 k = 0)
variable {n : Nat} {rt : List (Nat × Nat × Nat)} {it : List (Nat × Nat × Int32)} {zt : List (Nat × Nat)}
theorem fc_r (h : Fc n rt it zt w) {c k v : Nat} (hm : (c, k, v) ∈ rt) : w.2.1 c k = v := h.2.1 _ hm
theorem fc_i (h : Fc n rt it zt w) {c k : Nat} {v : Int32} (hm : (c, k, v) ∈ it) : w.2.2.1 c k = v := h.2.2.1 _ hm
theorem fc_z (h : Fc n rt it zt w) {q : Nat × Nat} (hm : q ∈ zt) {k : Nat} (hk : k < q.2) : w.2.2.1 q.1 k = 0 := h.2.2.2 _ hm k hk
theorem fc_upI (h : Fc n rt it zt w) {c k : Nat} {x : Int32} (hk : (it.all (fun q => !(q.1 == c && q.2.1 == k)) && zt.all (fun q => q.1 != c)) = true) : Fc n rt it zt (upI w c k x) := by
  obtain ⟨h0, h1, h2, h3⟩ := h
  rw [Bool.and_eq_true, List.all_eq_true, List.all_eq_true] at hk
  refine ⟨h0, h1, fun q hq => ?_, fun q hq j hj => ?_⟩
  · have g := hk.1 q hq
    rw [← h2 q hq]
    show va_up w.2.2.1 c (upd (w.2.2.1 c) k x) q.1 q.2.1 = _
    by_cases e1 : q.1 = c
    · have e2 : ¬ q.2.1 = k := fun e2 => by simp [e1, e2] at g
      simp [va_up, upd, e1, e2]
    · simp [va_up, e1]
  · have g := hk.2 q hq
    have e1 : ¬ q.1 = c := by simpa using g
    rw [← h3 q hq j hj]
    show va_up w.2.2.1 c (upd (w.2.2.1 c) k x) q.1 j = _
    simp [va_up, e1]
theorem fc_stI (h : Fc n rt it zt w) {c : Nat} {f : Nat → Int32} (hk : (it.all (fun q => q.1 != c) && zt.all (fun q => q.1 != c)) = true) : Fc n rt it zt (stI w c f) := by
  obtain ⟨h0, h1, h2, h3⟩ := h
  rw [Bool.and_eq_true, List.all_eq_true, List.all_eq_true] at hk
  refine ⟨h0, h1, fun q hq => ?_, fun q hq j hj => ?_⟩
  · have e1 : ¬ q.1 = c := by simpa using hk.1 q hq
    rw [← h2 q hq]
    show va_up w.2.2.1 c f q.1 q.2.1 = _
    simp [va_up, e1]
  · have e1 : ¬ q.1 = c := by simpa using hk.2 q hq
    rw [← h3 q hq j hj]
    show va_up w.2.2.1 c f q.1 j = _
    simp [va_up, e1]
theorem fc_upC (h : Fc n rt it zt w) {c k : Nat} {x : Int32} (hk : (it.all (fun q => q.1 != c) && zt.all (fun q => q.1 != c)) = true) : Fc n rt it zt (upI w c k x) := fc_stI h hk
theorem fc_upZ (h : Fc n rt it zt w) {c k : Nat} (hk : it.all (fun q => q.1 != c) = true) : Fc n rt it zt (upI w c k 0) := by
  obtain ⟨h0, h1, h2, h3⟩ := h
  rw [List.all_eq_true] at hk
  refine ⟨h0, h1, fun q hq => ?_, fun q hq j hj => ?_⟩
  · have e1 : ¬ q.1 = c := by simpa using hk q hq
    rw [← h2 q hq]
    show va_up w.2.2.1 c _ q.1 q.2.1 = _
    simp [va_up, e1]
  · show va_up w.2.2.1 c (upd (w.2.2.1 c) k 0) q.1 j = 0
    by_cases e1 : q.1 = c
    · by_cases e2 : j = k
      · simp [va_up, upd, e1, e2]
      · have := h3 q hq j hj
        simp [va_up, upd, e1, e2]
        rw [← e1]; exact this
    · simp [va_up, e1]
      exact h3 q hq j hj
theorem fc_stL (h : Fc n rt it zt w) {c : Nat} {f : Nat → Int64} : Fc n rt it zt (stL w c f) := h
theorem fc_upL (h : Fc n rt it zt w) {c k : Nat} {x : Int64} : Fc n rt it zt (upL w c k x) := h
end XS
