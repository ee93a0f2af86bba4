section XS
variable {p : Program} {l : Launch} {e : Env} {R : Room} {s : State} {m : MethodId} {args : Array Value} {below : List Frame} {meth : Method} {c : Code} {Q : State → Prop}
variable {D : va_G} {aC : Nat → ClassId} {b nL : Nat} {cc : ByteArray} {own : String} {ret : Option FieldType}
variable {pc : Nat} {L : List (Option AV)} {S : List AV} {w : XW} {cs sl : Nat}
theorem s_topR {x y : Nat} (h : x = y) (kk : Wv p l e R s m args below meth c Q D aC b nL pc L (AR y :: S) w cs sl) : Wv p l e R s m args below meth c Q D aC b nL pc L (AR x :: S) w cs sl := h ▸ kk
theorem nI_mulc (a k : Nat) : nI a * nI k = nI (a * k) := (Int32.ofNat_mul a k).symm
theorem s_drop {i : Nat} {L2 : List (Option AV)} (h : L.set i none = L2) (kk : Wv p l e R s m args below meth c Q D aC b nL pc L2 S w cs sl) : Wv p l e R s m args below meth c Q D aC b nL pc L S w cs sl := fun H locs ls h1 h2 h3 => kk H locs ls h1 h2 ⟨h3.1, h3.2.1, fun q hq => h3.2.2 q (by
  obtain ⟨j, v, hj, rfl⟩ := lvl_mem.mp hq
  refine lvl_mem.mpr ⟨j, v, ?_, rfl⟩
  rw [← h, List.getElem?_set] at hj
  split at hj
  · split at hj <;> simp at hj
  · exact hj)⟩
theorem s_gen {P : XW → Prop} (hP : P w) (kk : ∀ v, P v → Wv p l e R s m args below meth c Q D aC b nL pc L S v cs sl) : Wv p l e R s m args below meth c Q D aC b nL pc L S w cs sl := kk w hP
theorem s_loop {P : XW → Prop} {Lf : Nat → List (Option AV)} (first last : Nat) (hP : P w) (step : ∀ (i : Nat) (v : XW), first ≤ i → i < last → P v → (∀ v2, P v2 → Wv p l e R s m args below meth c Q D aC b nL pc (Lf (i + 1)) S v2 cs sl) → Wv p l e R s m args below meth c Q D aC b nL pc (Lf i) S v cs sl) (fin : ∀ v, P v → Wv p l e R s m args below meth c Q D aC b nL pc (Lf last) S v cs sl) (hle : first ≤ last) : Wv p l e R s m args below meth c Q D aC b nL pc (Lf first) S w cs sl := by
  have go : ∀ (n i : Nat) (v : XW), i + n = last → first ≤ i → P v → Wv p l e R s m args below meth c Q D aC b nL pc (Lf i) S v cs sl := by
    intro n
    induction n with
    | zero =>
      intro i v hi _ hv
      obtain rfl : i = last := by omega
      exact fin v hv
    | succ n ih =>
      intro i v hi hj hv
      exact step i v hj (by omega) hv (fun v2 h2 => ih (i + 1) v2 (by omega) (by omega) h2)
  exact go (last - first) first w (by omega) (Nat.le_refl _) hP
theorem vp_c {i : Int32} {n : Nat} (h : ¬ (i < 0 ∨ n ≤ i.toNatClampNeg)) : vp_in i n := h
theorem ltn {n q : Nat} (hn : w.1 = n) (h : q < n) : q < w.1 := by rw [hn]; exact h
theorem cn_I {y : MethodName} {cod : ByteArray} {mL fr lo mc ms : Nat} {nm : String} {A : List AV} {L0 : List (Option AV)} {post : Int32 → XW → Prop} (hy : plainName y.cls = true) (ho : y.cls = own) (hn : y.name = nm) (hA : (entL A).length ≤ mL) (hL : entL A ++ List.replicate (mL - (entL A).length) none = L0)
    (body : ∀ (p : Program) (e : Env) (s : State) (m : MethodId) (args : Array Value) (below : List Frame) (meth : Method) (c : Code), EE p s m meth c D aC b mL cod own ret → meth.name = nm → Wv p l e (rmF fr lo mc ms) s m args below meth c (MQ below (va_Qi post (xU D aC b) (xA b)) args s mc ms (xA b)) D aC b mL 0 L0 [] w 0 0) : CnI l D aC b (y, cod, mL, ret) fr lo mc ms A w post := by
  subst ho; subst hn
  exact cn_body (M := (y, cod, mL, ret)) hy hA hL body
theorem cn_L {y : MethodName} {cod : ByteArray} {mL fr lo mc ms : Nat} {nm : String} {A : List AV} {L0 : List (Option AV)} {post : Int64 → XW → Prop} (hy : plainName y.cls = true) (ho : y.cls = own) (hn : y.name = nm) (hA : (entL A).length ≤ mL) (hL : entL A ++ List.replicate (mL - (entL A).length) none = L0)
    (body : ∀ (p : Program) (e : Env) (s : State) (m : MethodId) (args : Array Value) (below : List Frame) (meth : Method) (c : Code), EE p s m meth c D aC b mL cod own ret → meth.name = nm → Wv p l e (rmF fr lo mc ms) s m args below meth c (MQ below (va_Ql post (xU D aC b) (xA b)) args s mc ms (xA b)) D aC b mL 0 L0 [] w 0 0) : CnL l D aC b (y, cod, mL, ret) fr lo mc ms A w post := by
  subst ho; subst hn
  exact cn_body (M := (y, cod, mL, ret)) hy hA hL body
theorem cn_V {y : MethodName} {cod : ByteArray} {mL fr lo mc ms : Nat} {nm : String} {A : List AV} {L0 : List (Option AV)} {post : XW → Prop} (hy : plainName y.cls = true) (ho : y.cls = own) (hn : y.name = nm) (hA : (entL A).length ≤ mL) (hL : entL A ++ List.replicate (mL - (entL A).length) none = L0)
    (body : ∀ (p : Program) (e : Env) (s : State) (m : MethodId) (args : Array Value) (below : List Frame) (meth : Method) (c : Code), EE p s m meth c D aC b mL cod own ret → meth.name = nm → Wv p l e (rmF fr lo mc ms) s m args below meth c (MQ below (va_Qv post (xU D aC b) (xA b)) args s mc ms (xA b)) D aC b mL 0 L0 [] w 0 0) : CnV l D aC b (y, cod, mL, ret) fr lo mc ms A w post := by
  subst ho; subst hn
  exact cn_body (M := (y, cod, mL, ret)) hy hA hL body
theorem s_copy100 {src dst N1 N2 ix : Nat} {sp dp n : Int32} (E : EE p s m meth c D aC b nL cc own ret) (hl : Cond.methodLink own ix arraycopyName ∈ lw_tbl) (hna : Cond.native arraycopyName ∈ lw_tbl) (hst : Cond.static arraycopyName ∈ lw_tbl) (hini : Cond.initialized "java/lang/System" ∈ lw_tbl) (hs : xS src = (100, N1)) (hd : xS dst = (100, N2)) (hq1 : src < w.1) (hq2 : dst < w.1) (h1 : ¬ sp < 0) (h2 : ¬ dp < 0) (h3 : ¬ n < 0) (h4 : sp.toNatClampNeg + n.toNatClampNeg ≤ N1) (h5 : dp.toNatClampNeg + n.toNatClampNeg ≤ N2) (hfr : 1 ≤ R.frames) (hlo : ((S.map (cv b)).map fun v => v.category).sum + (nativeFrameWords "java/lang/System" "arraycopy" 5 + 11) ≤ R.locals) (d : decode cc pc = .ok (.invokestatic ix, 3))
    (kk : Wv p l e R s m args below meth c Q D aC b nL (pc + 3) L S (stI w dst (va_cpy (w.2.2.1 src) (w.2.2.1 dst) sp.toNatClampNeg dp.toNatClampNeg n.toNatClampNeg)) cs sl) : Wv p l e R s m args below meth c Q D aC b nL pc L (AI n :: AI dp :: AR dst :: AI sp :: AR src :: S) w cs sl := by
  intro H locs ls g1 g2 g3 T hT X
  have pos : ∀ z : Int32, ¬ z < 0 → z.toInt = (z.toNatClampNeg : Int) := fun z hz => by
    have a := Int32.le_iff_toInt_le.mp (Int32.not_lt.mp hz)
    have a0 : (0 : Int32).toInt = 0 := by decide
    rw [a0] at a
    exact (Int.toNat_of_nonneg a).symm
  have e0 : (xL aC b w)[src]? = some (b + src, .inl (aC 100, N1, .inl (w.2.2.1 src))) := by rw [xL_at hq1, xE_ai hs (by omega)]
  have e1 : (xL aC b w)[dst]? = some (b + dst, .inl (aC 100, N2, .inl (w.2.2.1 dst))) := by rw [xL_at hq2, xE_ai hd (by omega)]
  have c0 : H[b + src]? = some (arrV (aC 100) N1 (fun j => .int (w.2.2.1 src j))) := g1.1 src _ e0
  have c1 : H[b + dst]? = some (arrV (aC 100) N2 (fun j => .int (w.2.2.1 dst j))) := g1.1 dst _ e1
  obtain ⟨-, k0, hk0, m0, t0⟩ := (E.2.2.2.2.2.1.2 0 _ rfl).1 N1 (fun j => .int (w.2.2.1 src j))
  obtain ⟨-, k1, hk1, m1, t1⟩ := (E.2.2.2.2.2.1.2 0 _ rfl).1 N2 (fun j => .int (w.2.2.1 dst j))
  obtain ⟨vm, X2, go⟩ := X.arraycopy E.1 E.2.2.2.1 (E.gl hl rfl) (E.gl hna rfl) (E.gl hst rfl) (E.gl hini rfl) (src := b + src) (dst := b + dst) (srcPos := sp) (destPos := dp) (n := n) (by rw [hT]; exact c0) (by rw [hT]; exact c1) (fun _ h => by cases h) (fun _ h => by cases h) (fun h => by cases h) (fun h => by cases h) hk0 hk1 t0 t1 rfl h1 h2 h3
    (by rw [pos sp h1, pos n h3, arrV_size]; omega) (by rw [pos dp h2, pos n h3, arrV_size]; omega)
    (fun _ _ i hi => by
      rw [Array.getD_eq_getD_getElem?, arrV_read _ _ (by omega)]
      exact ⟨rfl, trivial⟩)
    (g := F0 m pc ls ((AI n :: AI dp :: AR dst :: AI sp :: AR src :: S).map (cv b))) rfl (by rw [E.2.2.1]; exact g3.1) (rest := S.map (cv b)) rfl (by rw [E.2.1]; exact d) hfr (by show 2 * 0 + _ + _ ≤ _; omega)
  have ec : copied (arrV (aC 100) N1 (fun j => .int (w.2.2.1 src j))) (arrV (aC 100) N2 (fun j => .int (w.2.2.1 dst j))) sp dp n = arrV (aC 100) N2 (fun j => .int (va_cpy (w.2.2.1 src) (w.2.2.1 dst) sp.toNatClampNeg dp.toNatClampNeg n.toNatClampNeg j)) := va_copied (fun z => .int z) (aC 100) (aC 100) (w.2.2.1 src) (w.2.2.1 dst) h4
  rw [ec] at X2 go
  have hlt : b + dst < H.size := (Array.getElem?_eq_some_iff.mp c1).1
  have other : ∀ q : Nat, q ≠ b + dst → (H.setIfInBounds (b + dst) (arrV (aC 100) N2 (fun j => .int (va_cpy (w.2.2.1 src) (w.2.2.1 dst) sp.toNatClampNeg dp.toNatClampNeg n.toNatClampNeg j))))[q]? = H[q]? := fun q hq => Array.getElem?_setIfInBounds_ne (Ne.symm hq)
  obtain ⟨t, a1, b1⟩ := kk (H.setIfInBounds (b + dst) (arrV (aC 100) N2 (fun j => .int (va_cpy (w.2.2.1 src) (w.2.2.1 dst) sp.toNatClampNeg dp.toNatClampNeg n.toNatClampNeg j)))) _ ls
    (xH_set g1 (by simp) hq2 rfl (en := .inl (aC 100, N2, .inl (va_cpy (w.2.2.1 src) (w.2.2.1 dst) sp.toNatClampNeg dp.toNatClampNeg n.toNatClampNeg))) (by rw [xE_ai hd (by omega)]; simp [stI, va_up]) (fun j hj => xE_other rfl (va_up_ne _ _ hj) rfl) (g1.1.set xL_D e1 (show _ = some _ by simp [hlt]; rfl) other))
    ⟨by simp; exact g2.1, fun q z1 z2 => by rw [other q (fun z => z2 (by rw [z]; exact Nat.le_add_right _ _))]; exact g2.2.1 q z1 z2, fun q hq => by
      rcases List.mem_append.mp hq with h | h
      · exact g2.2.2 q h
      · obtain ⟨z, -, hz⟩ := List.mem_map.mp h
        rw [← hz]
        exact Nat.le_add_right _ _⟩ g3 _ (by rw [← hT]; rfl) X2
  exact ⟨t, go t a1, b1⟩
theorem s_copy101 {src dst N1 N2 ix : Nat} {sp dp n : Int32} (E : EE p s m meth c D aC b nL cc own ret) (hl : Cond.methodLink own ix arraycopyName ∈ lw_tbl) (hna : Cond.native arraycopyName ∈ lw_tbl) (hst : Cond.static arraycopyName ∈ lw_tbl) (hini : Cond.initialized "java/lang/System" ∈ lw_tbl) (hs : xS src = (101, N1)) (hd : xS dst = (101, N2)) (hq1 : src < w.1) (hq2 : dst < w.1) (h1 : ¬ sp < 0) (h2 : ¬ dp < 0) (h3 : ¬ n < 0) (h4 : sp.toNatClampNeg + n.toNatClampNeg ≤ N1) (h5 : dp.toNatClampNeg + n.toNatClampNeg ≤ N2) (hfr : 1 ≤ R.frames) (hlo : ((S.map (cv b)).map fun v => v.category).sum + (nativeFrameWords "java/lang/System" "arraycopy" 5 + 11) ≤ R.locals) (d : decode cc pc = .ok (.invokestatic ix, 3))
    (kk : Wv p l e R s m args below meth c Q D aC b nL (pc + 3) L S (stL w dst (va_cpy (w.2.2.2 src) (w.2.2.2 dst) sp.toNatClampNeg dp.toNatClampNeg n.toNatClampNeg)) cs sl) : Wv p l e R s m args below meth c Q D aC b nL pc L (AI n :: AI dp :: AR dst :: AI sp :: AR src :: S) w cs sl := by
  intro H locs ls g1 g2 g3 T hT X
  have pos : ∀ z : Int32, ¬ z < 0 → z.toInt = (z.toNatClampNeg : Int) := fun z hz => by
    have a := Int32.le_iff_toInt_le.mp (Int32.not_lt.mp hz)
    have a0 : (0 : Int32).toInt = 0 := by decide
    rw [a0] at a
    exact (Int.toNat_of_nonneg a).symm
  have e0 : (xL aC b w)[src]? = some (b + src, .inl (aC 101, N1, .inr (.inl (w.2.2.2 src)))) := by rw [xL_at hq1, xE_al hs]
  have e1 : (xL aC b w)[dst]? = some (b + dst, .inl (aC 101, N2, .inr (.inl (w.2.2.2 dst)))) := by rw [xL_at hq2, xE_al hd]
  have c0 : H[b + src]? = some (arrV (aC 101) N1 (fun j => .long (w.2.2.2 src j))) := g1.1 src _ e0
  have c1 : H[b + dst]? = some (arrV (aC 101) N2 (fun j => .long (w.2.2.2 dst j))) := g1.1 dst _ e1
  obtain ⟨-, k0, hk0, m0, t0⟩ := (E.2.2.2.2.2.1.2 1 _ rfl).1 N1 (fun j => .long (w.2.2.2 src j))
  obtain ⟨-, k1, hk1, m1, t1⟩ := (E.2.2.2.2.2.1.2 1 _ rfl).1 N2 (fun j => .long (w.2.2.2 dst j))
  obtain ⟨vm, X2, go⟩ := X.arraycopy E.1 E.2.2.2.1 (E.gl hl rfl) (E.gl hna rfl) (E.gl hst rfl) (E.gl hini rfl) (src := b + src) (dst := b + dst) (srcPos := sp) (destPos := dp) (n := n) (by rw [hT]; exact c0) (by rw [hT]; exact c1) (fun _ h => by cases h) (fun _ h => by cases h) (fun h => by cases h) (fun h => by cases h) hk0 hk1 t0 t1 rfl h1 h2 h3
    (by rw [pos sp h1, pos n h3, arrV_size]; omega) (by rw [pos dp h2, pos n h3, arrV_size]; omega)
    (fun _ _ i hi => by
      rw [Array.getD_eq_getD_getElem?, arrV_read _ _ (by omega)]
      exact ⟨rfl, trivial⟩)
    (g := F0 m pc ls ((AI n :: AI dp :: AR dst :: AI sp :: AR src :: S).map (cv b))) rfl (by rw [E.2.2.1]; exact g3.1) (rest := S.map (cv b)) rfl (by rw [E.2.1]; exact d) hfr (by show 2 * 0 + _ + _ ≤ _; omega)
  have ec : copied (arrV (aC 101) N1 (fun j => .long (w.2.2.2 src j))) (arrV (aC 101) N2 (fun j => .long (w.2.2.2 dst j))) sp dp n = arrV (aC 101) N2 (fun j => .long (va_cpy (w.2.2.2 src) (w.2.2.2 dst) sp.toNatClampNeg dp.toNatClampNeg n.toNatClampNeg j)) := va_copied (fun z => .long z) (aC 101) (aC 101) (w.2.2.2 src) (w.2.2.2 dst) h4
  rw [ec] at X2 go
  have hlt : b + dst < H.size := (Array.getElem?_eq_some_iff.mp c1).1
  have other : ∀ q : Nat, q ≠ b + dst → (H.setIfInBounds (b + dst) (arrV (aC 101) N2 (fun j => .long (va_cpy (w.2.2.2 src) (w.2.2.2 dst) sp.toNatClampNeg dp.toNatClampNeg n.toNatClampNeg j))))[q]? = H[q]? := fun q hq => Array.getElem?_setIfInBounds_ne (Ne.symm hq)
  obtain ⟨t, a1, b1⟩ := kk (H.setIfInBounds (b + dst) (arrV (aC 101) N2 (fun j => .long (va_cpy (w.2.2.2 src) (w.2.2.2 dst) sp.toNatClampNeg dp.toNatClampNeg n.toNatClampNeg j)))) _ ls
    (xH_set g1 (by simp) hq2 rfl (en := .inl (aC 101, N2, .inr (.inl (va_cpy (w.2.2.2 src) (w.2.2.2 dst) sp.toNatClampNeg dp.toNatClampNeg n.toNatClampNeg)))) (by rw [xE_al hd]; simp [stL, va_up]) (fun j hj => xE_other rfl rfl (va_up_ne _ _ hj)) (g1.1.set xL_D e1 (show _ = some _ by simp [hlt]; rfl) other))
    ⟨by simp; exact g2.1, fun q z1 z2 => by rw [other q (fun z => z2 (by rw [z]; exact Nat.le_add_right _ _))]; exact g2.2.1 q z1 z2, fun q hq => by
      rcases List.mem_append.mp hq with h | h
      · exact g2.2.2 q h
      · obtain ⟨z, -, hz⟩ := List.mem_map.mp h
        rw [← hz]
        exact Nat.le_add_right _ _⟩ g3 _ (by rw [← hT]; rfl) X2
  exact ⟨t, go t a1, b1⟩
/-- what is known of a world: how many cells; references; ints; cells that are all 0 -/
def Fc (n : Nat) (rt : List (Nat × Nat × Nat)) (it : List (Nat × Nat × Int32)) (zt : List (Nat × Nat)) (w : XW) : Prop := w.1 = n ∧ (∀ q ∈ rt, w.2.1 q.1 q.2.1 = q.2.2) ∧ (∀ q ∈ it, w.2.2.1 q.1 q.2.1 = q.2.2) ∧ (∀ q ∈ zt, ∀ k, k < q.2 → w.2.2.1 q.1 k = 0)
variable {n : Nat} {rt : List (Nat × Nat × Nat)} {it : List (Nat × Nat × Int32)} {zt : List (Nat × Nat)}
theorem fc_r (h : Fc n rt it zt w) {c k v : Nat} (hm : (c, k, v) ∈ rt) : w.2.1 c k = v := h.2.1 _ hm
theorem fc_i (h : Fc n rt it zt w) {c k : Nat} {v : Int32} (hm : (c, k, v) ∈ it) : w.2.2.1 c k = v := h.2.2.1 _ hm
theorem fc_z (h : Fc n rt it zt w) {q : Nat × Nat} (hm : q ∈ zt) {k : Nat} (hk : k < q.2) : w.2.2.1 q.1 k = 0 := h.2.2.2 _ hm k hk
theorem fc_zi (h : Fc n rt it zt w) {c N : Nat} (hm : (c, N) ∈ zt) {i : Int32} (hin : vp_in i N) : w.2.2.1 c i.toNatClampNeg = 0 := h.2.2.2 _ hm _ (Nat.not_le.mp fun z => hin (Or.inr z))
theorem fc_one {n c k : Nat} {v : Int32} (hn : w.1 = n) (hv : w.2.2.1 c k = v) : Fc n [] [(c, k, v)] [] w := ⟨hn, fun _ h => absurd h List.not_mem_nil, fun q h => by rw [List.mem_singleton.mp h]; exact hv, fun _ h => absurd h List.not_mem_nil⟩
theorem fc_upI (h : Fc n rt it zt w) {c k : Nat} {x : Int32} (hk : (it.all (fun q => !(q.1 == c && q.2.1 == k)) && zt.all (fun q => q.1 != c)) = true) : Fc n rt it zt (upI w c k x) := by
  obtain ⟨h0, h1, h2, h3⟩ := h
  rw [Bool.and_eq_true, List.all_eq_true, List.all_eq_true] at hk
  refine ⟨h0, h1, fun q hq => ?_, fun q hq j hj => ?_⟩
  · have g := hk.1 q hq
    rw [← h2 q hq]
    show va_up w.2.2.1 c (upd (w.2.2.1 c) k x) q.1 q.2.1 = _
    by_cases e1 : q.1 = c
    · have e2 : ¬ q.2.1 = k := fun e2 => by simp [e1, e2] at g
      simp [va_up, upd, e1, e2]
    · simp [va_up, e1]
  · have g := hk.2 q hq
    have e1 : ¬ q.1 = c := by simpa using g
    rw [← h3 q hq j hj]
    show va_up w.2.2.1 c (upd (w.2.2.1 c) k x) q.1 j = _
    simp [va_up, e1]
theorem fc_stI (h : Fc n rt it zt w) {c : Nat} {f : Nat → Int32} (hk : (it.all (fun q => q.1 != c) && zt.all (fun q => q.1 != c)) = true) : Fc n rt it zt (stI w c f) := by
  obtain ⟨h0, h1, h2, h3⟩ := h
  rw [Bool.and_eq_true, List.all_eq_true, List.all_eq_true] at hk
  refine ⟨h0, h1, fun q hq => ?_, fun q hq j hj => ?_⟩
  · have e1 : ¬ q.1 = c := by simpa using hk.1 q hq
    rw [← h2 q hq]
    show va_up w.2.2.1 c f q.1 q.2.1 = _
    simp [va_up, e1]
  · have e1 : ¬ q.1 = c := by simpa using hk.2 q hq
    rw [← h3 q hq j hj]
    show va_up w.2.2.1 c f q.1 j = _
    simp [va_up, e1]
theorem fc_upC (h : Fc n rt it zt w) {c k : Nat} {x : Int32} (hk : (it.all (fun q => q.1 != c) && zt.all (fun q => q.1 != c)) = true) : Fc n rt it zt (upI w c k x) := fc_stI h hk
theorem fc_upZ (h : Fc n rt it zt w) {c k : Nat} (hk : it.all (fun q => q.1 != c) = true) : Fc n rt it zt (upI w c k 0) := by
  obtain ⟨h0, h1, h2, h3⟩ := h
  rw [List.all_eq_true] at hk
  refine ⟨h0, h1, fun q hq => ?_, fun q hq j hj => ?_⟩
  · have e1 : ¬ q.1 = c := by simpa using hk q hq
    rw [← h2 q hq]
    show va_up w.2.2.1 c _ q.1 q.2.1 = _
    simp [va_up, e1]
  · show va_up w.2.2.1 c (upd (w.2.2.1 c) k 0) q.1 j = 0
    by_cases e1 : q.1 = c
    · by_cases e2 : j = k
      · simp [va_up, upd, e1, e2]
      · have := h3 q hq j hj
        simp [va_up, upd, e1, e2]
        rw [← e1]; exact this
    · simp [va_up, e1]
      exact h3 q hq j hj
theorem fc_stL (h : Fc n rt it zt w) {c : Nat} {f : Nat → Int64} : Fc n rt it zt (stL w c f) := h
theorem fc_upL (h : Fc n rt it zt w) {c k : Nat} {x : Int64} : Fc n rt it zt (upL w c k x) := h
end XS
