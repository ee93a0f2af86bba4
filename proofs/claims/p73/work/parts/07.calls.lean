section XK
variable {p : Program} {l : Launch} {e : Env} {R : Room} {s : State} {m : MethodId} {args : Array Value} {below : List Frame} {meth : Method} {c : Code} {Q : State → Prop}
variable {D : va_G} {aC : Nat → ClassId} {b nL : Nat} {cc : ByteArray} {own : String} {ret : Option FieldType}
variable {pc : Nat} {L : List (Option AV)} {S : List AV} {w : XW} {cs sl : Nat}
/-- a method: name, code, locals, kind of answer -/
abbrev Mt : Type := MethodName × ByteArray × Nat × Option FieldType
abbrev Mc (M : Mt) : Cond := .code M.1 M.2.1 M.2.2.1 M.2.2.2
abbrev rmF (fr lo mc ms : Nat) : Room := { frames := fr, cells := mc, slots := ms, locals := lo }
/-- contracts: from the world w, with the arguments A, the method returns, with answer and world as post says -/
def CnI (l : Launch) (D : va_G) (aC : Nat → ClassId) (b : Nat) (M : Mt) (fr lo mc ms : Nat) (A : List AV) (w : XW) (post : Int32 → XW → Prop) : Prop :=
  Met l M.1 [Mc M] (rmF fr lo mc ms) (va_Pc (A.map (cv b)) (fun U => xU D aC b w U)) (va_Qi post (xU D aC b) (xA b)) mc ms (xA b)
def CnL (l : Launch) (D : va_G) (aC : Nat → ClassId) (b : Nat) (M : Mt) (fr lo mc ms : Nat) (A : List AV) (w : XW) (post : Int64 → XW → Prop) : Prop :=
  Met l M.1 [Mc M] (rmF fr lo mc ms) (va_Pc (A.map (cv b)) (fun U => xU D aC b w U)) (va_Ql post (xU D aC b) (xA b)) mc ms (xA b)
def CnV (l : Launch) (D : va_G) (aC : Nat → ClassId) (b : Nat) (M : Mt) (fr lo mc ms : Nat) (A : List AV) (w : XW) (post : XW → Prop) : Prop :=
  Met l M.1 [Mc M] (rmF fr lo mc ms) (va_Pc (A.map (cv b)) (fun U => xU D aC b w U)) (va_Qv post (xU D aC b) (xA b)) mc ms (xA b)
theorem cn_body {M : Mt} {fr lo mc ms : Nat} {A : List AV} {Qc : Array Value → State → Outcome → State → Prop} {L0 : List (Option AV)} (hy : plainName M.1.cls = true) (hA : (entL A).length ≤ M.2.2.1) (hL : entL A ++ List.replicate (M.2.2.1 - (entL A).length) none = L0)
    (body : ∀ (p : Program) (e : Env) (s : State) (m : MethodId) (args : Array Value) (below : List Frame) (meth : Method) (c : Code), EE p s m meth c D aC b M.2.2.1 M.2.1 M.1.cls M.2.2.2 → meth.name = M.1.name → Wv p l e (rmF fr lo mc ms) s m args below meth c (MQ below Qc args s mc ms (xA b)) D aC b M.2.2.1 0 L0 [] w 0 0) :
    Met l M.1 [Mc M] (rmF fr lo mc ms) (va_Pc (A.map (cv b)) (fun U => xU D aC b w U)) Qc mc ms (xA b) := by
  refine Met.ofW (cc := M.2.1) (maxL := M.2.2.1) (ret := M.2.2.2) hy rfl ?_
  intro p e s m args below meth c s₁ B hml hv
  obtain ⟨rfl, hU⟩ := hv
  have hown : s.vm.findClass M.1.cls = some m.cls := findClass_of_methodNamed B.named
  have hin : meth.name = M.1.name := (name_of_methodNamed B.named B.method).1
  have E : EE p s m meth c D aC b M.2.2.1 M.2.1 M.1.cls M.2.2.2 := ⟨B.exec, B.bytes, hml, hown, hU.2.2.1, hU.2.1, B.returns, B.notSynchronized, by rw [hU.1.2]; exact Nat.le_add_right _ _, hU.2.2.2⟩
  have hl := lv_entry (A.map (cv b)) (n := M.2.2.1) (by rw [lg_ent]; exact hA)
  rw [lg_entry_eq]
  generalize (lg_sl (A.map (cv b)) ++ List.replicate (M.2.2.1 - (lg_sl (A.map (cv b))).length) Slot.unset).toArray = ls at hl ⊢
  exact body p e s m _ below meth c E hin s.heap [] ls hU.1 va_S.rf (by unfold xl; rw [← hL, lvl_ent]; exact hl)
/-- what the tables say of a call -/
def CB (own : String) (ix : Nat) (M : Mt) (n : Nat) : Prop := Mc M ∈ lw_tbl ∧ Cond.initialized M.1.cls ∈ lw_tbl ∧ (M.1.cls ≠ "java/lang/invoke/MethodHandle" ∧ M.1.cls ≠ "java/lang/invoke/VarHandle" ∧ (parseMethodDescriptor M.1.desc).map (fun d => d.parameters.length) = some n) ∧ (Cond.methodLink own ix M.1 ∈ lw_tbl ∨ ∃ host, Cond.methodLinkNest own ix M.1 host ∈ lw_tbl)
def CVw (own : String) (ix : Nat) (M : Mt) (n ci N : Nat) : Prop := CB own ix M n ∧ Cond.instanceMethod M.1 ∈ lw_tbl ∧ Cond.selects M.1.cls M.1 M.1 ∈ lw_tbl ∧ ci < 100 ∧ ∃ T, vwCl[ci]? = some (M.1.cls, T, N)
def CSw (own : String) (ix : Nat) (M : Mt) (n : Nat) : Prop := CB own ix M n ∧ Cond.static M.1 ∈ lw_tbl
def CIw (own : String) (ix : Nat) (M : Mt) (n : Nat) : Prop := CB own ix M n ∧ M.1.name = "<init>" ∧ Cond.instanceMethod M.1 ∈ lw_tbl
theorem cb_parts {M : Mt} {ix n fr lo mc ms : Nat} (E : EE p s m meth c D aC b nL cc own ret) (h : CB own ix M n) (hfr : fr + 1 ≤ R.frames) (hlo : 8 + (M.2.2.1 + 11) + lo ≤ R.locals) :
    (∀ w ∈ [Mc M], ∀ (a' : Array Value) (U : State), s.WarmedH U.vm → w.before a' U = true) ∧ (Mc M).before args s = true ∧ (Cond.initialized M.1.cls).before args s = true ∧ (∀ sig, parseMethodDescriptor M.1.desc = some sig → n = sig.parameters.length) := by
  refine ⟨fun w hw a' U hW => ?_, E.gl h.1 rfl, E.gl h.2.1 rfl, fun sig hs => ?_⟩
  · have : w = Mc M := by simpa using hw
    subst this
    exact Gl.warm hW E.2.2.2.2.1 _ h.1 rfl a'
  · have h2 := h.2.2.1.2.2
    rw [hs] at h2
    exact (Option.some.inj h2).symm
theorem xU_blind {A : List AV} : FrameBlind (va_Pc (A.map (cv b)) (fun U => xU D aC b w U)) := fun _ _ _ _ h => ⟨h.1, xU.blind _ _ _ h.2⟩
/-- a call that is a run -/
theorem run_V {M : Mt} {ix n ci N q fr lo mc ms : Nat} {As : List AV} {st : List AV} {Qc : Array Value → State → Outcome → State → Prop} {H : Heap} {locs : List Loc} {ls : Array Slot} (E : EE p s m meth c D aC b nL cc own ret) (hM : Met l M.1 [Mc M] (rmF fr lo mc ms) (va_Pc ((AR q :: As).map (cv b)) (fun U => xU D aC b w U)) Qc mc ms (xA b)) (hc : CVw own ix M n ci N) (hst : st = As.reverse ++ AR q :: S) (hn : As.length = n) (hs : xS q = (ci, N)) (hq : q < w.1) (hfr : fr + 1 ≤ R.frames) (hlo : 8 + (M.2.2.1 + 11) + lo ≤ R.locals) (hf : cs + mc ≤ R.cells ∧ sl + ms ≤ R.slots) (hr : ((S.map (cv b)).map fun v => v.category).sum ≤ 8) (d : decode cc pc = .ok (.invokevirtual ix, 3)) (h1 : xH D aC b w H) (h2 : va_S (xA b) s.heap H locs) (h3 : xl b ls nL L) :
    va_Run p l e R s m args below meth c H locs cs sl mc ms (F0 m pc ls (st.map (cv b))) (S.map (cv b)) (Qc ((AR q :: As).map (cv b)).toArray) (xA b) := by
  obtain ⟨hB, hi, hse, hci, T, hT⟩ := hc
  obtain ⟨k1, k2, k3, k4⟩ := cb_parts (R := R) (args := args) (fr := fr) (lo := lo) (mc := mc) (ms := ms) E hB hfr hlo
  have hrecv : ∃ cell : Cell, H[b + q]? = some cell ∧ cell.vm.isStatics = false ∧ s.vm.findClass M.1.cls = some cell.cls := va_recv (q0 := q) E.2.2.2.2.2.1 h1.1 hT (by rw [xL_at hq, xE_obj hs hci])
  have hpre : PreV s H M.1.cls (b + q) (va_Pc ((AR q :: As).map (cv b)) (fun U => xU D aC b w U)) (As.map (cv b)) := ⟨xU_blind, hrecv, fun U hU hW => ⟨rfl, by rw [hU]; exact h1, va_K.moved hW.alike E.2.2.2.2.2.1, Gl.warm hW E.2.2.2.2.1, by rw [hU]; exact Sx.warm hW h2.2.1 E.2.2.2.2.2.2.2.2.2⟩⟩
  have hsk : (F0 m pc ls (st.map (cv b))).stack = (As.map (cv b)).reverse ++ .ref (b + q) :: S.map (cv b) := by
    show st.map (cv b) = _
    rw [hst, List.map_append, List.map_reverse]
    rfl
  rcases hB.2.2.2 with hl | ⟨host, hl⟩
  · exact va_runV (Ts := []) ⟨E.1, E.2.1, E.2.2.1, E.2.2.2.1, fun _ h => absurd h List.not_mem_nil⟩ hM ⟨⟨rfl, rfl, hfr, hlo, k1, List.mem_cons_self, k2, k3, ⟨hB.2.2.1.1, hB.2.2.1.2.1⟩, k4, E.gl hl rfl⟩, E.gl hi rfl, E.gl hse rfl⟩ hpre rfl (by rw [List.length_map]; exact hn) h3.1 hsk (lv_room hr) d hf
  · exact va_runVN (Ts := []) ⟨E.1, E.2.1, E.2.2.1, E.2.2.2.1, fun _ h => absurd h List.not_mem_nil⟩ hM ⟨⟨⟨rfl, rfl, hfr, hlo, k1, List.mem_cons_self⟩, k2, k3, ⟨hB.2.2.1.1, hB.2.2.1.2.1⟩, k4, E.gl hl rfl⟩, E.gl hi rfl, E.gl hse rfl⟩ hpre rfl (by rw [List.length_map]; exact hn) h3.1 hsk (lv_room hr) d hf
theorem run_S {M : Mt} {ix n fr lo mc ms : Nat} {As : List AV} {st : List AV} {Qc : Array Value → State → Outcome → State → Prop} {H : Heap} {locs : List Loc} {ls : Array Slot} (E : EE p s m meth c D aC b nL cc own ret) (hM : Met l M.1 [Mc M] (rmF fr lo mc ms) (va_Pc (As.map (cv b)) (fun U => xU D aC b w U)) Qc mc ms (xA b)) (hc : CSw own ix M n) (hst : st = As.reverse ++ S) (hn : As.length = n) (hfr : fr + 1 ≤ R.frames) (hlo : 8 + (M.2.2.1 + 11) + lo ≤ R.locals) (hf : cs + mc ≤ R.cells ∧ sl + ms ≤ R.slots) (hr : ((S.map (cv b)).map fun v => v.category).sum ≤ 8) (d : decode cc pc = .ok (.invokestatic ix, 3)) (h1 : xH D aC b w H) (h2 : va_S (xA b) s.heap H locs) (h3 : xl b ls nL L) :
    va_Run p l e R s m args below meth c H locs cs sl mc ms (F0 m pc ls (st.map (cv b))) (S.map (cv b)) (Qc (As.map (cv b)).toArray) (xA b) := by
  obtain ⟨hB, hsta⟩ := hc
  obtain ⟨k1, k2, k3, k4⟩ := cb_parts (R := R) (args := args) (fr := fr) (lo := lo) (mc := mc) (ms := ms) E hB hfr hlo
  have hpre : PreS s H (va_Pc (As.map (cv b)) (fun U => xU D aC b w U)) (As.map (cv b)) := ⟨xU_blind, fun U hU hW => ⟨rfl, by rw [hU]; exact h1, va_K.moved hW.alike E.2.2.2.2.2.1, Gl.warm hW E.2.2.2.2.1, by rw [hU]; exact Sx.warm hW h2.2.1 E.2.2.2.2.2.2.2.2.2⟩⟩
  have hsk : (F0 m pc ls (st.map (cv b))).stack = (As.map (cv b)).reverse ++ S.map (cv b) := by
    show st.map (cv b) = _
    rw [hst, List.map_append, List.map_reverse]
  rcases hB.2.2.2 with hl | ⟨host, hl⟩
  · exact va_runS (Ts := []) ⟨E.1, E.2.1, E.2.2.1, E.2.2.2.1, fun _ h => absurd h List.not_mem_nil⟩ hM ⟨⟨rfl, rfl, hfr, hlo, k1, List.mem_cons_self, k2, k3, ⟨hB.2.2.1.1, hB.2.2.1.2.1⟩, k4, E.gl hl rfl⟩, E.gl hsta rfl⟩ hpre rfl (by rw [List.length_map]; exact hn) h3.1 hsk (lv_room hr) d hf
  · exact va_runSN (Ts := []) ⟨E.1, E.2.1, E.2.2.1, E.2.2.2.1, fun _ h => absurd h List.not_mem_nil⟩ hM ⟨⟨⟨rfl, rfl, hfr, hlo, k1, List.mem_cons_self⟩, k2, k3, ⟨hB.2.2.1.1, hB.2.2.1.2.1⟩, k4, E.gl hl rfl⟩, E.gl hsta rfl, trivial⟩ hpre rfl (by rw [List.length_map]; exact hn) h3.1 hsk (lv_room hr) d hf
theorem run_I {y : MethodName} {cod : ByteArray} {mL : Nat} {ix n q fr lo mc ms : Nat} {As : List AV} {st : List AV} {Qc : Array Value → State → Outcome → State → Prop} {H : Heap} {locs : List Loc} {ls : Array Slot} (E : EE p s m meth c D aC b nL cc own ret) (hM : Met l y [Mc (y, cod, mL, none)] (rmF fr lo mc ms) (va_Pc ((AR q :: As).map (cv b)) (fun U => xU D aC b w U)) Qc mc ms (xA b)) (hc : CIw own ix (y, cod, mL, none) n) (hst : st = As.reverse ++ AR q :: S) (hn : As.length = n) (hfr : fr + 1 ≤ R.frames) (hlo : 8 + (mL + 11) + lo ≤ R.locals) (hf : cs + mc ≤ R.cells ∧ sl + ms ≤ R.slots) (hr : ((S.map (cv b)).map fun v => v.category).sum ≤ 8) (d : decode cc pc = .ok (.invokespecial ix, 3)) (h1 : xH D aC b w H) (h2 : va_S (xA b) s.heap H locs) (h3 : xl b ls nL L) :
    va_Run p l e R s m args below meth c H locs cs sl mc ms (F0 m pc ls (st.map (cv b))) (S.map (cv b)) (Qc ((AR q :: As).map (cv b)).toArray) (xA b) := by
  obtain ⟨hB, hin, hi⟩ := hc
  obtain ⟨k1, k2, k3, k4⟩ := cb_parts (R := R) (args := args) (fr := fr) (lo := lo) (mc := mc) (ms := ms) E hB hfr hlo
  have hpre : PreS s H (va_Pc ((AR q :: As).map (cv b)) (fun U => xU D aC b w U)) (.ref (b + q) :: As.map (cv b)) := ⟨xU_blind, fun U hU hW => ⟨rfl, by rw [hU]; exact h1, va_K.moved hW.alike E.2.2.2.2.2.1, Gl.warm hW E.2.2.2.2.1, by rw [hU]; exact Sx.warm hW h2.2.1 E.2.2.2.2.2.2.2.2.2⟩⟩
  have hsk : (F0 m pc ls (st.map (cv b))).stack = (As.map (cv b)).reverse ++ .ref (b + q) :: S.map (cv b) := by
    show st.map (cv b) = _
    rw [hst, List.map_append, List.map_reverse]
    rfl
  rcases hB.2.2.2 with hl | ⟨host, hl⟩
  · exact va_runI (Ts := []) ⟨E.1, E.2.1, E.2.2.1, E.2.2.2.1, fun _ h => absurd h List.not_mem_nil⟩ hM ⟨⟨rfl, rfl, hfr, hlo, k1, List.mem_cons_self, k2, k3, ⟨hB.2.2.1.1, hB.2.2.1.2.1⟩, k4, E.gl hl rfl⟩, hin, E.gl hi rfl⟩ hpre rfl (by rw [List.length_map]; exact hn) h3.1 hsk (lv_room hr) d hf
  · exact va_runIN (Ts := []) ⟨E.1, E.2.1, E.2.2.1, E.2.2.2.1, fun _ h => absurd h List.not_mem_nil⟩ hM ⟨⟨⟨rfl, rfl, hfr, hlo, k1, List.mem_cons_self⟩, k2, k3, ⟨hB.2.2.1.1, hB.2.2.1.2.1⟩, k4, E.gl hl rfl⟩, hin, E.gl hi rfl⟩ hpre rfl (by rw [List.length_map]; exact hn) h3.1 hsk (lv_room hr) d hf
theorem s_vI {M : Mt} {ix n ci N q fr lo mc ms : Nat} {As st : List AV} {post : Int32 → XW → Prop} (E : EE p s m meth c D aC b nL cc own ret) (hM : CnI l D aC b M fr lo mc ms (AR q :: As) w post) (hc : CVw own ix M n ci N) (hst : st = As.reverse ++ AR q :: S) (hn : As.length = n) (hs : xS q = (ci, N)) (hq : q < w.1) (hfr : fr + 1 ≤ R.frames) (hlo : 8 + (M.2.2.1 + 11) + lo ≤ R.locals) (hf : cs + mc ≤ R.cells ∧ sl + ms ≤ R.slots) (hr : ((S.map (cv b)).map fun v => v.category).sum ≤ 8) (d : decode cc pc = .ok (.invokevirtual ix, 3))
    (kk : ∀ (r : Int32) (u : XW), post r u → Wv p l e R s m args below meth c Q D aC b nL (pc + 3) L (AI r :: S) u (cs + mc) (sl + ms)) : Wv p l e R s m args below meth c Q D aC b nL pc L st w cs sl := fun H locs ls h1 h2 h3 =>
  va_calli (run_V E hM hc hst hn hs hq hfr hlo hf hr d h1 h2 h3) h2 (fun _ _ h => h) (fun _ h => h) (fun r u t H1 locs1 ht _ hp hB _ _ hS => kk r u hp H1 locs1 ls (ht ▸ hB.1) hS h3)
theorem s_sI {M : Mt} {ix n fr lo mc ms : Nat} {As st : List AV} {post : Int32 → XW → Prop} (E : EE p s m meth c D aC b nL cc own ret) (hM : CnI l D aC b M fr lo mc ms As w post) (hc : CSw own ix M n) (hst : st = As.reverse ++ S) (hn : As.length = n) (hfr : fr + 1 ≤ R.frames) (hlo : 8 + (M.2.2.1 + 11) + lo ≤ R.locals) (hf : cs + mc ≤ R.cells ∧ sl + ms ≤ R.slots) (hr : ((S.map (cv b)).map fun v => v.category).sum ≤ 8) (d : decode cc pc = .ok (.invokestatic ix, 3))
    (kk : ∀ (r : Int32) (u : XW), post r u → Wv p l e R s m args below meth c Q D aC b nL (pc + 3) L (AI r :: S) u (cs + mc) (sl + ms)) : Wv p l e R s m args below meth c Q D aC b nL pc L st w cs sl := fun H locs ls h1 h2 h3 =>
  va_calli (run_S E hM hc hst hn hfr hlo hf hr d h1 h2 h3) h2 (fun _ _ h => h) (fun _ h => h) (fun r u t H1 locs1 ht _ hp hB _ _ hS => kk r u hp H1 locs1 ls (ht ▸ hB.1) hS h3)
theorem s_vL {M : Mt} {ix n ci N q fr lo mc ms : Nat} {As st : List AV} {post : Int64 → XW → Prop} (E : EE p s m meth c D aC b nL cc own ret) (hM : CnL l D aC b M fr lo mc ms (AR q :: As) w post) (hc : CVw own ix M n ci N) (hst : st = As.reverse ++ AR q :: S) (hn : As.length = n) (hs : xS q = (ci, N)) (hq : q < w.1) (hfr : fr + 1 ≤ R.frames) (hlo : 8 + (M.2.2.1 + 11) + lo ≤ R.locals) (hf : cs + mc ≤ R.cells ∧ sl + ms ≤ R.slots) (hr : ((S.map (cv b)).map fun v => v.category).sum ≤ 8) (d : decode cc pc = .ok (.invokevirtual ix, 3))
    (kk : ∀ (r : Int64) (u : XW), post r u → Wv p l e R s m args below meth c Q D aC b nL (pc + 3) L (AL r :: S) u (cs + mc) (sl + ms)) : Wv p l e R s m args below meth c Q D aC b nL pc L st w cs sl := fun H locs ls h1 h2 h3 =>
  va_calll (run_V E hM hc hst hn hs hq hfr hlo hf hr d h1 h2 h3) h2 (fun _ _ h => h) (fun _ h => h) (fun r u t H1 locs1 ht _ hp hB _ _ hS => kk r u hp H1 locs1 ls (ht ▸ hB.1) hS h3)
theorem s_sL {M : Mt} {ix n fr lo mc ms : Nat} {As st : List AV} {post : Int64 → XW → Prop} (E : EE p s m meth c D aC b nL cc own ret) (hM : CnL l D aC b M fr lo mc ms As w post) (hc : CSw own ix M n) (hst : st = As.reverse ++ S) (hn : As.length = n) (hfr : fr + 1 ≤ R.frames) (hlo : 8 + (M.2.2.1 + 11) + lo ≤ R.locals) (hf : cs + mc ≤ R.cells ∧ sl + ms ≤ R.slots) (hr : ((S.map (cv b)).map fun v => v.category).sum ≤ 8) (d : decode cc pc = .ok (.invokestatic ix, 3))
    (kk : ∀ (r : Int64) (u : XW), post r u → Wv p l e R s m args below meth c Q D aC b nL (pc + 3) L (AL r :: S) u (cs + mc) (sl + ms)) : Wv p l e R s m args below meth c Q D aC b nL pc L st w cs sl := fun H locs ls h1 h2 h3 =>
  va_calll (run_S E hM hc hst hn hfr hlo hf hr d h1 h2 h3) h2 (fun _ _ h => h) (fun _ h => h) (fun r u t H1 locs1 ht _ hp hB _ _ hS => kk r u hp H1 locs1 ls (ht ▸ hB.1) hS h3)
theorem s_vV {M : Mt} {ix n ci N q fr lo mc ms : Nat} {As st : List AV} {post : XW → Prop} (E : EE p s m meth c D aC b nL cc own ret) (hM : CnV l D aC b M fr lo mc ms (AR q :: As) w post) (hc : CVw own ix M n ci N) (hst : st = As.reverse ++ AR q :: S) (hn : As.length = n) (hs : xS q = (ci, N)) (hq : q < w.1) (hfr : fr + 1 ≤ R.frames) (hlo : 8 + (M.2.2.1 + 11) + lo ≤ R.locals) (hf : cs + mc ≤ R.cells ∧ sl + ms ≤ R.slots) (hr : ((S.map (cv b)).map fun v => v.category).sum ≤ 8) (d : decode cc pc = .ok (.invokevirtual ix, 3))
    (kk : ∀ (u : XW), post u → Wv p l e R s m args below meth c Q D aC b nL (pc + 3) L (S) u (cs + mc) (sl + ms)) : Wv p l e R s m args below meth c Q D aC b nL pc L st w cs sl := fun H locs ls h1 h2 h3 =>
  va_callv (run_V E hM hc hst hn hs hq hfr hlo hf hr d h1 h2 h3) h2 (fun _ _ h => h) (fun _ h => h) (fun u t H1 locs1 ht _ hp hB _ _ hS => kk u hp H1 locs1 ls (ht ▸ hB.1) hS h3)
theorem s_sV {M : Mt} {ix n fr lo mc ms : Nat} {As st : List AV} {post : XW → Prop} (E : EE p s m meth c D aC b nL cc own ret) (hM : CnV l D aC b M fr lo mc ms As w post) (hc : CSw own ix M n) (hst : st = As.reverse ++ S) (hn : As.length = n) (hfr : fr + 1 ≤ R.frames) (hlo : 8 + (M.2.2.1 + 11) + lo ≤ R.locals) (hf : cs + mc ≤ R.cells ∧ sl + ms ≤ R.slots) (hr : ((S.map (cv b)).map fun v => v.category).sum ≤ 8) (d : decode cc pc = .ok (.invokestatic ix, 3))
    (kk : ∀ (u : XW), post u → Wv p l e R s m args below meth c Q D aC b nL (pc + 3) L (S) u (cs + mc) (sl + ms)) : Wv p l e R s m args below meth c Q D aC b nL pc L st w cs sl := fun H locs ls h1 h2 h3 =>
  va_callv (run_S E hM hc hst hn hfr hlo hf hr d h1 h2 h3) h2 (fun _ _ h => h) (fun _ h => h) (fun u t H1 locs1 ht _ hp hB _ _ hS => kk u hp H1 locs1 ls (ht ▸ hB.1) hS h3)
theorem s_init {y : MethodName} {cod : ByteArray} {mL : Nat} {ix n q fr lo mc ms : Nat} {As st : List AV} {post : XW → Prop} (E : EE p s m meth c D aC b nL cc own ret) (hM : CnV l D aC b (y, cod, mL, none) fr lo mc ms (AR q :: As) w post) (hc : CIw own ix (y, cod, mL, none) n) (hst : st = As.reverse ++ AR q :: S) (hn : As.length = n) (hfr : fr + 1 ≤ R.frames) (hlo : 8 + (mL + 11) + lo ≤ R.locals) (hf : cs + mc ≤ R.cells ∧ sl + ms ≤ R.slots) (hr : ((S.map (cv b)).map fun v => v.category).sum ≤ 8) (d : decode cc pc = .ok (.invokespecial ix, 3))
    (kk : ∀ (u : XW), post u → Wv p l e R s m args below meth c Q D aC b nL (pc + 3) L S u (cs + mc) (sl + ms)) : Wv p l e R s m args below meth c Q D aC b nL pc L st w cs sl := fun H locs ls h1 h2 h3 =>
  va_callv (run_I E hM hc hst hn hfr hlo hf hr d h1 h2 h3) h2 (fun _ _ h => h) (fun _ h => h) (fun u t H1 locs1 ht _ hp hB _ _ hS => kk u hp H1 locs1 ls (ht ▸ hB.1) hS h3)
theorem s_obj {q ix : Nat} (E : EE p s m meth c D aC b nL cc own ret) (hl : Cond.methodLink own ix Lib.objectInit ∈ lw_tbl) (hi : Cond.instanceMethod Lib.objectInit ∈ lw_tbl) (hc : Cond.code Lib.objectInit ⟨#[0xb1]⟩ 1 none ∈ lw_tbl) (hfr : 1 ≤ R.frames) (hlo : ((S.map (cv b)).map fun v => v.category).sum + 12 ≤ R.locals) (d : decode cc pc = .ok (.invokespecial ix, 3)) (kk : Wv p l e R s m args below meth c Q D aC b nL (pc + 3) L S w cs sl) : Wv p l e R s m args below meth c Q D aC b nL pc L (AR q :: S) w cs sl := fun H locs ls h1 h2 h3 =>
  W.objInit E.1 E.2.1 E.2.2.2.1 (E.gl hl rfl) (E.gl hi rfl) (E.gl hc rfl) rfl (by rw [E.2.2.1]; exact h3.1) rfl d hfr (by show 2 * 0 + _ + 12 ≤ _; omega) (kk H locs ls h1 h2 h3)
theorem s_max {ix : Nat} {x y v : Int32} (E : EE p s m meth c D aC b nL cc own ret) (hw : Cond.methodLink own ix Lib.Math.max.name ∈ lw_tbl ∧ Cond.static Lib.Math.max.name ∈ lw_tbl ∧ Cond.initialized "java/lang/Math" ∈ lw_tbl ∧ Cond.code Lib.Math.max.name Lib.Math.max.code 2 (some .int) ∈ lw_tbl) (hfr : 1 ≤ R.frames) (hlo : ((S.map (cv b)).map fun v => v.category).sum + 13 ≤ R.locals) (hc : cs ≤ R.cells) (hs : sl ≤ R.slots) (d : decode cc pc = .ok (.invokestatic ix, 3)) (hv : (if x < y then y else x) = v) (kk : Wv p l e R s m args below meth c Q D aC b nL (pc + 3) L (AI v :: S) w cs sl) : Wv p l e R s m args below meth c Q D aC b nL pc L (AI y :: AI x :: S) w cs sl := fun H locs ls h1 h2 h3 =>
  va_mmax E.1 E.2.1 (by rw [E.2.2.1]; exact h3.1.symm) E.2.2.2.1 (E.gl hw.1 rfl) (E.gl hw.2.1 rfl) (E.gl hw.2.2.1 rfl) (E.gl hw.2.2.2 rfl) hfr hlo hc hs d (by rw [hv]; exact kk H locs ls h1 h2 h3)
theorem s_min {ix : Nat} {x y v : Int32} (E : EE p s m meth c D aC b nL cc own ret) (hw : Cond.methodLink own ix Lib.Math.min.name ∈ lw_tbl ∧ Cond.static Lib.Math.min.name ∈ lw_tbl ∧ Cond.initialized "java/lang/Math" ∈ lw_tbl ∧ Cond.code Lib.Math.min.name Lib.Math.min.code 2 (some .int) ∈ lw_tbl) (hfr : 1 ≤ R.frames) (hlo : ((S.map (cv b)).map fun v => v.category).sum + 13 ≤ R.locals) (hc : cs ≤ R.cells) (hs : sl ≤ R.slots) (d : decode cc pc = .ok (.invokestatic ix, 3)) (hv : (if y < x then y else x) = v) (kk : Wv p l e R s m args below meth c Q D aC b nL (pc + 3) L (AI v :: S) w cs sl) : Wv p l e R s m args below meth c Q D aC b nL pc L (AI y :: AI x :: S) w cs sl := fun H locs ls h1 h2 h3 =>
  va_mmin E.1 E.2.1 (by rw [E.2.2.1]; exact h3.1.symm) E.2.2.2.1 (E.gl hw.1 rfl) (E.gl hw.2.1 rfl) (E.gl hw.2.2.1 rfl) (E.gl hw.2.2.2 rfl) hfr hlo hc hs d (by rw [hv]; exact kk H locs ls h1 h2 h3)
end XK
