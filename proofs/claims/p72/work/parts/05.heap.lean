section XH
variable {p : Program} {l : Launch} {e : Env} {R : Room} {s : State} {m : MethodId} {args : Array Value} {below : List Frame} {meth : Method} {c : Code} {Q : State → Prop}
variable {D : va_G} {aC : Nat → ClassId} {b nL : Nat} {cc : ByteArray} {own : String} {ret : Option FieldType}
variable {pc : Nat} {L : List (Option AV)} {S : List AV} {w : XW} {cs sl : Nat}
theorem rg_get {α : Type} {f : Nat → α} {N k : Nat} (h : k < N) : ((List.range N).map f)[k]? = some (f k) := by simp [h]
theorem rg_set {α : Type} {f g : Nat → α} {N k : Nat} {v : α} (hv : g k = v) (ho : ∀ j, j ≠ k → g j = f j) : ((List.range N).map f).set k v = (List.range N).map g := by
  apply List.ext_getElem?
  intro j
  by_cases hj : k = j
  · subst hj
    by_cases hl : k < N
    · rw [List.getElem?_set_self (by simpa using hl), rg_get hl, hv]
    · rw [List.getElem?_eq_none (by simp; omega), List.getElem?_eq_none (by simp; omega)]
  · rw [List.getElem?_set_ne hj]
    by_cases hl : j < N
    · rw [rg_get hl, rg_get hl, ho j (fun z => hj z.symm)]
    · rw [List.getElem?_eq_none (by simp; omega), List.getElem?_eq_none (by simp; omega)]
/-- the world behind a write into one cell -/
theorem xH_set {w2 : XW} {H H1 : Heap} {q : Nat} {en : va_E} (h : xH D aC b w H) (hz : H1.size = H.size) (hq : q < w.1) (hn : w2.1 = w.1) (hE : xE aC b w2 q = en) (ho : ∀ j, j ≠ q → xE aC b w2 j = xE aC b w j) (hP : va_P D vwCl ((xL aC b w).set q (b + q, en)) H1) : xH D aC b w2 H1 :=
  ⟨by rw [← xL_set hE hn ho]; exact hP, by rw [hz, h.2, hn]⟩
theorem upI_o {j q k : Nat} {x : Int32} (h : j ≠ q) : xE aC b (upI w q k x) j = xE aC b w j := xE_other rfl (va_up_ne _ _ h) rfl
theorem upL_o {j q k : Nat} {x : Int64} (h : j ≠ q) : xE aC b (upL w q k x) j = xE aC b w j := xE_other rfl rfl (va_up_ne _ _ h)
theorem upR_o {j q k : Nat} {x : Nat} (h : j ≠ q) : xE aC b (upR w q k x) j = xE aC b w j := xE_other (va_up_ne _ _ h) rfl rfl
theorem xF_upI {q k j : Nat} {x : Int32} {t : FieldType} (h : j ≠ k) : xF b (upI w q k x) q t j = xF b w q t j := by
  unfold xF upI
  simp [va_up, upd, h]
theorem xF_upL {q k j : Nat} {x : Int64} {t : FieldType} (h : j ≠ k) : xF b (upL w q k x) q t j = xF b w q t j := by
  unfold xF upL
  simp [va_up, vp_updL, h]
theorem xF_upR {q k j : Nat} {x : Nat} {t : FieldType} (h : j ≠ k) : xF b (upR w q k x) q t j = xF b w q t j := by
  unfold xF upR
  simp [va_up, h]
theorem s_getI {q ci N index : Nat} {C : String} {T : u_T} (E : EE p s m meth c D aC b nL cc own ret) (hC : CI ci C T N) (k : Nat) (hk : k < N) (ht : isI (xT ci k) = true) (hm : Cond.fieldLink own index (T k).1 (T k).2.1 (T k).2.2.1 ∈ lw_tbl) (ho : okW (Cond.fieldLink own index (T k).1 (T k).2.1 (T k).2.2.1) = true) (hs : xS q = (ci, N)) (hq : q < w.1) (d : decode cc pc = .ok (.getfield index, 3)) (kk : Wv p l e R s m args below meth c Q D aC b nL (pc + 3) L (AI (w.2.2.1 q k) :: S) w cs sl) : Wv p l e R s m args below meth c Q D aC b nL pc L (AR q :: S) w cs sl := fun H locs ls h1 h2 h3 =>
  va_get E.1 E.2.1 (E.ci hC) (fun _ h => h) E.2.2.2.1 E.2.2.2.2.2.1 h1.1 q (by rw [xL_at hq, xE_obj hs hC.2.1]) hC.1 k hk (E.gl hm ho) (fun _ h => h) (by rw [rg_get hk, xF_int ht]; rfl) d (kk H locs ls h1 h2 h3)
theorem s_getL {q ci N index : Nat} {C : String} {T : u_T} (E : EE p s m meth c D aC b nL cc own ret) (hC : CI ci C T N) (k : Nat) (hk : k < N) (ht : xT ci k = .long) (hm : Cond.fieldLink own index (T k).1 (T k).2.1 (T k).2.2.1 ∈ lw_tbl) (ho : okW (Cond.fieldLink own index (T k).1 (T k).2.1 (T k).2.2.1) = true) (hs : xS q = (ci, N)) (hq : q < w.1) (d : decode cc pc = .ok (.getfield index, 3)) (kk : Wv p l e R s m args below meth c Q D aC b nL (pc + 3) L (AL (w.2.2.2 q k) :: S) w cs sl) : Wv p l e R s m args below meth c Q D aC b nL pc L (AR q :: S) w cs sl := fun H locs ls h1 h2 h3 =>
  va_get E.1 E.2.1 (E.ci hC) (fun _ h => h) E.2.2.2.1 E.2.2.2.2.2.1 h1.1 q (by rw [xL_at hq, xE_obj hs hC.2.1]) hC.1 k hk (E.gl hm ho) (fun _ h => h) (by rw [rg_get hk, show xF b w q (xT ci k) k = .long (w.2.2.2 q k) from (by rw [ht]; exact xF_long)]; rfl) d (kk H locs ls h1 h2 h3)
theorem s_getR {q r ci N index : Nat} {C : String} {T : u_T} (E : EE p s m meth c D aC b nL cc own ret) (hC : CI ci C T N) (k : Nat) (hk : k < N) (ht : isRf (xT ci k) = true) (hm : Cond.fieldLink own index (T k).1 (T k).2.1 (T k).2.2.1 ∈ lw_tbl) (ho : okW (Cond.fieldLink own index (T k).1 (T k).2.1 (T k).2.2.1) = true) (hs : xS q = (ci, N)) (hq : q < w.1) (hr : w.2.1 q k = r + 1) (d : decode cc pc = .ok (.getfield index, 3)) (kk : Wv p l e R s m args below meth c Q D aC b nL (pc + 3) L (AR r :: S) w cs sl) : Wv p l e R s m args below meth c Q D aC b nL pc L (AR q :: S) w cs sl := fun H locs ls h1 h2 h3 =>
  va_get E.1 E.2.1 (E.ci hC) (fun _ h => h) E.2.2.2.1 E.2.2.2.2.2.1 h1.1 q (by rw [xL_at hq, xE_obj hs hC.2.1]) hC.1 k hk (E.gl hm ho) (fun _ h => h) (by rw [rg_get hk, xF_ref ht, hr]; rfl) d (kk H locs ls h1 h2 h3)
theorem s_getIN {q ci N index : Nat} {host : String} {C : String} {T : u_T} (E : EE p s m meth c D aC b nL cc own ret) (hC : CI ci C T N) (k : Nat) (hk : k < N) (ht : isI (xT ci k) = true) (hm : Cond.fieldLinkNest own index (T k).1 (T k).2.1 (T k).2.2.1 host ∈ lw_tbl) (ho : okW (Cond.fieldLinkNest own index (T k).1 (T k).2.1 (T k).2.2.1 host) = true) (hs : xS q = (ci, N)) (hq : q < w.1) (d : decode cc pc = .ok (.getfield index, 3)) (kk : Wv p l e R s m args below meth c Q D aC b nL (pc + 3) L (AI (w.2.2.1 q k) :: S) w cs sl) : Wv p l e R s m args below meth c Q D aC b nL pc L (AR q :: S) w cs sl := fun H locs ls h1 h2 h3 =>
  va_getN E.1 E.2.1 (E.ci hC) (fun _ h => h) E.2.2.2.1 E.2.2.2.2.2.1 h1.1 q (by rw [xL_at hq, xE_obj hs hC.2.1]) hC.1 k hk (E.gl hm ho) (fun _ h => h) (by rw [rg_get hk, xF_int ht]; rfl) d (kk H locs ls h1 h2 h3)
theorem s_getLN {q ci N index : Nat} {host : String} {C : String} {T : u_T} (E : EE p s m meth c D aC b nL cc own ret) (hC : CI ci C T N) (k : Nat) (hk : k < N) (ht : xT ci k = .long) (hm : Cond.fieldLinkNest own index (T k).1 (T k).2.1 (T k).2.2.1 host ∈ lw_tbl) (ho : okW (Cond.fieldLinkNest own index (T k).1 (T k).2.1 (T k).2.2.1 host) = true) (hs : xS q = (ci, N)) (hq : q < w.1) (d : decode cc pc = .ok (.getfield index, 3)) (kk : Wv p l e R s m args below meth c Q D aC b nL (pc + 3) L (AL (w.2.2.2 q k) :: S) w cs sl) : Wv p l e R s m args below meth c Q D aC b nL pc L (AR q :: S) w cs sl := fun H locs ls h1 h2 h3 =>
  va_getN E.1 E.2.1 (E.ci hC) (fun _ h => h) E.2.2.2.1 E.2.2.2.2.2.1 h1.1 q (by rw [xL_at hq, xE_obj hs hC.2.1]) hC.1 k hk (E.gl hm ho) (fun _ h => h) (by rw [rg_get hk, show xF b w q (xT ci k) k = .long (w.2.2.2 q k) from (by rw [ht]; exact xF_long)]; rfl) d (kk H locs ls h1 h2 h3)
theorem s_getRN {q r ci N index : Nat} {host : String} {C : String} {T : u_T} (E : EE p s m meth c D aC b nL cc own ret) (hC : CI ci C T N) (k : Nat) (hk : k < N) (ht : isRf (xT ci k) = true) (hm : Cond.fieldLinkNest own index (T k).1 (T k).2.1 (T k).2.2.1 host ∈ lw_tbl) (ho : okW (Cond.fieldLinkNest own index (T k).1 (T k).2.1 (T k).2.2.1 host) = true) (hs : xS q = (ci, N)) (hq : q < w.1) (hr : w.2.1 q k = r + 1) (d : decode cc pc = .ok (.getfield index, 3)) (kk : Wv p l e R s m args below meth c Q D aC b nL (pc + 3) L (AR r :: S) w cs sl) : Wv p l e R s m args below meth c Q D aC b nL pc L (AR q :: S) w cs sl := fun H locs ls h1 h2 h3 =>
  va_getN E.1 E.2.1 (E.ci hC) (fun _ h => h) E.2.2.2.1 E.2.2.2.2.2.1 h1.1 q (by rw [xL_at hq, xE_obj hs hC.2.1]) hC.1 k hk (E.gl hm ho) (fun _ h => h) (by rw [rg_get hk, xF_ref ht, hr]; rfl) d (kk H locs ls h1 h2 h3)
theorem xp_ (hexec : p.tables.exec = Jvm.exec) (hb : c.code = cc) {C : String} {T : u_T} {N ci index : Nat} (hts : ∀ w ∈ u_ws C T N, w.before args s = true) (ty0 : Nat → FieldType) (hty : ∀ k, k < N → parseFieldDescriptor (T k).2.2.1 = some (ty0 k)) (hnm : ∀ a, a < N → ∀ b, b < N → a ≠ b → (T a).2.1 ≠ (T b).2.1) (hown : s.vm.findClass own = some m.cls) {tys : List (ClassId × FieldType)} (hK : va_K D vwCl tys s) {ws : va_W} {H : Heap} {locs : List Loc} {H0 : Heap} {A : Nat → Prop} (hP : va_P D vwCl ws H) (hD : va_D A ws) (hS0 : va_S A H0 H locs) (q0 : Nat) {a : Nat} {fs : List Value} (he : ws[q0]? = some (a, .inr (ci, fs))) (hc : vwCl[ci]? = some (C, T, N)) (k : Nat) (hk : k < N) (hlink : (Cond.fieldLink own index (T k).1 (T k).2.1 (T k).2.2.1).before args s = true) (hfin : (T k).2.2.2 = false) {v : Value} (hn : narrow (ty0 k) v = v) (hfit : fits (ty0 k) v = true) (hl : k < fs.length) {ls : Array Slot} {rest : List Value} (hdg : decode cc pc = .ok (.putfield index, 3)) (kk : ∀ (H1 : Heap) (locs1 : List Loc), H1.size = H.size → va_P D vwCl (ws.set q0 (a, .inr (ci, fs.set k v))) H1 → va_S A H0 H1 locs1 → W p l e R s m args below meth c H1 locs1 cs sl Q (F0 m (pc + 3) ls rest)) : W p l e R s m args below meth c H locs cs sl Q (F0 m pc ls (v :: .ref a :: rest)) := by
  have hd := hty k hk
  have hap := va_apart (own := own) hts (fun _ h => h) ty0 hty hnm hK hc
  obtain ⟨r, h1, cell, q1, q2, q3, q4⟩ := hP q0 _ he
  have hr : r = (C, T, N) := Option.some.inj (h1.symm.trans hc)
  subst hr
  obtain ⟨hS, hfc, kC, hkC, hkind⟩ := hK.1 ci _ hc
  obtain ⟨cf, kf, fi, f, hi, hsl⟩ := hS k hk
  have hlay := hts _ (u_in_lay hk)
  unfold u_lay at hlay
  rw [if_neg (by rw [hfin]; decide)] at hlay
  have hst := (u_facts hfc hkC (u_lays hts (fun _ h => h) hk) hi).1
  have h6 := u_store hfc hkC hkind hlay hi hd hn hfit
  refine W.putK hexec hb (f := f) ⟨hown, hlink, ⟨_, _, _, hi⟩, hst⟩ (by rw [q2]; exact h6) q1 q3 (by rw [hsl]; exact k2_hasslot (q4 k hk)) rfl rfl hdg fun H' e1 e2 e3 => ?_
  rw [hsl] at e1 ⊢
  exact kk H' _ e2 (hP.set hD he ⟨_, hc, t_OB.to (V := updV (vp_V fs) k v) ⟨_, e1, q2, q3, t_set q4 hap hk v⟩ (fun j _ => vp_updV_set hl v j)⟩ e3) (hS0.put e2 e3 (hD.2 q0 _ he))
theorem xp_N {host : String} (hexec : p.tables.exec = Jvm.exec) (hb : c.code = cc) {C : String} {T : u_T} {N ci index : Nat} (hts : ∀ w ∈ u_ws C T N, w.before args s = true) (ty0 : Nat → FieldType) (hty : ∀ k, k < N → parseFieldDescriptor (T k).2.2.1 = some (ty0 k)) (hnm : ∀ a, a < N → ∀ b, b < N → a ≠ b → (T a).2.1 ≠ (T b).2.1) (hown : s.vm.findClass own = some m.cls) {tys : List (ClassId × FieldType)} (hK : va_K D vwCl tys s) {ws : va_W} {H : Heap} {locs : List Loc} {H0 : Heap} {A : Nat → Prop} (hP : va_P D vwCl ws H) (hD : va_D A ws) (hS0 : va_S A H0 H locs) (q0 : Nat) {a : Nat} {fs : List Value} (he : ws[q0]? = some (a, .inr (ci, fs))) (hc : vwCl[ci]? = some (C, T, N)) (k : Nat) (hk : k < N) (hlink : (Cond.fieldLinkNest own index (T k).1 (T k).2.1 (T k).2.2.1 host).before args s = true) (hfin : (T k).2.2.2 = false) {v : Value} (hn : narrow (ty0 k) v = v) (hfit : fits (ty0 k) v = true) (hl : k < fs.length) {ls : Array Slot} {rest : List Value} (hdg : decode cc pc = .ok (.putfield index, 3)) (kk : ∀ (H1 : Heap) (locs1 : List Loc), H1.size = H.size → va_P D vwCl (ws.set q0 (a, .inr (ci, fs.set k v))) H1 → va_S A H0 H1 locs1 → W p l e R s m args below meth c H1 locs1 cs sl Q (F0 m (pc + 3) ls rest)) : W p l e R s m args below meth c H locs cs sl Q (F0 m pc ls (v :: .ref a :: rest)) := by
  have hd := hty k hk
  have hap := va_apart (own := own) hts (fun _ h => h) ty0 hty hnm hK hc
  obtain ⟨r, h1, cell, q1, q2, q3, q4⟩ := hP q0 _ he
  have hr : r = (C, T, N) := Option.some.inj (h1.symm.trans hc)
  subst hr
  obtain ⟨hS, hfc, kC, hkC, hkind⟩ := hK.1 ci _ hc
  obtain ⟨cf, kf, fi, f, hi, hsl⟩ := hS k hk
  have hlay := hts _ (u_in_lay hk)
  unfold u_lay at hlay
  rw [if_neg (by rw [hfin]; decide)] at hlay
  have hst := (u_facts hfc hkC (u_lays hts (fun _ h => h) hk) hi).1
  have h6 := u_store hfc hkC hkind hlay hi hd hn hfit
  refine va_WputK hexec hb (f := f) hown hlink hi hst (by rw [q2]; exact h6) q1 q3 (by rw [hsl]; exact k2_hasslot (q4 k hk)) rfl rfl hdg fun H' e1 e2 e3 => ?_
  rw [hsl] at e1 ⊢
  exact kk H' _ e2 (hP.set hD he ⟨_, hc, t_OB.to (V := updV (vp_V fs) k v) ⟨_, e1, q2, q3, t_set q4 hap hk v⟩ (fun j _ => vp_updV_set hl v j)⟩ e3) (hS0.put e2 e3 (hD.2 q0 _ he))
theorem xp_F (hexec : p.tables.exec = Jvm.exec) (hb : c.code = cc) {C : String} {T : u_T} {N ci index : Nat} (hts : ∀ w ∈ u_ws C T N, w.before args s = true) (ty0 : Nat → FieldType) (hty : ∀ k, k < N → parseFieldDescriptor (T k).2.2.1 = some (ty0 k)) (hnm : ∀ a, a < N → ∀ b, b < N → a ≠ b → (T a).2.1 ≠ (T b).2.1) (hown : s.vm.findClass own = some m.cls) {tys : List (ClassId × FieldType)} (hK : va_K D vwCl tys s) {ws : va_W} {H : Heap} {locs : List Loc} {H0 : Heap} {A : Nat → Prop} (hP : va_P D vwCl ws H) (hD : va_D A ws) (hS0 : va_S A H0 H locs) (q0 : Nat) {a : Nat} {fs : List Value} (he : ws[q0]? = some (a, .inr (ci, fs))) (hc : vwCl[ci]? = some (C, T, N)) (k : Nat) (hk : k < N) (hlink : (Cond.fieldLink own index (T k).1 (T k).2.1 (T k).2.2.1).before args s = true) (hfin : (T k).2.2.2 = true) (hin2 : meth.name = "<init>") (hdecl : (T k).1 = own) {v : Value} (hn : narrow (ty0 k) v = v) (hfit : fits (ty0 k) v = true) (hl : k < fs.length) {ls : Array Slot} {rest : List Value} (hdg : decode cc pc = .ok (.putfield index, 3)) (kk : ∀ (H1 : Heap) (locs1 : List Loc), H1.size = H.size → va_P D vwCl (ws.set q0 (a, .inr (ci, fs.set k v))) H1 → va_S A H0 H1 locs1 → W p l e R s m args below meth c H1 locs1 cs sl Q (F0 m (pc + 3) ls rest)) : W p l e R s m args below meth c H locs cs sl Q (F0 m pc ls (v :: .ref a :: rest)) := by
  have hd := hty k hk
  have hap := va_apart (own := own) hts (fun _ h => h) ty0 hty hnm hK hc
  obtain ⟨r, h1, cell, q1, q2, q3, q4⟩ := hP q0 _ he
  have hr : r = (C, T, N) := Option.some.inj (h1.symm.trans hc)
  subst hr
  obtain ⟨hS, hfc, kC, hkC, hkind⟩ := hK.1 ci _ hc
  obtain ⟨cf, kf, fi, f, hi, hsl⟩ := hS k hk
  have hlay := hts _ (u_in_lay hk)
  unfold u_lay at hlay
  rw [if_pos hfin] at hlay
  have hst := (u_facts hfc hkC (u_lays hts (fun _ h => h) hk) hi).1
  have hcf : m.cls = cf := by
    obtain ⟨_, _, c1, _, _, _, -, -, hf1, -, -, -, hown2, -⟩ := Cond.laysFinal_spec hlay
    have e1 : c1 = cf := by have := hi.symm.trans hf1; simp at this; exact this.1.symm
    rw [hdecl] at hown2
    rw [← e1]; exact Option.some.inj (hown.symm.trans hown2)
  have h6 := u_fits hfc hkC hkind (Or.inr hlay) hi hd hn hfit
  refine W.putFinK hexec hb hown hlink hi hst hcf hin2 (by rw [q2]; exact h6) q1 q3 (by rw [hsl]; exact k2_hasslot (q4 k hk)) rfl rfl hdg fun H' e1 e2 e3 => ?_
  rw [hsl] at e1 ⊢
  exact kk H' _ e2 (hP.set hD he ⟨_, hc, t_OB.to (V := updV (vp_V fs) k v) ⟨_, e1, q2, q3, t_set q4 hap hk v⟩ (fun j _ => vp_updV_set hl v j)⟩ e3) (hS0.put e2 e3 (hD.2 q0 _ he))
theorem s_putI {q ci N index : Nat} {x : Int32} {C : String} {T : u_T} (E : EE p s m meth c D aC b nL cc own ret) (hC : CI ci C T N) (k : Nat) (hk : k < N) (ht : isI (xT ci k) = true) (hm : Cond.fieldLink own index (T k).1 (T k).2.1 (T k).2.2.1 ∈ lw_tbl) (ho : okW (Cond.fieldLink own index (T k).1 (T k).2.1 (T k).2.2.1) = true) (hs : xS q = (ci, N)) (hq : q < w.1) (hf : (T k).2.2.2 = false) (hn : narrow (xT ci k) (.int x) = .int x) (hfi : fits (xT ci k) (.int x) = true) (d : decode cc pc = .ok (.putfield index, 3)) (kk : Wv p l e R s m args below meth c Q D aC b nL (pc + 3) L S (upI w q k x) cs sl) : Wv p l e R s m args below meth c Q D aC b nL pc L (AI x :: AR q :: S) w cs sl := fun H locs ls h1 h2 h3 => by
  have he : xE aC b w q = _ := xE_obj hs hC.2.1
  refine xp_ (v := .int x) E.1 E.2.1 (E.ci hC) (xT ci) hC.2.2.2.1 hC.2.2.2.2 E.2.2.2.1 E.2.2.2.2.2.1 h1.1 xL_D h2 q (by rw [xL_at hq, he]) hC.1 k hk (E.gl hm ho) hf hn hfi (by simpa using hk) d (fun H1 locs1 hz hP1 hS1 => kk H1 locs1 ls ?_ hS1 h3)
  exact xH_set h1 hz hq rfl (by rw [xE_obj hs hC.2.1, rg_set (g := fun k2 => xF b (upI w q k x) q (xT ci k2) k2) (by show xF b _ q (xT ci k) k = _; rw [xF_int ht]; simp [upI, va_up, upd]) (fun j hj => xF_upI hj)]) (fun j hj => upI_o hj) hP1
theorem s_putIN {q ci N index : Nat} {x : Int32} {host : String} {C : String} {T : u_T} (E : EE p s m meth c D aC b nL cc own ret) (hC : CI ci C T N) (k : Nat) (hk : k < N) (ht : isI (xT ci k) = true) (hm : Cond.fieldLinkNest own index (T k).1 (T k).2.1 (T k).2.2.1 host ∈ lw_tbl) (ho : okW (Cond.fieldLinkNest own index (T k).1 (T k).2.1 (T k).2.2.1 host) = true) (hs : xS q = (ci, N)) (hq : q < w.1) (hf : (T k).2.2.2 = false) (hn : narrow (xT ci k) (.int x) = .int x) (hfi : fits (xT ci k) (.int x) = true) (d : decode cc pc = .ok (.putfield index, 3)) (kk : Wv p l e R s m args below meth c Q D aC b nL (pc + 3) L S (upI w q k x) cs sl) : Wv p l e R s m args below meth c Q D aC b nL pc L (AI x :: AR q :: S) w cs sl := fun H locs ls h1 h2 h3 => by
  have he : xE aC b w q = _ := xE_obj hs hC.2.1
  refine xp_N (v := .int x) E.1 E.2.1 (E.ci hC) (xT ci) hC.2.2.2.1 hC.2.2.2.2 E.2.2.2.1 E.2.2.2.2.2.1 h1.1 xL_D h2 q (by rw [xL_at hq, he]) hC.1 k hk (E.gl hm ho) hf hn hfi (by simpa using hk) d (fun H1 locs1 hz hP1 hS1 => kk H1 locs1 ls ?_ hS1 h3)
  exact xH_set h1 hz hq rfl (by rw [xE_obj hs hC.2.1, rg_set (g := fun k2 => xF b (upI w q k x) q (xT ci k2) k2) (by show xF b _ q (xT ci k) k = _; rw [xF_int ht]; simp [upI, va_up, upd]) (fun j hj => xF_upI hj)]) (fun j hj => upI_o hj) hP1
theorem s_putIF {q ci N index : Nat} {x : Int32} {C : String} {T : u_T} (E : EE p s m meth c D aC b nL cc own ret) (hC : CI ci C T N) (k : Nat) (hk : k < N) (ht : isI (xT ci k) = true) (hm : Cond.fieldLink own index (T k).1 (T k).2.1 (T k).2.2.1 ∈ lw_tbl) (ho : okW (Cond.fieldLink own index (T k).1 (T k).2.1 (T k).2.2.1) = true) (hs : xS q = (ci, N)) (hq : q < w.1) (hf : (T k).2.2.2 = true) (hin : meth.name = "<init>") (hde : (T k).1 = own) (hn : narrow (xT ci k) (.int x) = .int x) (hfi : fits (xT ci k) (.int x) = true) (d : decode cc pc = .ok (.putfield index, 3)) (kk : Wv p l e R s m args below meth c Q D aC b nL (pc + 3) L S (upI w q k x) cs sl) : Wv p l e R s m args below meth c Q D aC b nL pc L (AI x :: AR q :: S) w cs sl := fun H locs ls h1 h2 h3 => by
  have he : xE aC b w q = _ := xE_obj hs hC.2.1
  refine xp_F (v := .int x) E.1 E.2.1 (E.ci hC) (xT ci) hC.2.2.2.1 hC.2.2.2.2 E.2.2.2.1 E.2.2.2.2.2.1 h1.1 xL_D h2 q (by rw [xL_at hq, he]) hC.1 k hk (E.gl hm ho) hf hin hde hn hfi (by simpa using hk) d (fun H1 locs1 hz hP1 hS1 => kk H1 locs1 ls ?_ hS1 h3)
  exact xH_set h1 hz hq rfl (by rw [xE_obj hs hC.2.1, rg_set (g := fun k2 => xF b (upI w q k x) q (xT ci k2) k2) (by show xF b _ q (xT ci k) k = _; rw [xF_int ht]; simp [upI, va_up, upd]) (fun j hj => xF_upI hj)]) (fun j hj => upI_o hj) hP1
theorem s_putL {q ci N index : Nat} {x : Int64} {C : String} {T : u_T} (E : EE p s m meth c D aC b nL cc own ret) (hC : CI ci C T N) (k : Nat) (hk : k < N) (ht : xT ci k = .long) (hm : Cond.fieldLink own index (T k).1 (T k).2.1 (T k).2.2.1 ∈ lw_tbl) (ho : okW (Cond.fieldLink own index (T k).1 (T k).2.1 (T k).2.2.1) = true) (hs : xS q = (ci, N)) (hq : q < w.1) (hf : (T k).2.2.2 = false) (d : decode cc pc = .ok (.putfield index, 3)) (kk : Wv p l e R s m args below meth c Q D aC b nL (pc + 3) L S (upL w q k x) cs sl) : Wv p l e R s m args below meth c Q D aC b nL pc L (AL x :: AR q :: S) w cs sl := fun H locs ls h1 h2 h3 => by
  have he : xE aC b w q = _ := xE_obj hs hC.2.1
  refine xp_ (v := .long x) E.1 E.2.1 (E.ci hC) (xT ci) hC.2.2.2.1 hC.2.2.2.2 E.2.2.2.1 E.2.2.2.2.2.1 h1.1 xL_D h2 q (by rw [xL_at hq, he]) hC.1 k hk (E.gl hm ho) hf (by rw [ht]; rfl) (by rw [ht]; rfl) (by simpa using hk) d (fun H1 locs1 hz hP1 hS1 => kk H1 locs1 ls ?_ hS1 h3)
  exact xH_set h1 hz hq rfl (by rw [xE_obj hs hC.2.1, rg_set (g := fun k2 => xF b (upL w q k x) q (xT ci k2) k2) (by show xF b _ q (xT ci k) k = _; rw [ht, xF_long]; simp [upL, va_up, vp_updL]) (fun j hj => xF_upL hj)]) (fun j hj => upL_o hj) hP1
theorem s_putLN {q ci N index : Nat} {x : Int64} {host : String} {C : String} {T : u_T} (E : EE p s m meth c D aC b nL cc own ret) (hC : CI ci C T N) (k : Nat) (hk : k < N) (ht : xT ci k = .long) (hm : Cond.fieldLinkNest own index (T k).1 (T k).2.1 (T k).2.2.1 host ∈ lw_tbl) (ho : okW (Cond.fieldLinkNest own index (T k).1 (T k).2.1 (T k).2.2.1 host) = true) (hs : xS q = (ci, N)) (hq : q < w.1) (hf : (T k).2.2.2 = false) (d : decode cc pc = .ok (.putfield index, 3)) (kk : Wv p l e R s m args below meth c Q D aC b nL (pc + 3) L S (upL w q k x) cs sl) : Wv p l e R s m args below meth c Q D aC b nL pc L (AL x :: AR q :: S) w cs sl := fun H locs ls h1 h2 h3 => by
  have he : xE aC b w q = _ := xE_obj hs hC.2.1
  refine xp_N (v := .long x) E.1 E.2.1 (E.ci hC) (xT ci) hC.2.2.2.1 hC.2.2.2.2 E.2.2.2.1 E.2.2.2.2.2.1 h1.1 xL_D h2 q (by rw [xL_at hq, he]) hC.1 k hk (E.gl hm ho) hf (by rw [ht]; rfl) (by rw [ht]; rfl) (by simpa using hk) d (fun H1 locs1 hz hP1 hS1 => kk H1 locs1 ls ?_ hS1 h3)
  exact xH_set h1 hz hq rfl (by rw [xE_obj hs hC.2.1, rg_set (g := fun k2 => xF b (upL w q k x) q (xT ci k2) k2) (by show xF b _ q (xT ci k) k = _; rw [ht, xF_long]; simp [upL, va_up, vp_updL]) (fun j hj => xF_upL hj)]) (fun j hj => upL_o hj) hP1
theorem s_putLF {q ci N index : Nat} {x : Int64} {C : String} {T : u_T} (E : EE p s m meth c D aC b nL cc own ret) (hC : CI ci C T N) (k : Nat) (hk : k < N) (ht : xT ci k = .long) (hm : Cond.fieldLink own index (T k).1 (T k).2.1 (T k).2.2.1 ∈ lw_tbl) (ho : okW (Cond.fieldLink own index (T k).1 (T k).2.1 (T k).2.2.1) = true) (hs : xS q = (ci, N)) (hq : q < w.1) (hf : (T k).2.2.2 = true) (hin : meth.name = "<init>") (hde : (T k).1 = own) (d : decode cc pc = .ok (.putfield index, 3)) (kk : Wv p l e R s m args below meth c Q D aC b nL (pc + 3) L S (upL w q k x) cs sl) : Wv p l e R s m args below meth c Q D aC b nL pc L (AL x :: AR q :: S) w cs sl := fun H locs ls h1 h2 h3 => by
  have he : xE aC b w q = _ := xE_obj hs hC.2.1
  refine xp_F (v := .long x) E.1 E.2.1 (E.ci hC) (xT ci) hC.2.2.2.1 hC.2.2.2.2 E.2.2.2.1 E.2.2.2.2.2.1 h1.1 xL_D h2 q (by rw [xL_at hq, he]) hC.1 k hk (E.gl hm ho) hf hin hde (by rw [ht]; rfl) (by rw [ht]; rfl) (by simpa using hk) d (fun H1 locs1 hz hP1 hS1 => kk H1 locs1 ls ?_ hS1 h3)
  exact xH_set h1 hz hq rfl (by rw [xE_obj hs hC.2.1, rg_set (g := fun k2 => xF b (upL w q k x) q (xT ci k2) k2) (by show xF b _ q (xT ci k) k = _; rw [ht, xF_long]; simp [upL, va_up, vp_updL]) (fun j hj => xF_upL hj)]) (fun j hj => upL_o hj) hP1
theorem s_putR {q ci N index : Nat} {x : Nat} {C : String} {T : u_T} (E : EE p s m meth c D aC b nL cc own ret) (hC : CI ci C T N) (k : Nat) (hk : k < N) (ht : isRf (xT ci k) = true) (hm : Cond.fieldLink own index (T k).1 (T k).2.1 (T k).2.2.1 ∈ lw_tbl) (ho : okW (Cond.fieldLink own index (T k).1 (T k).2.1 (T k).2.2.1) = true) (hs : xS q = (ci, N)) (hq : q < w.1) (hf : (T k).2.2.2 = false) (d : decode cc pc = .ok (.putfield index, 3)) (kk : Wv p l e R s m args below meth c Q D aC b nL (pc + 3) L S (upR w q k (x + 1)) cs sl) : Wv p l e R s m args below meth c Q D aC b nL pc L (AR x :: AR q :: S) w cs sl := fun H locs ls h1 h2 h3 => by
  have he : xE aC b w q = _ := xE_obj hs hC.2.1
  refine xp_ (v := .ref (b + x)) E.1 E.2.1 (E.ci hC) (xT ci) hC.2.2.2.1 hC.2.2.2.2 E.2.2.2.1 E.2.2.2.2.2.1 h1.1 xL_D h2 q (by rw [xL_at hq, he]) hC.1 k hk (E.gl hm ho) hf (by cases hty : xT ci k <;> rw [hty] at ht <;> first | rfl | (simp [isRf] at ht)) (by cases hty : xT ci k <;> rw [hty] at ht <;> first | rfl | (simp [isRf] at ht)) (by simpa using hk) d (fun H1 locs1 hz hP1 hS1 => kk H1 locs1 ls ?_ hS1 h3)
  exact xH_set h1 hz hq rfl (by rw [xE_obj hs hC.2.1, rg_set (g := fun k2 => xF b (upR w q k (x + 1)) q (xT ci k2) k2) (by show xF b _ q (xT ci k) k = _; rw [xF_ref ht]; simp [upR, va_up, rv, va_rf]) (fun j hj => xF_upR hj)]) (fun j hj => upR_o hj) hP1
theorem s_putRN {q ci N index : Nat} {x : Nat} {host : String} {C : String} {T : u_T} (E : EE p s m meth c D aC b nL cc own ret) (hC : CI ci C T N) (k : Nat) (hk : k < N) (ht : isRf (xT ci k) = true) (hm : Cond.fieldLinkNest own index (T k).1 (T k).2.1 (T k).2.2.1 host ∈ lw_tbl) (ho : okW (Cond.fieldLinkNest own index (T k).1 (T k).2.1 (T k).2.2.1 host) = true) (hs : xS q = (ci, N)) (hq : q < w.1) (hf : (T k).2.2.2 = false) (d : decode cc pc = .ok (.putfield index, 3)) (kk : Wv p l e R s m args below meth c Q D aC b nL (pc + 3) L S (upR w q k (x + 1)) cs sl) : Wv p l e R s m args below meth c Q D aC b nL pc L (AR x :: AR q :: S) w cs sl := fun H locs ls h1 h2 h3 => by
  have he : xE aC b w q = _ := xE_obj hs hC.2.1
  refine xp_N (v := .ref (b + x)) E.1 E.2.1 (E.ci hC) (xT ci) hC.2.2.2.1 hC.2.2.2.2 E.2.2.2.1 E.2.2.2.2.2.1 h1.1 xL_D h2 q (by rw [xL_at hq, he]) hC.1 k hk (E.gl hm ho) hf (by cases hty : xT ci k <;> rw [hty] at ht <;> first | rfl | (simp [isRf] at ht)) (by cases hty : xT ci k <;> rw [hty] at ht <;> first | rfl | (simp [isRf] at ht)) (by simpa using hk) d (fun H1 locs1 hz hP1 hS1 => kk H1 locs1 ls ?_ hS1 h3)
  exact xH_set h1 hz hq rfl (by rw [xE_obj hs hC.2.1, rg_set (g := fun k2 => xF b (upR w q k (x + 1)) q (xT ci k2) k2) (by show xF b _ q (xT ci k) k = _; rw [xF_ref ht]; simp [upR, va_up, rv, va_rf]) (fun j hj => xF_upR hj)]) (fun j hj => upR_o hj) hP1
theorem s_putRF {q ci N index : Nat} {x : Nat} {C : String} {T : u_T} (E : EE p s m meth c D aC b nL cc own ret) (hC : CI ci C T N) (k : Nat) (hk : k < N) (ht : isRf (xT ci k) = true) (hm : Cond.fieldLink own index (T k).1 (T k).2.1 (T k).2.2.1 ∈ lw_tbl) (ho : okW (Cond.fieldLink own index (T k).1 (T k).2.1 (T k).2.2.1) = true) (hs : xS q = (ci, N)) (hq : q < w.1) (hf : (T k).2.2.2 = true) (hin : meth.name = "<init>") (hde : (T k).1 = own) (d : decode cc pc = .ok (.putfield index, 3)) (kk : Wv p l e R s m args below meth c Q D aC b nL (pc + 3) L S (upR w q k (x + 1)) cs sl) : Wv p l e R s m args below meth c Q D aC b nL pc L (AR x :: AR q :: S) w cs sl := fun H locs ls h1 h2 h3 => by
  have he : xE aC b w q = _ := xE_obj hs hC.2.1
  refine xp_F (v := .ref (b + x)) E.1 E.2.1 (E.ci hC) (xT ci) hC.2.2.2.1 hC.2.2.2.2 E.2.2.2.1 E.2.2.2.2.2.1 h1.1 xL_D h2 q (by rw [xL_at hq, he]) hC.1 k hk (E.gl hm ho) hf hin hde (by cases hty : xT ci k <;> rw [hty] at ht <;> first | rfl | (simp [isRf] at ht)) (by cases hty : xT ci k <;> rw [hty] at ht <;> first | rfl | (simp [isRf] at ht)) (by simpa using hk) d (fun H1 locs1 hz hP1 hS1 => kk H1 locs1 ls ?_ hS1 h3)
  exact xH_set h1 hz hq rfl (by rw [xE_obj hs hC.2.1, rg_set (g := fun k2 => xF b (upR w q k (x + 1)) q (xT ci k2) k2) (by show xF b _ q (xT ci k) k = _; rw [xF_ref ht]; simp [upR, va_up, rv, va_rf]) (fun j hj => xF_upR hj)]) (fun j hj => upR_o hj) hP1
end XH
