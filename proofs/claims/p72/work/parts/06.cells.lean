section XC
variable {p : Program} {l : Launch} {e : Env} {R : Room} {s : State} {m : MethodId} {args : Array Value} {below : List Frame} {meth : Method} {c : Code} {Q : State → Prop}
variable {D : va_G} {aC : Nat → ClassId} {b nL : Nat} {cc : ByteArray} {own : String} {ret : Option FieldType}
variable {pc : Nat} {L : List (Option AV)} {S : List AV} {w : XW} {cs sl : Nat}
/-- a field that an instruction names: read; written; written once -/
def FG (own : String) (ix ci k N : Nat) : Prop := ∃ (C : String) (T : u_T), CI ci C T N ∧ k < N ∧ (Cond.fieldLink own ix (T k).1 (T k).2.1 (T k).2.2.1 ∈ lw_tbl ∨ ∃ host, Cond.fieldLinkNest own ix (T k).1 (T k).2.1 (T k).2.2.1 host ∈ lw_tbl)
def FP (own : String) (ix ci k N : Nat) : Prop := ∃ (C : String) (T : u_T), CI ci C T N ∧ k < N ∧ (T k).2.2.2 = false ∧ (Cond.fieldLink own ix (T k).1 (T k).2.1 (T k).2.2.1 ∈ lw_tbl ∨ ∃ host, Cond.fieldLinkNest own ix (T k).1 (T k).2.1 (T k).2.2.1 host ∈ lw_tbl)
def FF (own : String) (ix ci k N : Nat) : Prop := ∃ (C : String) (T : u_T), CI ci C T N ∧ k < N ∧ (T k).2.2.2 = true ∧ (T k).1 = own ∧ Cond.fieldLink own ix (T k).1 (T k).2.1 (T k).2.2.1 ∈ lw_tbl
theorem s_gI {q ci k N ix : Nat} (E : EE p s m meth c D aC b nL cc own ret) (hF : FG own ix ci k N) (ht : isI (xT ci k) = true) (hs : xS q = (ci, N)) (hq : q < w.1) (d : decode cc pc = .ok (.getfield ix, 3)) (kk : Wv p l e R s m args below meth c Q D aC b nL (pc + 3) L (AI (w.2.2.1 q k) :: S) w cs sl) : Wv p l e R s m args below meth c Q D aC b nL pc L (AR q :: S) w cs sl := by
  obtain ⟨C, T, hC, hk, hm | ⟨host, hm⟩⟩ := hF
  · exact s_getI E hC k hk ht hm rfl hs hq d kk
  · exact s_getIN E hC k hk ht hm rfl hs hq d kk
theorem s_gL {q ci k N ix : Nat} (E : EE p s m meth c D aC b nL cc own ret) (hF : FG own ix ci k N) (ht : xT ci k = .long) (hs : xS q = (ci, N)) (hq : q < w.1) (d : decode cc pc = .ok (.getfield ix, 3)) (kk : Wv p l e R s m args below meth c Q D aC b nL (pc + 3) L (AL (w.2.2.2 q k) :: S) w cs sl) : Wv p l e R s m args below meth c Q D aC b nL pc L (AR q :: S) w cs sl := by
  obtain ⟨C, T, hC, hk, hm | ⟨host, hm⟩⟩ := hF
  · exact s_getL E hC k hk ht hm rfl hs hq d kk
  · exact s_getLN E hC k hk ht hm rfl hs hq d kk
theorem s_gR {q r ci k N ix : Nat} (E : EE p s m meth c D aC b nL cc own ret) (hF : FG own ix ci k N) (ht : isRf (xT ci k) = true) (hs : xS q = (ci, N)) (hq : q < w.1) (hr : w.2.1 q k = r + 1) (d : decode cc pc = .ok (.getfield ix, 3)) (kk : Wv p l e R s m args below meth c Q D aC b nL (pc + 3) L (AR r :: S) w cs sl) : Wv p l e R s m args below meth c Q D aC b nL pc L (AR q :: S) w cs sl := by
  obtain ⟨C, T, hC, hk, hm | ⟨host, hm⟩⟩ := hF
  · exact s_getR E hC k hk ht hm rfl hs hq hr d kk
  · exact s_getRN E hC k hk ht hm rfl hs hq hr d kk
theorem s_pI {q ci k N ix : Nat} {x : Int32} (E : EE p s m meth c D aC b nL cc own ret) (hF : FP own ix ci k N) (ht : xT ci k = .int ∨ xT ci k = .boolean ∧ (x = 0 ∨ x = 1)) (hs : xS q = (ci, N)) (hq : q < w.1) (d : decode cc pc = .ok (.putfield ix, 3)) (kk : Wv p l e R s m args below meth c Q D aC b nL (pc + 3) L S (upI w q k x) cs sl) : Wv p l e R s m args below meth c Q D aC b nL pc L (AI x :: AR q :: S) w cs sl := by
  obtain ⟨C, T, hC, hk, hf, hm⟩ := hF
  have h1 : isI (xT ci k) = true := by rcases ht with h | ⟨h, _⟩ <;> rw [h] <;> rfl
  have h2 : narrow (xT ci k) (.int x) = .int x := by
    rcases ht with h | ⟨g, h | h⟩
    · rw [h]; rfl
    · rw [g, h]; rfl
    · rw [g, h]; rfl
  have h3 : fits (xT ci k) (.int x) = true := by
    rcases ht with h | ⟨g, h | h⟩
    · rw [h]; rfl
    · rw [g, h]; rfl
    · rw [g, h]; rfl
  rcases hm with hm | ⟨host, hm⟩
  · exact s_putI E hC k hk h1 hm rfl hs hq hf h2 h3 d kk
  · exact s_putIN E hC k hk h1 hm rfl hs hq hf h2 h3 d kk
theorem s_pIF {q ci k N ix : Nat} {x : Int32} (E : EE p s m meth c D aC b nL cc own ret) (hin : meth.name = "<init>") (hF : FF own ix ci k N) (ht : xT ci k = .int) (hs : xS q = (ci, N)) (hq : q < w.1) (d : decode cc pc = .ok (.putfield ix, 3)) (kk : Wv p l e R s m args below meth c Q D aC b nL (pc + 3) L S (upI w q k x) cs sl) : Wv p l e R s m args below meth c Q D aC b nL pc L (AI x :: AR q :: S) w cs sl := by
  obtain ⟨C, T, hC, hk, hf, hd, hm⟩ := hF
  exact s_putIF E hC k hk (by rw [ht]; rfl) hm rfl hs hq hf hin hd (by rw [ht]; rfl) (by rw [ht]; rfl) d kk
theorem s_pL {q ci k N ix : Nat} {x : Int64} (E : EE p s m meth c D aC b nL cc own ret) (hF : FP own ix ci k N) (ht : xT ci k = .long) (hs : xS q = (ci, N)) (hq : q < w.1) (d : decode cc pc = .ok (.putfield ix, 3)) (kk : Wv p l e R s m args below meth c Q D aC b nL (pc + 3) L S (upL w q k x) cs sl) : Wv p l e R s m args below meth c Q D aC b nL pc L (AL x :: AR q :: S) w cs sl := by
  obtain ⟨C, T, hC, hk, hf, hm | ⟨host, hm⟩⟩ := hF
  · exact s_putL E hC k hk ht hm rfl hs hq hf d kk
  · exact s_putLN E hC k hk ht hm rfl hs hq hf d kk
theorem s_pR {q x ci k N ix : Nat} (E : EE p s m meth c D aC b nL cc own ret) (hF : FP own ix ci k N) (ht : isRf (xT ci k) = true) (hs : xS q = (ci, N)) (hq : q < w.1) (d : decode cc pc = .ok (.putfield ix, 3)) (kk : Wv p l e R s m args below meth c Q D aC b nL (pc + 3) L S (upR w q k (x + 1)) cs sl) : Wv p l e R s m args below meth c Q D aC b nL pc L (AR x :: AR q :: S) w cs sl := by
  obtain ⟨C, T, hC, hk, hf, hm | ⟨host, hm⟩⟩ := hF
  · exact s_putR E hC k hk ht hm rfl hs hq hf d kk
  · exact s_putRN E hC k hk ht hm rfl hs hq hf d kk
theorem s_pRF {q x ci k N ix : Nat} (E : EE p s m meth c D aC b nL cc own ret) (hin : meth.name = "<init>") (hF : FF own ix ci k N) (ht : isRf (xT ci k) = true) (hs : xS q = (ci, N)) (hq : q < w.1) (d : decode cc pc = .ok (.putfield ix, 3)) (kk : Wv p l e R s m args below meth c Q D aC b nL (pc + 3) L S (upR w q k (x + 1)) cs sl) : Wv p l e R s m args below meth c Q D aC b nL pc L (AR x :: AR q :: S) w cs sl := by
  obtain ⟨C, T, hC, hk, hf, hd, hm⟩ := hF
  exact s_putRF E hC k hk ht hm rfl hs hq hf hin hd d kk
theorem s_top {x y : Int32} (h : x = y) (kk : Wv p l e R s m args below meth c Q D aC b nL pc L (AI y :: S) w cs sl) : Wv p l e R s m args below meth c Q D aC b nL pc L (AI x :: S) w cs sl := h ▸ kk
theorem s_topL {x y : Int64} (h : x = y) (kk : Wv p l e R s m args below meth c Q D aC b nL pc L (AL y :: S) w cs sl) : Wv p l e R s m args below meth c Q D aC b nL pc L (AL x :: S) w cs sl := h ▸ kk
theorem s_loc {L2 : List (Option AV)} (h : L = L2) (kk : Wv p l e R s m args below meth c Q D aC b nL pc L2 S w cs sl) : Wv p l e R s m args below meth c Q D aC b nL pc L S w cs sl := h ▸ kk
theorem s_world {w2 : XW} (h : w = w2) (kk : Wv p l e R s m args below meth c Q D aC b nL pc L S w2 cs sl) : Wv p l e R s m args below meth c Q D aC b nL pc L S w cs sl := h ▸ kk
theorem s_iald {q N : Nat} {i : Int32} (E : EE p s m meth c D aC b nL cc own ret) (hs : xS q = (100, N)) (hq : q < w.1) (hin : vp_in i N) (d : decode cc pc = .ok (.iaload, 1)) (kk : Wv p l e R s m args below meth c Q D aC b nL (pc + 1) L (AI (w.2.2.1 q i.toNatClampNeg) :: S) w cs sl) : Wv p l e R s m args below meth c Q D aC b nL pc L (AI i :: AR q :: S) w cs sl := fun H locs ls h1 h2 h3 =>
  va_iald E.1 E.2.1 E.2.2.2.2.2.1 h1.1 q 0 (by rw [xL_at hq, xE_ai hs (Or.inl rfl)]) rfl hin d (kk H locs ls h1 h2 h3)
theorem s_bald {q N : Nat} {i : Int32} (E : EE p s m meth c D aC b nL cc own ret) (hs : xS q = (102, N)) (hq : q < w.1) (hin : vp_in i N) (d : decode cc pc = .ok (.baload, 1)) (kk : Wv p l e R s m args below meth c Q D aC b nL (pc + 1) L (AI (w.2.2.1 q i.toNatClampNeg) :: S) w cs sl) : Wv p l e R s m args below meth c Q D aC b nL pc L (AI i :: AR q :: S) w cs sl := fun H locs ls h1 h2 h3 =>
  va_bald E.1 E.2.1 E.2.2.2.2.2.1 h1.1 q 2 (by rw [xL_at hq, xE_ai hs (Or.inr (Or.inl rfl))]) rfl hin d (kk H locs ls h1 h2 h3)
theorem s_zald {q N : Nat} {i : Int32} (E : EE p s m meth c D aC b nL cc own ret) (hs : xS q = (103, N)) (hq : q < w.1) (hin : vp_in i N) (d : decode cc pc = .ok (.baload, 1)) (kk : Wv p l e R s m args below meth c Q D aC b nL (pc + 1) L (AI (w.2.2.1 q i.toNatClampNeg) :: S) w cs sl) : Wv p l e R s m args below meth c Q D aC b nL pc L (AI i :: AR q :: S) w cs sl := fun H locs ls h1 h2 h3 =>
  va_zald E.1 E.2.1 E.2.2.2.2.2.1 h1.1 q 3 (by rw [xL_at hq, xE_ai hs (Or.inr (Or.inr rfl))]) rfl hin d (kk H locs ls h1 h2 h3)
theorem s_lald {q N : Nat} {i : Int32} (E : EE p s m meth c D aC b nL cc own ret) (hs : xS q = (101, N)) (hq : q < w.1) (hin : vp_in i N) (d : decode cc pc = .ok (.laload, 1)) (kk : Wv p l e R s m args below meth c Q D aC b nL (pc + 1) L (AL (w.2.2.2 q i.toNatClampNeg) :: S) w cs sl) : Wv p l e R s m args below meth c Q D aC b nL pc L (AI i :: AR q :: S) w cs sl := fun H locs ls h1 h2 h3 =>
  va_lald E.1 E.2.1 E.2.2.2.2.2.1 h1.1 q 1 (by rw [xL_at hq, xE_al hs]) rfl hin d (kk H locs ls h1 h2 h3)
theorem s_aald104 {q r N : Nat} {i : Int32} (E : EE p s m meth c D aC b nL cc own ret) (hs : xS q = (104, N)) (hq : q < w.1) (hin : vp_in i N) (hr : w.2.1 q i.toNatClampNeg = r + 1) (d : decode cc pc = .ok (.aaload, 1)) (kk : Wv p l e R s m args below meth c Q D aC b nL (pc + 1) L (AR r :: S) w cs sl) : Wv p l e R s m args below meth c Q D aC b nL pc L (AI i :: AR q :: S) w cs sl := fun H locs ls h1 h2 h3 => by
  refine va_aldq E.1 E.2.1 E.2.2.2.2.2.1 h1.1 q 4 (by rw [xL_at hq, xE_ar hs (by omega)]) rfl hin d ?_
  rw [hr]
  exact kk H locs ls h1 h2 h3
theorem s_aald105 {q r N : Nat} {i : Int32} (E : EE p s m meth c D aC b nL cc own ret) (hs : xS q = (105, N)) (hq : q < w.1) (hin : vp_in i N) (hr : w.2.1 q i.toNatClampNeg = r + 1) (d : decode cc pc = .ok (.aaload, 1)) (kk : Wv p l e R s m args below meth c Q D aC b nL (pc + 1) L (AR r :: S) w cs sl) : Wv p l e R s m args below meth c Q D aC b nL pc L (AI i :: AR q :: S) w cs sl := fun H locs ls h1 h2 h3 => by
  refine va_aldq E.1 E.2.1 E.2.2.2.2.2.1 h1.1 q 5 (by rw [xL_at hq, xE_ar hs (by omega)]) rfl hin d ?_
  rw [hr]
  exact kk H locs ls h1 h2 h3
theorem s_alen {q kd N : Nat} {v : Int32} (E : EE p s m meth c D aC b nL cc own ret) (hs : xS q = (kd, N)) (hk : kd = 100 ∨ kd = 101 ∨ kd = 102 ∨ kd = 103) (hq : q < w.1) (hv : Int32.ofNat N = v) (d : decode cc pc = .ok (.arraylength, 1)) (kk : Wv p l e R s m args below meth c Q D aC b nL (pc + 1) L (AI v :: S) w cs sl) : Wv p l e R s m args below meth c Q D aC b nL pc L (AR q :: S) w cs sl := fun H locs ls h1 h2 h3 => by
  rcases hk with rfl | rfl | rfl | rfl
  · exact va_alen (x := (N, .inl (w.2.2.1 q))) E.1 E.2.1 E.2.2.2.2.2.1 h1.1 q 0 (by rw [xL_at hq, xE_ai hs (by omega)]) rfl hv d (kk H locs ls h1 h2 h3)
  · exact va_alen (x := (N, .inr (.inl (w.2.2.2 q)))) E.1 E.2.1 E.2.2.2.2.2.1 h1.1 q 1 (by rw [xL_at hq, xE_al hs]) rfl hv d (kk H locs ls h1 h2 h3)
  · exact va_alen (x := (N, .inl (w.2.2.1 q))) E.1 E.2.1 E.2.2.2.2.2.1 h1.1 q 2 (by rw [xL_at hq, xE_ai hs (by omega)]) rfl hv d (kk H locs ls h1 h2 h3)
  · exact va_alen (x := (N, .inl (w.2.2.1 q))) E.1 E.2.1 E.2.2.2.2.2.1 h1.1 q 3 (by rw [xL_at hq, xE_ai hs (by omega)]) rfl hv d (kk H locs ls h1 h2 h3)
theorem s_iast {q N : Nat} {i : Int32} {x : Int32} (E : EE p s m meth c D aC b nL cc own ret) (hs : xS q = (100, N)) (hq : q < w.1) (hin : vp_in i N) (d : decode cc pc = .ok (.iastore, 1)) (kk : Wv p l e R s m args below meth c Q D aC b nL (pc + 1) L S (upI w q i.toNatClampNeg x) cs sl) : Wv p l e R s m args below meth c Q D aC b nL pc L (AI x :: AI i :: AR q :: S) w cs sl := fun H locs ls h1 h2 h3 => by
  have he : (xL aC b w)[q]? = some (b + q, .inl (aC 100, N, (.inl (w.2.2.1 q)))) := by rw [xL_at hq, xE_ai hs (by omega)]
  refine W.iast E.1 E.2.1 (h1.1 q _ he) ((E.2.2.2.2.2.1.2 0 _ rfl).1 N (fun j => .int (w.2.2.1 q j))) (fun z => by cases z) (by show ¬ (i < 0 ∨ (arrV _ _ _).slots.size ≤ _); rw [arrV_size]; exact hin) rfl rfl d fun H1 ev z oq => ?_
  refine kk H1 _ ls (xH_set h1 z hq rfl (en := .inl (aC 100, N, (.inl (upd (w.2.2.1 q) i.toNatClampNeg x)))) ?_ (fun j hj => upI_o hj) (h1.1.set xL_D he ?_ oq)) (h2.put z oq (Nat.le_add_right b q)) h3
  · rw [xE_ai hs (by omega)]
    simp [upI, va_up]
  · show H1[b + q]? = some (vp_cell _ _)
    rw [ev, vp_cell_i, vp_cell_i, arrV_store]
    congr 2
    funext j
    by_cases hj : j = i.toNatClampNeg
    · subst hj
      simp [updV, upd, vp_nar, narrow]
    · simp [updV, upd, hj]
theorem s_bast {q N : Nat} {i : Int32} {x : Int32} (E : EE p s m meth c D aC b nL cc own ret) (hs : xS q = (102, N)) (hq : q < w.1) (hin : vp_in i N) (d : decode cc pc = .ok (.bastore, 1)) (kk : Wv p l e R s m args below meth c Q D aC b nL (pc + 1) L S (upI w q i.toNatClampNeg (vp_nar .byte x)) cs sl) : Wv p l e R s m args below meth c Q D aC b nL pc L (AI x :: AI i :: AR q :: S) w cs sl := fun H locs ls h1 h2 h3 => by
  have he : (xL aC b w)[q]? = some (b + q, .inl (aC 102, N, (.inl (w.2.2.1 q)))) := by rw [xL_at hq, xE_ai hs (by omega)]
  refine W.bast E.1 E.2.1 (h1.1 q _ he) ((E.2.2.2.2.2.1.2 2 _ rfl).1 N (fun j => .int (w.2.2.1 q j))) (fun z => by cases z) (by show ¬ (i < 0 ∨ (arrV _ _ _).slots.size ≤ _); rw [arrV_size]; exact hin) rfl rfl d fun H1 ev z oq => ?_
  refine kk H1 _ ls (xH_set h1 z hq rfl (en := .inl (aC 102, N, (.inl (upd (w.2.2.1 q) i.toNatClampNeg (vp_nar .byte x))))) ?_ (fun j hj => upI_o hj) (h1.1.set xL_D he ?_ oq)) (h2.put z oq (Nat.le_add_right b q)) h3
  · rw [xE_ai hs (by omega)]
    simp [upI, va_up]
  · show H1[b + q]? = some (vp_cell _ _)
    rw [ev, vp_cell_i, vp_cell_i, arrV_store]
    congr 2
    funext j
    by_cases hj : j = i.toNatClampNeg
    · subst hj
      simp [updV, upd, vp_nar, narrow]
    · simp [updV, upd, hj]
theorem s_zast {q N : Nat} {i : Int32} {x : Int32} (E : EE p s m meth c D aC b nL cc own ret) (hs : xS q = (103, N)) (hq : q < w.1) (hin : vp_in i N) (d : decode cc pc = .ok (.bastore, 1)) (kk : Wv p l e R s m args below meth c Q D aC b nL (pc + 1) L S (upI w q i.toNatClampNeg (vp_nar .boolean x)) cs sl) : Wv p l e R s m args below meth c Q D aC b nL pc L (AI x :: AI i :: AR q :: S) w cs sl := fun H locs ls h1 h2 h3 => by
  have he : (xL aC b w)[q]? = some (b + q, .inl (aC 103, N, (.inl (w.2.2.1 q)))) := by rw [xL_at hq, xE_ai hs (by omega)]
  refine W.zast E.1 E.2.1 (h1.1 q _ he) ((E.2.2.2.2.2.1.2 3 _ rfl).1 N (fun j => .int (w.2.2.1 q j))) (fun z => by cases z) (by show ¬ (i < 0 ∨ (arrV _ _ _).slots.size ≤ _); rw [arrV_size]; exact hin) rfl rfl d fun H1 ev z oq => ?_
  refine kk H1 _ ls (xH_set h1 z hq rfl (en := .inl (aC 103, N, (.inl (upd (w.2.2.1 q) i.toNatClampNeg (vp_nar .boolean x))))) ?_ (fun j hj => upI_o hj) (h1.1.set xL_D he ?_ oq)) (h2.put z oq (Nat.le_add_right b q)) h3
  · rw [xE_ai hs (by omega)]
    simp [upI, va_up]
  · show H1[b + q]? = some (vp_cell _ _)
    rw [ev, vp_cell_i, vp_cell_i, arrV_store]
    congr 2
    funext j
    by_cases hj : j = i.toNatClampNeg
    · subst hj
      simp [updV, upd, vp_nar, narrow]
    · simp [updV, upd, hj]
theorem s_last {q N : Nat} {i : Int32} {x : Int64} (E : EE p s m meth c D aC b nL cc own ret) (hs : xS q = (101, N)) (hq : q < w.1) (hin : vp_in i N) (d : decode cc pc = .ok (.lastore, 1)) (kk : Wv p l e R s m args below meth c Q D aC b nL (pc + 1) L S (upL w q i.toNatClampNeg x) cs sl) : Wv p l e R s m args below meth c Q D aC b nL pc L (AL x :: AI i :: AR q :: S) w cs sl := fun H locs ls h1 h2 h3 => by
  have he : (xL aC b w)[q]? = some (b + q, .inl (aC 101, N, .inr (.inl (w.2.2.2 q)))) := by rw [xL_at hq, xE_al hs]
  refine W.last E.1 E.2.1 (h1.1 q _ he) ((E.2.2.2.2.2.1.2 1 _ rfl).1 N (fun j => .long (w.2.2.2 q j))) (fun z => by cases z) (by show ¬ (i < 0 ∨ (arrV _ _ _).slots.size ≤ _); rw [arrV_size]; exact hin) rfl rfl d fun H1 ev z oq => ?_
  refine kk H1 _ ls (xH_set h1 z hq rfl (en := .inl (aC 101, N, .inr (.inl (vp_updL (w.2.2.2 q) i.toNatClampNeg x)))) ?_ (fun j hj => upL_o hj) (h1.1.set xL_D he ?_ oq)) (h2.put z oq (Nat.le_add_right b q)) h3
  · rw [xE_al hs]
    simp [upL, va_up]
  · show H1[b + q]? = some (vp_cell _ _)
    rw [ev, vp_cell_l, vp_cell_l, arrV_store]
    congr 2
    funext j
    by_cases hj : j = i.toNatClampNeg
    · subst hj
      simp [updV, vp_updL, vp_nar, narrow]
    · simp [updV, vp_updL, hj]
theorem s_aast104 {q r N n2 : Nat} {i : Int32} (E : EE p s m meth c D aC b nL cc own ret) (hs : xS q = (104, N)) (hq : q < w.1) (hin : vp_in i N) (hsr : xS r = (0, n2)) (hr : r < w.1) (d : decode cc pc = .ok (.aastore, 1)) (kk : Wv p l e R s m args below meth c Q D aC b nL (pc + 1) L S (upR w q i.toNatClampNeg (r + 1)) cs sl) : Wv p l e R s m args below meth c Q D aC b nL pc L (AR r :: AI i :: AR q :: S) w cs sl := fun H locs ls h1 h2 h3 => by
  have he : (xL aC b w)[q]? = some (b + q, .inl (aC 104, N, .inr (.inr (.inr (.inr (fun j => rv b (w.2.1 q j))))))) := by rw [xL_at hq, xE_ar hs (by omega)]
  have hv : (xL aC b w)[r]? = some (b + r, .inr (0, (List.range n2).map (fun k => xF b w r (xT 0 k) k))) := by rw [xL_at hr, xE_obj hsr (by omega)]
  have hlt : i.toNatClampNeg < N := Nat.not_le.mp fun z => hin (Or.inr z)
  have h0 : ¬ i < 0 := fun z => hin (Or.inl z)
  have K := E.2.2.2.2.2.1
  obtain ⟨r', hr', cellV, g1, g2, g3, -⟩ := h1.1 r _ hv
  have hcls := (K.1 0 _ CI0.1).2
  obtain ⟨kA, comp, k1, k2, k3, -⟩ := (K.2 4 _ rfl).2
  have hcomp : comp = D.1 0 := Option.some.inj (k3.symm.trans hcls.1)
  subst hcomp
  obtain ⟨kC, hkC, -⟩ := hcls.2
  refine W.aast E.1 E.2.1 (h1.1 q _ he) (fun z h => by cases h) (fun h => by cases h) k1 k2 rfl hkC ⟨h0, by show _ < (arrV _ _ _).slots.size; rw [arrV_size]; exact hlt⟩ g1 (fun z h => by rw [g3] at h; cases h) (by rw [g2]; exact hkC) (by rw [g2]; exact va_assign hcls) rfl rfl d fun H1 ev z oq => ?_
  refine kk H1 _ ls (xH_set h1 z hq rfl (en := .inl (aC 104, N, .inr (.inr (.inr (.inr (va_up (fun j => rv b (w.2.1 q j)) i.toNatClampNeg (some (b + r)))))))) ?_ (fun j hj => upR_o hj) (h1.1.set xL_D he ?_ oq)) (h2.put z oq (Nat.le_add_right b q)) h3
  · rw [xE_ar hs (by omega)]
    congr 7
    funext j
    by_cases hj : j = i.toNatClampNeg
    · simp [upR, va_up, hj, rv]
    · simp [upR, va_up, hj]
  · show H1[b + q]? = some (vp_cell _ _)
    rw [ev, vp_cell_q, vp_cell_q, arrV_store]
    congr 2
    funext j
    by_cases hj : j = i.toNatClampNeg
    · subst hj
      simp [updV, va_up, va_rf]
    · simp [updV, va_up, hj]
theorem s_aast105 {q r N n2 : Nat} {i : Int32} (E : EE p s m meth c D aC b nL cc own ret) (hs : xS q = (105, N)) (hq : q < w.1) (hin : vp_in i N) (hsr : xS r = (7, n2)) (hr : r < w.1) (d : decode cc pc = .ok (.aastore, 1)) (kk : Wv p l e R s m args below meth c Q D aC b nL (pc + 1) L S (upR w q i.toNatClampNeg (r + 1)) cs sl) : Wv p l e R s m args below meth c Q D aC b nL pc L (AR r :: AI i :: AR q :: S) w cs sl := fun H locs ls h1 h2 h3 => by
  have he : (xL aC b w)[q]? = some (b + q, .inl (aC 105, N, .inr (.inr (.inr (.inr (fun j => rv b (w.2.1 q j))))))) := by rw [xL_at hq, xE_ar hs (by omega)]
  have hv : (xL aC b w)[r]? = some (b + r, .inr (7, (List.range n2).map (fun k => xF b w r (xT 7 k) k))) := by rw [xL_at hr, xE_obj hsr (by omega)]
  have hlt : i.toNatClampNeg < N := Nat.not_le.mp fun z => hin (Or.inr z)
  have h0 : ¬ i < 0 := fun z => hin (Or.inl z)
  have K := E.2.2.2.2.2.1
  obtain ⟨r', hr', cellV, g1, g2, g3, -⟩ := h1.1 r _ hv
  have hcls := (K.1 7 _ CI7.1).2
  obtain ⟨kA, comp, k1, k2, k3, -⟩ := (K.2 5 _ rfl).2
  have hcomp : comp = D.1 7 := Option.some.inj (k3.symm.trans hcls.1)
  subst hcomp
  obtain ⟨kC, hkC, -⟩ := hcls.2
  refine W.aast E.1 E.2.1 (h1.1 q _ he) (fun z h => by cases h) (fun h => by cases h) k1 k2 rfl hkC ⟨h0, by show _ < (arrV _ _ _).slots.size; rw [arrV_size]; exact hlt⟩ g1 (fun z h => by rw [g3] at h; cases h) (by rw [g2]; exact hkC) (by rw [g2]; exact va_assign hcls) rfl rfl d fun H1 ev z oq => ?_
  refine kk H1 _ ls (xH_set h1 z hq rfl (en := .inl (aC 105, N, .inr (.inr (.inr (.inr (va_up (fun j => rv b (w.2.1 q j)) i.toNatClampNeg (some (b + r)))))))) ?_ (fun j hj => upR_o hj) (h1.1.set xL_D he ?_ oq)) (h2.put z oq (Nat.le_add_right b q)) h3
  · rw [xE_ar hs (by omega)]
    congr 7
    funext j
    by_cases hj : j = i.toNatClampNeg
    · simp [upR, va_up, hj, rv]
    · simp [upR, va_up, hj]
  · show H1[b + q]? = some (vp_cell _ _)
    rw [ev, vp_cell_q, vp_cell_q, arrV_store]
    congr 2
    funext j
    by_cases hj : j = i.toNatClampNeg
    · subst hj
      simp [updV, va_up, va_rf]
    · simp [updV, va_up, hj]
/-- one cell more, all 0 -/
def nwW (w : XW) : XW := (w.1 + 1, va_up w.2.1 w.1 (fun _ => 0), va_up w.2.2.1 w.1 (fun _ => 0), va_up w.2.2.2 w.1 (fun _ => 0))
theorem xL_nw : xL aC b (nwW w) = xL aC b w ++ [(b + w.1, xE aC b (nwW w) w.1)] := by
  show (List.range (w.1 + 1)).map _ = _
  rw [List.range_succ, List.map_append]
  congr 1
  refine List.map_congr_left (fun j hj => ?_)
  have hl : j ≠ w.1 := Nat.ne_of_lt (List.mem_range.mp hj)
  rw [xE_other (w := w) (w' := nwW w) (va_up_ne _ _ hl) (va_up_ne _ _ hl) (va_up_ne _ _ hl)]
theorem xH_nw {H H1 : Heap} (h : xH D aC b w H) (hz : H1.size = b + w.1 + 1) (ho : ∀ q : Nat, q < b + w.1 → H1[q]? = H[q]?) (ha : va_at D vwCl (b + w.1, xE aC b (nwW w) w.1) H1) : xH D aC b (nwW w) H1 := by
  refine ⟨?_, by rw [hz]; rfl⟩
  rw [xL_nw]
  refine (h.1.kept (fun k q hk => ?_)).app (fun k q hk => ?_)
  · obtain ⟨hl, rfl⟩ := xL_lt hk
    exact ho _ (Nat.add_lt_add_left hl b)
  · have hz : k < 1 := (List.getElem?_eq_some_iff.mp hk).1
    rw [show k = 0 by omega] at hk
    cases hk
    exact ha
theorem nw_S {H H1 : Heap} {locs : List Loc} (hS : va_S (xA b) s.heap H locs) (hb : b ≤ s.heap.size) (hz : H1.size = H.size + 1) (ho : ∀ q : Nat, q < H.size → H1[q]? = H[q]?) : va_S (xA b) s.heap H1 locs :=
  ⟨Nat.le_trans hS.1 (by omega), fun x h1 h2 => (ho x (Nat.lt_of_lt_of_le h1 hS.1)).trans (hS.2.1 x h1 h2), hS.2.2⟩
def xD (t : FieldType) : Value := match t with
  | .long => .long 0
  | .object _ => .null
  | .array _ => .null
  | _ => .int 0
theorem xF_nw (k : Nat) (t : FieldType) : xF b (nwW w) w.1 t k = xD t := by
  unfold xF xD nwW
  cases t <;> simp [va_up, rv, va_rf]
theorem s_new {ci N ix : Nat} {C : String} {T : u_T} (E : EE p s m meth c D aC b nL cc own ret) (hC : CI ci C T N) (hd : ∀ j, j < N → defaultValue (xT ci j) = xD (xT ci j)) (hcl : Cond.classLink own ix C ∈ lw_tbl) (hins : Cond.instantiable C N ∈ lw_tbl) (hini : Cond.initialized C ∈ lw_tbl) (hs : xS w.1 = (ci, N)) (hc1 : cs + 1 ≤ R.cells) (hc2 : sl + N ≤ R.slots) (d : decode cc pc = .ok (.new ix, 3)) (kk : Wv p l e R s m args below meth c Q D aC b nL (pc + 3) L (AR w.1 :: S) (nwW w) (cs + 1) (sl + N)) : Wv p l e R s m args below meth c Q D aC b nL pc L S w cs sl := fun H locs ls h1 h2 h3 => by
  have hKn := E.2.2.2.2.2.1.1 ci _ hC.1
  refine W.newcK E.1 E.2.1 E.2.2.2.1 (E.gl hcl rfl) (E.gl hins rfl) (E.gl hini rfl) rfl d hc1 hc2 hKn.2.1 h1.2 fun H1 kC hkC e1 z1 o1 => ?_
  refine kk H1 locs ls (xH_nw h1 z1 o1 ?_) (nw_S h2 E.2.2.2.2.2.2.2.2.1 (by rw [z1, h1.2]) (fun q hq => o1 q (by rw [← h1.2]; exact hq))) h3
  rw [xE_obj hs hC.2.1]
  refine ⟨_, hC.1, (u_born (xT ci) (E.ci (args := args) hC) (fun _ h => h) hKn hkC e1 hC.2.2.2.1).to (fun j hj => ?_)⟩
  rw [hd j hj]
  show _ = List.getD _ _ _
  rw [List.getD_eq_getElem?_getD, rg_get hj, xF_nw]
  rfl
theorem s_newa100 {N : Nat} {n : Int32} (E : EE p s m meth c D aC b nL cc own ret) (hw : Cond.arrayClass .int ∈ lw_tbl) (hs : xS w.1 = (100, N)) (hn : ¬ n < 0) (hN : n.toNatClampNeg = N) (hby : N * componentBytes .int ≤ 536870912) (hc1 : cs + 1 ≤ R.cells) (hc2 : sl + N ≤ R.slots) (d : decode cc pc = .ok (.newarray .int, 2)) (kk : Wv p l e R s m args below meth c Q D aC b nL (pc + 2) L (AR w.1 :: S) (nwW w) (cs + 1) (sl + N)) : Wv p l e R s m args below meth c Q D aC b nL pc L (AI n :: S) w cs sl := fun H locs ls h1 h2 h3 => by
  refine va_newaK (atype := .int) E.1 E.2.1 (E.gl hw rfl) rfl d rfl hn hN hby hc1 hc2 h1.2 fun H1 cA e1 z1 o1 _ hNm => ?_
  have hcA : cA = aC 100 := by
    have h := (E.2.2.2.2.2.1.2 0 _ rfl).2
    exact Option.some.inj (hNm.symm.trans h)
  subst hcA
  refine kk H1 locs ls (xH_nw h1 z1 o1 ?_) (nw_S h2 E.2.2.2.2.2.2.2.2.1 (by rw [z1, h1.2]) (fun q hq => o1 q (by rw [← h1.2]; exact hq))) h3
  rw [xE_ai hs (by omega)]
  show H1[b + w.1]? = some (vp_cell _ _)
  rw [e1]
  simp [nwW, va_up, vp_cell, defaultValue, newarray.typeOf]
theorem s_newa101 {N : Nat} {n : Int32} (E : EE p s m meth c D aC b nL cc own ret) (hw : Cond.arrayClass .long ∈ lw_tbl) (hs : xS w.1 = (101, N)) (hn : ¬ n < 0) (hN : n.toNatClampNeg = N) (hby : N * componentBytes .long ≤ 536870912) (hc1 : cs + 1 ≤ R.cells) (hc2 : sl + N ≤ R.slots) (d : decode cc pc = .ok (.newarray .long, 2)) (kk : Wv p l e R s m args below meth c Q D aC b nL (pc + 2) L (AR w.1 :: S) (nwW w) (cs + 1) (sl + N)) : Wv p l e R s m args below meth c Q D aC b nL pc L (AI n :: S) w cs sl := fun H locs ls h1 h2 h3 => by
  refine va_newaK (atype := .long) E.1 E.2.1 (E.gl hw rfl) rfl d rfl hn hN hby hc1 hc2 h1.2 fun H1 cA e1 z1 o1 _ hNm => ?_
  have hcA : cA = aC 101 := by
    have h := (E.2.2.2.2.2.1.2 1 _ rfl).2
    exact Option.some.inj (hNm.symm.trans h)
  subst hcA
  refine kk H1 locs ls (xH_nw h1 z1 o1 ?_) (nw_S h2 E.2.2.2.2.2.2.2.2.1 (by rw [z1, h1.2]) (fun q hq => o1 q (by rw [← h1.2]; exact hq))) h3
  rw [xE_al hs]
  show H1[b + w.1]? = some (vp_cell _ _)
  rw [e1]
  simp [nwW, va_up, vp_cell, defaultValue, newarray.typeOf]
theorem s_newa102 {N : Nat} {n : Int32} (E : EE p s m meth c D aC b nL cc own ret) (hw : Cond.arrayClass .byte ∈ lw_tbl) (hs : xS w.1 = (102, N)) (hn : ¬ n < 0) (hN : n.toNatClampNeg = N) (hby : N * componentBytes .byte ≤ 536870912) (hc1 : cs + 1 ≤ R.cells) (hc2 : sl + N ≤ R.slots) (d : decode cc pc = .ok (.newarray .byte, 2)) (kk : Wv p l e R s m args below meth c Q D aC b nL (pc + 2) L (AR w.1 :: S) (nwW w) (cs + 1) (sl + N)) : Wv p l e R s m args below meth c Q D aC b nL pc L (AI n :: S) w cs sl := fun H locs ls h1 h2 h3 => by
  refine va_newaK (atype := .byte) E.1 E.2.1 (E.gl hw rfl) rfl d rfl hn hN hby hc1 hc2 h1.2 fun H1 cA e1 z1 o1 _ hNm => ?_
  have hcA : cA = aC 102 := by
    have h := (E.2.2.2.2.2.1.2 2 _ rfl).2
    exact Option.some.inj (hNm.symm.trans h)
  subst hcA
  refine kk H1 locs ls (xH_nw h1 z1 o1 ?_) (nw_S h2 E.2.2.2.2.2.2.2.2.1 (by rw [z1, h1.2]) (fun q hq => o1 q (by rw [← h1.2]; exact hq))) h3
  rw [xE_ai hs (by omega)]
  show H1[b + w.1]? = some (vp_cell _ _)
  rw [e1]
  simp [nwW, va_up, vp_cell, defaultValue, newarray.typeOf]
theorem s_newa103 {N : Nat} {n : Int32} (E : EE p s m meth c D aC b nL cc own ret) (hw : Cond.arrayClass .boolean ∈ lw_tbl) (hs : xS w.1 = (103, N)) (hn : ¬ n < 0) (hN : n.toNatClampNeg = N) (hby : N * componentBytes .boolean ≤ 536870912) (hc1 : cs + 1 ≤ R.cells) (hc2 : sl + N ≤ R.slots) (d : decode cc pc = .ok (.newarray .boolean, 2)) (kk : Wv p l e R s m args below meth c Q D aC b nL (pc + 2) L (AR w.1 :: S) (nwW w) (cs + 1) (sl + N)) : Wv p l e R s m args below meth c Q D aC b nL pc L (AI n :: S) w cs sl := fun H locs ls h1 h2 h3 => by
  refine va_newaK (atype := .boolean) E.1 E.2.1 (E.gl hw rfl) rfl d rfl hn hN hby hc1 hc2 h1.2 fun H1 cA e1 z1 o1 _ hNm => ?_
  have hcA : cA = aC 103 := by
    have h := (E.2.2.2.2.2.1.2 3 _ rfl).2
    exact Option.some.inj (hNm.symm.trans h)
  subst hcA
  refine kk H1 locs ls (xH_nw h1 z1 o1 ?_) (nw_S h2 E.2.2.2.2.2.2.2.2.1 (by rw [z1, h1.2]) (fun q hq => o1 q (by rw [← h1.2]; exact hq))) h3
  rw [xE_ai hs (by omega)]
  show H1[b + w.1]? = some (vp_cell _ _)
  rw [e1]
  simp [nwW, va_up, vp_cell, defaultValue, newarray.typeOf]
theorem s_newr104 {N ix : Nat} {n : Int32} (E : EE p s m meth c D aC b nL cc own ret) (hcl : Cond.classLink own ix "HoopCabinet$Ball" ∈ lw_tbl) (hov : Cond.arrayOver (.object "HoopCabinet$Ball") ∈ lw_tbl) (hs : xS w.1 = (104, N)) (hn : ¬ n < 0) (hN : n.toNatClampNeg = N) (hby : n.toNatClampNeg * 4 ≤ 536870912) (hc1 : cs + 1 ≤ R.cells) (hc2 : sl + N ≤ R.slots) (d : decode cc pc = .ok (.anewarray ix, 3)) (kk : Wv p l e R s m args below meth c Q D aC b nL (pc + 3) L (AR w.1 :: S) (nwW w) (cs + 1) (sl + N)) : Wv p l e R s m args below meth c Q D aC b nL pc L (AI n :: S) w cs sl := fun H locs ls h1 h2 h3 => by
  subst hN
  refine W.anew E.1 E.2.1 E.2.2.2.1 (E.gl hcl rfl) (E.gl hov rfl) rfl d rfl hn hby hc1 hc2 fun cA kA comp f1 f2 f3 f4 => ?_
  have hcA : cA = aC 104 := by
    obtain ⟨kA2, comp2, -, -, -, h⟩ := (E.2.2.2.2.2.1.2 4 _ rfl).2
    exact Option.some.inj (f1.symm.trans h)
  subst hcA
  have hz := h1.2
  refine W.eq (g2 := F0 m (pc + 3) ls ((AR w.1 :: S).map (cv b))) (by rw [hz]; rfl) (kk _ locs ls (xH_nw h1 (by rw [Array.size_push, hz]) (fun q hq => by rw [Array.getElem?_push, if_neg (by rw [hz]; exact Nat.ne_of_lt hq)]) ?_) (nw_S h2 E.2.2.2.2.2.2.2.2.1 (by rw [Array.size_push]) (fun q hq => by rw [Array.getElem?_push, if_neg (Nat.ne_of_lt hq)])) h3)
  rw [xE_ar hs (by omega)]
  show (H.push _)[b + w.1]? = some (vp_cell _ _)
  rw [← hz, Array.getElem?_push_size, arrV_new]
  simp [nwW, va_up, vp_cell, rv, va_rf]
theorem s_newr105 {N ix : Nat} {n : Int32} (E : EE p s m meth c D aC b nL cc own ret) (hcl : Cond.classLink own ix "HoopCabinet$Slot" ∈ lw_tbl) (hov : Cond.arrayOver (.object "HoopCabinet$Slot") ∈ lw_tbl) (hs : xS w.1 = (105, N)) (hn : ¬ n < 0) (hN : n.toNatClampNeg = N) (hby : n.toNatClampNeg * 4 ≤ 536870912) (hc1 : cs + 1 ≤ R.cells) (hc2 : sl + N ≤ R.slots) (d : decode cc pc = .ok (.anewarray ix, 3)) (kk : Wv p l e R s m args below meth c Q D aC b nL (pc + 3) L (AR w.1 :: S) (nwW w) (cs + 1) (sl + N)) : Wv p l e R s m args below meth c Q D aC b nL pc L (AI n :: S) w cs sl := fun H locs ls h1 h2 h3 => by
  subst hN
  refine W.anew E.1 E.2.1 E.2.2.2.1 (E.gl hcl rfl) (E.gl hov rfl) rfl d rfl hn hby hc1 hc2 fun cA kA comp f1 f2 f3 f4 => ?_
  have hcA : cA = aC 105 := by
    obtain ⟨kA2, comp2, -, -, -, h⟩ := (E.2.2.2.2.2.1.2 5 _ rfl).2
    exact Option.some.inj (f1.symm.trans h)
  subst hcA
  have hz := h1.2
  refine W.eq (g2 := F0 m (pc + 3) ls ((AR w.1 :: S).map (cv b))) (by rw [hz]; rfl) (kk _ locs ls (xH_nw h1 (by rw [Array.size_push, hz]) (fun q hq => by rw [Array.getElem?_push, if_neg (by rw [hz]; exact Nat.ne_of_lt hq)]) ?_) (nw_S h2 E.2.2.2.2.2.2.2.2.1 (by rw [Array.size_push]) (fun q hq => by rw [Array.getElem?_push, if_neg (Nat.ne_of_lt hq)])) h3)
  rw [xE_ar hs (by omega)]
  show (H.push _)[b + w.1]? = some (vp_cell _ _)
  rw [← hz, Array.getElem?_push_size, arrV_new]
  simp [nwW, va_up, vp_cell, rv, va_rf]
end XC
