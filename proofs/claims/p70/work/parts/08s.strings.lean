section XT
variable {p : Program} {l : Launch} {e : Env} {R : Room} {s : State} {m : MethodId} {args : Array Value} {below : List Frame} {meth : Method} {c : Code} {Q : State → Prop}
variable {D : va_G} {aC : Nat → ClassId} {b nL : Nat} {cc : ByteArray} {own : String} {ret : Option FieldType}
variable {pc : Nat} {L : List (Option AV)} {S : List AV} {w : XW} {cs sl : Nat}
theorem EE.sx (E : EE p s m meth c D aC b nL cc own ret) : Sx aC b s s.heap := E.2.2.2.2.2.2.2.2.2
theorem s_ldcS {i ix : Nat} {tx : String} (E : EE p s m meth c D aC b nL cc own ret) (hi : i < 30) (hn : sNm.getD i ("", 0, "") = (own, ix, tx)) (d : decode cc pc = .ok (.ldc ix, 2)) (kk : Wv p l e R s m args below meth c Q D aC b nL (pc + 2) L (AX (sA aC i) :: S) w cs sl) : Wv p l e R s m args below meth c Q D aC b nL pc L S w cs sl := fun H locs ls h1 h2 h3 => by
  have h := (E.sx.1 i hi).2
  rw [hn] at h
  exact va_ldcS E.1 E.2.1 E.2.2.2.1 h d (kk H locs ls h1 h2 h3)
theorem s_gVal {i ix : Nat} (E : EE p s m meth c D aC b nL cc own ret) (hi : i < 30) (hm : Cond.fieldLink own ix "java/lang/String" "value" "[B" ∈ lw_tbl) (d : decode cc pc = .ok (.getfield ix, 3)) (kk : Wv p l e R s m args below meth c Q D aC b nL (pc + 3) L (AX (aC (2000 + i) + 1) :: S) w cs sl) : Wv p l e R s m args below meth c Q D aC b nL pc L (AX (sA aC i) :: S) w cs sl := fun H locs ls h1 h2 h3 =>
  vk_getf E.1 E.2.1 (E.sx.1 i hi).1.2.2.1 h2 E.2.2.2.1 (E.gl hm rfl) (fun _ h => h) d (kk H locs ls h1 h2 h3)
theorem s_gCod {i ix : Nat} (E : EE p s m meth c D aC b nL cc own ret) (hi : i < 30) (hm : Cond.fieldLink own ix "java/lang/String" "coder" "B" ∈ lw_tbl) (d : decode cc pc = .ok (.getfield ix, 3)) (kk : Wv p l e R s m args below meth c Q D aC b nL (pc + 3) L (AI 0 :: S) w cs sl) : Wv p l e R s m args below meth c Q D aC b nL pc L (AX (sA aC i) :: S) w cs sl := fun H locs ls h1 h2 h3 =>
  vk_getf E.1 E.2.1 (E.sx.1 i hi).1.2.1 h2 E.2.2.2.1 (E.gl hm rfl) (fun _ h => h) d (kk H locs ls h1 h2 h3)
theorem s_alenS {i : Nat} (E : EE p s m meth c D aC b nL cc own ret) (hi : i < 30) (d : decode cc pc = .ok (.arraylength, 1)) (kk : Wv p l e R s m args below meth c Q D aC b nL (pc + 1) L (AI (nI (sLen.getD i 0)) :: S) w cs sl) : Wv p l e R s m args below meth c Q D aC b nL pc L (AX (aC (2000 + i) + 1) :: S) w cs sl := fun H locs ls h1 h2 h3 => by
  exact va_tlen E.1 E.2.1 (E.sx.1 i hi).1.2.2.2 h2 rfl d (kk H locs ls h1 h2 h3)
theorem s_baldS {i : Nat} {k : Int32} (E : EE p s m meth c D aC b nL cc own ret) (hi : i < 30) (hin : vp_in k (sLen.getD i 0)) (d : decode cc pc = .ok (.baload, 1)) (kk : Wv p l e R s m args below meth c Q D aC b nL (pc + 1) L (AI ((sByt.getD i []).getD k.toNatClampNeg 0) :: S) w cs sl) : Wv p l e R s m args below meth c Q D aC b nL pc L (AI k :: AX (aC (2000 + i) + 1) :: S) w cs sl := fun H locs ls h1 h2 h3 =>
  va_tb E.1 E.2.1 (E.sx.1 i hi).1.2.2.2 h2 hin rfl d (kk H locs ls h1 h2 h3)
theorem s_gsC {ix : Nat} (E : EE p s m meth c D aC b nL cc own ret) (hm : Cond.fieldLink own ix "java/lang/String" "COMPACT_STRINGS" "Z" ∈ lw_tbl) (d : decode cc pc = .ok (.getstatic ix, 3)) (kk : Wv p l e R s m args below meth c Q D aC b nL (pc + 3) L (AI 1 :: S) w cs sl) : Wv p l e R s m args below meth c Q D aC b nL pc L S w cs sl := fun H locs ls h1 h2 h3 =>
  va_gets E.1 E.2.1 E.sx.2.1 h2 E.2.2.2.1 (E.gl hm rfl) (fun _ h => h) d (kk H locs ls h1 h2 h3)
theorem s_gsF {ix : Nat} (E : EE p s m meth c D aC b nL cc own ret) (hm : Cond.fieldLink own ix "jdk/internal/util/Preconditions" "SIOOBE_FORMATTER" "Ljava/util/function/BiFunction;" ∈ lw_tbl) (d : decode cc pc = .ok (.getstatic ix, 3)) (kk : ∀ a : Nat, Wv p l e R s m args below meth c Q D aC b nL (pc + 3) L (AX a :: S) w cs sl) : Wv p l e R s m args below meth c Q D aC b nL pc L S w cs sl := fun H locs ls h1 h2 h3 => by
  rcases E.sx.2.2 with h | ⟨t, h⟩
  · exact va_gets E.1 E.2.1 h h2 E.2.2.2.1 (E.gl hm rfl) (fun _ h => h) d (kk 0 H locs ls h1 h2 h3)
  · exact va_gets E.1 E.2.1 h h2 E.2.2.2.1 (E.gl hm rfl) (fun _ h => h) d (kk (t + 1) H locs ls h1 h2 h3)
theorem s_i2c {x : Int32} (E : EE p s m meth c D aC b nL cc own ret) (d : decode cc pc = .ok (.i2c, 1)) (k : Wv p l e R s m args below meth c Q D aC b nL (pc + 1) L (AI (x.toUInt32 % 65536).toInt32 :: S) w cs sl) : Wv p l e R s m args below meth c Q D aC b nL pc L (AI x :: S) w cs sl := fun H locs ls h1 h2 h3 => lv_i2c E.1 E.2.1 d rfl (k H locs ls h1 h2 h3)
theorem r_nar {ty : FieldType} {post : Int32 → XW → Prop} {x : Int32} (E : EE p s m meth c D aC b nL cc own (some ty)) (d : decode cc pc = .ok (.ireturn, 1)) (hx : narrow ty (.int x) = .int x) (hp : post x w) : Wv p l e R s m args below meth c (MQ below (va_Qi post (xU D aC b) (xA b)) args s cs sl (xA b)) D aC b nL pc L [AI x] w cs sl := fun H locs ls h1 h2 h3 =>
  W.zret (v := x) E.1 E.2.1 E.2.2.2.2.2.2.1 hx (fun t ht hW => ⟨⟨x, w, rfl, hp, E.xU h1 h2 ht hW⟩, h2.F ht⟩) h2.2.2 d E.2.2.2.2.2.2.2.1
def CXw (own : String) (ix : Nat) (M : Mt) (n : Nat) : Prop := CB own ix M n ∧ Cond.instanceMethod M.1 ∈ lw_tbl ∧ Cond.selects M.1.cls M.1 M.1 ∈ lw_tbl
theorem run_X {M : Mt} {ix n i fr lo mc ms : Nat} {As : List AV} {st : List AV} {Qc : Array Value → State → Outcome → State → Prop} {H : Heap} {locs : List Loc} {ls : Array Slot} (E : EE p s m meth c D aC b nL cc own ret) (hi0 : i < 30) (hcl : M.1.cls = "java/lang/String") (hM : Met l M.1 [Mc M] (rmF fr lo mc ms) (va_Pc ((AX (sA aC i) :: As).map (cv b)) (fun U => xU D aC b w U)) Qc mc ms (xA b)) (hc : CXw own ix M n) (hst : st = As.reverse ++ AX (sA aC i) :: S) (hn : As.length = n) (hfr : fr + 1 ≤ R.frames) (hlo : 8 + (M.2.2.1 + 11) + lo ≤ R.locals) (hf : cs + mc ≤ R.cells ∧ sl + ms ≤ R.slots) (hr : ((S.map (cv b)).map fun v => v.category).sum ≤ 8) (d : decode cc pc = .ok (.invokevirtual ix, 3)) (h1 : xH D aC b w H) (h2 : va_S (xA b) s.heap H locs) (h3 : xl b ls nL L) :
    va_Run p l e R s m args below meth c H locs cs sl mc ms (F0 m pc ls (st.map (cv b))) (S.map (cv b)) (Qc ((AX (sA aC i) :: As).map (cv b)).toArray) (xA b) := by
  obtain ⟨hB, hi, hse⟩ := hc
  obtain ⟨k1, k2, k3, k4⟩ := cb_parts (R := R) (args := args) (fr := fr) (lo := lo) (mc := mc) (ms := ms) E hB hfr hlo
  have hrecv : ∃ cell : Cell, H[aC (1000 + i)]? = some cell ∧ cell.vm.isStatics = false ∧ s.vm.findClass M.1.cls = some cell.cls := by
    obtain ⟨cell, g1, g2, g3, -⟩ := (E.sx.1 i hi0).1.1.kept h2.2.1
    exact ⟨cell, g1, g2, by rw [hcl]; exact g3⟩
  have hpre : PreV s H M.1.cls (aC (1000 + i)) (va_Pc ((AX (sA aC i) :: As).map (cv b)) (fun U => xU D aC b w U)) (As.map (cv b)) := ⟨xU_blind, hrecv, fun U hU hW => ⟨rfl, by rw [hU]; exact h1, va_K.moved hW.alike E.2.2.2.2.2.1, Gl.warm hW E.2.2.2.2.1, by rw [hU]; exact Sx.warm hW h2.2.1 E.sx⟩⟩
  have hsk : (F0 m pc ls (st.map (cv b))).stack = (As.map (cv b)).reverse ++ .ref (aC (1000 + i)) :: S.map (cv b) := by
    show st.map (cv b) = _
    rw [hst, List.map_append, List.map_reverse]
    rfl
  rcases hB.2.2.2 with hl | ⟨host, hl⟩
  · exact va_runV (Ts := []) ⟨E.1, E.2.1, E.2.2.1, E.2.2.2.1, fun _ h => absurd h List.not_mem_nil⟩ hM ⟨⟨rfl, rfl, hfr, hlo, k1, List.mem_cons_self, k2, k3, ⟨hB.2.2.1.1, hB.2.2.1.2.1⟩, k4, E.gl hl rfl⟩, E.gl hi rfl, E.gl hse rfl⟩ hpre rfl (by rw [List.length_map]; exact hn) h3.1 hsk (lv_room hr) d hf
  · exact va_runVN (Ts := []) ⟨E.1, E.2.1, E.2.2.1, E.2.2.2.1, fun _ h => absurd h List.not_mem_nil⟩ hM ⟨⟨⟨rfl, rfl, hfr, hlo, k1, List.mem_cons_self⟩, k2, k3, ⟨hB.2.2.1.1, hB.2.2.1.2.1⟩, k4, E.gl hl rfl⟩, E.gl hi rfl, E.gl hse rfl⟩ hpre rfl (by rw [List.length_map]; exact hn) h3.1 hsk (lv_room hr) d hf
theorem s_xI {M : Mt} {ix n i fr lo mc ms : Nat} {As st : List AV} {post : Int32 → XW → Prop} (E : EE p s m meth c D aC b nL cc own ret) (hi : i < 30) (hcl : M.1.cls = "java/lang/String") (hM : CnI l D aC b M fr lo mc ms (AX (sA aC i) :: As) w post) (hc : CXw own ix M n) (hst : st = As.reverse ++ AX (sA aC i) :: S) (hn : As.length = n) (hfr : fr + 1 ≤ R.frames) (hlo : 8 + (M.2.2.1 + 11) + lo ≤ R.locals) (hf : cs + mc ≤ R.cells ∧ sl + ms ≤ R.slots) (hr : ((S.map (cv b)).map fun v => v.category).sum ≤ 8) (d : decode cc pc = .ok (.invokevirtual ix, 3))
    (kk : ∀ (r : Int32) (u : XW), post r u → Wv p l e R s m args below meth c Q D aC b nL (pc + 3) L (AI r :: S) u (cs + mc) (sl + ms)) : Wv p l e R s m args below meth c Q D aC b nL pc L st w cs sl := fun H locs ls h1 h2 h3 =>
  va_calli (run_X E hi hcl hM hc hst hn hfr hlo hf hr d h1 h2 h3) h2 (fun _ _ h => h) (fun _ h => h) (fun r u t H1 locs1 ht _ hp hB _ _ hS => kk r u hp H1 locs1 ls (ht ▸ hB.1) hS h3)
theorem met_wk {y : MethodName} {ws : List Cond} {rm : Room} {Pc : Array Value → State → Prop} {Qc Qc2 : Array Value → State → Outcome → State → Prop} {mc ms : Nat} {free : Addr → Prop} (h : Met l y ws rm Pc Qc mc ms free) (hw : ∀ a s o t, Qc a s o t → Qc2 a s o t) : Met l y ws rm Pc Qc2 mc ms free := by
  intro p e ha hc hk s m args below hf happ hP hK
  obtain ⟨k, o, h1, h2, h3, hQ, hL⟩ := h p e ha hc hk s m args below hf happ hP hK
  exact ⟨k, o, h1, h2, h3, hw _ _ _ _ hQ, hL⟩
theorem cn_wkI {M : Mt} {fr lo mc ms : Nat} {A : List AV} {post post2 : Int32 → XW → Prop} (h : CnI l D aC b M fr lo mc ms A w post) (hw : ∀ r u, post r u → post2 r u) : CnI l D aC b M fr lo mc ms A w post2 :=
  met_wk h (fun _ _ _ _ ⟨⟨r, u, g1, g2, g3⟩, g4⟩ => ⟨⟨r, u, g1, hw r u g2, g3⟩, g4⟩)
theorem cn_wkL {M : Mt} {fr lo mc ms : Nat} {A : List AV} {post post2 : Int64 → XW → Prop} (h : CnL l D aC b M fr lo mc ms A w post) (hw : ∀ r u, post r u → post2 r u) : CnL l D aC b M fr lo mc ms A w post2 :=
  met_wk h (fun _ _ _ _ ⟨⟨r, u, g1, g2, g3⟩, g4⟩ => ⟨⟨r, u, g1, hw r u g2, g3⟩, g4⟩)
theorem cn_wkV {M : Mt} {fr lo mc ms : Nat} {A : List AV} {post post2 : XW → Prop} (h : CnV l D aC b M fr lo mc ms A w post) (hw : ∀ u, post u → post2 u) : CnV l D aC b M fr lo mc ms A w post2 :=
  met_wk h (fun _ _ _ _ ⟨⟨u, g1, g2, g3⟩, g4⟩ => ⟨⟨u, g1, hw u g2, g3⟩, g4⟩)
theorem sl_pos : ∀ i, i < 30 → sLen.getD i 0 < 2 ^ 31 := by decide +kernel
end XT
abbrev M_J0_coder_7d493 : Mt := (yJ0_coder_7d493, cJ0_coder_7d493, 1, some .byte)
abbrev M_J0_isLatin1_aae02 : Mt := (yJ0_isLatin1_aae02, cJ0_isLatin1_aae02, 1, some .boolean)
abbrev M_J0_length_8abf5 : Mt := (yJ0_length_8abf5, cJ0_length_8abf5, 1, some .int)
abbrev M_J3_checkIndex_8e157 : Mt := (yJ3_checkIndex_8e157, cJ3_checkIndex_8e157, 3, some .int)
abbrev M_J0_checkIndex_df160 : Mt := (yJ0_checkIndex_df160, cJ0_checkIndex_df160, 2, none)
abbrev M_J1_charAt_3b067 : Mt := (yJ1_charAt_3b067, cJ1_charAt_3b067, 2, some .char)
abbrev M_J0_charAt_5068e : Mt := (yJ0_charAt_5068e, cJ0_charAt_5068e, 2, some .char)
theorem k_419 : (Jvm.Cond.fieldLink "java/lang/String" (38 : Nat) "java/lang/String" "COMPACT_STRINGS" "Z") ∈ lw_tbl := List.mem_append_right _ (List.mem_of_getElem? (i := 419) (by decide +kernel))
theorem k_1997 : (Jvm.Cond.fieldLink "java/lang/String" (15 : Nat) "java/lang/String" "coder" "B") ∈ lw_tbl := List.mem_append_right _ (List.mem_of_getElem? (i := 1997) (by decide +kernel))
theorem k_1996 : (Jvm.Cond.fieldLink "java/lang/String" (9 : Nat) "java/lang/String" "value" "[B") ∈ lw_tbl := List.mem_append_right _ (List.mem_of_getElem? (i := 1996) (by decide +kernel))
theorem k_418 : (Jvm.Cond.code ({ cls := "java/lang/String", name := "coder", desc := "()B" } : Jvm.MethodName) prog_15_method_152_code (1 : Nat) (Option.some Jvm.ClassFile.FieldType.byte)) ∈ lw_tbl := List.mem_append_right _ (List.mem_of_getElem? (i := 418) (by decide +kernel))
theorem k_13 : (Jvm.Cond.initialized "java/lang/String") ∈ lw_tbl := List.mem_append_right _ (List.mem_of_getElem? (i := 13) (by decide +kernel))
theorem k_415 : (Jvm.Cond.methodLink "java/lang/String" (335 : Nat) ({ cls := "java/lang/String", name := "coder", desc := "()B" } : Jvm.MethodName)) ∈ lw_tbl := List.mem_append_right _ (List.mem_of_getElem? (i := 415) (by decide +kernel))
theorem k_416 : (Jvm.Cond.instanceMethod ({ cls := "java/lang/String", name := "coder", desc := "()B" } : Jvm.MethodName)) ∈ lw_tbl := List.mem_append_right _ (List.mem_of_getElem? (i := 416) (by decide +kernel))
theorem k_417 : (Jvm.Cond.selects "java/lang/String" ({ cls := "java/lang/String", name := "coder", desc := "()B" } : Jvm.MethodName) ({ cls := "java/lang/String", name := "coder", desc := "()B" } : Jvm.MethodName)) ∈ lw_tbl := List.mem_append_right _ (List.mem_of_getElem? (i := 417) (by decide +kernel))
theorem k_439 : (Jvm.Cond.code ({ cls := "jdk/internal/util/Preconditions", name := "checkIndex", desc := "(IILjava/util/function/BiFunction;)I" } : Jvm.MethodName) prog_20_method_11_code (3 : Nat) (Option.some Jvm.ClassFile.FieldType.int)) ∈ lw_tbl := List.mem_append_right _ (List.mem_of_getElem? (i := 439) (by decide +kernel))
theorem k_15 : (Jvm.Cond.initialized "jdk/internal/util/Preconditions") ∈ lw_tbl := List.mem_append_right _ (List.mem_of_getElem? (i := 15) (by decide +kernel))
theorem k_437 : (Jvm.Cond.methodLink "java/lang/String" (1059 : Nat) ({ cls := "jdk/internal/util/Preconditions", name := "checkIndex", desc := "(IILjava/util/function/BiFunction;)I" } : Jvm.MethodName)) ∈ lw_tbl := List.mem_append_right _ (List.mem_of_getElem? (i := 437) (by decide +kernel))
theorem k_438 : (Jvm.Cond.static ({ cls := "jdk/internal/util/Preconditions", name := "checkIndex", desc := "(IILjava/util/function/BiFunction;)I" } : Jvm.MethodName)) ∈ lw_tbl := List.mem_append_right _ (List.mem_of_getElem? (i := 438) (by decide +kernel))
theorem k_435 : (Jvm.Cond.fieldLink "java/lang/String" (1053 : Nat) "jdk/internal/util/Preconditions" "SIOOBE_FORMATTER" "Ljava/util/function/BiFunction;") ∈ lw_tbl := List.mem_append_right _ (List.mem_of_getElem? (i := 435) (by decide +kernel))
theorem k_434 : (Jvm.Cond.code ({ cls := "java/lang/String", name := "checkIndex", desc := "(II)V" } : Jvm.MethodName) prog_15_method_155_code (2 : Nat) (Option.none : Option Jvm.ClassFile.FieldType)) ∈ lw_tbl := List.mem_append_right _ (List.mem_of_getElem? (i := 434) (by decide +kernel))
theorem k_432 : (Jvm.Cond.methodLink "java/lang/StringLatin1" (9 : Nat) ({ cls := "java/lang/String", name := "checkIndex", desc := "(II)V" } : Jvm.MethodName)) ∈ lw_tbl := List.mem_append_right _ (List.mem_of_getElem? (i := 432) (by decide +kernel))
theorem k_433 : (Jvm.Cond.static ({ cls := "java/lang/String", name := "checkIndex", desc := "(II)V" } : Jvm.MethodName)) ∈ lw_tbl := List.mem_append_right _ (List.mem_of_getElem? (i := 433) (by decide +kernel))
theorem k_431 : (Jvm.Cond.code ({ cls := "java/lang/StringLatin1", name := "charAt", desc := "([BI)C" } : Jvm.MethodName) prog_16_method_2_code (2 : Nat) (Option.some Jvm.ClassFile.FieldType.char)) ∈ lw_tbl := List.mem_append_right _ (List.mem_of_getElem? (i := 431) (by decide +kernel))
theorem k_14 : (Jvm.Cond.initialized "java/lang/StringLatin1") ∈ lw_tbl := List.mem_append_right _ (List.mem_of_getElem? (i := 14) (by decide +kernel))
theorem k_429 : (Jvm.Cond.methodLink "java/lang/String" (495 : Nat) ({ cls := "java/lang/StringLatin1", name := "charAt", desc := "([BI)C" } : Jvm.MethodName)) ∈ lw_tbl := List.mem_append_right _ (List.mem_of_getElem? (i := 429) (by decide +kernel))
theorem k_430 : (Jvm.Cond.static ({ cls := "java/lang/StringLatin1", name := "charAt", desc := "([BI)C" } : Jvm.MethodName)) ∈ lw_tbl := List.mem_append_right _ (List.mem_of_getElem? (i := 430) (by decide +kernel))
theorem k_428 : (Jvm.Cond.code ({ cls := "java/lang/String", name := "isLatin1", desc := "()Z" } : Jvm.MethodName) prog_15_method_154_code (1 : Nat) (Option.some Jvm.ClassFile.FieldType.boolean)) ∈ lw_tbl := List.mem_append_right _ (List.mem_of_getElem? (i := 428) (by decide +kernel))
theorem k_425 : (Jvm.Cond.methodLink "java/lang/String" (492 : Nat) ({ cls := "java/lang/String", name := "isLatin1", desc := "()Z" } : Jvm.MethodName)) ∈ lw_tbl := List.mem_append_right _ (List.mem_of_getElem? (i := 425) (by decide +kernel))
theorem k_426 : (Jvm.Cond.instanceMethod ({ cls := "java/lang/String", name := "isLatin1", desc := "()Z" } : Jvm.MethodName)) ∈ lw_tbl := List.mem_append_right _ (List.mem_of_getElem? (i := 426) (by decide +kernel))
theorem k_427 : (Jvm.Cond.selects "java/lang/String" ({ cls := "java/lang/String", name := "isLatin1", desc := "()Z" } : Jvm.MethodName) ({ cls := "java/lang/String", name := "isLatin1", desc := "()Z" } : Jvm.MethodName)) ∈ lw_tbl := List.mem_append_right _ (List.mem_of_getElem? (i := 427) (by decide +kernel))
theorem cx_J0_335 : CXw RJ0 335 M_J0_coder_7d493 0 := ⟨⟨k_418, k_13, by decide +kernel, Or.inl k_415⟩, k_416, k_417⟩
theorem cs_J0_1059 : CSw RJ0 1059 M_J3_checkIndex_8e157 3 := ⟨⟨k_439, k_15, by decide +kernel, Or.inl k_437⟩, k_438⟩
theorem cs_J1_9 : CSw RJ1 9 M_J0_checkIndex_df160 2 := ⟨⟨k_434, k_13, by decide +kernel, Or.inl k_432⟩, k_433⟩
theorem cs_J0_495 : CSw RJ0 495 M_J1_charAt_3b067 2 := ⟨⟨k_431, k_14, by decide +kernel, Or.inl k_429⟩, k_430⟩
theorem cx_J0_492 : CXw RJ0 492 M_J0_isLatin1_aae02 0 := ⟨⟨k_428, k_13, by decide +kernel, Or.inl k_425⟩, k_426, k_427⟩
theorem dJ0_coder_7d493_0 : decode cJ0_coder_7d493 0 = .ok (.getstatic 38, 3) := by decide +kernel
theorem dJ0_coder_7d493_3 : decode cJ0_coder_7d493 3 = .ok (.ifCond .eq 10, 3) := by decide +kernel
theorem dJ0_coder_7d493_6 : decode cJ0_coder_7d493 6 = .ok (.aload_n 0, 1) := by decide +kernel
theorem dJ0_coder_7d493_7 : decode cJ0_coder_7d493 7 = .ok (.getfield 15, 3) := by decide +kernel
theorem dJ0_coder_7d493_10 : decode cJ0_coder_7d493 10 = .ok (.goto 4, 3) := by decide +kernel
theorem dJ0_coder_7d493_14 : decode cJ0_coder_7d493 14 = .ok (.ireturn, 1) := by decide +kernel
theorem dJ0_isLatin1_aae02_0 : decode cJ0_isLatin1_aae02 0 = .ok (.getstatic 38, 3) := by decide +kernel
theorem dJ0_isLatin1_aae02_3 : decode cJ0_isLatin1_aae02 3 = .ok (.ifCond .eq 14, 3) := by decide +kernel
theorem dJ0_isLatin1_aae02_6 : decode cJ0_isLatin1_aae02 6 = .ok (.aload_n 0, 1) := by decide +kernel
theorem dJ0_isLatin1_aae02_7 : decode cJ0_isLatin1_aae02 7 = .ok (.getfield 15, 3) := by decide +kernel
theorem dJ0_isLatin1_aae02_10 : decode cJ0_isLatin1_aae02 10 = .ok (.ifCond .ne 7, 3) := by decide +kernel
theorem dJ0_isLatin1_aae02_13 : decode cJ0_isLatin1_aae02 13 = .ok (.iconst 1, 1) := by decide +kernel
theorem dJ0_isLatin1_aae02_14 : decode cJ0_isLatin1_aae02 14 = .ok (.goto 4, 3) := by decide +kernel
theorem dJ0_isLatin1_aae02_18 : decode cJ0_isLatin1_aae02 18 = .ok (.ireturn, 1) := by decide +kernel
theorem dJ0_length_8abf5_0 : decode cJ0_length_8abf5 0 = .ok (.aload_n 0, 1) := by decide +kernel
theorem dJ0_length_8abf5_1 : decode cJ0_length_8abf5 1 = .ok (.getfield 9, 3) := by decide +kernel
theorem dJ0_length_8abf5_4 : decode cJ0_length_8abf5 4 = .ok (.arraylength, 1) := by decide +kernel
theorem dJ0_length_8abf5_5 : decode cJ0_length_8abf5 5 = .ok (.aload_n 0, 1) := by decide +kernel
theorem dJ0_length_8abf5_6 : decode cJ0_length_8abf5 6 = .ok (.invokevirtual 335, 3) := by decide +kernel
theorem dJ0_length_8abf5_9 : decode cJ0_length_8abf5 9 = .ok (.ishr, 1) := by decide +kernel
theorem dJ0_length_8abf5_10 : decode cJ0_length_8abf5 10 = .ok (.ireturn, 1) := by decide +kernel
theorem dJ3_checkIndex_8e157_0 : decode cJ3_checkIndex_8e157 0 = .ok (.iload_n 0, 1) := by decide +kernel
theorem dJ3_checkIndex_8e157_1 : decode cJ3_checkIndex_8e157 1 = .ok (.ifCond .lt 8, 3) := by decide +kernel
theorem dJ3_checkIndex_8e157_4 : decode cJ3_checkIndex_8e157 4 = .ok (.iload_n 0, 1) := by decide +kernel
theorem dJ3_checkIndex_8e157_5 : decode cJ3_checkIndex_8e157 5 = .ok (.iload_n 1, 1) := by decide +kernel
theorem dJ3_checkIndex_8e157_6 : decode cJ3_checkIndex_8e157 6 = .ok (.if_icmp .lt 10, 3) := by decide +kernel
theorem dJ3_checkIndex_8e157_16 : decode cJ3_checkIndex_8e157 16 = .ok (.iload_n 0, 1) := by decide +kernel
theorem dJ3_checkIndex_8e157_17 : decode cJ3_checkIndex_8e157 17 = .ok (.ireturn, 1) := by decide +kernel
theorem dJ0_checkIndex_df160_0 : decode cJ0_checkIndex_df160 0 = .ok (.iload_n 0, 1) := by decide +kernel
theorem dJ0_checkIndex_df160_1 : decode cJ0_checkIndex_df160 1 = .ok (.iload_n 1, 1) := by decide +kernel
theorem dJ0_checkIndex_df160_2 : decode cJ0_checkIndex_df160 2 = .ok (.getstatic 1053, 3) := by decide +kernel
theorem dJ0_checkIndex_df160_5 : decode cJ0_checkIndex_df160 5 = .ok (.invokestatic 1059, 3) := by decide +kernel
theorem dJ0_checkIndex_df160_8 : decode cJ0_checkIndex_df160 8 = .ok (.pop, 1) := by decide +kernel
theorem dJ0_checkIndex_df160_9 : decode cJ0_checkIndex_df160 9 = .ok (.return_, 1) := by decide +kernel
theorem dJ1_charAt_3b067_0 : decode cJ1_charAt_3b067 0 = .ok (.iload_n 1, 1) := by decide +kernel
theorem dJ1_charAt_3b067_1 : decode cJ1_charAt_3b067 1 = .ok (.aload_n 0, 1) := by decide +kernel
theorem dJ1_charAt_3b067_2 : decode cJ1_charAt_3b067 2 = .ok (.arraylength, 1) := by decide +kernel
theorem dJ1_charAt_3b067_3 : decode cJ1_charAt_3b067 3 = .ok (.invokestatic 9, 3) := by decide +kernel
theorem dJ1_charAt_3b067_6 : decode cJ1_charAt_3b067 6 = .ok (.aload_n 0, 1) := by decide +kernel
theorem dJ1_charAt_3b067_7 : decode cJ1_charAt_3b067 7 = .ok (.iload_n 1, 1) := by decide +kernel
theorem dJ1_charAt_3b067_8 : decode cJ1_charAt_3b067 8 = .ok (.baload, 1) := by decide +kernel
theorem dJ1_charAt_3b067_9 : decode cJ1_charAt_3b067 9 = .ok (.sipush 255, 3) := by decide +kernel
theorem dJ1_charAt_3b067_12 : decode cJ1_charAt_3b067 12 = .ok (.iand, 1) := by decide +kernel
theorem dJ1_charAt_3b067_13 : decode cJ1_charAt_3b067 13 = .ok (.i2c, 1) := by decide +kernel
theorem dJ1_charAt_3b067_14 : decode cJ1_charAt_3b067 14 = .ok (.ireturn, 1) := by decide +kernel
theorem dJ0_charAt_5068e_0 : decode cJ0_charAt_5068e 0 = .ok (.aload_n 0, 1) := by decide +kernel
theorem dJ0_charAt_5068e_1 : decode cJ0_charAt_5068e 1 = .ok (.invokevirtual 492, 3) := by decide +kernel
theorem dJ0_charAt_5068e_4 : decode cJ0_charAt_5068e 4 = .ok (.ifCond .eq 12, 3) := by decide +kernel
theorem dJ0_charAt_5068e_7 : decode cJ0_charAt_5068e 7 = .ok (.aload_n 0, 1) := by decide +kernel
theorem dJ0_charAt_5068e_8 : decode cJ0_charAt_5068e 8 = .ok (.getfield 9, 3) := by decide +kernel
theorem dJ0_charAt_5068e_11 : decode cJ0_charAt_5068e 11 = .ok (.iload_n 1, 1) := by decide +kernel
theorem dJ0_charAt_5068e_12 : decode cJ0_charAt_5068e 12 = .ok (.invokestatic 495, 3) := by decide +kernel
theorem dJ0_charAt_5068e_15 : decode cJ0_charAt_5068e 15 = .ok (.ireturn, 1) := by decide +kernel
theorem Z_coder (l : Launch) (D : va_G) (aC : Nat → ClassId) (b : Nat) (w : XW) (i : Nat) (hi : i < 30) : CnI l D aC b M_J0_coder_7d493 0 0 0 0 [AX (sA aC i)] w (fun r u => r = 0 ∧ w = u) := by
  refine cn_I (own := RJ0) (nm := "coder") (L0 := [some (AX (sA aC i))]) (by decide +kernel) rfl rfl (Nat.le_of_ble_eq_true rfl) rfl ?_
  intro p e s m args below meth c E hin
  refine s_gsC E k_419 dJ0_coder_7d493_0 ?_
  refine s_if_eq (tgt := 13) E dJ0_coder_7d493_3 (by decide) (fun h => absurd h (by decide)) (fun _ => ?_)
  refine s_xload_n E dJ0_coder_7d493_6 rfl rfl ?_
  refine s_gCod E hi k_1997 dJ0_coder_7d493_7 ?_
  refine s_goto (tgt := 14) E dJ0_coder_7d493_10 (by decide) ?_
  exact r_nar E dJ0_coder_7d493_14 (by decide) ⟨rfl, rfl⟩
theorem Z_latin (l : Launch) (D : va_G) (aC : Nat → ClassId) (b : Nat) (w : XW) (i : Nat) (hi : i < 30) : CnI l D aC b M_J0_isLatin1_aae02 0 0 0 0 [AX (sA aC i)] w (fun r u => r = 1 ∧ w = u) := by
  refine cn_I (own := RJ0) (nm := "isLatin1") (L0 := [some (AX (sA aC i))]) (by decide +kernel) rfl rfl (Nat.le_of_ble_eq_true rfl) rfl ?_
  intro p e s m args below meth c E hin
  refine s_gsC E k_419 dJ0_isLatin1_aae02_0 ?_
  refine s_if_eq (tgt := 17) E dJ0_isLatin1_aae02_3 (by decide) (fun h => absurd h (by decide)) (fun _ => ?_)
  refine s_xload_n E dJ0_isLatin1_aae02_6 rfl rfl ?_
  refine s_gCod E hi k_1997 dJ0_isLatin1_aae02_7 ?_
  refine s_if_ne (tgt := 17) E dJ0_isLatin1_aae02_10 (by decide) (fun h => absurd rfl h) (fun _ => ?_)
  refine s_iconst (v := 1) E dJ0_isLatin1_aae02_13 (by decide) ?_
  refine s_goto (tgt := 18) E dJ0_isLatin1_aae02_14 (by decide) ?_
  exact r_bool E dJ0_isLatin1_aae02_18 (Or.inr rfl) ⟨rfl, rfl⟩
theorem Z_length (l : Launch) (D : va_G) (aC : Nat → ClassId) (b : Nat) (w : XW) (i : Nat) (hi : i < 30) : CnI l D aC b M_J0_length_8abf5 1 20 0 0 [AX (sA aC i)] w (fun r u => r = nI (sLen.getD i 0) ∧ w = u) := by
  refine cn_I (own := RJ0) (nm := "length") (L0 := [some (AX (sA aC i))]) (by decide +kernel) rfl rfl (Nat.le_of_ble_eq_true rfl) rfl ?_
  intro p e s m args below meth c E hin
  refine s_xload_n E dJ0_length_8abf5_0 rfl rfl ?_
  refine s_gVal E hi k_1996 dJ0_length_8abf5_1 ?_
  refine s_alenS E hi dJ0_length_8abf5_4 ?_
  refine s_xload_n E dJ0_length_8abf5_5 rfl rfl ?_
  refine s_xI (As := []) (S := [AI (nI (sLen.getD i 0))]) E hi rfl (Z_coder l D aC b w i hi) cx_J0_335 rfl rfl (Nat.le_of_ble_eq_true rfl) (Nat.le_of_ble_eq_true rfl) ⟨(Nat.le_of_ble_eq_true rfl), (Nat.le_of_ble_eq_true rfl)⟩ (Nat.le_of_ble_eq_true rfl) dJ0_length_8abf5_6 (fun r u hp => ?_)
  obtain ⟨hr, hp⟩ := hp
  subst hr
  subst hp
  refine s_ishr E dJ0_length_8abf5_9 ?_
  refine s_top (y := nI (sLen.getD i 0)) (sb_shr0 _) ?_
  exact r_int E dJ0_length_8abf5_10 ⟨rfl, rfl⟩
theorem Z_pre (l : Launch) (D : va_G) (aC : Nat → ClassId) (b : Nat) (w : XW) (x1 x2 : Int32) (a : Nat) (h1 : ¬ x1 < 0) (h2 : x1 < x2) : CnI l D aC b M_J3_checkIndex_8e157 0 0 0 0 [AI x1, AI x2, AX a] w (fun r u => w = u) := by
  refine cn_I (own := RJ3) (nm := "checkIndex") (L0 := [some (AI x1), some (AI x2), some (AX a)]) (by decide +kernel) rfl rfl (Nat.le_of_ble_eq_true rfl) rfl ?_
  intro p e s m args below meth c E hin
  refine s_iload_n E dJ3_checkIndex_8e157_0 rfl rfl ?_
  refine s_if_lt (tgt := 9) E dJ3_checkIndex_8e157_1 (by decide) (fun h => absurd h h1) (fun _ => ?_)
  refine s_iload_n E dJ3_checkIndex_8e157_4 rfl rfl ?_
  refine s_iload_n E dJ3_checkIndex_8e157_5 rfl rfl ?_
  refine s_icmp_lt (tgt := 16) E dJ3_checkIndex_8e157_6 (by decide) (fun _ => ?_) (fun h => absurd h2 h)
  refine s_iload_n E dJ3_checkIndex_8e157_16 rfl rfl ?_
  exact r_int E dJ3_checkIndex_8e157_17 rfl
theorem Z_chk (l : Launch) (D : va_G) (aC : Nat → ClassId) (b : Nat) (w : XW) (x1 x2 : Int32) (h1 : ¬ x1 < 0) (h2 : x1 < x2) : CnV l D aC b M_J0_checkIndex_df160 1 22 0 0 [AI x1, AI x2] w (fun u => w = u) := by
  refine cn_V (own := RJ0) (nm := "checkIndex") (L0 := [some (AI x1), some (AI x2)]) (by decide +kernel) rfl rfl (Nat.le_of_ble_eq_true rfl) rfl ?_
  intro p e s m args below meth c E hin
  refine s_iload_n E dJ0_checkIndex_df160_0 rfl rfl ?_
  refine s_iload_n E dJ0_checkIndex_df160_1 rfl rfl ?_
  refine s_gsF E k_435 dJ0_checkIndex_df160_2 (fun a => ?_)
  refine s_sI (As := [AI x1, AI x2, AX a]) (S := []) E (Z_pre l D aC b w x1 x2 a h1 h2) cs_J0_1059 rfl rfl (Nat.le_of_ble_eq_true rfl) (Nat.le_of_ble_eq_true rfl) ⟨(Nat.le_of_ble_eq_true rfl), (Nat.le_of_ble_eq_true rfl)⟩ (Nat.le_of_ble_eq_true rfl) dJ0_checkIndex_df160_5 (fun r u hp => ?_)
  subst hp
  refine s_popI E dJ0_checkIndex_df160_8 ?_
  exact r_void E dJ0_checkIndex_df160_9 rfl
theorem Z_char1 (l : Launch) (D : va_G) (aC : Nat → ClassId) (b : Nat) (w : XW) (i : Nat) (x : Int32) (hi : i < 30) (h1 : 0 ≤ x.toInt) (h2 : x.toInt < (sLen.getD i 0 : Int)) : CnI l D aC b M_J1_charAt_3b067 2 43 0 0 [AX (aC (2000 + i) + 1), AI x] w (fun r u => (narrow .char (.int r) = .int r ∧ r = chS i x.toNatClampNeg) ∧ w = u) := by
  refine cn_I (own := RJ1) (nm := "charAt") (L0 := [some (AX (aC (2000 + i) + 1)), some (AI x)]) (by decide +kernel) rfl rfl (Nat.le_of_ble_eq_true rfl) rfl ?_
  intro p e s m args below meth c E hin
  have hlt : x < nI (sLen.getD i 0) := Int32.lt_iff_toInt_lt.mpr (by rw [nI_toInt (sl_pos i hi)]; exact h2)
  have hge : ¬ x < 0 := fun h => by have g := Int32.lt_iff_toInt_lt.mp h; rw [show (0 : Int32).toInt = 0 by decide] at g; omega
  refine s_iload_n E dJ1_charAt_3b067_0 rfl rfl ?_
  refine s_xload_n E dJ1_charAt_3b067_1 rfl rfl ?_
  refine s_alenS E hi dJ1_charAt_3b067_2 ?_
  refine s_sV (As := [AI x, AI (nI (sLen.getD i 0))]) (S := []) E (Z_chk l D aC b w x _ hge hlt) cs_J1_9 rfl rfl (Nat.le_of_ble_eq_true rfl) (Nat.le_of_ble_eq_true rfl) ⟨(Nat.le_of_ble_eq_true rfl), (Nat.le_of_ble_eq_true rfl)⟩ (Nat.le_of_ble_eq_true rfl) dJ1_charAt_3b067_3 (fun u hp => ?_)
  subst hp
  refine s_xload_n E dJ1_charAt_3b067_6 rfl rfl ?_
  refine s_iload_n E dJ1_charAt_3b067_7 rfl rfl ?_
  refine s_baldS E hi (vp_in_iff.mpr ⟨h1, h2⟩) dJ1_charAt_3b067_8 ?_
  refine s_sipush (v := 255) E dJ1_charAt_3b067_9 (by decide) ?_
  refine s_iand E dJ1_charAt_3b067_12 ?_
  refine s_i2c E dJ1_charAt_3b067_13 ?_
  exact r_nar E dJ1_charAt_3b067_14 (pk_nc _) ⟨⟨pk_nc _, sc_c2 _⟩, rfl⟩
theorem Z_charAt (l : Launch) (D : va_G) (aC : Nat → ClassId) (b : Nat) (w : XW) (i : Nat) (x : Int32) (hi : i < 30) (h1 : 0 ≤ x.toInt) (h2 : x.toInt < (sLen.getD i 0 : Int)) : CnI l D aC b M_J0_charAt_5068e 3 64 0 0 [AX (sA aC i), AI x] w (fun r u => r = chS i x.toNatClampNeg ∧ w = u) := by
  refine cn_I (own := RJ0) (nm := "charAt") (L0 := [some (AX (sA aC i)), some (AI x)]) (by decide +kernel) rfl rfl (Nat.le_of_ble_eq_true rfl) rfl ?_
  intro p e s m args below meth c E hin
  refine s_xload_n E dJ0_charAt_5068e_0 rfl rfl ?_
  refine s_xI (As := []) (S := []) E hi rfl (Z_latin l D aC b w i hi) cx_J0_492 rfl rfl (Nat.le_of_ble_eq_true rfl) (Nat.le_of_ble_eq_true rfl) ⟨(Nat.le_of_ble_eq_true rfl), (Nat.le_of_ble_eq_true rfl)⟩ (Nat.le_of_ble_eq_true rfl) dJ0_charAt_5068e_1 (fun r u hp => ?_)
  obtain ⟨hr, hp⟩ := hp
  subst hr
  subst hp
  refine s_if_eq (tgt := 16) E dJ0_charAt_5068e_4 (by decide) (fun h => absurd h (by decide)) (fun _ => ?_)
  refine s_xload_n E dJ0_charAt_5068e_7 rfl rfl ?_
  refine s_gVal E hi k_1996 dJ0_charAt_5068e_8 ?_
  refine s_iload_n E dJ0_charAt_5068e_11 rfl rfl ?_
  refine s_sI (As := [AX (aC (2000 + i) + 1), AI x]) (S := []) E (Z_char1 l D aC b w i x hi h1 h2) cs_J0_495 rfl rfl (Nat.le_of_ble_eq_true rfl) (Nat.le_of_ble_eq_true rfl) ⟨(Nat.le_of_ble_eq_true rfl), (Nat.le_of_ble_eq_true rfl)⟩ (Nat.le_of_ble_eq_true rfl) dJ0_charAt_5068e_12 (fun r u hp => ?_)
  obtain ⟨hr, hp⟩ := hp
  subst hp
  exact r_nar E dJ0_charAt_5068e_15 hr.1 ⟨hr.2, rfl⟩
theorem Z_lengthN (l : Launch) (D : va_G) (aC : Nat → ClassId) (b : Nat) (w : XW) (i : Nat) (hi : i < 30) : CnI l D aC b M_J0_length_8abf5 1 20 0 0 [AX (sA aC i)] w (fun r u => (0 ≤ r.toInt ∧ r.toInt ≤ 8 ∧ r.toInt = ((sLen.getD i 0 : Nat) : Int)) ∧ w = u) := by
  refine cn_wkI (Z_length l D aC b w i hi) (fun r u h => ?_)
  obtain ⟨rfl, hp⟩ := h
  have h8 : sLen.getD i 0 ≤ 8 := (show ∀ i, i < 30 → sLen.getD i 0 ≤ 8 by decide +kernel) i hi
  rw [nI_toInt (sl_pos i hi)]
  exact ⟨⟨by omega, by omega, rfl⟩, hp⟩
