theorem law_arr {s : State} {args : Array Value} {ty : FieldType} (h : (Cond.arrayClass ty).before args s = true) : ∃ (cA : ClassId) (kA : Class) (comp : ClassId), s.vm.findClass ("[" ++ ty.toString) = some cA ∧ s.vm.classes[cA]? = some kA ∧ kA.kind = .array comp ty := by
  obtain ⟨cA, kA, comp, h1, h2, h3⟩ := Cond.arrayClass_spec h
  exact ⟨cA, kA, comp, h1, h2, h3⟩
theorem law_arrO {s : State} {args : Array Value} {n : String} (h : (Cond.arrayOver (.object n)).before args s = true) : ∃ (cA : ClassId) (kA : Class) (comp : ClassId), s.vm.findClass ("[" ++ (FieldType.object n).toString) = some cA ∧ s.vm.classes[cA]? = some kA ∧ kA.kind = .array comp (.object n) ∧ s.vm.findClass n = some comp := by
  obtain ⟨comp, cA, kA, h1, -, h3, h4, h5⟩ := Cond.arrayOver_spec h
  exact ⟨cA, kA, comp, h5, h3, h4, h1⟩
theorem Gl_of {s : State} {A0 : Array Value} (hts : ∀ w ∈ lw_tbl, w.before A0 s = true) : Gl s := by
  intro w hw ho A
  unfold okW at ho
  have h0 := hts w hw
  cases hg : goodWord w with
  | true => exact word_at (State.WarmedH.refl s) (good_of_word hg) h0
  | false =>
    rw [hg] at ho
    have hn : isNest w = true := by simpa using ho
    match w, hn, h0 with
    | .fieldLinkNest _ _ _ _ _ _, _, h0 => exact va_Nw.use rfl (va_Nw.of rfl h0)
    | .methodLinkNest _ _ _ _, _, h0 => exact va_Nw.use rfl (va_Nw.of rfl h0)
    | .arrayOver (.object _), _, h0 => exact va_AO.use (va_AO.of h0)
def tmS (i : Nat) : Term := .string (sNm.getD i ("", 0, "")).1 (sNm.getD i ("", 0, "")).2.1
theorem sx_of {s : State} {aC adK adV : Nat → Nat} (h1 : ∀ i, i < 30 → aC (1000 + i) = adK i) (h2 : ∀ i, i < 30 → aC (2000 + i) = adV i) (h : Sx (fun k => if 2000 ≤ k then adV (k - 2000) else adK (k - 1000)) s.heap.size s s.heap) : Sx aC s.heap.size s s.heap := by
  refine ⟨fun i hi => ?_, h.2⟩
  have g := h.1 i hi
  unfold Sx1 at g ⊢
  have e1 : (if 2000 ≤ 1000 + i then adV (1000 + i - 2000) else adK (1000 + i - 1000)) = adK i := by rw [if_neg (by omega), Nat.add_sub_cancel_left]
  have e2 : (if 2000 ≤ 2000 + i then adV (2000 + i - 2000) else adK (2000 + i - 1000)) = adV i := by rw [if_pos (by omega), Nat.add_sub_cancel_left]
  simp only [e1, e2] at g
  rw [h1 i hi, h2 i hi]
  exact g
theorem law_sof {s : State} {args : Array Value} {tm : Term} {n : Nat} {f : Nat → Int32} {A : Nat → Prop} (hn : n < 2 ^ 31) (hex : (Cond.exactly tm "java/lang/String").before args s = true) (hco : (Cond.eq (.field tm "java/lang/String" "coder" "B") (.int 0)).before args s = true) (har : (Cond.arrayOf (.field tm "java/lang/String" "value" "[B") .byte).before args s = true) (hle : (Cond.eq (.length (.field tm "java/lang/String" "value" "[B")) (.int (Int32.ofNat n))).before args s = true) (hel : ∀ j : Nat, j < n → (Cond.eq (.elem (.field tm "java/lang/String" "value" "[B") (.int (Int32.ofNat j))) (.int (f j))).before args s = true) (hA : ∀ a : Nat, a < s.heap.size → ¬ A a) : ∃ q : Nat × Nat, tm.eval args s none [] s = some (.ref q.1) ∧ va_O "java/lang/String" q.1 A s s.heap ∧ va_OF "java/lang/String" "coder" "B" (.int 0) q.1 A s s.heap ∧ va_OF "java/lang/String" "value" "[B" (.ref q.2) q.1 A s s.heap ∧ va_T .byte q.2 n (fun j => .int (f j)) A s s.heap := by
  obtain ⟨a, c, cA, kA, q1, q2, q3, q4, q5, q6, -⟩ := Cond.exactly_spec (args := args) (first := s) (o := none) (s := s) (idx := []) (t := tm) (cls := "java/lang/String") hex
  obtain ⟨t, ht, hT⟩ := va_Tof (f := fun j => .int (f j)) (A := A) hn har (va_eqt hle) (fun j hj => va_eqt (hel j hj)) hA
  exact ⟨(a, t), q1, ⟨cA, q3, q5, by rw [q6]; exact q2, hA a (Array.getElem?_eq_some_iff.mp q3).1⟩, vk_OFof q1 (va_eqt hco) hA, vk_OFof q1 ht hA, hT⟩
set_option maxRecDepth 20000 in
set_option maxHeartbeats 4000000 in
theorem law_strs {s : State} {b : Nat} (hts : ∀ w ∈ lw_tbl, w.before #[Value.ref b] s = true) (hgv : (Jvm.Cond.and given_1 narrow_1).before #[Value.ref b] s = true) : ∃ adK adV : Nat → Nat, Sx (fun k => if 2000 ≤ k then adV (k - 2000) else adK (k - 1000)) s.heap.size s s.heap := by
  have hs := flat_of_before _ hgv
  have hA : ∀ a : Nat, a < s.heap.size → ¬ xA s.heap.size a := fun a h g => absurd h (Nat.not_lt.mpr g)
  have h0 : ∀ i : Nat, ∃ q : Nat × Nat, i < 30 → (tmS i).eval #[Value.ref b] s none [] s = some (.ref q.1) ∧ va_O "java/lang/String" q.1 (xA s.heap.size) s s.heap ∧ va_OF "java/lang/String" "coder" "B" (.int 0) q.1 (xA s.heap.size) s s.heap ∧ va_OF "java/lang/String" "value" "[B" (.ref q.2) q.1 (xA s.heap.size) s s.heap ∧ va_T .byte q.2 (sLen.getD i 0) (fun j => .int ((sByt.getD i []).getD j 0)) (xA s.heap.size) s s.heap := by
    intro i
    by_cases hi : i < 30
    · have d1 : ∀ i : Nat, i < 30 → Cond.exactly (tmS i) "java/lang/String" ∈ flatC (Jvm.Cond.and given_1 narrow_1) := by decide +kernel
      have d2 : ∀ i : Nat, i < 30 → Cond.eq (.field (tmS i) "java/lang/String" "coder" "B") (.int 0) ∈ flatC (Jvm.Cond.and given_1 narrow_1) := by decide +kernel
      have d3 : ∀ i : Nat, i < 30 → Cond.arrayOf (.field (tmS i) "java/lang/String" "value" "[B") .byte ∈ flatC (Jvm.Cond.and given_1 narrow_1) := by decide +kernel
      have d4 : ∀ i : Nat, i < 30 → Cond.eq (.length (.field (tmS i) "java/lang/String" "value" "[B")) (.int (Int32.ofNat (sLen.getD i 0))) ∈ flatC (Jvm.Cond.and given_1 narrow_1) := by decide +kernel
      have d5 : ∀ i : Nat, i < 30 → ∀ j : Nat, j < sLen.getD i 0 → Cond.eq (.elem (.field (tmS i) "java/lang/String" "value" "[B") (.int (Int32.ofNat j))) (.int ((sByt.getD i []).getD j 0)) ∈ flatC (Jvm.Cond.and given_1 narrow_1) := by decide +kernel
      have d6 : ∀ i : Nat, i < 30 → sLen.getD i 0 < 2 ^ 31 := by decide +kernel
      obtain ⟨q, hq⟩ := law_sof (A := xA s.heap.size) (f := fun j => (sByt.getD i []).getD j 0) (d6 i hi) (hs _ (d1 i hi)) (hs _ (d2 i hi)) (hs _ (d3 i hi)) (hs _ (d4 i hi)) (fun j hj => hs _ (d5 i hi j hj)) hA
      exact ⟨q, fun _ => hq⟩
    · exact ⟨(0, 0), fun h => absurd h hi⟩
  obtain ⟨ad, had⟩ := Classical.axiomOfChoice h0
  refine ⟨fun i => (ad i).1, fun i => (ad i).2, fun i hi => ?_, ?_, ?_⟩
  · have g := had i hi
    have e1 : (if 2000 ≤ 1000 + i then (ad (1000 + i - 2000)).2 else (ad (1000 + i - 1000)).1) = (ad i).1 := by rw [if_neg (by omega), Nat.add_sub_cancel_left]
    have e2 : (if 2000 ≤ 2000 + i then (ad (2000 + i - 2000)).2 else (ad (2000 + i - 1000)).1) = (ad i).2 := by rw [if_pos (by omega), Nat.add_sub_cancel_left]
    unfold Sx1
    simp only [e1, e2]
    have d7 : ∀ i : Nat, i < 30 → Cond.stringRef (sNm.getD i ("", 0, "")).1 (sNm.getD i ("", 0, "")).2.1 (sNm.getD i ("", 0, "")).2.2 ∈ tables_1 := by decide +kernel
    exact ⟨⟨g.2.1, g.2.2.1, g.2.2.2.1, g.2.2.2.2⟩, vk_R.of (hts _ (List.mem_append_right _ (d7 i hi))) g.1⟩
  · exact va_Zof (hts _ k_420) (hts _ k_13) (va_eqt (hs _ (by decide +kernel))) hA
  · exact va_Zqof (hts _ k_436) (hts _ k_15) (hs _ (by decide +kernel)) hA
