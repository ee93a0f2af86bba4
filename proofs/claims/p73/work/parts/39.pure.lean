/-! a lady who would carry a note -/
def wIn (f : Nat → Int32) (rm : Int) (n : Nat) : Nat → Int32
  | 0 => 0
  | k + 1 => wIn f rm n k ||| (if (f (6 * n + k)).toInt = rm then (1 : Int32) <<< (nI k &&& 31) else 0)
theorem wIn_1 {f : Nat → Int32} {rm : Int} {n : Nat} {q l z y l2 r : Int32} (h : q = wIn f rm n l.toInt.toNat) (ha : r.toInt = (f (6 * n + l.toInt.toNat)).toInt) (hr : r.toInt = rm) (hl : l2.toInt = l.toInt + 1) (l0 : 0 ≤ l.toInt) (hz : z = q ||| y) (hy : y = 1 <<< (l &&& 31)) : z = wIn f rm n l2.toInt.toNat := by
  have e : l2.toInt.toNat = l.toInt.toNat + 1 := by omega
  rw [e, wIn, if_pos (by omega), ← h, ← y_asI l0, hz, hy]
theorem wIn_0 {f : Nat → Int32} {rm : Int} {n : Nat} {q l z l2 r : Int32} (h : q = wIn f rm n l.toInt.toNat) (ha : r.toInt = (f (6 * n + l.toInt.toNat)).toInt) (hr : ¬ r.toInt = rm) (hl : l2.toInt = l.toInt + 1) (l0 : 0 ≤ l.toInt) (hz : z = q ||| 0) : z = wIn f rm n l2.toInt.toNat := by
  have e : l2.toInt.toNat = l.toInt.toNat + 1 := by omega
  rw [e, wIn, if_neg (by omega), ← h, hz]
theorem wIn_e {f : Nat → Int32} {rm : Int} {n a b : Nat} {q : Int32} (h : q = wIn f rm n a) (e : a = b) : q = wIn f rm n b := e ▸ h
/-- who can give it -/
def hvT (g : Int32) (f : Nat → Int32) (first : Int32) (n : Nat) : Int32 := if n = 0 then (if bt g first.toInt.toNat = true then 0 else (1 : Int32) <<< (first &&& 31)) else f (n - 1)
theorem hvT_0 {g gz first : Int32} {f : Nat → Int32} {n : Nat} (hn : n = 0) (hb : bt gz first.toInt.toNat = true) (hg : gz.toInt = g.toInt) : (0 : Int32) = hvT g f first n := by
  have e : gz = g := Int32.toInt_inj.mp hg
  unfold hvT; rw [if_pos hn, if_pos (by rw [← e]; exact hb)]
theorem hvT_1 {g gz first z : Int32} {f : Nat → Int32} {n : Nat} (hn : n = 0) (hb : ¬ bt gz first.toInt.toNat = true) (hg : gz.toInt = g.toInt) (hz : z = 1 <<< (first &&& 31)) : z = hvT g f first n := by
  have e : gz = g := Int32.toInt_inj.mp hg
  unfold hvT; rw [if_pos hn, if_neg (by rw [← e]; exact hb), hz]
theorem hvT_n {g first z i : Int32} {f : Nat → Int32} {n : Nat} (hn : ¬ n = 0) (hz : z = f i.toNatClampNeg) (hi : i.toInt = (n : Int) - 1) : z = hvT g f first n := by
  have e : i.toNatClampNeg = n - 1 := by
    have : i.toNatClampNeg = i.toInt.toNat := rfl
    omega
  unfold hvT; rw [if_neg hn, hz, e]
/-- she takes it there -/
def TKs (w : XW) (first lady : Int32) (rm : Int) (n : Nat) : Prop := ¬ ((hvT (w.2.2.1 95 21) (w.2.2.1 106) first n &&& wIn (w.2.2.1 103) rm n (w.2.2.1 96 5).toInt.toNat) &&& ((1 : Int32) <<< (lady &&& 31) ^^^ (-1))).toInt = 0
theorem tk_f {w : XW} {first lady h wn z1 z2 z3 z4 : Int32} {rm : Int} {n : Nat} (hv : h = hvT (w.2.2.1 95 21) (w.2.2.1 106) first n) (hw : wn = wIn (w.2.2.1 103) rm n (w.2.2.1 96 5).toInt.toNat) (e4 : z4 = z1 &&& z3) (e3 : z3 = z2 ^^^ (-1)) (e2 : z2 = 1 <<< (lady &&& 31)) (e1 : z1 = h &&& wn) : z4.toInt = 0 ↔ ¬ TKs w first lady rm n := by
  unfold TKs
  rw [← hv, ← hw, ← e2, ← e3, ← e1, ← e4]
  exact (Decidable.not_not).symm
theorem TKs_cong {v w : XW} {first lady : Int32} {rm : Int} {n : Nat} (h95 : v.2.2.1 95 = w.2.2.1 95) (h96 : v.2.2.1 96 = w.2.2.1 96) (h103 : v.2.2.1 103 = w.2.2.1 103) (h106 : v.2.2.1 106 = w.2.2.1 106) : TKs v first lady rm n ↔ TKs w first lady rm n := by
  unfold TKs; rw [h95, h96, h103, h106]
/-- rooms that are a door away, or the same -/
def bsd (w : XW) (l a b : Nat) : Prop := gw (w.2.2.1 102) (w.2.2.1 96 (47 + 2 * l)).toInt.toNat a b ≤ 1
theorem bsd_cong {v w : XW} {l a b : Nat} (h96 : v.2.2.1 96 = w.2.2.1 96) (h102 : v.2.2.1 102 = w.2.2.1 102) : bsd v l a b ↔ bsd w l a b := by
  unfold bsd; rw [h96, h102]
/-- an entry that says yes goes on -/
def cgE (w : XW) (f : Nat → Int32) (first lady : Int32) (last : Int) (n rm hs : Nat) : Prop := (n : Int) < last → ¬ (f (16 * n + 2 * rm + hs)).toInt = 0 → ∃ r th : Nat, (r : Int) < (w.2.2.1 96 0).toInt ∧ th ≤ 1 ∧ (th = 1 ↔ (hs = 1 ∨ TKs w first lady (rm : Int) n)) ∧ bsd w lady.toInt.toNat rm r ∧ ¬ (f (16 * (n + 1) + 2 * r + th)).toInt = 0
def CG (w : XW) (f : Nat → Int32) (first lady : Int32) (last n0 : Int) : Prop := ∀ n rm hs : Nat, n0 ≤ (n : Int) → (rm : Int) < (w.2.2.1 96 0).toInt → hs < 2 → cgE w f first lady last n rm hs
def CK (w : XW) (f : Nat → Int32) (first lady : Int32) (last n k : Int) : Prop := CG w f first lady last (n + 1) ∧ ∀ rm hs : Nat, (rm : Int) < (w.2.2.1 96 0).toInt → hs < 2 → 2 * (rm : Int) + hs < k → cgE w f first lady last n.toNat rm hs
theorem cg_start {w : XW} {f : Nat → Int32} {first lady : Int32} {last n0 : Int} (h : n0 = last + 1) : CG w f first lady last n0 := fun n rm hs h1 _ _ g => by omega
theorem ck_start {w : XW} {f : Nat → Int32} {first lady : Int32} {last n k : Int} (h : CG w f first lady last (n + 1)) (hk : k = 0) : CK w f first lady last n k := ⟨h, fun rm hs _ _ g => by omega⟩
theorem cgE_up {w : XW} {f : Nat → Int32} {first lady : Int32} {last : Int} {n rm hs i : Nat} {x : Int32} (hN : (w.2.2.1 96 0).toInt ≤ 8) (h : cgE w f first lady last n rm hs) (hi : i < 16 * n ∨ (16 * n ≤ i ∧ i < 16 * n + 16 ∧ i ≠ 16 * n + 2 * rm + hs)) (hb : 2 * rm + hs < 16) : cgE w (upd f i x) first lady last n rm hs := by
  intro g1 g2
  rw [pk_un (by omega)] at g2
  obtain ⟨r, th, q1, q2, q3, q4, q5⟩ := h g1 g2
  exact ⟨r, th, q1, q2, q3, q4, by rw [pk_un (by omega)]; exact q5⟩
/-- one entry more -/
theorem ck_up {w : XW} {f : Nat → Int32} {first lady : Int32} {last n k k2 : Int} {rm hs i : Nat} {x : Int32} (hN : (w.2.2.1 96 0).toInt ≤ 8) (n0 : 0 ≤ n) (h : CK w f first lady last n k) (hk : k = 2 * (rm : Int) + hs) (hrm : (rm : Int) < (w.2.2.1 96 0).toInt) (hhs : hs < 2) (hi : i = 16 * n.toNat + 2 * rm + hs) (hk2 : k2 = k + 1)
    (hx : n < last → ¬ x.toInt = 0 → ∃ r th : Nat, (r : Int) < (w.2.2.1 96 0).toInt ∧ th ≤ 1 ∧ (th = 1 ↔ (hs = 1 ∨ TKs w first lady (rm : Int) n.toNat)) ∧ bsd w lady.toInt.toNat rm r ∧ ¬ (f (16 * (n.toNat + 1) + 2 * r + th)).toInt = 0) : CK w (upd f i x) first lady last n k2 := by
  refine ⟨fun m rm2 hs2 g1 g2 g3 => ?_, fun rm2 hs2 g1 g2 g3 => ?_⟩
  · exact cgE_up hN (h.1 m rm2 hs2 g1 g2 g3) (Or.inl (by omega)) (by omega)
  · by_cases e : rm2 = rm ∧ hs2 = hs
    · obtain ⟨rfl, rfl⟩ := e
      intro g4 g5
      rw [hi, pk_us] at g5
      have g6 : n < last := by clear hx h; omega
      obtain ⟨r, th, q1, q2, q3, q4, q5⟩ := hx g6 g5
      exact ⟨r, th, q1, q2, q3, q4, by rw [pk_un (by omega)]; exact q5⟩
    · exact cgE_up hN (h.2 rm2 hs2 g1 g2 (by omega)) (Or.inr ⟨by omega, by omega, by omega⟩) (by omega)
theorem ck_end {w : XW} {f : Nat → Int32} {first lady : Int32} {last n k m : Int} (h : CK w f first lady last n k) (n0 : 0 ≤ n) (hk : 2 * (w.2.2.1 96 0).toInt ≤ k) (hm : m + 1 = n) : CG w f first lady last (m + 1) := by
  intro p rm hs g1 g2 g3
  by_cases e : (p : Int) = n
  · have e2 : p = n.toNat := by omega
    rw [e2]
    exact h.2 rm hs g2 g3 (by omega)
  · exact h.1 p rm hs (by omega) g2 g3
theorem cg_cong {v w : XW} {f : Nat → Int32} {first lady : Int32} {last n0 : Int} (h95 : v.2.2.1 95 = w.2.2.1 95) (h96 : v.2.2.1 96 = w.2.2.1 96) (h102 : v.2.2.1 102 = w.2.2.1 102) (h103 : v.2.2.1 103 = w.2.2.1 103) (h106 : v.2.2.1 106 = w.2.2.1 106) (h : CG v f first lady last n0) : CG w f first lady last n0 := by
  intro n rm hs g1 g2 g3 g4 g5
  have g2' : (rm : Int) < (v.2.2.1 96 0).toInt := by rw [h96]; exact g2
  obtain ⟨r, th, q1, q2, q3, q4, q5⟩ := h n rm hs g1 g2' g3 g4 g5
  exact ⟨r, th, by rw [← h96]; exact q1, q2, by rw [q3, TKs_cong h95 h96 h103 h106], (bsd_cong h96 h102).mp q4, q5⟩
theorem nb_ne {x : Int32} (h : x = 0 ∨ x = 1) (g : ¬ (vp_nar .boolean x).toInt = 0) : x.toInt = 1 := by
  rcases h with rfl | rfl
  · exact absurd (by decide) g
  · decide
theorem cr_old {P : Nat → Prop} {a b : Int} (h : ∃ r : Nat, (r : Int) < a ∧ P r) (hab : a ≤ b) : ∃ r : Nat, (r : Int) < b ∧ P r := by
  obtain ⟨r, h1, h2⟩ := h
  exact ⟨r, by omega, h2⟩
theorem cr_fin {w : XW} {f : Nat → Int32} {first lady th rm hs : Int32} {a N : Int} {l n : Nat} (h : ∃ r : Nat, (r : Int) < a ∧ bsd w l rm.toInt.toNat r ∧ ¬ (f (16 * (n + 1) + 2 * r + th.toInt.toNat)).toInt = 0) (hth : th.toInt = 1 ↔ (hs.toInt = 1 ∨ TKs w first lady rm.toInt n)) (ha : a ≤ N) (t0 : 0 ≤ th.toInt) (t1 : th.toInt ≤ 1) (r0 : 0 ≤ rm.toInt) (s0 : 0 ≤ hs.toInt ∧ hs.toInt ≤ 1) : ∃ r th : Nat, (r : Int) < N ∧ th ≤ 1 ∧ (th = 1 ↔ (hs.toInt.toNat = 1 ∨ TKs w first lady (rm.toInt.toNat : Int) n)) ∧ bsd w l rm.toInt.toNat r ∧ ¬ (f (16 * (n + 1) + 2 * r + th)).toInt = 0 := by
  obtain ⟨r, h1, h2, h3⟩ := h
  refine ⟨r, th.toInt.toNat, by omega, by omega, ?_, h2, h3⟩
  have e : (rm.toInt.toNat : Int) = rm.toInt := by omega
  rw [e]
  have q1 : th.toInt.toNat = 1 ↔ th.toInt = 1 := by omega
  have q2 : hs.toInt.toNat = 1 ↔ hs.toInt = 1 := by omega
  rw [q1, q2]
  exact hth
theorem ck_upW {w v : XW} {first lady x i : Int32} {last n k k2 : Int} {rm hs : Nat} (hN : (w.2.2.1 96 0).toInt ≤ 8) (n0 : 0 ≤ n) (h : CK w (v.2.2.1 109) first lady last n k) (hk : k = 2 * (rm : Int) + hs) (hrm : (rm : Int) < (w.2.2.1 96 0).toInt) (hhs : hs < 2) (hi : i.toInt = 16 * n + 2 * (rm : Int) + hs) (hk2 : k2 = k + 1)
    (hx : n < last → ¬ x.toInt = 0 → ∃ r th : Nat, (r : Int) < (w.2.2.1 96 0).toInt ∧ th ≤ 1 ∧ (th = 1 ↔ (hs = 1 ∨ TKs w first lady (rm : Int) n.toNat)) ∧ bsd w lady.toInt.toNat rm r ∧ ¬ (v.2.2.1 109 (16 * (n.toNat + 1) + 2 * r + th)).toInt = 0) : CK w ((upI v 109 i.toNatClampNeg x).2.2.1 109) first lady last n k2 := by
  have e : i.toNatClampNeg = 16 * n.toNat + 2 * rm + hs := by
    have : i.toNatClampNeg = i.toInt.toNat := rfl
    omega
  rw [upI_eq]
  exact ck_up hN n0 h hk hrm hhs e hk2 hx
theorem cg_le {w : XW} {f : Nat → Int32} {first lady : Int32} {last n0 m : Int} (h : CG w f first lady last n0) (hm : n0 ≤ m) : CG w f first lady last m := fun n rm hs h1 h2 h3 => h n rm hs (by omega) h2 h3
/-- what a carried note depends on -/
def Frm (v u : XW) : Prop := v.2.2.1 95 = u.2.2.1 95 ∧ v.2.2.1 96 = u.2.2.1 96 ∧ v.2.2.1 102 = u.2.2.1 102 ∧ v.2.2.1 103 = u.2.2.1 103 ∧ v.2.2.1 106 = u.2.2.1 106
theorem frm_tr {a b c : XW} (h : Frm a b) (g : Frm b c) : Frm a c := ⟨h.1.trans g.1, h.2.1.trans g.2.1, h.2.2.1.trans g.2.2.1, h.2.2.2.1.trans g.2.2.2.1, h.2.2.2.2.trans g.2.2.2.2⟩
theorem frm_up {v u : XW} {k : Nat} {x : Int32} (h : Frm v u) : Frm (upI v 110 k x) u := ⟨(upI_ne (by decide)).trans h.1, (upI_ne (by decide)).trans h.2.1, (upI_ne (by decide)).trans h.2.2.1, (upI_ne (by decide)).trans h.2.2.2.1, (upI_ne (by decide)).trans h.2.2.2.2⟩
theorem frm_cg {v u : XW} {f : Nat → Int32} {first lady : Int32} {last n0 : Int} (h : Frm v u) (g : CG v f first lady last n0) : CG u f first lady last n0 := cg_cong h.1 h.2.1 h.2.2.1 h.2.2.2.1 h.2.2.2.2 g
theorem frm_0 {v u : XW} {k : Nat} (h : Frm v u) : (v.2.2.1 96 k).toInt = (u.2.2.1 96 k).toInt := by rw [h.2.1]
theorem frm_tk {v u : XW} {first lady : Int32} {rm : Int} {n : Nat} {P : Prop} (h : Frm v u) (g : P ↔ TKs v first lady rm n) : P ↔ TKs u first lady rm n := g.trans (TKs_cong h.1 h.2.1 h.2.2.2.1 h.2.2.2.2)
theorem frm_bs {v u : XW} {l a b : Nat} {P : Prop} (h : Frm v u) (g : P ↔ bsd v l a b) : P ↔ bsd u l a b := g.trans (bsd_cong h.2.1 h.2.2.1)
theorem ly_at {f : Nat → Int32} {i a b c : Int32} {n : Nat} (h : i.toInt = 16 * (n : Int) + 2 * b.toInt + c.toInt) (b0 : 0 ≤ b.toInt) (c0 : 0 ≤ c.toInt) (ha : a.toInt = (f i.toNatClampNeg).toInt) : a.toInt = (f (16 * n + 2 * b.toInt.toNat + c.toInt.toNat)).toInt := by
  have e : i.toNatClampNeg = 16 * n + 2 * b.toInt.toNat + c.toInt.toNat := by
    have : i.toNatClampNeg = i.toInt.toNat := rfl
    omega
  rw [ha, e]
theorem tw_eq {tw n : Nat} {u : XW} {first lady hs th rm : Int32} (h1 : tw ≤ 1) (h2 : tw = 1 ↔ (hs.toInt.toNat = 1 ∨ TKs u first lady (rm.toInt.toNat : Int) n)) (h3 : th.toInt = 1 ↔ (hs.toInt = 1 ∨ TKs u first lady rm.toInt n)) (r0 : 0 ≤ rm.toInt) (s0 : 0 ≤ hs.toInt ∧ hs.toInt ≤ 1) (t0 : 0 ≤ th.toInt) (t1 : th.toInt ≤ 1) : tw = th.toInt.toNat := by
  have e : (rm.toInt.toNat : Int) = rm.toInt := by omega
  rw [e] at h2
  have q2 : hs.toInt.toNat = 1 ↔ hs.toInt = 1 := by omega
  rw [q2] at h2
  have h4 := h2.trans h3.symm
  omega
section XJo
variable {p : Program} {l : Launch} {e : Env} {R : Room} {s : State} {m : MethodId} {args : Array Value} {below : List Frame} {meth : Method} {c : Code} {Q : State → Prop}
variable {D : va_G} {aC : Nat → ClassId} {b nL : Nat}
variable {pc pcJ : Nat} {L LJ : List (Option AV)} {S : List AV} {w : XW} {cs sl : Nat} {P : XW → Prop}
/-- where ways meet -/
theorem s_join (hk : ∀ v : XW, P v → Wv p l e R s m args below meth c Q D aC b nL pcJ LJ [] v cs sl) (k : (∀ v : XW, P v → Wv p l e R s m args below meth c Q D aC b nL pcJ LJ [] v cs sl) → Wv p l e R s m args below meth c Q D aC b nL pc L S w cs sl) : Wv p l e R s m args below meth c Q D aC b nL pc L S w cs sl := k hk
end XJo
/-- said, and out of sight -/
def Hid (P : Prop) : Prop := P
theorem Hid.out {P : Prop} (h : Hid P) : P := h
