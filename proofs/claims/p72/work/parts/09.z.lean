section XZ
variable {p : Program} {l : Launch} {e : Env} {R : Room} {s : State} {m : MethodId} {args : Array Value} {below : List Frame} {meth : Method} {c : Code} {Q : State → Prop}
variable {D : va_G} {aC : Nat → ClassId} {b nL : Nat} {cc : ByteArray} {own : String} {ret : Option FieldType}
variable {pc : Nat} {L : List (Option AV)} {S : List AV} {w : XW} {cs sl : Nat}
theorem z32 (x : Int32) : -2147483648 ≤ x.toInt ∧ x.toInt ≤ 2147483647 := by
  have h1 := Int32.le_toInt x
  have h2 := Int32.toInt_lt x
  omega
theorem z64 (x : Int64) : -9223372036854775808 ≤ x.toInt ∧ x.toInt ≤ 9223372036854775807 := by
  have h1 := Int64.le_toInt x
  have h2 := Int64.toInt_lt x
  omega
theorem z_add32 {x y : Int32} (h1 : -2147483648 ≤ x.toInt + y.toInt) (h2 : x.toInt + y.toInt ≤ 2147483647) : (x + y).toInt = x.toInt + y.toInt := by
  rw [Int32.toInt_add]; rw [Int.bmod_def]; split <;> omega
theorem z_sub32 {x y : Int32} (h1 : -2147483648 ≤ x.toInt - y.toInt) (h2 : x.toInt - y.toInt ≤ 2147483647) : (x - y).toInt = x.toInt - y.toInt := by
  rw [Int32.toInt_sub]; rw [Int.bmod_def]; split <;> omega
theorem z_mul32 {x y : Int32} (h1 : -2147483648 ≤ x.toInt * y.toInt) (h2 : x.toInt * y.toInt ≤ 2147483647) : (x * y).toInt = x.toInt * y.toInt := by
  rw [Int32.toInt_mul]; generalize x.toInt * y.toInt = t at h1 h2 ⊢; rw [Int.bmod_def]; split <;> omega
theorem z_add64 {x y : Int64} (h1 : -9223372036854775808 ≤ x.toInt + y.toInt) (h2 : x.toInt + y.toInt ≤ 9223372036854775807) : (x + y).toInt = x.toInt + y.toInt := by
  rw [Int64.toInt_add]; rw [Int.bmod_def]; split <;> omega
theorem z_mul64 {x y : Int64} (h1 : -9223372036854775808 ≤ x.toInt * y.toInt) (h2 : x.toInt * y.toInt ≤ 9223372036854775807) : (x * y).toInt = x.toInt * y.toInt := by
  rw [Int64.toInt_mul]; generalize x.toInt * y.toInt = t at h1 h2 ⊢; rw [Int.bmod_def]; split <;> omega
theorem z_div32 {x y : Int32} (h1 : 0 ≤ x.toInt) (h2 : 0 < y.toInt) : (x / y).toInt = x.toInt / y.toInt := by
  rw [Int32.toInt_div, Int.tdiv_eq_ediv_of_nonneg h1]
  have h3 := (z32 x).2
  have h4 : x.toInt / y.toInt ≤ x.toInt := Int.ediv_le_self _ h1
  have h5 : 0 ≤ x.toInt / y.toInt := Int.ediv_nonneg h1 (by omega)
  generalize x.toInt / y.toInt = t at h4 h5 ⊢
  rw [Int.bmod_def]; split <;> omega
theorem z_rem32 {x y : Int32} (h1 : 0 ≤ x.toInt) (h2 : 0 < y.toInt) : (x - x / y * y).toInt = x.toInt % y.toInt := by
  have h3 := (z32 x).2
  have h4 : x.toInt / y.toInt ≤ x.toInt := Int.ediv_le_self _ h1
  have h5 : 0 ≤ x.toInt / y.toInt := Int.ediv_nonneg h1 (by omega)
  have h6 : x.toInt / y.toInt * y.toInt ≤ x.toInt := Int.ediv_mul_le _ (by omega)
  have h7 : 0 ≤ x.toInt / y.toInt * y.toInt := Int.mul_nonneg h5 (by omega)
  have h8 : (x / y * y).toInt = x.toInt / y.toInt * y.toInt := by
    have := z_mul32 (x := x / y) (y := y) (by rw [z_div32 h1 h2]; omega) (by rw [z_div32 h1 h2]; omega)
    rw [this, z_div32 h1 h2]
  rw [z_sub32 (by rw [h8]; omega) (by rw [h8]; omega), h8]
  have := Int.emod_add_mul_ediv x.toInt y.toInt
  have hm : y.toInt * (x.toInt / y.toInt) = x.toInt / y.toInt * y.toInt := Int.mul_comm _ _
  omega
/-- any number in place of the top; with what is known of it -/
theorem z_any {x : Int32} (kk : ∀ z : Int32, Wv p l e R s m args below meth c Q D aC b nL pc L (AI z :: S) w cs sl) : Wv p l e R s m args below meth c Q D aC b nL pc L (AI x :: S) w cs sl := kk x
theorem z_anyL {x : Int64} (kk : ∀ z : Int64, Wv p l e R s m args below meth c Q D aC b nL pc L (AL z :: S) w cs sl) : Wv p l e R s m args below meth c Q D aC b nL pc L (AL x :: S) w cs sl := kk x
theorem z_nm {P : Int32 → Prop} {x : Int32} (hP : P x) (kk : ∀ z : Int32, P z → Wv p l e R s m args below meth c Q D aC b nL pc L (AI z :: S) w cs sl) : Wv p l e R s m args below meth c Q D aC b nL pc L (AI x :: S) w cs sl := kk x hP
theorem z_nmL {P : Int64 → Prop} {x : Int64} (hP : P x) (kk : ∀ z : Int64, P z → Wv p l e R s m args below meth c Q D aC b nL pc L (AL z :: S) w cs sl) : Wv p l e R s m args below meth c Q D aC b nL pc L (AL x :: S) w cs sl := kk x hP
theorem z_iadd {x y : Int32} {u v : Int} (E : EE p s m meth c D aC b nL cc own ret) (d : decode cc pc = .ok (.iadd, 1)) (hx : x.toInt = u) (hy : y.toInt = v) (h1 : -2147483648 ≤ u + v) (h2 : u + v ≤ 2147483647) (kk : ∀ z : Int32, z.toInt = u + v → Wv p l e R s m args below meth c Q D aC b nL (pc + 1) L (AI z :: S) w cs sl) : Wv p l e R s m args below meth c Q D aC b nL pc L (AI y :: AI x :: S) w cs sl := by
  subst hx; subst hy
  exact s_iadd E d (kk _ (z_add32 h1 h2))
theorem z_isub {x y : Int32} {u v : Int} (E : EE p s m meth c D aC b nL cc own ret) (d : decode cc pc = .ok (.isub, 1)) (hx : x.toInt = u) (hy : y.toInt = v) (h1 : -2147483648 ≤ u - v) (h2 : u - v ≤ 2147483647) (kk : ∀ z : Int32, z.toInt = u - v → Wv p l e R s m args below meth c Q D aC b nL (pc + 1) L (AI z :: S) w cs sl) : Wv p l e R s m args below meth c Q D aC b nL pc L (AI y :: AI x :: S) w cs sl := by
  subst hx; subst hy
  exact s_isub E d (kk _ (z_sub32 h1 h2))
theorem z_imul {x y : Int32} {u v : Int} (E : EE p s m meth c D aC b nL cc own ret) (d : decode cc pc = .ok (.imul, 1)) (hx : x.toInt = u) (hy : y.toInt = v) (h1 : -2147483648 ≤ u * v) (h2 : u * v ≤ 2147483647) (kk : ∀ z : Int32, z.toInt = u * v → Wv p l e R s m args below meth c Q D aC b nL (pc + 1) L (AI z :: S) w cs sl) : Wv p l e R s m args below meth c Q D aC b nL pc L (AI y :: AI x :: S) w cs sl := by
  subst hx; subst hy
  exact s_imul E d (kk _ (z_mul32 h1 h2))
theorem z_ladd {x y : Int64} {u v : Int} (E : EE p s m meth c D aC b nL cc own ret) (d : decode cc pc = .ok (.ladd, 1)) (hx : x.toInt = u) (hy : y.toInt = v) (h1 : -9223372036854775808 ≤ u + v) (h2 : u + v ≤ 9223372036854775807) (kk : ∀ z : Int64, z.toInt = u + v → Wv p l e R s m args below meth c Q D aC b nL (pc + 1) L (AL z :: S) w cs sl) : Wv p l e R s m args below meth c Q D aC b nL pc L (AL y :: AL x :: S) w cs sl := by
  subst hx; subst hy
  exact s_ladd E d (kk _ (z_add64 h1 h2))
theorem z_lmul {x y : Int64} {u v : Int} (E : EE p s m meth c D aC b nL cc own ret) (d : decode cc pc = .ok (.lmul, 1)) (hx : x.toInt = u) (hy : y.toInt = v) (h1 : -9223372036854775808 ≤ u * v) (h2 : u * v ≤ 9223372036854775807) (kk : ∀ z : Int64, z.toInt = u * v → Wv p l e R s m args below meth c Q D aC b nL (pc + 1) L (AL z :: S) w cs sl) : Wv p l e R s m args below meth c Q D aC b nL pc L (AL y :: AL x :: S) w cs sl := by
  subst hx; subst hy
  exact s_lmul E d (kk _ (z_mul64 h1 h2))
theorem z_idiv {x y : Int32} {u v : Int} (E : EE p s m meth c D aC b nL cc own ret) (d : decode cc pc = .ok (.idiv, 1)) (hx : x.toInt = u) (hy : y.toInt = v) (h1 : 0 ≤ u) (h2 : 0 < v) (kk : ∀ z : Int32, z.toInt = u / v → Wv p l e R s m args below meth c Q D aC b nL (pc + 1) L (AI z :: S) w cs sl) : Wv p l e R s m args below meth c Q D aC b nL pc L (AI y :: AI x :: S) w cs sl := by
  subst hx; subst hy
  exact s_idiv E d (fun h => by rw [h] at h2; simp at h2) (kk _ (z_div32 h1 h2))
theorem z_irem {x y : Int32} {u v : Int} (E : EE p s m meth c D aC b nL cc own ret) (d : decode cc pc = .ok (.irem, 1)) (hx : x.toInt = u) (hy : y.toInt = v) (h1 : 0 ≤ u) (h2 : 0 < v) (kk : ∀ z : Int32, z.toInt = u % v → Wv p l e R s m args below meth c Q D aC b nL (pc + 1) L (AI z :: S) w cs sl) : Wv p l e R s m args below meth c Q D aC b nL pc L (AI y :: AI x :: S) w cs sl := by
  subst hx; subst hy
  exact s_irem E d (fun h => by rw [h] at h2; simp at h2) (kk _ (z_rem32 h1 h2))
theorem z_iinc {i : Nat} {n : Int} {x : Int32} {u : Int} {L2 : Int32 → List (Option AV)} (E : EE p s m meth c D aC b nL cc own ret) (d : decode cc pc = .ok (.iinc i n, 3)) (hx : L[i]? = some (some (AI x))) (hu : x.toInt = u) (hn : i < nL) (hl : ∀ z, st1 L i (AI z) = L2 z) (h0 : (Int32.ofInt n).toInt = n) (h1 : -2147483648 ≤ u + n) (h2 : u + n ≤ 2147483647) (kk : ∀ z : Int32, z.toInt = u + n → Wv p l e R s m args below meth c Q D aC b nL (pc + 3) (L2 z) S w cs sl) : Wv p l e R s m args below meth c Q D aC b nL pc L S w cs sl := by
  subst hu
  exact s_iinc E d hx rfl hn (hl _) (kk _ (by rw [z_add32 (by rw [h0]; exact h1) (by rw [h0]; exact h2), h0]))
theorem z_i2l {x : Int32} {u : Int} (E : EE p s m meth c D aC b nL cc own ret) (d : decode cc pc = .ok (.i2l, 1)) (hx : x.toInt = u) (kk : ∀ z : Int64, z.toInt = u → Wv p l e R s m args below meth c Q D aC b nL (pc + 1) L (AL z :: S) w cs sl) : Wv p l e R s m args below meth c Q D aC b nL pc L (AI x :: S) w cs sl := by
  subst hx
  exact s_i2l E d (kk _ (Int32.toInt_toInt64 x))
theorem z_l2i {x : Int64} {u : Int} (E : EE p s m meth c D aC b nL cc own ret) (d : decode cc pc = .ok (.l2i, 1)) (hx : x.toInt = u) (h1 : -2147483648 ≤ u) (h2 : u ≤ 2147483647) (kk : ∀ z : Int32, z.toInt = u → Wv p l e R s m args below meth c Q D aC b nL (pc + 1) L (AI z :: S) w cs sl) : Wv p l e R s m args below meth c Q D aC b nL pc L (AL x :: S) w cs sl := by
  subst hx
  refine s_l2i E d (kk _ ?_)
  rw [Int64.toInt_toInt32]; rw [Int.bmod_def]; split <;> omega
theorem z_if_eq {x : Int32} {u : Int} {off : Int} {tgt : Nat} (E : EE p s m meth c D aC b nL cc own ret) (d : decode cc pc = .ok (.ifCond .eq off, 3)) (ht : (pc : Int) + off = (tgt : Int)) (hx : x.toInt = u) (kt : u = 0 → Wv p l e R s m args below meth c Q D aC b nL tgt L S w cs sl) (kf : ¬ u = 0 → Wv p l e R s m args below meth c Q D aC b nL (pc + 3) L S w cs sl) : Wv p l e R s m args below meth c Q D aC b nL pc L (AI x :: S) w cs sl := by
  subst hx
  exact s_if_eq E d ht (fun h => kt (by rw [h]; rfl)) (fun h => kf (fun g => h (Int32.toInt_inj.mp (g.trans (by decide)))))
theorem z_icmp_eq {x y : Int32} {u v : Int} {off : Int} {tgt : Nat} (E : EE p s m meth c D aC b nL cc own ret) (d : decode cc pc = .ok (.if_icmp .eq off, 3)) (ht : (pc : Int) + off = (tgt : Int)) (hx : x.toInt = u) (hy : y.toInt = v) (kt : u = v → Wv p l e R s m args below meth c Q D aC b nL tgt L S w cs sl) (kf : ¬ u = v → Wv p l e R s m args below meth c Q D aC b nL (pc + 3) L S w cs sl) : Wv p l e R s m args below meth c Q D aC b nL pc L (AI y :: AI x :: S) w cs sl := by
  subst hx; subst hy
  exact s_icmp_eq E d ht (fun h => kt (by rw [h])) (fun h => kf (fun g => h (Int32.toInt_inj.mp g)))
theorem z_if_ne {x : Int32} {u : Int} {off : Int} {tgt : Nat} (E : EE p s m meth c D aC b nL cc own ret) (d : decode cc pc = .ok (.ifCond .ne off, 3)) (ht : (pc : Int) + off = (tgt : Int)) (hx : x.toInt = u) (kt : ¬ u = 0 → Wv p l e R s m args below meth c Q D aC b nL tgt L S w cs sl) (kf : u = 0 → Wv p l e R s m args below meth c Q D aC b nL (pc + 3) L S w cs sl) : Wv p l e R s m args below meth c Q D aC b nL pc L (AI x :: S) w cs sl := by
  subst hx
  exact s_if_ne E d ht (fun h => kt (fun g => h (Int32.toInt_inj.mp (g.trans (by decide))))) (fun h => kf (by rw [h]; rfl))
theorem z_icmp_ne {x y : Int32} {u v : Int} {off : Int} {tgt : Nat} (E : EE p s m meth c D aC b nL cc own ret) (d : decode cc pc = .ok (.if_icmp .ne off, 3)) (ht : (pc : Int) + off = (tgt : Int)) (hx : x.toInt = u) (hy : y.toInt = v) (kt : ¬ u = v → Wv p l e R s m args below meth c Q D aC b nL tgt L S w cs sl) (kf : u = v → Wv p l e R s m args below meth c Q D aC b nL (pc + 3) L S w cs sl) : Wv p l e R s m args below meth c Q D aC b nL pc L (AI y :: AI x :: S) w cs sl := by
  subst hx; subst hy
  exact s_icmp_ne E d ht (fun h => kt (fun g => h (Int32.toInt_inj.mp g))) (fun h => kf (by rw [h]))
theorem z_if_lt {x : Int32} {u : Int} {off : Int} {tgt : Nat} (E : EE p s m meth c D aC b nL cc own ret) (d : decode cc pc = .ok (.ifCond .lt off, 3)) (ht : (pc : Int) + off = (tgt : Int)) (hx : x.toInt = u) (kt : u < 0 → Wv p l e R s m args below meth c Q D aC b nL tgt L S w cs sl) (kf : ¬ u < 0 → Wv p l e R s m args below meth c Q D aC b nL (pc + 3) L S w cs sl) : Wv p l e R s m args below meth c Q D aC b nL pc L (AI x :: S) w cs sl := by
  subst hx
  exact s_if_lt E d ht (fun h => kt (by have g := Int32.lt_iff_toInt_lt.mp h; rw [(show (0 : Int32).toInt = 0 by decide)] at g; exact g)) (fun h => kf (fun g => h (Int32.lt_iff_toInt_lt.mpr (by rw [(show (0 : Int32).toInt = 0 by decide)]; exact g))))
theorem z_icmp_lt {x y : Int32} {u v : Int} {off : Int} {tgt : Nat} (E : EE p s m meth c D aC b nL cc own ret) (d : decode cc pc = .ok (.if_icmp .lt off, 3)) (ht : (pc : Int) + off = (tgt : Int)) (hx : x.toInt = u) (hy : y.toInt = v) (kt : u < v → Wv p l e R s m args below meth c Q D aC b nL tgt L S w cs sl) (kf : ¬ u < v → Wv p l e R s m args below meth c Q D aC b nL (pc + 3) L S w cs sl) : Wv p l e R s m args below meth c Q D aC b nL pc L (AI y :: AI x :: S) w cs sl := by
  subst hx; subst hy
  exact s_icmp_lt E d ht (fun h => kt (Int32.lt_iff_toInt_lt.mp h)) (fun h => kf (fun g => h (Int32.lt_iff_toInt_lt.mpr g)))
theorem z_if_ge {x : Int32} {u : Int} {off : Int} {tgt : Nat} (E : EE p s m meth c D aC b nL cc own ret) (d : decode cc pc = .ok (.ifCond .ge off, 3)) (ht : (pc : Int) + off = (tgt : Int)) (hx : x.toInt = u) (kt : 0 ≤ u → Wv p l e R s m args below meth c Q D aC b nL tgt L S w cs sl) (kf : ¬ 0 ≤ u → Wv p l e R s m args below meth c Q D aC b nL (pc + 3) L S w cs sl) : Wv p l e R s m args below meth c Q D aC b nL pc L (AI x :: S) w cs sl := by
  subst hx
  exact s_if_ge E d ht (fun h => kt (by have g := Int32.le_iff_toInt_le.mp h; rw [(show (0 : Int32).toInt = 0 by decide)] at g; exact g)) (fun h => kf (fun g => h (Int32.le_iff_toInt_le.mpr (by rw [(show (0 : Int32).toInt = 0 by decide)]; exact g))))
theorem z_icmp_ge {x y : Int32} {u v : Int} {off : Int} {tgt : Nat} (E : EE p s m meth c D aC b nL cc own ret) (d : decode cc pc = .ok (.if_icmp .ge off, 3)) (ht : (pc : Int) + off = (tgt : Int)) (hx : x.toInt = u) (hy : y.toInt = v) (kt : v ≤ u → Wv p l e R s m args below meth c Q D aC b nL tgt L S w cs sl) (kf : ¬ v ≤ u → Wv p l e R s m args below meth c Q D aC b nL (pc + 3) L S w cs sl) : Wv p l e R s m args below meth c Q D aC b nL pc L (AI y :: AI x :: S) w cs sl := by
  subst hx; subst hy
  exact s_icmp_ge E d ht (fun h => kt (Int32.le_iff_toInt_le.mp h)) (fun h => kf (fun g => h (Int32.le_iff_toInt_le.mpr g)))
theorem z_if_gt {x : Int32} {u : Int} {off : Int} {tgt : Nat} (E : EE p s m meth c D aC b nL cc own ret) (d : decode cc pc = .ok (.ifCond .gt off, 3)) (ht : (pc : Int) + off = (tgt : Int)) (hx : x.toInt = u) (kt : 0 < u → Wv p l e R s m args below meth c Q D aC b nL tgt L S w cs sl) (kf : ¬ 0 < u → Wv p l e R s m args below meth c Q D aC b nL (pc + 3) L S w cs sl) : Wv p l e R s m args below meth c Q D aC b nL pc L (AI x :: S) w cs sl := by
  subst hx
  exact s_if_gt E d ht (fun h => kt (by have g := Int32.lt_iff_toInt_lt.mp h; rw [(show (0 : Int32).toInt = 0 by decide)] at g; exact g)) (fun h => kf (fun g => h (Int32.lt_iff_toInt_lt.mpr (by rw [(show (0 : Int32).toInt = 0 by decide)]; exact g))))
theorem z_icmp_gt {x y : Int32} {u v : Int} {off : Int} {tgt : Nat} (E : EE p s m meth c D aC b nL cc own ret) (d : decode cc pc = .ok (.if_icmp .gt off, 3)) (ht : (pc : Int) + off = (tgt : Int)) (hx : x.toInt = u) (hy : y.toInt = v) (kt : v < u → Wv p l e R s m args below meth c Q D aC b nL tgt L S w cs sl) (kf : ¬ v < u → Wv p l e R s m args below meth c Q D aC b nL (pc + 3) L S w cs sl) : Wv p l e R s m args below meth c Q D aC b nL pc L (AI y :: AI x :: S) w cs sl := by
  subst hx; subst hy
  exact s_icmp_gt E d ht (fun h => kt (Int32.lt_iff_toInt_lt.mp h)) (fun h => kf (fun g => h (Int32.lt_iff_toInt_lt.mpr g)))
theorem z_if_le {x : Int32} {u : Int} {off : Int} {tgt : Nat} (E : EE p s m meth c D aC b nL cc own ret) (d : decode cc pc = .ok (.ifCond .le off, 3)) (ht : (pc : Int) + off = (tgt : Int)) (hx : x.toInt = u) (kt : u ≤ 0 → Wv p l e R s m args below meth c Q D aC b nL tgt L S w cs sl) (kf : ¬ u ≤ 0 → Wv p l e R s m args below meth c Q D aC b nL (pc + 3) L S w cs sl) : Wv p l e R s m args below meth c Q D aC b nL pc L (AI x :: S) w cs sl := by
  subst hx
  exact s_if_le E d ht (fun h => kt (by have g := Int32.le_iff_toInt_le.mp h; rw [(show (0 : Int32).toInt = 0 by decide)] at g; exact g)) (fun h => kf (fun g => h (Int32.le_iff_toInt_le.mpr (by rw [(show (0 : Int32).toInt = 0 by decide)]; exact g))))
theorem z_icmp_le {x y : Int32} {u v : Int} {off : Int} {tgt : Nat} (E : EE p s m meth c D aC b nL cc own ret) (d : decode cc pc = .ok (.if_icmp .le off, 3)) (ht : (pc : Int) + off = (tgt : Int)) (hx : x.toInt = u) (hy : y.toInt = v) (kt : u ≤ v → Wv p l e R s m args below meth c Q D aC b nL tgt L S w cs sl) (kf : ¬ u ≤ v → Wv p l e R s m args below meth c Q D aC b nL (pc + 3) L S w cs sl) : Wv p l e R s m args below meth c Q D aC b nL pc L (AI y :: AI x :: S) w cs sl := by
  subst hx; subst hy
  exact s_icmp_le E d ht (fun h => kt (Int32.le_iff_toInt_le.mp h)) (fun h => kf (fun g => h (Int32.le_iff_toInt_le.mpr g)))
/-- lcmp, then a branch: by the values -/
theorem z_lcmp {x y : Int64} {u v : Int} (E : EE p s m meth c D aC b nL cc own ret) (d : decode cc pc = .ok (.lcmp, 1)) (hx : x.toInt = u) (hy : y.toInt = v) (kk : ∀ z : Int32, (z.toInt < 0 ↔ u < v) ∧ (0 < z.toInt ↔ v < u) ∧ (z.toInt = 0 ↔ u = v) → Wv p l e R s m args below meth c Q D aC b nL (pc + 1) L (AI z :: S) w cs sl) : Wv p l e R s m args below meth c Q D aC b nL pc L (AL y :: AL x :: S) w cs sl := by
  subst hx; subst hy
  refine s_lcmp E d (kk _ ?_)
  have h0 : (0 : Int32).toInt = 0 := by decide
  have a1 := lg_cmp_lt x y
  have a2 := lg_cmp_gt x y
  have a3 := lg_cmp_eq x y
  rw [Int32.lt_iff_toInt_lt, Int64.lt_iff_toInt_lt, h0] at a1 a2
  rw [← Int32.toInt_inj, ← Int64.toInt_inj, h0] at a3
  exact ⟨a1, a2, a3⟩
theorem z_mask {x k : Int32} {v : Int} (E : EE p s m meth c D aC b nL cc own ret) (d : decode cc pc = .ok (.iand, 1)) (hk : k.toInt = v) (h0 : 0 ≤ v) (kk : ∀ z : Int32, 0 ≤ z.toInt ∧ z.toInt ≤ v → Wv p l e R s m args below meth c Q D aC b nL (pc + 1) L (AI z :: S) w cs sl) : Wv p l e R s m args below meth c Q D aC b nL pc L (AI k :: AI x :: S) w cs sl := by
  subst hk
  refine s_iand E d (kk _ ?_)
  have hk2 := (z32 k).2
  have e1 : k.toInt = (k.toBitVec.toNat : Int) := by
    have := BitVec.toInt_eq_toNat_cond k.toBitVec
    have g : k.toBitVec.toInt = k.toInt := rfl
    rw [g] at this
    rw [this] at h0 ⊢
    split at h0 <;> split <;> omega
  have e2 : (x &&& k).toBitVec.toNat ≤ k.toBitVec.toNat := by
    show (x.toBitVec &&& k.toBitVec).toNat ≤ _
    rw [BitVec.toNat_and]
    exact Nat.and_le_right
  have e3 : (x &&& k).toInt = ((x &&& k).toBitVec.toNat : Int) := by
    have := BitVec.toInt_eq_toNat_cond (x &&& k).toBitVec
    have g : (x &&& k).toBitVec.toInt = (x &&& k).toInt := rfl
    rw [g] at this
    rw [this]
    split <;> omega
  omega
/-- a loop: by a measure -/
theorem z_loop {St : Type} {Pi : St → XW → Prop} {Lf : St → List (Option AV)} (mu : St → XW → Nat) (st : St) (h0 : Pi st w) (step : ∀ (st : St) (v : XW), Pi st v → (∀ (st2 : St) (v2 : XW), Pi st2 v2 → mu st2 v2 < mu st v → Wv p l e R s m args below meth c Q D aC b nL pc (Lf st2) S v2 cs sl) → Wv p l e R s m args below meth c Q D aC b nL pc (Lf st) S v cs sl) : Wv p l e R s m args below meth c Q D aC b nL pc (Lf st) S w cs sl := by
  have go : ∀ (n : Nat) (st : St) (v : XW), mu st v < n → Pi st v → Wv p l e R s m args below meth c Q D aC b nL pc (Lf st) S v cs sl := by
    intro n
    induction n with
    | zero => intro st v h _; exact absurd h (Nat.not_lt_zero _)
    | succ n ih => intro st v h hp; exact step st v hp (fun st2 v2 h2 h3 => ih st2 v2 (by omega) h2)
  exact go (mu st w + 1) st w (Nat.lt_succ_self _) h0
theorem z_iincW {i : Nat} {n : Int} {x : Int32} {L2 : Int32 → List (Option AV)} (E : EE p s m meth c D aC b nL cc own ret) (d : decode cc pc = .ok (.iinc i n, 3)) (hx : L[i]? = some (some (AI x))) (hn : i < nL) (hl : ∀ z, st1 L i (AI z) = L2 z) (kk : ∀ z : Int32, Wv p l e R s m args below meth c Q D aC b nL (pc + 3) (L2 z) S w cs sl) : Wv p l e R s m args below meth c Q D aC b nL pc L S w cs sl := s_iinc E d hx rfl hn (hl _) (kk _)
theorem z_shl1 (n : Nat) {y : Int32} {u B : Int} (E : EE p s m meth c D aC b nL cc own ret) (d : decode cc pc = .ok (.ishl, 1)) (hy : y.toInt = u) (h1 : 0 ≤ u) (h2 : u ≤ (n : Int)) (hn : n ≤ 15) (hB : ((2 ^ n : Nat) : Int) = B) (kk : ∀ z : Int32, 1 ≤ z.toInt ∧ z.toInt ≤ B → Wv p l e R s m args below meth c Q D aC b nL (pc + 1) L (AI z :: S) w cs sl) : Wv p l e R s m args below meth c Q D aC b nL pc L (AI y :: AI 1 :: S) w cs sl := by
  subst hy; subst hB
  refine s_ishl E d (kk _ ?_)
  have e : y = nI y.toInt.toNat := Int32.toInt_inj.mp (by rw [nI_toInt (by omega)]; omega)
  have hj : y.toInt.toNat ≤ n := by omega
  rw [e]
  generalize y.toInt.toNat = j at hj
  have hp : 2 ^ j ≤ 2 ^ n := Nat.pow_le_pow_right (by decide) hj
  have hv : ∀ j : Nat, j < 16 → ((1 : Int32) <<< (nI j &&& 31)).toInt = ((2 ^ j : Nat) : Int) := by decide +kernel
  have hj2 := hv j (by omega)
  have h0 : 1 ≤ 2 ^ j := Nat.one_le_two_pow
  rw [hj2]
  omega
theorem z_max {ix : Nat} {x y : Int32} {u v : Int} (E : EE p s m meth c D aC b nL cc own ret) (hw : Cond.methodLink own ix Lib.Math.max.name ∈ lw_tbl ∧ Cond.static Lib.Math.max.name ∈ lw_tbl ∧ Cond.initialized "java/lang/Math" ∈ lw_tbl ∧ Cond.code Lib.Math.max.name Lib.Math.max.code 2 (some .int) ∈ lw_tbl) (hfr : 1 ≤ R.frames) (hlo : ((S.map (cv b)).map fun v => v.category).sum + 13 ≤ R.locals) (hc : cs ≤ R.cells) (hs : sl ≤ R.slots) (d : decode cc pc = .ok (.invokestatic ix, 3)) (hx : x.toInt = u) (hy : y.toInt = v) (kk : ∀ z : Int32, (z.toInt = u ∨ z.toInt = v) ∧ u ≤ z.toInt ∧ v ≤ z.toInt → Wv p l e R s m args below meth c Q D aC b nL (pc + 3) L (AI z :: S) w cs sl) : Wv p l e R s m args below meth c Q D aC b nL pc L (AI y :: AI x :: S) w cs sl := by
  subst hx; subst hy
  refine s_max E hw hfr hlo hc hs d rfl (kk _ ?_)
  by_cases h : x < y
  · rw [if_pos h]; have := Int32.lt_iff_toInt_lt.mp h; omega
  · rw [if_neg h]; have : ¬ x.toInt < y.toInt := fun g => h (Int32.lt_iff_toInt_lt.mpr g); omega
theorem z_min {ix : Nat} {x y : Int32} {u v : Int} (E : EE p s m meth c D aC b nL cc own ret) (hw : Cond.methodLink own ix Lib.Math.min.name ∈ lw_tbl ∧ Cond.static Lib.Math.min.name ∈ lw_tbl ∧ Cond.initialized "java/lang/Math" ∈ lw_tbl ∧ Cond.code Lib.Math.min.name Lib.Math.min.code 2 (some .int) ∈ lw_tbl) (hfr : 1 ≤ R.frames) (hlo : ((S.map (cv b)).map fun v => v.category).sum + 13 ≤ R.locals) (hc : cs ≤ R.cells) (hs : sl ≤ R.slots) (d : decode cc pc = .ok (.invokestatic ix, 3)) (hx : x.toInt = u) (hy : y.toInt = v) (kk : ∀ z : Int32, (z.toInt = u ∨ z.toInt = v) ∧ z.toInt ≤ u ∧ z.toInt ≤ v → Wv p l e R s m args below meth c Q D aC b nL (pc + 3) L (AI z :: S) w cs sl) : Wv p l e R s m args below meth c Q D aC b nL pc L (AI y :: AI x :: S) w cs sl := by
  subst hx; subst hy
  refine s_min E hw hfr hlo hc hs d rfl (kk _ ?_)
  by_cases h : y < x
  · rw [if_pos h]; have := Int32.lt_iff_toInt_lt.mp h; omega
  · rw [if_neg h]; have : ¬ y.toInt < x.toInt := fun g => h (Int32.lt_iff_toInt_lt.mpr g); omega
theorem z_clamp {x : Int32} {u : Int} (hx : x.toInt = u) (h : 0 ≤ u) : (x.toNatClampNeg : Int) = u ∧ ¬ x < 0 := by
  subst hx
  refine ⟨Int.toNat_of_nonneg h, fun g => ?_⟩
  have a := Int32.lt_iff_toInt_lt.mp g
  rw [show (0 : Int32).toInt = 0 by decide] at a
  omega
theorem z_copy100 {src dst N1 N2 ix : Nat} {sp dp n : Int32} {u1 u2 u3 : Int} (E : EE p s m meth c D aC b nL cc own ret) (hl : Cond.methodLink own ix arraycopyName ∈ lw_tbl) (hna : Cond.native arraycopyName ∈ lw_tbl) (hst : Cond.static arraycopyName ∈ lw_tbl) (hini : Cond.initialized "java/lang/System" ∈ lw_tbl) (hs : xS src = (100, N1)) (hd : xS dst = (100, N2)) (hq1 : src < w.1) (hq2 : dst < w.1) (e1 : sp.toInt = u1) (e2 : dp.toInt = u2) (e3 : n.toInt = u3) (h1 : 0 ≤ u1) (h2 : 0 ≤ u2) (h3 : 0 ≤ u3) (h4 : u1 + u3 ≤ (N1 : Int)) (h5 : u2 + u3 ≤ (N2 : Int)) (hfr : 1 ≤ R.frames) (hlo : ((S.map (cv b)).map fun v => v.category).sum + (nativeFrameWords "java/lang/System" "arraycopy" 5 + 11) ≤ R.locals) (d : decode cc pc = .ok (.invokestatic ix, 3))
    (kk : Wv p l e R s m args below meth c Q D aC b nL (pc + 3) L S (stI w dst (va_cpy (w.2.2.1 src) (w.2.2.1 dst) sp.toNatClampNeg dp.toNatClampNeg n.toNatClampNeg)) cs sl) : Wv p l e R s m args below meth c Q D aC b nL pc L (AI n :: AI dp :: AR dst :: AI sp :: AR src :: S) w cs sl := by
  have a1 := z_clamp e1 h1
  have a2 := z_clamp e2 h2
  have a3 := z_clamp e3 h3
  exact s_copy100 E hl hna hst hini hs hd hq1 hq2 a1.2 a2.2 a3.2 (by omega) (by omega) hfr hlo d kk
theorem z_copy101 {src dst N1 N2 ix : Nat} {sp dp n : Int32} {u1 u2 u3 : Int} (E : EE p s m meth c D aC b nL cc own ret) (hl : Cond.methodLink own ix arraycopyName ∈ lw_tbl) (hna : Cond.native arraycopyName ∈ lw_tbl) (hst : Cond.static arraycopyName ∈ lw_tbl) (hini : Cond.initialized "java/lang/System" ∈ lw_tbl) (hs : xS src = (101, N1)) (hd : xS dst = (101, N2)) (hq1 : src < w.1) (hq2 : dst < w.1) (e1 : sp.toInt = u1) (e2 : dp.toInt = u2) (e3 : n.toInt = u3) (h1 : 0 ≤ u1) (h2 : 0 ≤ u2) (h3 : 0 ≤ u3) (h4 : u1 + u3 ≤ (N1 : Int)) (h5 : u2 + u3 ≤ (N2 : Int)) (hfr : 1 ≤ R.frames) (hlo : ((S.map (cv b)).map fun v => v.category).sum + (nativeFrameWords "java/lang/System" "arraycopy" 5 + 11) ≤ R.locals) (d : decode cc pc = .ok (.invokestatic ix, 3))
    (kk : Wv p l e R s m args below meth c Q D aC b nL (pc + 3) L S (stL w dst (va_cpy (w.2.2.2 src) (w.2.2.2 dst) sp.toNatClampNeg dp.toNatClampNeg n.toNatClampNeg)) cs sl) : Wv p l e R s m args below meth c Q D aC b nL pc L (AI n :: AI dp :: AR dst :: AI sp :: AR src :: S) w cs sl := by
  have a1 := z_clamp e1 h1
  have a2 := z_clamp e2 h2
  have a3 := z_clamp e3 h3
  exact s_copy101 E hl hna hst hini hs hd hq1 hq2 a1.2 a2.2 a3.2 (by omega) (by omega) hfr hlo d kk
theorem z_switch {P : Prop} {x : Int32} {lo hi u : Int} (hx : x.toInt = u) (ko : (x.toInt < lo ∨ hi < x.toInt) → P) (ki : ∀ j : Nat, (j : Int) ≤ hi - lo → x.toInt = lo + (j : Int) → P) : P := by
  by_cases h : x.toInt < lo ∨ hi < x.toInt
  · exact ko h
  · exact ki (x.toInt - lo).toNat (by omega) (by omega)
theorem z_off {offs : Array Int} {t off : Int} {j : Nat} (h : t = (j : Int)) (h2 : offs[j]? = some off) : offs[t.toNat]? = some off := by rw [h]; exact h2
theorem z_cases3 {x : Int32} {u : Int} (hx : x.toInt = u) (h1 : 0 ≤ u) (h2 : u ≤ 2) : x = 0 ∨ x = 1 ∨ x = 2 := by
  have z0 : (0 : Int32).toInt = 0 := by decide
  have z1 : (1 : Int32).toInt = 1 := by decide
  have z2 : (2 : Int32).toInt = 2 := by decide
  simp only [← Int32.toInt_inj, z0, z1, z2]; omega
theorem z_cases4 {x : Int32} {u : Int} (hx : x.toInt = u) (h1 : 0 ≤ u) (h2 : u ≤ 3) : x = 0 ∨ x = 1 ∨ x = 2 ∨ x = 3 := by
  have z0 : (0 : Int32).toInt = 0 := by decide
  have z1 : (1 : Int32).toInt = 1 := by decide
  have z2 : (2 : Int32).toInt = 2 := by decide
  have z3 : (3 : Int32).toInt = 3 := by decide
  simp only [← Int32.toInt_inj, z0, z1, z2, z3]; omega
theorem z_in {x : Int32} {n : Nat} {u : Int} (hx : x.toInt = u) (h1 : 0 ≤ u) (h2 : u < (n : Int)) : vp_in x n := vp_in_iff.mpr ⟨by omega, by omega⟩
end XZ
