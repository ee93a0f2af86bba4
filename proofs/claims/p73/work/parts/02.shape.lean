def xSl : List (Nat × Nat) := [(9, 15), (102, 1000), (0, 10), (8, 4), (100, 36), (8, 4), (100, 12), (8, 4), (100, 16), (8, 4), (100, 30), (8, 4), (100, 120), (0, 10), (8, 4), (100, 36), (8, 4), (100, 12), (8, 4), (100, 16), (8, 4), (100, 30), (8, 4), (100, 120), (6, 8), (104, 3), (103, 3), (0, 10), (8, 4), (100, 36), (8, 4), (100, 12), (8, 4), (100, 16), (8, 4), (100, 30), (8, 4), (100, 120), (0, 10), (8, 4), (100, 36), (8, 4), (100, 12), (8, 4), (100, 16), (8, 4), (100, 30), (8, 4), (100, 120), (0, 10), (8, 4), (100, 36), (8, 4), (100, 12), (8, 4), (100, 16), (8, 4), (100, 30), (8, 4), (100, 120), (105, 4), (7, 3), (101, 60), (7, 3), (101, 60), (7, 3), (101, 60), (7, 3), (101, 60), (2, 8), (100, 48), (100, 90), (100, 90), (100, 90), (100, 90), (2, 8), (100, 48), (100, 90), (100, 90), (100, 90), (100, 90), (5, 6), (100, 6), (100, 6), (100, 15), (1, 8), (100, 15), (100, 15), (100, 15), (3, 3), (100, 6), (4, 3), (101, 64), (101, 64), (100, 16), (10, 40), (100, 134), (100, 402), (103, 3), (102, 1000), (100, 5), (100, 134), (100, 640), (100, 90), (100, 8), (100, 6), (100, 15), (100, 6), (100, 6), (103, 256), (100, 15), (100, 36), (100, 4), (100, 4), (101, 240), (101, 60)]
def xS (c : Nat) : Nat × Nat := xSl.getD c (999, 0)
def xT (ci : Nat) : Nat → FieldType := match ci with
  | 0 => tyX0
  | 1 => tyX1
  | 2 => tyX2
  | 3 => tyX3
  | 4 => tyX4
  | 5 => tyX5
  | 6 => tyX6
  | 7 => tyX7
  | 8 => tyX8
  | 9 => tyX9
  | _ => tyX10
/-- a class of the worlds: its number, name, fields, how many; its fields' words are among the tables' -/
def CI (ci : Nat) (C : String) (T : u_T) (N : Nat) : Prop := vwCl[ci]? = some (C, T, N) ∧ ci < 100 ∧ (∀ w ∈ u_ws C T N, w ∈ lw_tbl ∧ goodWord w = true) ∧ (∀ k, k < N → parseFieldDescriptor (T k).2.2.1 = some (xT ci k)) ∧ (∀ a, a < N → ∀ b, b < N → a ≠ b → (T a).2.1 ≠ (T b).2.1)
theorem CI0 : CI 0 RX0 TX0 10 := ⟨rfl, by decide, by decide +kernel, tyX0_ok, nmX0⟩
theorem CI1 : CI 1 RX1 TX1 8 := ⟨rfl, by decide, by decide +kernel, tyX1_ok, nmX1⟩
theorem CI2 : CI 2 RX2 TX2 8 := ⟨rfl, by decide, by decide +kernel, tyX2_ok, nmX2⟩
theorem CI3 : CI 3 RX3 TX3 3 := ⟨rfl, by decide, by decide +kernel, tyX3_ok, nmX3⟩
theorem CI4 : CI 4 RX4 TX4 3 := ⟨rfl, by decide, by decide +kernel, tyX4_ok, nmX4⟩
theorem CI5 : CI 5 RX5 TX5 6 := ⟨rfl, by decide, by decide +kernel, tyX5_ok, nmX5⟩
theorem CI6 : CI 6 RX6 TX6 8 := ⟨rfl, by decide, by decide +kernel, tyX6_ok, nmX6⟩
theorem CI7 : CI 7 RX7 TX7 3 := ⟨rfl, by decide, by decide +kernel, tyX7_ok, nmX7⟩
theorem CI8 : CI 8 RX8 TX8 4 := ⟨rfl, by decide, by decide +kernel, tyX8_ok, nmX8⟩
theorem CI9 : CI 9 RX9 TX9 15 := ⟨rfl, by decide, by decide +kernel, tyX9_ok, nmX9⟩
theorem CI10 : CI 10 RX10 TX10 40 := ⟨rfl, by decide, by decide +kernel, tyX10_ok, nmX10⟩
