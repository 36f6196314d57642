/-! WHOLE NUMBERS FOR THE MACHINE'S INTS: zi x is the int of the whole number x; the rows of the kit, said of whole numbers -/
def zi (x : Int) : Int32 := Int32.ofInt x
def zl (x : Int) : Int64 := Int64.ofInt x
theorem zi_mk (x : Int32) : x = zi x.toInt := (Int32.ofInt_toInt x).symm
theorem zi_ex (x : Int32) : ∃ a : Int, x = zi a ∧ -2147483648 ≤ a ∧ a ≤ 2147483647 := by
  have h1 := x.le_toInt
  have h2 := x.toInt_lt
  have e1 : (-2 ^ 31 : Int) = -2147483648 := by decide
  have e2 : (2 ^ 31 : Int) = 2147483648 := by decide
  exact ⟨x.toInt, zi_mk x, by omega, by omega⟩
/-- in the range of an int -/
abbrev zI (x : Int) : Prop := -2147483648 ≤ x ∧ x ≤ 2147483647
abbrev zL (x : Int) : Prop := -9223372036854775808 ≤ x ∧ x ≤ 9223372036854775807
theorem zi_v {x : Int} (h : zI x) : (zi x).toInt = x := by
  have e1 : (-2 ^ 31 : Int) = -2147483648 := by decide
  have e2 : (2 ^ 31 : Int) = 2147483648 := by decide
  obtain ⟨h1, h2⟩ := h
  exact Int32.toInt_ofInt_of_le (by omega) (by omega)
theorem zl_v {x : Int} (h : zL x) : (zl x).toInt = x := by
  have e1 : (-2 ^ 63 : Int) = -9223372036854775808 := by decide
  have e2 : (2 ^ 63 : Int) = 9223372036854775808 := by decide
  obtain ⟨h1, h2⟩ := h
  exact Int64.toInt_ofInt_of_le (by omega) (by omega)
theorem zi_lt {a b : Int} (ha : zI a) (hb : zI b) : zi a < zi b ↔ a < b := by rw [Int32.lt_iff_toInt_lt, zi_v ha, zi_v hb]
theorem zi_le {a b : Int} (ha : zI a) (hb : zI b) : zi a ≤ zi b ↔ a ≤ b := by rw [Int32.le_iff_toInt_le, zi_v ha, zi_v hb]
theorem zi_eq {a b : Int} (ha : zI a) (hb : zI b) : zi a = zi b ↔ a = b := by rw [← Int32.toInt_inj, zi_v ha, zi_v hb]
theorem zl_lt {a b : Int} (ha : zL a) (hb : zL b) : zl a < zl b ↔ a < b := by rw [Int64.lt_iff_toInt_lt, zl_v ha, zl_v hb]
theorem zl_le {a b : Int} (ha : zL a) (hb : zL b) : zl a ≤ zl b ↔ a ≤ b := by rw [Int64.le_iff_toInt_le, zl_v ha, zl_v hb]
theorem zl_eq {a b : Int} (ha : zL a) (hb : zL b) : zl a = zl b ↔ a = b := by rw [← Int64.toInt_inj, zl_v ha, zl_v hb]
theorem zi_add (a b : Int) : zi (a + b) = zi a + zi b := Int32.ofInt_add a b
theorem zi_sub (a b : Int) : zi (a - b) = zi a - zi b := Int32.ofInt_sub a b
theorem zi_mul (a b : Int) : zi (a * b) = zi a * zi b := Int32.ofInt_mul a b
theorem zi_neg (a : Int) : zi (-a) = -zi a := Int32.ofInt_neg a
theorem zl_add (a b : Int) : zl (a + b) = zl a + zl b := Int64.ofInt_add a b
theorem zl_sub (a b : Int) : zl (a - b) = zl a - zl b := Int64.ofInt_sub a b
theorem zl_mul (a b : Int) : zl (a * b) = zl a * zl b := Int64.ofInt_mul a b
theorem zi_div {a b : Int} (h0 : 0 ≤ a) (ha : zI a) (hb : zI b) : zi a / zi b = zi (a / b) := by
  rw [← Int.tdiv_eq_ediv_of_nonneg h0]
  exact (Int32.ofInt_tdiv (show (-2147483648 : Int) ≤ a from ha.1) (show a ≤ (2147483647 : Int) from ha.2) (show (-2147483648 : Int) ≤ b from hb.1) (show b ≤ (2147483647 : Int) from hb.2)).symm
theorem zl_div {a b : Int} (h0 : 0 ≤ a) (ha : zL a) (hb : zL b) : zl a / zl b = zl (a / b) := by
  rw [← Int.tdiv_eq_ediv_of_nonneg h0]
  exact (Int64.ofInt_tdiv (show (-9223372036854775808 : Int) ≤ a from ha.1) (show a ≤ (9223372036854775807 : Int) from ha.2) (show (-9223372036854775808 : Int) ≤ b from hb.1) (show b ≤ (9223372036854775807 : Int) from hb.2)).symm
theorem zi_rem {a b : Int} (h0 : 0 ≤ a) (ha : zI a) (hb : zI b) : zi a - zi a / zi b * zi b = zi (a % b) := by
  rw [zi_div h0 ha hb, ← zi_mul, ← zi_sub, Int.emod_def, Int.mul_comm]
theorem zl_rem {a b : Int} (h0 : 0 ≤ a) (ha : zL a) (hb : zL b) : zl a - zl a / zl b * zl b = zl (a % b) := by
  rw [zl_div h0 ha hb, ← zl_mul, ← zl_sub, Int.emod_def, Int.mul_comm]
theorem zi_i2l {a : Int} (h : zI a) : (zi a).toInt64 = zl a := Int32.toInt64_ofInt (show (-2147483648 : Int) ≤ a from h.1) (show a ≤ (2147483647 : Int) from h.2)
theorem zl_l2i (a : Int) : (zl a).toInt32 = zi a := Int64.toInt32_ofInt
theorem zi_ne0 {b : Int} (hb : zI b) (h : b ≠ 0) : ¬ zi b = 0 := fun q => h ((zi_eq hb ⟨by decide, by decide⟩).mp q)
theorem zl_ne0 {b : Int} (hb : zL b) (h : b ≠ 0) : ¬ zl b = 0 := fun q => h ((zl_eq hb ⟨by decide, by decide⟩).mp q)
theorem zi_nat (n : Nat) : zi (n : Int) = Int32.ofNat n := Int32.ofInt_eq_ofNat
theorem zi_clamp {a : Int} (h0 : 0 ≤ a) (h : zI a) : (zi a).toNatClampNeg = a.toNat := by
  show (zi a).toInt.toNat = _
  rw [zi_v h]
theorem zi_in {a : Int} {n : Nat} (h0 : 0 ≤ a) (h1 : a < n) (h : zI a) : vp_in (zi a) n := by
  intro q
  rcases q with q | q
  · have := (zi_lt h (b := 0) ⟨by decide, by decide⟩).mp q
    omega
  · rw [zi_clamp h0 h] at q
    omega
theorem zi_min {a b : Int} (ha : zI a) (hb : zI b) : (if zi b < zi a then zi b else zi a) = zi (min a b) := by
  by_cases h : b < a
  · rw [if_pos ((zi_lt hb ha).mpr h)]
    exact congrArg zi (by omega)
  · rw [if_neg fun q => h ((zi_lt hb ha).mp q)]
    exact congrArg zi (by omega)
theorem zi_max {a b : Int} (ha : zI a) (hb : zI b) : (if zi a < zi b then zi b else zi a) = zi (max a b) := by
  by_cases h : a < b
  · rw [if_pos ((zi_lt ha hb).mpr h)]
    exact congrArg zi (by omega)
  · rw [if_neg fun q => h ((zi_lt ha hb).mp q)]
    exact congrArg zi (by omega)
theorem zi_abs {a : Int} (ha : zI a) : (if 0 ≤ zi a then zi a else 0 - zi a) = zi (if 0 ≤ a then a else 0 - a) := by
  have h0 : zI 0 := ⟨by decide, by decide⟩
  by_cases h : 0 ≤ a
  · rw [if_pos h]
    exact if_pos ((zi_le h0 ha).mpr h)
  · rw [if_neg h, zi_sub]
    exact if_neg fun q => h ((zi_le h0 ha).mp q)
theorem zi_nb {a : Int} (h : a = 0 ∨ a = 1) : narrow .boolean (.int (zi a)) = .int (zi a) := by
  rcases h with rfl | rfl
  · rfl
  · rfl
theorem zi_lk {x a o d : Int} {r : List (Int × Int)} (h : ¬ x = a) : Op.lookupswitch.offset ((a, o) :: r) d x = Op.lookupswitch.offset r d x := by
  rw [Op.lookupswitch.offset_cons, if_neg]
  intro q
  exact h q.symm
theorem zi_lk1 {x a o d : Int} {r : List (Int × Int)} (h : x = a) : Op.lookupswitch.offset ((a, o) :: r) d x = o := by
  rw [Op.lookupswitch.offset_cons, if_pos h.symm]
