/-! NUMBERS: Java's ints and longs as Int -/
theorem jI_add (a b : Int) : jI a + jI b = jI (a + b) := (Int32.ofInt_add a b).symm
theorem jI_sub (a b : Int) : jI a - jI b = jI (a - b) := (Int32.ofInt_sub a b).symm
theorem jI_mul (a b : Int) : jI a * jI b = jI (a * b) := (Int32.ofInt_mul a b).symm
theorem jI_neg (a : Int) : -jI a = jI (-a) := (Int32.ofInt_neg a).symm
theorem jI_toInt {a : Int} (h : -2147483648 ≤ a ∧ a < 2147483648) : (jI a).toInt = a := by
  unfold jI
  rw [Int32.toInt_ofInt]
  have : Int32.size = 4294967296 := rfl
  exact Int.bmod_eq_of_le (by omega) (by omega)
theorem jI_eq {a b : Int} (ha : -2147483648 ≤ a ∧ a < 2147483648) (hb : -2147483648 ≤ b ∧ b < 2147483648) : (jI a = jI b) = (a = b) := by
  apply propext
  constructor
  · intro h
    have := congrArg Int32.toInt h
    rwa [jI_toInt ha, jI_toInt hb] at this
  · intro h; rw [h]
theorem jI_le {a b : Int} (ha : -2147483648 ≤ a ∧ a < 2147483648) (hb : -2147483648 ≤ b ∧ b < 2147483648) : (jI a ≤ jI b) = (a ≤ b) := by
  rw [Int32.le_iff_toInt_le, jI_toInt ha, jI_toInt hb]
theorem jI_lt {a b : Int} (ha : -2147483648 ≤ a ∧ a < 2147483648) (hb : -2147483648 ≤ b ∧ b < 2147483648) : (jI a < jI b) = (a < b) := by
  rw [Int32.lt_iff_toInt_lt, jI_toInt ha, jI_toInt hb]
theorem jI_zero : (0 : Int32) = jI 0 := rfl
theorem jI_one : (1 : Int32) = jI 1 := rfl
theorem jI_eq0 {a : Int} (ha : -2147483648 ≤ a ∧ a < 2147483648) : (jI a = 0) = (a = 0) := by rw [jI_zero]; exact jI_eq ha (by omega)
theorem jI_eq1 {a : Int} (ha : -2147483648 ≤ a ∧ a < 2147483648) : (jI a = 1) = (a = 1) := by rw [jI_one]; exact jI_eq ha (by omega)
theorem jI_lt0 {a : Int} (ha : -2147483648 ≤ a ∧ a < 2147483648) : (jI a < 0) = (a < 0) := by rw [jI_zero]; exact jI_lt ha (by omega)
theorem jI_0lt {a : Int} (ha : -2147483648 ≤ a ∧ a < 2147483648) : (0 < jI a) = (0 < a) := by rw [jI_zero]; exact jI_lt (by omega) ha
theorem jI_le0 {a : Int} (ha : -2147483648 ≤ a ∧ a < 2147483648) : (jI a ≤ 0) = (a ≤ 0) := by rw [jI_zero]; exact jI_le ha (by omega)
theorem jI_0le {a : Int} (ha : -2147483648 ≤ a ∧ a < 2147483648) : (0 ≤ jI a) = (0 ≤ a) := by rw [jI_zero]; exact jI_le (by omega) ha
theorem jI_clamp {a : Int} (ha : -2147483648 ≤ a ∧ a < 2147483648) : (jI a).toNatClampNeg = a.toNat := by
  unfold Int32.toNatClampNeg
  rw [jI_toInt ha]
theorem jI_inB {a : Int} {n : Nat} (ha : -2147483648 ≤ a ∧ a < 2147483648) : (vp_inB (jI a) n = true) = (0 ≤ a ∧ a < n) := by
  apply propext
  simp only [vp_inB, Bool.and_eq_true, Bool.not_eq_true', decide_eq_false_iff_not, decide_eq_true_eq, jI_lt0 ha, jI_clamp ha]
  omega
theorem jI_inBT {a : Int} {n : Nat} (ha : -2147483648 ≤ a ∧ a < 2147483648) (h : 0 ≤ a ∧ a < n) : (vp_inB (jI a) n = true) = True := by
  rw [jI_inB ha]; simp [h]
theorem jI_all (x : Int32) : x = jI x.toInt := (Int32.ofInt_toInt x).symm
theorem jI_rng (x : Int32) : -2147483648 ≤ x.toInt ∧ x.toInt < 2147483648 := ⟨Int32.le_toInt x, Int32.toInt_lt x⟩
theorem jI_nat (n : Nat) : Int32.ofNat n = jI n := by
  unfold jI
  rw [Int32.ofInt_eq_ofNat]
theorem jL_add (a b : Int) : jL a + jL b = jL (a + b) := (Int64.ofInt_add a b).symm
theorem jL_sub (a b : Int) : jL a - jL b = jL (a - b) := (Int64.ofInt_sub a b).symm
theorem jL_mul (a b : Int) : jL a * jL b = jL (a * b) := (Int64.ofInt_mul a b).symm
theorem jL_toInt {a : Int} (h : -9223372036854775808 ≤ a ∧ a < 9223372036854775808) : (jL a).toInt = a := by
  unfold jL
  rw [Int64.toInt_ofInt]
  have : Int64.size = 18446744073709551616 := rfl
  exact Int.bmod_eq_of_le (by omega) (by omega)
theorem jL_eq {a b : Int} (ha : -9223372036854775808 ≤ a ∧ a < 9223372036854775808) (hb : -9223372036854775808 ≤ b ∧ b < 9223372036854775808) : (jL a = jL b) = (a = b) := by
  apply propext
  constructor
  · intro h
    have := congrArg Int64.toInt h
    rwa [jL_toInt ha, jL_toInt hb] at this
  · intro h; rw [h]
theorem jL_le {a b : Int} (ha : -9223372036854775808 ≤ a ∧ a < 9223372036854775808) (hb : -9223372036854775808 ≤ b ∧ b < 9223372036854775808) : (jL a ≤ jL b) = (a ≤ b) := by
  rw [Int64.le_iff_toInt_le, jL_toInt ha, jL_toInt hb]
theorem jL_lt {a b : Int} (ha : -9223372036854775808 ≤ a ∧ a < 9223372036854775808) (hb : -9223372036854775808 ≤ b ∧ b < 9223372036854775808) : (jL a < jL b) = (a < b) := by
  rw [Int64.lt_iff_toInt_lt, jL_toInt ha, jL_toInt hb]
theorem jL_nat (n : Nat) : Int64.ofNat n = jL n := by
  unfold jL
  rw [Int64.ofInt_eq_ofNat]
theorem jL_m1 : Int64.ofNat 18446744073709551615 = jL (-1) := by decide +kernel
theorem jI_toL {a : Int} (ha : -2147483648 ≤ a ∧ a < 2147483648) : (jI a).toInt64 = jL a := by
  apply Int64.toInt_inj.mp
  rw [Int32.toInt_toInt64, jI_toInt ha, jL_toInt (by omega)]
theorem jL_toI {a : Int} : (jL a).toInt32 = jI a := by
  unfold jL jI
  rw [Int64.toInt32_ofInt]
theorem jL_all (x : Int64) : x = jL x.toInt := (Int64.ofInt_toInt x).symm
theorem lc_lt {a b : Int} (ha : -9223372036854775808 ≤ a ∧ a < 9223372036854775808) (hb : -9223372036854775808 ≤ b ∧ b < 9223372036854775808) : (lg_cmp (jL a) (jL b) < 0) = (a < b) := by
  apply propext
  unfold lg_cmp
  simp only [gt_iff_lt, jL_lt hb ha, jL_eq ha hb]
  by_cases h1 : b < a
  · rw [if_pos h1]; constructor
    · intro h; exact absurd h (by decide)
    · intro h; omega
  · rw [if_neg h1]
    by_cases h2 : a = b
    · rw [if_pos h2]; constructor
      · intro h; exact absurd h (by decide)
      · intro h; omega
    · rw [if_neg h2]; constructor
      · intro _; omega
      · intro _; decide
theorem lc_gt {a b : Int} (ha : -9223372036854775808 ≤ a ∧ a < 9223372036854775808) (hb : -9223372036854775808 ≤ b ∧ b < 9223372036854775808) : (0 < lg_cmp (jL a) (jL b)) = (b < a) := by
  apply propext
  unfold lg_cmp
  simp only [gt_iff_lt, jL_lt hb ha, jL_eq ha hb]
  by_cases h1 : b < a
  · rw [if_pos h1]; constructor
    · intro _; exact h1
    · intro _; decide
  · rw [if_neg h1]
    by_cases h2 : a = b
    · rw [if_pos h2]; constructor
      · intro h; exact absurd h (by decide)
      · intro h; omega
    · rw [if_neg h2]; constructor
      · intro h; exact absurd h (by decide)
      · intro h; omega
/-- what may be stored into, and what stays on the stack -/
theorem ok_0 {a : Value} {l : List Value} : am_ok (a :: l) 0 = true := by simp [am_ok]
theorem ok_1I {x : Int32} {b : Value} {l : List Value} : am_ok (.int x :: b :: l) 1 = true := by simp [am_ok, Value.category]
theorem ok_1R {x : Nat} {b : Value} {l : List Value} : am_ok (.ref x :: b :: l) 1 = true := by simp [am_ok, Value.category]
theorem ok_1N {b : Value} {l : List Value} : am_ok (.null :: b :: l) 1 = true := by simp [am_ok, Value.category]
theorem ok_s {a b : Value} {l : List Value} {k : Nat} : am_ok (a :: b :: l) (k + 2) = am_ok (b :: l) (k + 1) := by simp [am_ok]
theorem cat_le (v : Value) : v.category ≤ 2 := by cases v <;> simp [Value.category]
theorem rc8_0 : rc8 [] = True := by simp [rc8]
theorem rc8_1 {a : Value} : rc8 [a] = True := by
  have := cat_le a
  simp only [rc8, List.map_cons, List.map_nil, List.sum_cons, List.sum_nil, eq_iff_iff, iff_true]; omega
theorem rc8_2 {a b : Value} : rc8 [a, b] = True := by
  have := cat_le a; have := cat_le b
  simp only [rc8, List.map_cons, List.map_nil, List.sum_cons, List.sum_nil, eq_iff_iff, iff_true]; omega
theorem rc8_3 {a b c : Value} : rc8 [a, b, c] = True := by
  have := cat_le a; have := cat_le b; have := cat_le c
  simp only [rc8, List.map_cons, List.map_nil, List.sum_cons, List.sum_nil, eq_iff_iff, iff_true]; omega
theorem rc8_4 {a b c d : Value} : rc8 [a, b, c, d] = True := by
  have := cat_le a; have := cat_le b; have := cat_le c; have := cat_le d
  simp only [rc8, List.map_cons, List.map_nil, List.sum_cons, List.sum_nil, eq_iff_iff, iff_true]; omega
def am_ck (c : am_E) (ci : Nat) : Bool := match c with
  | .inr (x, _) => x == ci
  | _ => false
