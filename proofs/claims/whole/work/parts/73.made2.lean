/-! MADE: Gosper's step in Java -/
theorem xor2 {i a b c e : Nat} (hb : b < 2 ^ i) (he : e < 2 ^ i) : (2 ^ i * a + b) ^^^ (2 ^ i * c + e) = 2 ^ i * (a ^^^ c) + (b ^^^ e) := by
  apply Nat.eq_of_testBit_eq
  intro j
  rw [Nat.testBit_xor, Nat.testBit_two_pow_mul_add a hb, Nat.testBit_two_pow_mul_add c he, Nat.testBit_two_pow_mul_add _ (Nat.xor_lt_two_pow hb he)]
  split <;> rw [Nat.testBit_xor]
theorem ones_x : ∀ m, m < 22 → 2 ^ m ^^^ (2 ^ m - 1) = 2 ^ (m + 1) - 1 := by decide +kernel
theorem ones_q : ∀ m, m < 22 → 1 ≤ m → (2 ^ (m + 1) - 1) / 4 = 2 ^ (m - 1) - 1 := by decide +kernel
theorem low_and {l k : Nat} (h : 2 ^ (l + 1) * k + 2 ^ l < 2 ^ 31) : (2 ^ (l + 1) * k + 2 ^ l) &&& (2 ^ 32 - (2 ^ (l + 1) * k + 2 ^ l)) = 2 ^ l := by
  have p : 1 ≤ 2 ^ l := Nat.one_le_two_pow
  have q : 2 ^ (l + 1) = 2 ^ l * 2 := Nat.pow_succ _ _
  apply Nat.eq_of_testBit_eq
  intro i
  have e1 : 2 ^ 32 - (2 ^ (l + 1) * k + 2 ^ l) = 2 ^ 32 - ((2 ^ (l + 1) * k + (2 ^ l - 1)) + 1) := by omega
  rw [Nat.testBit_and, e1, Nat.testBit_two_pow_sub_succ (by omega), Nat.testBit_two_pow_mul_add k (show 2 ^ l < 2 ^ (l + 1) by omega), Nat.testBit_two_pow_mul_add k (show 2 ^ l - 1 < 2 ^ (l + 1) by omega), Nat.testBit_two_pow, Nat.testBit_two_pow_sub_one]
  by_cases g : i < l + 1
  · rw [if_pos g, if_pos g]
    by_cases g2 : l = i
    · have : i < 32 := by
        by_cases c : i < 32
        · exact c
        · exfalso
          have h3 : 2 ^ 32 ≤ 2 ^ l := Nat.pow_le_pow_right (by omega) (by omega)
          have h4 : 2 ^ l ≤ 2 ^ (l + 1) * k + 2 ^ l := Nat.le_add_left _ _
          omega
      simp [g2, this]
    · simp [g2]
  · rw [if_neg g, if_neg g]
    have g2 : ¬ l = i := by omega
    cases k.testBit (i - (l + 1)) <;> simp [g2]
theorem jI_m32 (z : Int) : jI z = jI (z + 4294967296) := by
  unfold jI
  rw [Int32.ofInt_add]
  have : Int32.ofInt 4294967296 = 0 := by decide
  rw [this, Int32.add_zero]
theorem gos_low {H l m : Nat} (hm : 1 ≤ m) (hx : 2 ^ (l + m + 1) * H + 2 ^ l * (2 ^ m - 1) < 2 ^ 20) : jI ((2 ^ (l + m + 1) * H + 2 ^ l * (2 ^ m - 1) : Nat) : Int) &&& jI (-((2 ^ (l + m + 1) * H + 2 ^ l * (2 ^ m - 1) : Nat) : Int)) = jI ((2 ^ l : Nat) : Int) := by
  obtain ⟨k, hk⟩ : ∃ k, 2 ^ (l + m + 1) * H + 2 ^ l * (2 ^ m - 1) = 2 ^ (l + 1) * k + 2 ^ l := by
    refine ⟨2 ^ m * H + (2 ^ (m - 1) - 1), ?_⟩
    have p : 1 ≤ 2 ^ (m - 1) := Nat.one_le_two_pow
    have e1 : 2 ^ m = 2 * 2 ^ (m - 1) := by rw [show m = (m - 1) + 1 by omega, Nat.pow_succ, Nat.add_sub_cancel, Nat.mul_comm]
    have e2 : 2 ^ (l + m + 1) * H = 2 ^ (l + 1) * (2 ^ m * H) := by rw [show l + m + 1 = (l + 1) + m by omega, Nat.pow_add, Nat.mul_assoc]
    have e3 : 2 ^ l * (2 ^ m - 1) = 2 ^ (l + 1) * (2 ^ (m - 1) - 1) + 2 ^ l := by
      rw [Nat.pow_succ, Nat.mul_assoc, show 2 * (2 ^ (m - 1) - 1) = 2 ^ m - 2 by omega, Nat.mul_sub, Nat.mul_sub, Nat.mul_one]
      have : 2 ^ l * 2 ≤ 2 ^ l * 2 ^ m := Nat.mul_le_mul_left _ (by omega)
      omega
    rw [e2, e3, Nat.mul_add]
    omega
  rw [hk] at hx ⊢
  have c32 : (2 : Nat) ^ 32 = 4294967296 := by decide
  have c31 : (2 : Nat) ^ 31 = 2147483648 := by decide
  have c20 : (2 : Nat) ^ 20 = 1048576 := by decide
  have la := low_and (l := l) (k := k) (by omega)
  rw [jI_m32 (-((2 ^ (l + 1) * k + 2 ^ l : Nat) : Int)), show -((2 ^ (l + 1) * k + 2 ^ l : Nat) : Int) + 4294967296 = ((2 ^ 32 - (2 ^ (l + 1) * k + 2 ^ l) : Nat) : Int) by omega]
  rw [jI_and (by omega) (by omega), iand_N, la]
theorem gos_val {H l m : Nat} (hl : l + m ≤ 20) (hm : 1 ≤ m) : ((2 ^ (l + m + 1) * H + 2 ^ l * (2 ^ m - 1) + 2 ^ l) ^^^ (2 ^ (l + m + 1) * H + 2 ^ l * (2 ^ m - 1))) / 4 / 2 ^ l ||| (2 ^ (l + m + 1) * H + 2 ^ l * (2 ^ m - 1) + 2 ^ l) = 2 ^ (l + m + 1) * H + (2 ^ (l + m) + (2 ^ (m - 1) - 1)) := by
  have p : 1 ≤ 2 ^ m := Nat.one_le_two_pow
  have p2 : 1 ≤ 2 ^ (m - 1) := Nat.one_le_two_pow
  have p3 : 1 ≤ 2 ^ l := Nat.one_le_two_pow
  have q : 2 ^ (m - 1) ≤ 2 ^ (l + m) := Nat.pow_le_pow_right (by omega) (by omega)
  have r : 2 ^ (l + m + 1) = 2 ^ (l + m) * 2 := Nat.pow_succ _ _
  have s : 2 ^ l * (2 ^ m - 1) + 2 ^ l = 2 ^ (l + m) := by
    rw [Nat.pow_add, Nat.mul_sub, Nat.mul_one]
    have : 2 ^ l ≤ 2 ^ l * 2 ^ m := Nat.le_mul_of_pos_right _ (by omega)
    omega
  have up : 2 ^ (l + m + 1) * H + 2 ^ l * (2 ^ m - 1) + 2 ^ l = 2 ^ (l + m + 1) * H + 2 ^ (l + m) := by omega
  have x1 : (2 ^ (l + m + 1) * H + 2 ^ (l + m)) ^^^ (2 ^ (l + m + 1) * H + 2 ^ l * (2 ^ m - 1)) = 2 ^ l * (2 ^ (m + 1) - 1) := by
    rw [xor2 (by omega) (by omega), Nat.xor_self, Nat.mul_zero, Nat.zero_add]
    have := xor2 (i := l) (a := 2 ^ m) (b := 0) (c := 2 ^ m - 1) (e := 0) (by omega) (by omega)
    rw [Nat.add_zero, Nat.add_zero, Nat.xor_self, Nat.add_zero, ← Nat.pow_add, ones_x m (by omega)] at this
    exact this
  have d1 : 2 ^ l * (2 ^ (m + 1) - 1) / 4 / 2 ^ l = 2 ^ (m - 1) - 1 := by
    rw [Nat.div_div_eq_div_mul, Nat.mul_comm 4, ← Nat.div_div_eq_div_mul, Nat.mul_div_cancel_left _ (by omega), ones_q m (by omega) hm]
  rw [up, x1, d1, Nat.or_comm]
  have e : 2 ^ (l + m + 1) * H + 2 ^ (l + m) = 2 ^ (l + m) * (2 * H + 1) := by
    rw [r, Nat.mul_assoc, Nat.mul_add, Nat.mul_one]
  rw [e, ← Nat.two_pow_add_eq_or_of_lt (by omega), ← e]
  omega
/-- the next set with as many sayings -/
theorem gos {x : Nat} (h0 : 0 < x) (hx : x < 2 ^ 20) : ∃ l nx : Nat, l < 20 ∧ 2 ^ l ≤ x ∧ jI (x : Int) &&& jI (-(x : Int)) = jI ((2 ^ l : Nat) : Int) ∧ ((x + 2 ^ l) ^^^ x) / 4 / 2 ^ l ||| (x + 2 ^ l) = nx ∧ (x + 2 ^ l) ^^^ x < 2 ^ 22 ∧ x < nx ∧ nx < 2 ^ 22 ∧ pcF 24 nx = pcF 24 x ∧ ∀ y, x < y → y < nx → ¬ pcF 24 y = pcF 24 x := by
  obtain ⟨H, l, m, hl, hm, e⟩ := run_of 20 x h0 hx
  have p : 1 ≤ 2 ^ (m - 1) := Nat.one_le_two_pow
  have p3 : 1 ≤ 2 ^ l := Nat.one_le_two_pow
  have q : 2 ^ (m - 1) ≤ 2 ^ (l + m) := Nat.pow_le_pow_right (by omega) (by omega)
  have q2 : 2 ^ (l + m) ≤ 2 ^ 20 := Nat.pow_le_pow_right (by omega) (by omega)
  have c20 : (2 : Nat) ^ 20 = 1048576 := by decide
  have c21 : (2 : Nat) ^ 21 = 2097152 := by decide
  have c22 : (2 : Nat) ^ 22 = 4194304 := by decide
  have s : 2 ^ l * (2 ^ m - 1) + 2 ^ l = 2 ^ (l + m) := by
    rw [Nat.pow_add, Nat.mul_sub, Nat.mul_one]
    have : 2 ^ l ≤ 2 ^ l * 2 ^ m := Nat.le_mul_of_pos_right _ (Nat.two_pow_pos m)
    omega
  have lx : 2 ^ l ≤ x := by
    have : 2 ^ l * 1 ≤ 2 ^ l * (2 ^ m - 1) := Nat.mul_le_mul_left _ (by
      have : 2 ^ 1 ≤ 2 ^ m := Nat.pow_le_pow_right (by omega) hm
      omega)
    omega
  have hx' := hx
  rw [e] at hx'
  refine ⟨l, 2 ^ (l + m + 1) * H + (2 ^ (l + m) + (2 ^ (m - 1) - 1)), by omega, lx, ?_, ?_, ?_, ?_, by omega, ?_, ?_⟩
  · rw [e]; exact gos_low hm hx'
  · rw [e]; exact gos_val hl hm
  · exact Nat.xor_lt_two_pow (by omega) (by omega)
  · omega
  · rw [gos_nx hl hm, e, gos_pc hl hm]
  · intro y h1 h2
    rw [e] at h1 ⊢
    rw [gos_pc hl hm]
    exact gos_mid hl hm h1 h2
/-- bits counted two ways -/
theorem pcF_cnt : ∀ (n k x i : Nat), n ≤ k → x < 2 ^ n → (pcF k x : Int) = cntS (fun s => x.testBit (s - i)) i n
  | 0, k, x, i, h, hx => by
    rw [Nat.pow_zero] at hx
    rw [show x = 0 by omega, pcF_0, cntS]
    rfl
  | n + 1, 0, x, i, h, hx => by omega
  | n + 1, k + 1, x, i, h, hx => by
    rw [Nat.pow_succ] at hx
    rw [pcF, cntS, Nat.sub_self, Nat.testBit_zero]
    have ih := pcF_cnt n k (x / 2) (i + 1) (by omega) (by omega)
    rw [cntS_ext (q := fun s => (x / 2).testBit (s - (i + 1))) n (i + 1) (fun j h1 h2 => by rw [show j - i = (j - (i + 1)) + 1 by omega, Nat.testBit_succ])]
    rw [← ih]
    have := Nat.mod_two_eq_zero_or_one x
    rcases this with g | g <;> simp [g]
theorem pc_24 {n x : Nat} (hn : n ≤ 24) (hx : x < 2 ^ n) : (pcF 24 x : Int) = pcV n x := by
  rw [pcF_cnt n 24 x 0 hn hx]
  rfl
