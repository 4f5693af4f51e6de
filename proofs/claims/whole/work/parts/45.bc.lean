/-! bitCount counts -/
theorem and2 {i a b c e : Nat} (hb : b < 2 ^ i) (he : e < 2 ^ i) : (2 ^ i * a + b) &&& (2 ^ i * c + e) = 2 ^ i * (a &&& c) + (b &&& e) := by
  apply Nat.eq_of_testBit_eq
  intro j
  rw [Nat.testBit_and, Nat.testBit_two_pow_mul_add a hb, Nat.testBit_two_pow_mul_add c he, Nat.testBit_two_pow_mul_add _ (Nat.and_lt_two_pow _ he)]
  split <;> rw [Nat.testBit_and]
theorem and3 {x2 x1 x0 m2 m1 m0 : Nat} (h0 : x0 < 256) (h1 : x1 < 256) (g0 : m0 < 256) (g1 : m1 < 256) : (65536 * x2 + 256 * x1 + x0) &&& (65536 * m2 + 256 * m1 + m0) = 65536 * (x2 &&& m2) + 256 * (x1 &&& m1) + (x0 &&& m0) := by
  have e1 := and2 (i := 8) (a := 256 * x2 + x1) (b := x0) (c := 256 * m2 + m1) (e := m0) h0 g0
  have e2 := and2 (i := 8) (a := x2) (b := x1) (c := m2) (e := m1) h1 g1
  have e3 : (256 * x2 + x1) &&& (256 * m2 + m1) = 256 * (x2 &&& m2) + (x1 &&& m1) := e2
  rw [e3] at e1
  rw [show 65536 * x2 + 256 * x1 + x0 = 2 ^ 8 * (256 * x2 + x1) + x0 by omega, show 65536 * m2 + 256 * m1 + m0 = 2 ^ 8 * (256 * m2 + m1) + m0 by omega, e1]
  omega
def bc1 (x : Nat) : Nat := x - (x / 2 &&& 85)
def bc2 (x : Nat) : Nat := (bc1 x &&& 51) + (bc1 x / 4 &&& 51)
def bc3 (x : Nat) : Nat := bc2 x % 16 + bc2 x / 16
theorem bc_d1 : ∀ x, x < 256 → ∀ c, c < 2 → ((x / 2 + 128 * c) &&& 85) = (x / 2 &&& 85) ∧ (x / 2 &&& 85) ≤ x ∧ (x / 2 &&& 21845) = (x / 2 &&& 85) := by decide +kernel
theorem bc_d2 : ∀ x, x < 256 → ∀ c, c < 4 → ((bc1 x / 4 + 64 * c) &&& 51) = (bc1 x / 4 &&& 51) ∧ (bc1 x &&& 13107) = (bc1 x &&& 51) ∧ (bc1 x / 4 &&& 13107) = (bc1 x / 4 &&& 51) ∧ bc2 x % 16 ≤ 4 ∧ bc2 x / 16 ≤ 4 ∧ bc1 x < 256 := by decide +kernel
theorem bc_d3 : ∀ x, x < 256 → (bc3 x : Int) = bsum x 0 8 := by decide +kernel
theorem and15 (x : Nat) : x &&& 15 = x % 16 := Nat.and_two_pow_sub_one_eq_mod x 4
theorem and63 (x : Nat) : x &&& 63 = x % 64 := Nat.and_two_pow_sub_one_eq_mod x 6
theorem bsum_app (z : Int) : ∀ (n m k : Nat), bsum z k (n + m) = bsum z k n + bsum z (k + n) m
  | 0, m, k => by rw [Nat.zero_add, bsum, Int.zero_add, Nat.add_zero]
  | n + 1, m, k => by
    rw [show n + 1 + m = (n + m) + 1 by omega, bsum, bsum, bsum_app z n m (k + 1), show k + 1 + n = k + (n + 1) by omega, Int.add_assoc]
theorem bsum_sh {z w : Int} : ∀ (n k j : Nat), (∀ i, i < n → ibit z (k + i) = ibit w (j + i)) → bsum z k n = bsum w j n
  | 0, k, j, h => rfl
  | n + 1, k, j, h => by
    rw [bsum, bsum, bsum_sh n (k + 1) (j + 1) (fun i hi => by rw [show k + 1 + i = k + (i + 1) by omega, show j + 1 + i = j + (i + 1) by omega]; exact h (i + 1) (by omega)), show ibit z k = ibit w j from h 0 (by omega)]
theorem ibit_by (x2 x1 x0 : Nat) (h0 : x0 < 256) (h1 : x1 < 256) (i : Nat) (hi : i < 8) : ibit ((65536 * x2 + 256 * x1 + x0 : Nat) : Int) i = ibit (x0 : Int) i ∧ ibit ((65536 * x2 + 256 * x1 + x0 : Nat) : Int) (8 + i) = ibit (x1 : Int) i ∧ ibit ((65536 * x2 + 256 * x1 + x0 : Nat) : Int) (16 + i) = ibit (x2 : Int) i := by
  have e1 : 65536 * x2 + 256 * x1 + x0 = 2 ^ 8 * (256 * x2 + x1) + x0 := by omega
  have e2 : 256 * x2 + x1 = 2 ^ 8 * x2 + x1 := rfl
  rw [ibit_tb, ibit_tb, ibit_tb, ibit_tb, ibit_tb, ibit_tb, e1, Nat.testBit_two_pow_mul_add _ h0, Nat.testBit_two_pow_mul_add _ h0, Nat.testBit_two_pow_mul_add _ h0, e2, Nat.testBit_two_pow_mul_add _ h1, Nat.testBit_two_pow_mul_add _ h1, Nat.testBit_two_pow_mul_add _ h1]
  rw [if_pos hi, if_neg (show ¬ 8 + i < 8 by omega), if_neg (show ¬ 16 + i < 8 by omega), if_pos (show 8 + i - 8 < 8 by omega), if_neg (show ¬ 16 + i - 8 < 8 by omega), show 8 + i - 8 = i by omega, show 16 + i - 8 - 8 = i by omega]
  exact ⟨rfl, rfl, rfl⟩
theorem iand_N (a b : Nat) : iand (a : Int) (b : Int) = ((a &&& b : Nat) : Int) := rfl
theorem bcI_eq {z : Int} (hz : 0 ≤ z ∧ z < 16777216) : bcI z = bsum z 0 24 := by
  obtain ⟨n, rfl⟩ := Int.eq_ofNat_of_zero_le hz.1
  obtain ⟨x2, x1, x0, h0, h1, h2, rfl⟩ : ∃ x2 x1 x0, x0 < 256 ∧ x1 < 256 ∧ x2 < 256 ∧ n = 65536 * x2 + 256 * x1 + x0 := ⟨n / 65536, n / 256 % 256, n % 256, by omega, by omega, by omega, by omega⟩
  have a0 := bc_d1 x0 h0 (x1 % 2) (by omega)
  have a1 := bc_d1 x1 h1 (x2 % 2) (by omega)
  have a2 := bc_d1 x2 h2 0 (by omega)
  have b0 := bc_d2 x0 h0 (bc1 x1 % 4) (by omega)
  have b1 := bc_d2 x1 h1 (bc1 x2 % 4) (by omega)
  have b2 := bc_d2 x2 h2 0 (by omega)
  have ea : ((65536 * x2 + 256 * x1 + x0 : Nat) : Int) - iand (((65536 * x2 + 256 * x1 + x0 : Nat) : Int) / 2) 1431655765 = ((65536 * bc1 x2 + 256 * bc1 x1 + bc1 x0 : Nat) : Int) := by
    have e1 : ((65536 * x2 + 256 * x1 + x0 : Nat) : Int) / 2 = ((65536 * (x2 / 2) + 256 * (x1 / 2 + 128 * (x2 % 2)) + (x0 / 2 + 128 * (x1 % 2)) : Nat) : Int) := by omega
    have e2 : (1431655765 : Int) = ((65536 * 21845 + 256 * 85 + 85 : Nat) : Int) := rfl
    rw [e1, e2, iand_N, and3 (by omega) (by omega) (by omega) (by omega), a0.1, a1.1, a2.2.2]
    unfold bc1
    omega
  have eb : iand ((65536 * bc1 x2 + 256 * bc1 x1 + bc1 x0 : Nat) : Int) 858993459 + iand (((65536 * bc1 x2 + 256 * bc1 x1 + bc1 x0 : Nat) : Int) / 4) 858993459 = ((65536 * bc2 x2 + 256 * bc2 x1 + bc2 x0 : Nat) : Int) := by
    have e1 : ((65536 * bc1 x2 + 256 * bc1 x1 + bc1 x0 : Nat) : Int) / 4 = ((65536 * (bc1 x2 / 4) + 256 * (bc1 x1 / 4 + 64 * (bc1 x2 % 4)) + (bc1 x0 / 4 + 64 * (bc1 x1 % 4)) : Nat) : Int) := by omega
    have e2 : (858993459 : Int) = ((65536 * 13107 + 256 * 51 + 51 : Nat) : Int) := rfl
    rw [e1, e2, iand_N, iand_N, and3 (by omega) (by omega) (by omega) (by omega), and3 (by omega) (by omega) (by omega) (by omega), b0.1, b1.1, b2.2.2.1, b2.2.1]
    unfold bc2
    omega
  have ec : iand (((65536 * bc2 x2 + 256 * bc2 x1 + bc2 x0 : Nat) : Int) + ((65536 * bc2 x2 + 256 * bc2 x1 + bc2 x0 : Nat) : Int) / 16) 252645135 = ((65536 * bc3 x2 + 256 * bc3 x1 + bc3 x0 : Nat) : Int) := by
    have e1 : ((65536 * bc2 x2 + 256 * bc2 x1 + bc2 x0 : Nat) : Int) + ((65536 * bc2 x2 + 256 * bc2 x1 + bc2 x0 : Nat) : Int) / 16 = ((65536 * (bc2 x2 + bc2 x2 / 16) + 256 * (bc2 x1 + bc2 x1 / 16 + 16 * (bc2 x2 % 16)) + (bc2 x0 + bc2 x0 / 16 + 16 * (bc2 x1 % 16)) : Nat) : Int) := by omega
    have e2 : (252645135 : Int) = ((65536 * 3855 + 256 * 15 + 15 : Nat) : Int) := rfl
    have e3 : (bc2 x2 + bc2 x2 / 16) &&& 3855 = (bc2 x2 + bc2 x2 / 16) % 16 := by
      have := and2 (i := 8) (a := 0) (b := bc2 x2 + bc2 x2 / 16) (c := 15) (e := 15) (by omega) (by omega)
      rw [Nat.zero_and, and15] at this
      simpa using this
    have q : ∀ x y : Nat, x % 16 ≤ 4 → x / 16 ≤ 4 → (x + x / 16 + 16 * y) % 16 = x % 16 + x / 16 := by omega
    have q2 := q (bc2 x2) 0 b2.2.2.2.1 b2.2.2.2.2.1
    rw [Nat.mul_zero, Nat.add_zero] at q2
    rw [e1, e2, iand_N, and3 (by omega) (by omega) (by omega) (by omega), e3, and15, and15, q _ _ b0.2.2.2.1 b0.2.2.2.2.1, q _ _ b1.2.2.2.1 b1.2.2.2.2.1, q2]
    rfl
  have ee : bsum ((65536 * x2 + 256 * x1 + x0 : Nat) : Int) 0 24 = bsum x0 0 8 + bsum x1 0 8 + bsum x2 0 8 := by
    rw [show (24 : Nat) = 8 + (8 + 8) by rfl, bsum_app, bsum_app, bsum_sh (w := (x0 : Int)) 8 0 0 (fun i hi => by rw [Nat.zero_add]; exact (ibit_by x2 x1 x0 h0 h1 i hi).1), bsum_sh (w := (x1 : Int)) 8 (0 + 8) 0 (fun i hi => by rw [Nat.zero_add, Nat.zero_add]; exact (ibit_by x2 x1 x0 h0 h1 i hi).2.1), bsum_sh (w := (x2 : Int)) 8 (0 + 8 + 8) 0 (fun i hi => by rw [Nat.zero_add, Nat.zero_add]; exact (ibit_by x2 x1 x0 h0 h1 i hi).2.2), Int.add_assoc]
  unfold bcI
  simp only [ea, eb, ec]
  rw [ee, ← bc_d3 x0 h0, ← bc_d3 x1 h1, ← bc_d3 x2 h2]
  have c0 : bc3 x0 ≤ 8 := by unfold bc3; omega
  have c1 : bc3 x1 ≤ 8 := by unfold bc3; omega
  have c2 : bc3 x2 ≤ 8 := by unfold bc3; omega
  have e5 : ((65536 * bc3 x2 + 256 * bc3 x1 + bc3 x0 : Nat) : Int) + ((65536 * bc3 x2 + 256 * bc3 x1 + bc3 x0 : Nat) : Int) / 256 + (((65536 * bc3 x2 + 256 * bc3 x1 + bc3 x0 : Nat) : Int) + ((65536 * bc3 x2 + 256 * bc3 x1 + bc3 x0 : Nat) : Int) / 256) / 65536 = ((65536 * bc3 x2 + 256 * (bc3 x1 + bc3 x2) + (bc3 x0 + bc3 x1 + bc3 x2) : Nat) : Int) := by omega
  rw [e5, show (63 : Int) = ((63 : Nat) : Int) from rfl, iand_N, and63]
  omega
section BC
variable {d : Nat} {h : am_H} {Q : Option Value → am_H → Prop}
theorem s_bitCount {z : Int} (hz : 0 ≤ z ∧ z < 16777216) : Rj d 192 0 [.int (jI z)] [] h Q = Q (some (.int (jI (bsum z 0 24)))) h := by
  rw [s_bcI hz, bcI_eq hz]
end BC
