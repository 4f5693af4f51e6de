/-! BITS: shifts and masks of numbers that aren't negative -/
theorem nI_and (a b : Nat) : nI a &&& nI b = nI (a &&& b) := by
  apply Int32.toBitVec_inj.1
  show BitVec.ofNat 32 a &&& BitVec.ofNat 32 b = BitVec.ofNat 32 (a &&& b)
  apply BitVec.eq_of_getLsbD_eq
  intro i hi
  simp [hi]
theorem nI_or (a b : Nat) : nI a ||| nI b = nI (a ||| b) := by
  apply Int32.toBitVec_inj.1
  show BitVec.ofNat 32 a ||| BitVec.ofNat 32 b = BitVec.ofNat 32 (a ||| b)
  apply BitVec.eq_of_getLsbD_eq
  intro i hi
  simp [hi]
theorem nI_xor (a b : Nat) : nI a ^^^ nI b = nI (a ^^^ b) := by
  apply Int32.toBitVec_inj.1
  show BitVec.ofNat 32 a ^^^ BitVec.ofNat 32 b = BitVec.ofNat 32 (a ^^^ b)
  apply BitVec.eq_of_getLsbD_eq
  intro i hi
  simp [hi]
theorem nI_m31 : ∀ n, n < 32 → ((nI n &&& 31).toBitVec.smod 32).toNat = n := by decide +kernel
theorem jI_nI {z : Int} (h : 0 ≤ z) : jI z = nI z.toNat := by
  have := jI_nat z.toNat
  rw [Int.toNat_of_nonneg h] at this
  exact this.symm
theorem nI_jI (n : Nat) : nI n = jI n := jI_nat n
def iand (a b : Int) : Int := ((a.toNat &&& b.toNat : Nat) : Int)
def ior (a b : Int) : Int := ((a.toNat ||| b.toNat : Nat) : Int)
def ixor (a b : Int) : Int := ((a.toNat ^^^ b.toNat : Nat) : Int)
theorem jI_and {a b : Int} (ha : 0 ≤ a) (hb : 0 ≤ b) : jI a &&& jI b = jI (iand a b) := by
  rw [jI_nI ha, jI_nI hb, nI_and, nI_jI]; rfl
theorem jI_or {a b : Int} (ha : 0 ≤ a) (hb : 0 ≤ b) : jI a ||| jI b = jI (ior a b) := by
  rw [jI_nI ha, jI_nI hb, nI_or, nI_jI]; rfl
theorem jI_xor {a b : Int} (ha : 0 ≤ a) (hb : 0 ≤ b) : jI a ^^^ jI b = jI (ixor a b) := by
  rw [jI_nI ha, jI_nI hb, nI_xor, nI_jI]; rfl
theorem jI_shr {a k : Int} (ha : 0 ≤ a ∧ a < 2147483648) (hk : 0 ≤ k ∧ k < 32) : jI a >>> (jI k &&& 31) = jI (a / 2 ^ k.toNat) := by
  rw [jI_nI ha.1, jI_nI hk.1, pk_shrN (by omega) _ k.toNat (nI_m31 _ (by omega)), nI_jI]
  congr 1
  rw [Int.natCast_ediv, Int.toNat_of_nonneg ha.1]
  simp
theorem jI_shl {a k : Int} (ha : 0 ≤ a) (hk : 0 ≤ k ∧ k < 32) (h : a * 2 ^ k.toNat < 4294967296) : jI a <<< (jI k &&& 31) = jI (a * 2 ^ k.toNat) := by
  rw [jI_nI ha, jI_nI hk.1, pk_shlN _ k.toNat (nI_m31 _ (by omega)), nI_jI]
  · congr 1
    rw [Int.natCast_mul, Int.toNat_of_nonneg ha]
    simp
  · have : ((a.toNat * 2 ^ k.toNat : Nat) : Int) < ((2 ^ 32 : Nat) : Int) := by
      rw [Int.natCast_mul, Int.toNat_of_nonneg ha]
      simpa using h
    exact Int.ofNat_lt.mp this
theorem pow_lt32 : ∀ k, k < 32 → (2 : Int) ^ k < 4294967296 := by decide +kernel
theorem jI_shl1 {k : Int} (hk : 0 ≤ k ∧ k < 32) : jI 1 <<< (jI k &&& 31) = jI (2 ^ k.toNat) := by
  rw [jI_shl (by omega) hk (by rw [Int.one_mul]; exact pow_lt32 _ (by omega)), Int.one_mul]
theorem iand_1 {a : Int} (ha : 0 ≤ a) : iand a 1 = a % 2 := by
  unfold iand
  rw [show (1 : Int).toNat = 1 from rfl, Nat.and_one_is_mod]
  omega
theorem jI_and1 {a : Int} (ha : 0 ≤ a) : jI a &&& jI 1 = jI (a % 2) := by rw [jI_and ha (by omega), iand_1 ha]
theorem ediv_nn {a : Int} (ha : 0 ≤ a) (k : Nat) : 0 ≤ a / 2 ^ k := Int.ediv_nonneg ha (Int.pow_nonneg (by omega))
/-- bit k of a -/
def ibit (a : Int) (k : Nat) : Int := a / 2 ^ k % 2
theorem jI_bit {a k : Int} (ha : 0 ≤ a ∧ a < 2147483648) (hk : 0 ≤ k ∧ k < 32) : (jI a >>> (jI k &&& 31)) &&& jI 1 = jI (ibit a k.toNat) := by
  rw [jI_shr ha hk, jI_and1 (ediv_nn ha.1 _)]; rfl
theorem ibit_01 (a : Int) (k : Nat) : ibit a k = 0 ∨ ibit a k = 1 := by unfold ibit; omega
