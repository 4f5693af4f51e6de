/-! SETS AS NUMBERS -/
/-- how many places -/
def cntS (p : Nat → Bool) : Nat → Nat → Int
  | _, 0 => 0
  | i, n + 1 => (if p i = true then 1 else 0) + cntS p (i + 1) n
theorem cntS_rng (p : Nat → Bool) : ∀ (n i : Nat), 0 ≤ cntS p i n ∧ cntS p i n ≤ n
  | 0, i => by simp [cntS]
  | n + 1, i => by
    have h := cntS_rng p n (i + 1)
    rw [cntS]
    split <;> omega
def setB (p : Nat → Bool) : Nat → Nat → Int
  | _, 0 => 0
  | i, n + 1 => (if p i = true then 1 else 0) + 2 * setB p (i + 1) n
theorem setS_B (p : Nat → Bool) : ∀ (n i : Nat), setS p i n = 2 ^ i * setB p i n
  | 0, i => by simp [setS, setB]
  | n + 1, i => by
    rw [setS, setB, setS_B p n (i + 1), Int.mul_add, Int.pow_succ, Int.mul_assoc]
    congr 1
    split <;> simp
theorem ibit_0 (z : Int) : ibit z 0 = z % 2 := by simp [ibit]
theorem ibit_s (z : Int) (k : Nat) : ibit z (k + 1) = ibit (z / 2) k := by
  unfold ibit
  rw [Int.pow_succ', ← Int.ediv_ediv_of_nonneg (by omega)]
theorem ibit_B (p : Nat → Bool) : ∀ (k n i : Nat), ibit (setB p i n) k = if k < n ∧ p (i + k) = true then 1 else 0
  | k, 0, i => by simp [setB, ibit]
  | 0, n + 1, i => by
    rw [ibit_0, setB]
    by_cases h : p i = true <;> simp [h] <;> omega
  | k + 1, n + 1, i => by
    have e : setB p i (n + 1) / 2 = setB p (i + 1) n := by
      rw [setB]
      split <;> omega
    rw [ibit_s, e, ibit_B p k n (i + 1), show i + 1 + k = i + (k + 1) by omega]
    simp
theorem ibit_S (p : Nat → Bool) (n k : Nat) : ibit (setS p 0 n) k = if k < n ∧ p k = true then 1 else 0 := by
  rw [setS_B, Int.pow_zero, Int.one_mul, ibit_B, Nat.zero_add]
theorem bsum_zero {z : Int} : ∀ (n k : Nat), (∀ j, k ≤ j → ibit z j = 0) → bsum z k n = 0
  | 0, k, _ => rfl
  | n + 1, k, h => by rw [bsum, h k (Nat.le_refl k), bsum_zero n (k + 1) (fun j hj => h j (by omega))]; rfl
theorem bsum_cnt (p : Nat → Bool) (z : Int) : ∀ (m n k : Nat), n ≤ m → (∀ j, k ≤ j → ibit z j = if j < k + n ∧ p j = true then 1 else 0) → bsum z k m = cntS p k n
  | m, 0, k, _, h => by
    rw [bsum_zero m k (fun j hj => by rw [h j hj, if_neg (by omega)])]
    rfl
  | 0, n + 1, k, hn, h => by omega
  | m + 1, n + 1, k, hn, h => by
    rw [bsum, cntS, h k (Nat.le_refl k), bsum_cnt p z m n (k + 1) (by omega) (fun j hj => by rw [h j (by omega), show k + (n + 1) = k + 1 + n by omega])]
    congr 1
    by_cases hp : p k = true <;> simp [hp]
theorem bsum_S (p : Nat → Bool) (n : Nat) (hn : n ≤ 24) : bsum (setS p 0 n) 0 24 = cntS p 0 n :=
  bsum_cnt p _ 24 n 0 hn (fun j _ => by rw [ibit_S, Nat.zero_add])
theorem setS_12 (p : Nat → Bool) {n : Nat} (hn : n ≤ 12) : 0 ≤ setS p 0 n ∧ setS p 0 n < 4096 := by
  have h := setS_rng p n 0
  have h2 := pow_12 (0 + n) (by omega)
  rw [Int.pow_zero] at h
  omega
