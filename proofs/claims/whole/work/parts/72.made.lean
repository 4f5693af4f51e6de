/-! MADE: the mathematics -/
def Best (P : Nat → Prop) (tn : Nat → Int) (b m : Int) : Prop := (b = -1 ∧ m = -1 ∧ ∀ x, ¬ P x) ∨ ∃ x : Nat, P x ∧ b = x ∧ m = tn x ∧ ∀ y, P y → tn y < tn x ∨ (tn y = tn x ∧ x ≤ y)
theorem Best_uni {P : Nat → Prop} {tn : Nat → Int} {b m b' m' : Int} (h : Best P tn b m) (h' : Best P tn b' m') : b = b' := by
  rcases h with ⟨h1, h2, h3⟩ | ⟨x, h1, h2, h3, h4⟩
  · rcases h' with ⟨g1, g2, g3⟩ | ⟨y, g1, g2, g3, g4⟩
    · omega
    · exact absurd g1 (h3 y)
  · rcases h' with ⟨g1, g2, g3⟩ | ⟨y, g1, g2, g3, g4⟩
    · exact absurd h1 (g3 x)
    · have a1 := h4 y g1
      have a2 := g4 x h1
      omega
theorem Best_iff {P P' : Nat → Prop} {tn : Nat → Int} {b m : Int} (h : Best P tn b m) (e : ∀ x, P x ↔ P' x) : Best P' tn b m := by
  rcases h with ⟨h1, h2, h3⟩ | ⟨x, h1, h2, h3, h4⟩
  · exact Or.inl ⟨h1, h2, fun x hx => h3 x ((e x).mpr hx)⟩
  · exact Or.inr ⟨x, (e x).mp h1, h2, h3, fun y hy => h4 y ((e y).mpr hy)⟩
theorem Best_none {tn : Nat → Int} {P : Nat → Prop} (h : ∀ x, ¬ P x) : Best P tn (-1) (-1) := Or.inl ⟨rfl, rfl, h⟩
/-- one more is looked at -/
theorem Best_add {P : Nat → Prop} {tn : Nat → Int} {b m : Int} (h0 : ∀ x, 0 ≤ tn x) (h : Best P tn b m) (z : Nat) : Best (fun x => P x ∨ x = z) tn (if tn z < m ∨ (tn z = m ∧ b < z) then b else z) (if tn z < m ∨ (tn z = m ∧ b < z) then m else tn z) := by
  have z0 := h0 z
  rcases h with ⟨h1, h2, h3⟩ | ⟨x, h1, h2, h3, h4⟩
  · rw [if_neg (by omega), if_neg (by omega)]
    refine Or.inr ⟨z, Or.inr rfl, rfl, rfl, fun y hy => ?_⟩
    rcases hy with hy | hy
    · exact absurd hy (h3 y)
    · rw [hy]; exact Or.inr ⟨rfl, Nat.le_refl z⟩
  · by_cases g : tn z < m ∨ (tn z = m ∧ b < z)
    · rw [if_pos g, if_pos g]
      refine Or.inr ⟨x, Or.inl h1, h2, h3, fun y hy => ?_⟩
      rcases hy with hy | hy
      · exact h4 y hy
      · rw [hy]; omega
    · rw [if_neg g, if_neg g]
      refine Or.inr ⟨z, Or.inr rfl, rfl, rfl, fun y hy => ?_⟩
      rcases hy with hy | hy
      · have := h4 y hy
        omega
      · rw [hy]; exact Or.inr ⟨rfl, Nat.le_refl z⟩
/-- the sayings of a set fit a thing -/
def intP (f : Nat → Nat → Bool) (n x t : Nat) : Bool := allB (fun s => !x.testBit s || f s t) 0 n
/-- they fit thing t alone -/
def vldP (f : Nat → Nat → Bool) (n th t x : Nat) : Prop := ∀ k, k < th → intP f n x k = decide (k = t)
def tnV (tu : Nat → Int) (n x : Nat) : Int := sumS (fun s => if x.testBit s = true then tu s else 0) 0 n
def pcV (n x : Nat) : Int := cntS (fun s => x.testBit s) 0 n
def PM (f : Nat → Nat → Bool) (n th t : Nat) (many : Int) (x : Nat) : Prop := x < 2 ^ n ∧ pcV n x = many ∧ vldP f n th t x
theorem sumS_rng {g : Nat → Int} {c : Int} (h : ∀ i, 0 ≤ g i ∧ g i ≤ c) : ∀ (n i : Nat), 0 ≤ sumS g i n ∧ sumS g i n ≤ c * n
  | 0, i => by simp [sumS]
  | n + 1, i => by
    have h1 := sumS_rng h n (i + 1)
    have h2 := h i
    rw [sumS, show c * ((n + 1 : Nat) : Int) = c * n + c by rw [Int.natCast_add, Int.mul_add]; simp]
    omega
theorem tn_rng {tu : Nat → Int} (h : ∀ s, 0 ≤ tu s ∧ tu s ≤ 1) (n x : Nat) : 0 ≤ tnV tu n x ∧ tnV tu n x ≤ n := by
  have := sumS_rng (g := fun s => if x.testBit s = true then tu s else 0) (c := 1) (fun i => by have := h i; split <;> omega) n 0
  unfold tnV
  omega
/-! Gosper's step -/
def pcF : Nat → Nat → Nat
  | 0, _ => 0
  | k + 1, x => x % 2 + pcF k (x / 2)
theorem pcF_0 : ∀ k, pcF k 0 = 0
  | 0 => rfl
  | k + 1 => by rw [pcF, show 0 / 2 = 0 from rfl, pcF_0 k]
theorem pcF_split : ∀ (i k a b : Nat), b < 2 ^ i → pcF (i + k) (2 ^ i * a + b) = pcF i b + pcF k a
  | 0, k, a, b, h => by
    rw [Nat.pow_zero] at h
    rw [show b = 0 by omega, Nat.pow_zero, Nat.one_mul, Nat.add_zero, Nat.zero_add, pcF, Nat.zero_add]
  | i + 1, k, a, b, h => by
    rw [Nat.pow_succ] at h
    have e1 : (2 ^ (i + 1) * a + b) % 2 = b % 2 := by
      rw [Nat.pow_succ, Nat.mul_comm (2 ^ i) 2, Nat.mul_assoc]; omega
    have e2 : (2 ^ (i + 1) * a + b) / 2 = 2 ^ i * a + b / 2 := by
      rw [Nat.pow_succ, Nat.mul_comm (2 ^ i) 2, Nat.mul_assoc]; omega
    rw [show i + 1 + k = (i + k) + 1 by omega, pcF, pcF, e1, e2, pcF_split i k a (b / 2) (by omega)]
    omega
theorem pcF_low {w k y : Nat} (h : y < 2 ^ w) : pcF (w + k) y = pcF w y := by
  have := pcF_split w k 0 y h
  rw [Nat.mul_zero, Nat.zero_add, pcF_0, Nat.add_zero] at this
  exact this
theorem pcF_ones : ∀ m, pcF m (2 ^ m - 1) = m
  | 0 => rfl
  | m + 1 => by
    have p : 1 ≤ 2 ^ m := Nat.one_le_two_pow
    have e1 : (2 ^ (m + 1) - 1) % 2 = 1 := by rw [Nat.pow_succ]; omega
    have e2 : (2 ^ (m + 1) - 1) / 2 = 2 ^ m - 1 := by rw [Nat.pow_succ]; omega
    rw [pcF, e1, e2, pcF_ones m]
    omega
/-- so many ones make at least -/
theorem pc_lo : ∀ (k z : Nat), 2 ^ pcF k z - 1 ≤ z
  | 0, z => by simp [pcF]
  | k + 1, z => by
    have ih := pc_lo k (z / 2)
    have p : 1 ≤ 2 ^ pcF k (z / 2) := Nat.one_le_two_pow
    rw [pcF]
    have := Nat.mod_two_eq_zero_or_one z
    rcases this with h | h
    · rw [h, Nat.zero_add]; omega
    · rw [h, Nat.add_comm, Nat.pow_succ]; omega
theorem pc_le : ∀ (k z : Nat), pcF k z ≤ k
  | 0, z => by simp [pcF]
  | k + 1, z => by
    have := pc_le k (z / 2)
    rw [pcF]; omega
/-- and at most -/
theorem pc_hi : ∀ (w y : Nat), y < 2 ^ w → y + 2 ^ (w - pcF w y) ≤ 2 ^ w
  | 0, y, h => by
    rw [Nat.pow_zero] at h
    rw [show y = 0 by omega]
    simp
  | w + 1, y, h => by
    rw [Nat.pow_succ] at h
    have ih := pc_hi w (y / 2) (by omega)
    have le := pc_le w (y / 2)
    rw [pcF, Nat.pow_succ]
    have := Nat.mod_two_eq_zero_or_one y
    rcases this with g | g
    · rw [g, Nat.zero_add, show w + 1 - pcF w (y / 2) = (w - pcF w (y / 2)) + 1 by omega, Nat.pow_succ]
      omega
    · have p : 1 ≤ 2 ^ (w - pcF w (y / 2)) := Nat.one_le_two_pow
      rw [g, show w + 1 - (1 + pcF w (y / 2)) = w - pcF w (y / 2) by omega]
      omega
/-- trailing ones, trailing zeros -/
theorem ones_of : ∀ (k y : Nat), y < 2 ^ k → ∃ H m, m ≤ k ∧ y = 2 ^ (m + 1) * H + (2 ^ m - 1)
  | 0, y, h => ⟨0, 0, Nat.le_refl 0, by rw [Nat.pow_zero] at h; simp; omega⟩
  | k + 1, y, h => by
    rw [Nat.pow_succ] at h
    have := Nat.mod_two_eq_zero_or_one y
    rcases this with g | g
    · exact ⟨y / 2, 0, by omega, by simp; omega⟩
    · obtain ⟨H, m, hm, e⟩ := ones_of k (y / 2) (by omega)
      have p : 1 ≤ 2 ^ m := Nat.one_le_two_pow
      have e2 : 2 ^ (m + 1 + 1) * H = 2 * (2 ^ (m + 1) * H) := by rw [Nat.pow_succ, Nat.mul_comm (2 ^ (m + 1)) 2, Nat.mul_assoc]
      refine ⟨H, m + 1, by omega, ?_⟩
      have e3 : 2 ^ (m + 1) = 2 * 2 ^ m := by rw [Nat.pow_succ, Nat.mul_comm]
      rw [e2]
      omega
theorem run_of : ∀ (k x : Nat), 0 < x → x < 2 ^ k → ∃ H l m, l + m ≤ k ∧ 1 ≤ m ∧ x = 2 ^ (l + m + 1) * H + 2 ^ l * (2 ^ m - 1)
  | 0, x, h0, h => by rw [Nat.pow_zero] at h; omega
  | k + 1, x, h0, h => by
    have h' := h
    rw [Nat.pow_succ] at h
    have := Nat.mod_two_eq_zero_or_one x
    rcases this with g | g
    · obtain ⟨H, l, m, hl, hm, e⟩ := run_of k (x / 2) (by omega) (by omega)
      refine ⟨H, l + 1, m, by omega, hm, ?_⟩
      have e2 : 2 ^ (l + 1 + m + 1) * H = 2 * (2 ^ (l + m + 1) * H) := by rw [show l + 1 + m + 1 = (l + m + 1) + 1 by omega, Nat.pow_succ, Nat.mul_comm (2 ^ (l + m + 1)) 2, Nat.mul_assoc]
      have e3 : 2 ^ (l + 1) * (2 ^ m - 1) = 2 * (2 ^ l * (2 ^ m - 1)) := by rw [Nat.pow_succ, Nat.mul_comm (2 ^ l) 2, Nat.mul_assoc]
      rw [e2, e3]
      omega
    · obtain ⟨H, m, hm, e⟩ := ones_of (k + 1) x h'
      have m1 : 1 ≤ m := by
        by_cases c : m = 0
        · subst c; simp at e; omega
        · omega
      exact ⟨H, 0, m, by omega, m1, by simpa using e⟩
theorem gos_pc {H l m : Nat} (hl : l + m ≤ 20) (hm : 1 ≤ m) : pcF 24 (2 ^ (l + m + 1) * H + 2 ^ l * (2 ^ m - 1)) = m + pcF (24 - (l + m + 1)) H := by
  have p : 1 ≤ 2 ^ m := Nat.one_le_two_pow
  have b : 2 ^ l * (2 ^ m - 1) < 2 ^ (l + m + 1) := by
    have h1 : 2 ^ l * (2 ^ m - 1) ≤ 2 ^ l * 2 ^ m := Nat.mul_le_mul_left _ (by omega)
    rw [← Nat.pow_add] at h1
    have h2 : 2 ^ (l + m) < 2 ^ (l + m + 1) := Nat.pow_lt_pow_right (by omega) (by omega)
    omega
  rw [show (24 : Nat) = (l + m + 1) + (24 - (l + m + 1)) by omega, pcF_split _ _ _ _ b, show (l + m + 1) + (24 - (l + m + 1)) - (l + m + 1) = 24 - (l + m + 1) by omega]
  congr 1
  have := pcF_split l (m + 1) (2 ^ m - 1) 0 (Nat.two_pow_pos l)
  rw [Nat.add_zero, pcF_0, Nat.zero_add, pcF_low (w := m) (k := 1) (by omega), pcF_ones] at this
  rw [show l + m + 1 = l + (m + 1) by omega]
  exact this
theorem gos_nx {H l m : Nat} (hl : l + m ≤ 20) (hm : 1 ≤ m) : pcF 24 (2 ^ (l + m + 1) * H + (2 ^ (l + m) + (2 ^ (m - 1) - 1))) = m + pcF (24 - (l + m + 1)) H := by
  have p : 1 ≤ 2 ^ (m - 1) := Nat.one_le_two_pow
  have q : 2 ^ (m - 1) ≤ 2 ^ (l + m) := Nat.pow_le_pow_right (by omega) (by omega)
  have b : 2 ^ (l + m) + (2 ^ (m - 1) - 1) < 2 ^ (l + m + 1) := by rw [Nat.pow_succ]; omega
  rw [show (24 : Nat) = (l + m + 1) + (24 - (l + m + 1)) by omega, pcF_split _ _ _ _ b, show (l + m + 1) + (24 - (l + m + 1)) - (l + m + 1) = 24 - (l + m + 1) by omega]
  congr 1
  have := pcF_split (l + m) 1 1 (2 ^ (m - 1) - 1) (by omega)
  rw [Nat.mul_one] at this
  rw [this, show l + m = (m - 1) + (l + 1) by omega, pcF_low (by omega), pcF_ones]
  simp [pcF]
  omega
theorem gos_mid {H l m x : Nat} (hl : l + m ≤ 20) (hm : 1 ≤ m) (h1 : 2 ^ (l + m + 1) * H + 2 ^ l * (2 ^ m - 1) < x) (h2 : x < 2 ^ (l + m + 1) * H + (2 ^ (l + m) + (2 ^ (m - 1) - 1))) : ¬ pcF 24 x = m + pcF (24 - (l + m + 1)) H := by
  have p : 1 ≤ 2 ^ (m - 1) := Nat.one_le_two_pow
  have q : 2 ^ (m - 1) ≤ 2 ^ (l + m) := Nat.pow_le_pow_right (by omega) (by omega)
  have r : 2 ^ (l + m + 1) = 2 ^ (l + m) * 2 := Nat.pow_succ _ _
  obtain ⟨y, rfl⟩ : ∃ y, x = 2 ^ (l + m + 1) * H + y := ⟨x - 2 ^ (l + m + 1) * H, by omega⟩
  have b : y < 2 ^ (l + m + 1) := by omega
  rw [show (24 : Nat) = (l + m + 1) + (24 - (l + m + 1)) by omega, pcF_split _ _ _ _ b, show (l + m + 1) + (24 - (l + m + 1)) - (l + m + 1) = 24 - (l + m + 1) by omega]
  intro e
  have e' : pcF (l + m + 1) y = m := by omega
  by_cases g : y < 2 ^ (l + m)
  · rw [pcF_low g] at e'
    have hi := pc_hi (l + m) y g
    rw [e', show l + m - m = l by omega] at hi
    have s : 2 ^ l * (2 ^ m - 1) + 2 ^ l = 2 ^ (l + m) := by
      rw [Nat.pow_add, Nat.mul_sub, Nat.mul_one]
      have : 2 ^ l ≤ 2 ^ l * 2 ^ m := Nat.le_mul_of_pos_right _ (Nat.two_pow_pos m)
      omega
    omega
  · have s := pcF_split (l + m) 1 1 (y - 2 ^ (l + m)) (by omega)
    rw [Nat.mul_one, show 2 ^ (l + m) + (y - 2 ^ (l + m)) = y by omega, e'] at s
    have lo := pc_lo (l + m) (y - 2 ^ (l + m))
    rw [show pcF (l + m) (y - 2 ^ (l + m)) = m - 1 by simp [pcF] at s; omega] at lo
    omega
