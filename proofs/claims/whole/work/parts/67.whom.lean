/-! WHOM TO ASK: the mathematics -/
def PP (h : Nat) : Int := ([1771561, 161051, 14641, 1331, 121, 11, 1] : List Int).getD h 0
theorem PP_s : ∀ h, h < 6 → PP h = 11 * PP (h + 1) ∧ 1 ≤ PP (h + 1) ∧ PP (h + 1) ≤ 161051 ∧ PP h ≤ 1771561 := by decide +kernel
/-- the greatest -/
def maxS (f : Nat → Int) : Nat → Nat → Int → Int
  | _, 0, m => m
  | i, n + 1, m => maxS f (i + 1) n (if f i ≤ m then m else f i)
theorem maxS_le {f : Nat → Int} : ∀ (n i : Nat) (m : Int), m ≤ maxS f i n m
  | 0, i, m => Int.le_refl _
  | n + 1, i, m => by
    rw [maxS]
    exact Int.le_trans (by split <;> omega) (maxS_le n (i + 1) _)
theorem maxS_at {f : Nat → Int} : ∀ (n i w : Nat) (m : Int), i ≤ w → w < i + n → f w ≤ maxS f i n m
  | 0, i, w, m, h1, h2 => by omega
  | n + 1, i, w, m, h1, h2 => by
    rw [maxS]
    by_cases g : w = i
    · rw [g]
      exact Int.le_trans (by split <;> omega) (maxS_le n (i + 1) _)
    · exact maxS_at n (i + 1) w _ (by omega) (by omega)
theorem maxS_mem {f : Nat → Int} : ∀ (n i : Nat) (m : Int), maxS f i n m = m ∨ ∃ w, i ≤ w ∧ w < i + n ∧ maxS f i n m = f w
  | 0, i, m => Or.inl rfl
  | n + 1, i, m => by
    rw [maxS]
    rcases maxS_mem (f := f) n (i + 1) (if f i ≤ m then m else f i) with h | ⟨w, h1, h2, h3⟩
    · by_cases g : f i ≤ m
      · rw [if_pos g] at h ⊢; exact Or.inl h
      · rw [if_neg g] at h ⊢; exact Or.inr ⟨i, Nat.le_refl i, by omega, h⟩
    · exact Or.inr ⟨w, by omega, by omega, h3⟩
/-- the most that the heads from h on bring, n of them, when the riddles of a set are gone -/
def brV (st : Nat → Nat → Int) (R : Nat) : Nat → Nat → Nat → Int
  | 0, _, _ => 0
  | n + 1, h, s => maxS (fun r => if s.testBit r = true then 0 else st h r + brV st R n (h + 1) (s ||| 2 ^ r)) 0 R (brV st R n (h + 1) s)
/-- the riddle for head h -/
def fndV (st : Nat → Nat → Int) (R n h s : Nat) : Int := fstP (fun r => !s.testBit r && decide (st h r + brV st R n (h + 1) (s ||| 2 ^ r) = brV st R (n + 1) h s)) 0 R
def nxtV (st : Nat → Nat → Int) (R n h s : Nat) : Nat := if fndV st R n h s = -1 then s else s ||| 2 ^ (fndV st R n h s).toNat
def digV (st : Nat → Nat → Int) (R n h s : Nat) : Int := if fndV st R n h s = -1 then 0 else 10 - fndV st R n h s
def lxV (st : Nat → Nat → Int) (R : Nat) : Nat → Nat → Nat → Int
  | 0, _, _ => 0
  | n + 1, h, s => digV st R n h s * PP (h + 1) + lxV st R n (h + 1) (nxtV st R n h s)
/-- the riddle of the head that is k behind h -/
def chV (st : Nat → Nat → Int) (R : Nat) : Nat → Nat → Nat → Nat → Int
  | _, 0, _, _ => -1
  | 0, n + 1, h, s => fndV st R n h s
  | k + 1, n + 1, h, s => chV st R k n (h + 1) (nxtV st R n h s)
def eV (st : Nat → Nat → Int) (R n h s : Nat) : Int := brV st R n h s * 1771561 + lxV st R n h s
def wV (st : Nat → Nat → Int) (h r : Nat) : Int := st h r * 1771561 + (10 - (r : Int)) * PP (h + 1)
theorem fnd_rng {st : Nat → Nat → Int} {R n h s : Nat} : -1 ≤ fndV st R n h s ∧ fndV st R n h s < R := by
  have := fstP_rng (fun r => !s.testBit r && decide (st h r + brV st R n (h + 1) (s ||| 2 ^ r) = brV st R (n + 1) h s)) R 0
  unfold fndV
  omega
theorem dig_rng {st : Nat → Nat → Int} {R n h s : Nat} (hR : R ≤ 10) : 0 ≤ digV st R n h s ∧ digV st R n h s ≤ 10 := by
  have := fnd_rng (st := st) (R := R) (n := n) (h := h) (s := s)
  unfold digV
  split <;> omega
theorem lx_rng {st : Nat → Nat → Int} {R : Nat} (hR : R ≤ 10) : ∀ (n h s : Nat), h + n ≤ 6 → 0 ≤ lxV st R n h s ∧ lxV st R n h s < PP h
  | 0, h, s, hn => by
    rw [lxV]
    by_cases g : h < 6
    · have := PP_s h g
      omega
    · rw [show h = 6 by omega]; decide
  | n + 1, h, s, hn => by
    have p := PP_s h (by omega)
    have d := dig_rng (st := st) (R := R) (n := n) (h := h) (s := s) hR
    have ih := lx_rng hR (st := st) n (h + 1) (nxtV st R n h s) (by omega)
    have m1 : 0 ≤ digV st R n h s * PP (h + 1) := Int.mul_nonneg d.1 (by omega)
    have m2 : digV st R n h s * PP (h + 1) ≤ 10 * PP (h + 1) := Int.mul_le_mul_of_nonneg_right d.2 (by omega)
    rw [lxV]
    omega
theorem fst_le {p : Nat → Bool} {k : Nat} : ∀ (n i : Nat), i ≤ k → k < i + n → p k = true → 0 ≤ fstP p i n ∧ fstP p i n ≤ k ∧ p (fstP p i n).toNat = true
  | 0, i, h1, h2, _ => by omega
  | n + 1, i, h1, h2, h3 => by
    rw [fstP]
    by_cases g : p i = true
    · rw [if_pos g, Int.toNat_natCast]
      exact ⟨by omega, by omega, g⟩
    · rw [if_neg g]
      have : ¬ i = k := fun e => g (by rw [e]; exact h3)
      exact fst_le n (i + 1) (by omega) (by omega) h3
theorem fst_in {p : Nat → Bool} : ∀ (n i : Nat), ¬ fstP p i n = -1 → (i : Int) ≤ fstP p i n ∧ fstP p i n < i + n ∧ p (fstP p i n).toNat = true
  | 0, i, h => absurd rfl h
  | n + 1, i, h => by
    rw [fstP] at h ⊢
    by_cases g : p i = true
    · rw [if_pos g, Int.toNat_natCast]
      exact ⟨by omega, by omega, g⟩
    · rw [if_neg g] at h ⊢
      have := fst_in n (i + 1) h
      exact ⟨by omega, by omega, this.2.2⟩
/-- the greatest keeps its rule -/
theorem eV_none {st : Nat → Nat → Int} {R n h s : Nat} (hR : R ≤ 10) (hn : h + (n + 1) ≤ 6) : eV st R n (h + 1) s ≤ eV st R (n + 1) h s := by
  have p := PP_s h (by omega)
  have p2 := PP_s 0 (by omega)
  have l1 := lx_rng hR (st := st) n (h + 1) s (by omega)
  have l2 := lx_rng hR (st := st) n (h + 1) (nxtV st R n h s) (by omega)
  have d := dig_rng (st := st) (R := R) (n := n) (h := h) (s := s) hR
  have f := fnd_rng (st := st) (R := R) (n := n) (h := h) (s := s)
  have b : brV st R n (h + 1) s ≤ brV st R (n + 1) h s := maxS_le _ _ _
  have m1 : 0 ≤ digV st R n h s * PP (h + 1) := Int.mul_nonneg d.1 (by omega)
  unfold eV
  rw [lxV]
  by_cases g : brV st R n (h + 1) s = brV st R (n + 1) h s
  · by_cases g2 : fndV st R n h s = -1
    · have e1 : nxtV st R n h s = s := by unfold nxtV; rw [if_pos g2]
      have e2 : digV st R n h s = 0 := by unfold digV; rw [if_pos g2]
      rw [e1, e2, g]
      omega
    · have e2 : digV st R n h s = 10 - fndV st R n h s := by unfold digV; rw [if_neg g2]
      have m2 : 1 * PP (h + 1) ≤ digV st R n h s * PP (h + 1) := Int.mul_le_mul_of_nonneg_right (by omega) (by omega)
      rw [g]
      omega
  · omega
theorem eV_some {st : Nat → Nat → Int} {R n h s r : Nat} (hR : R ≤ 10) (hn : h + (n + 1) ≤ 6) (hr : r < R) (hs : s.testBit r = false) : wV st h r + eV st R n (h + 1) (s ||| 2 ^ r) ≤ eV st R (n + 1) h s := by
  have p := PP_s h (by omega)
  have l1 := lx_rng hR (st := st) n (h + 1) (s ||| 2 ^ r) (by omega)
  have l2 := lx_rng hR (st := st) n (h + 1) (nxtV st R n h s) (by omega)
  have d := dig_rng (st := st) (R := R) (n := n) (h := h) (s := s) hR
  have b : st h r + brV st R n (h + 1) (s ||| 2 ^ r) ≤ brV st R (n + 1) h s := by
    have := maxS_at (f := fun r => if s.testBit r = true then 0 else st h r + brV st R n (h + 1) (s ||| 2 ^ r)) R 0 r (brV st R n (h + 1) s) (by omega) (by omega)
    rw [brV]
    rw [hs] at this
    simpa using this
  have m1 : 0 ≤ digV st R n h s * PP (h + 1) := Int.mul_nonneg d.1 (by omega)
  have m2 : (10 - (r : Int)) * PP (h + 1) ≤ 10 * PP (h + 1) := Int.mul_le_mul_of_nonneg_right (by omega) (by omega)
  unfold eV wV
  rw [lxV]
  by_cases g : st h r + brV st R n (h + 1) (s ||| 2 ^ r) = brV st R (n + 1) h s
  · have f := fst_le (p := fun r => !s.testBit r && decide (st h r + brV st R n (h + 1) (s ||| 2 ^ r) = brV st R (n + 1) h s)) (k := r) R 0 (by omega) (by omega) (by simp [hs, g])
    have f' : 0 ≤ fndV st R n h s ∧ fndV st R n h s ≤ r := ⟨f.1, f.2.1⟩
    have e2 : digV st R n h s = 10 - fndV st R n h s := by unfold digV; rw [if_neg (by omega)]
    by_cases g2 : fndV st R n h s = r
    · have e1 : nxtV st R n h s = s ||| 2 ^ r := by unfold nxtV; rw [if_neg (by omega), g2, Int.toNat_natCast]
      rw [e1, e2, g2]
      omega
    · have m3 : (10 - (r : Int) + 1) * PP (h + 1) ≤ digV st R n h s * PP (h + 1) := Int.mul_le_mul_of_nonneg_right (by omega) (by omega)
      rw [Int.add_mul, Int.one_mul] at m3
      omega
  · omega
theorem brV_0 {st : Nat → Nat → Int} (hs0 : ∀ h r, 0 ≤ st h r) (R : Nat) : ∀ (n h s : Nat), 0 ≤ brV st R n h s
  | 0, h, s => Int.le_refl _
  | n + 1, h, s => Int.le_trans (brV_0 hs0 R n (h + 1) s) (maxS_le _ _ _)
theorem eV_att {st : Nat → Nat → Int} {R n h s : Nat} (hR : R ≤ 10) (hs0 : ∀ h r, 0 ≤ st h r) : (fndV st R n h s = -1 ∧ eV st R (n + 1) h s = eV st R n (h + 1) s) ∨ ∃ r, r < R ∧ fndV st R n h s = r ∧ s.testBit r = false ∧ eV st R (n + 1) h s = wV st h r + eV st R n (h + 1) (s ||| 2 ^ r) := by
  by_cases g : fndV st R n h s = -1
  · left
    refine ⟨g, ?_⟩
    have e1 : nxtV st R n h s = s := by unfold nxtV; rw [if_pos g]
    have e2 : digV st R n h s = 0 := by unfold digV; rw [if_pos g]
    have b : brV st R (n + 1) h s = brV st R n (h + 1) s := by
      rw [brV]
      rcases maxS_mem (f := fun r => if s.testBit r = true then 0 else st h r + brV st R n (h + 1) (s ||| 2 ^ r)) R 0 (brV st R n (h + 1) s) with e | ⟨w, h1, h2, h3⟩
      · exact e
      · by_cases c : s.testBit w = true
        · rw [if_pos c] at h3
          have a1 := maxS_le (f := fun r => if s.testBit r = true then 0 else st h r + brV st R n (h + 1) (s ||| 2 ^ r)) R 0 (brV st R n (h + 1) s)
          have a2 := brV_0 hs0 R n (h + 1) s
          omega
        · exfalso
          have c' : s.testBit w = false := by simpa using c
          have f := fst_le (p := fun r => !s.testBit r && decide (st h r + brV st R n (h + 1) (s ||| 2 ^ r) = brV st R (n + 1) h s)) (k := w) R 0 (by omega) (by omega) (by
            rw [if_neg c] at h3
            simp only [c', Bool.not_false, Bool.true_and, decide_eq_true_eq]
            rw [brV, h3])
          have : 0 ≤ fndV st R n h s := f.1
          omega
    unfold eV
    rw [lxV, e1, e2, b]
    omega
  · right
    have f := fst_in (p := fun r => !s.testBit r && decide (st h r + brV st R n (h + 1) (s ||| 2 ^ r) = brV st R (n + 1) h s)) R 0 g
    have f1 : 0 ≤ fndV st R n h s ∧ fndV st R n h s < R := by
      have := f.1; have := f.2.1
      unfold fndV
      omega
    have f2 := f.2.2
    have f3 : (fstP (fun r => !s.testBit r && decide (st h r + brV st R n (h + 1) (s ||| 2 ^ r) = brV st R (n + 1) h s)) 0 R).toNat = (fndV st R n h s).toNat := rfl
    rw [f3] at f2
    simp only [Bool.and_eq_true, Bool.not_eq_true', decide_eq_true_eq] at f2
    refine ⟨(fndV st R n h s).toNat, by omega, by omega, f2.1, ?_⟩
    have e1 : nxtV st R n h s = s ||| 2 ^ (fndV st R n h s).toNat := by unfold nxtV; rw [if_neg g]
    have e2 : digV st R n h s = 10 - fndV st R n h s := by unfold digV; rw [if_neg g]
    unfold eV wV
    rw [lxV, e1, e2, ← f2.2, show (((fndV st R n h s).toNat : Nat) : Int) = fndV st R n h s by omega]
    omega
/-! ways to ask -/
def vlV (st : Nat → Nat → Int) (a : Nat → Int) : Nat → Nat → Int
  | _, 0 => 0
  | h, n + 1 => (if a h = -1 then 0 else wV st h (a h).toNat) + vlV st a (h + 1) n
theorem vl_ext {st : Nat → Nat → Int} {a b : Nat → Int} : ∀ (n h : Nat), (∀ i, h ≤ i → i < h + n → a i = b i) → vlV st a h n = vlV st b h n
  | 0, h, _ => rfl
  | n + 1, h, g => by rw [vlV, vlV, g h (Nat.le_refl h) (by omega), vl_ext n (h + 1) (fun i h1 h2 => g i (by omega) (by omega))]
/-- a way for the heads from h on, with riddles before R that aren't in s, each once -/
def okA (a : Nat → Int) (R h n s : Nat) : Prop := (∀ i, h ≤ i → i < h + n → a i = -1 ∨ (0 ≤ a i ∧ a i < R ∧ s.testBit (a i).toNat = false)) ∧ ∀ i j, h ≤ i → i < h + n → h ≤ j → j < h + n → ¬ i = j → a i = a j → a i = -1
theorem tb_or {s r k : Nat} : (s ||| 2 ^ r).testBit k = (s.testBit k || decide (r = k)) := by rw [Nat.testBit_or, Nat.testBit_two_pow]
theorem e_up {st : Nat → Nat → Int} {R : Nat} (hR : R ≤ 10) {a : Nat → Int} : ∀ (n h s : Nat), h + n ≤ 6 → okA a R h n s → vlV st a h n ≤ eV st R n h s
  | 0, h, s, hn, ha => by
    show (0 : Int) ≤ 0 * 1771561 + 0
    omega
  | n + 1, h, s, hn, ha => by
    rw [vlV]
    have h1 := ha.1 h (Nat.le_refl h) (by omega)
    by_cases g : a h = -1
    · rw [if_pos g, Int.zero_add]
      exact Int.le_trans (e_up hR n (h + 1) s (by omega) ⟨fun i a1 a2 => ha.1 i (by omega) (by omega), fun i j a1 a2 a3 a4 => ha.2 i j (by omega) (by omega) (by omega) (by omega)⟩) (eV_none hR hn)
    · rw [if_neg g]
      have h2 : 0 ≤ a h ∧ a h < R ∧ s.testBit (a h).toNat = false := by
        rcases h1 with h1 | h1
        · exact absurd h1 g
        · exact h1
      have ih := e_up hR (st := st) (a := a) n (h + 1) (s ||| 2 ^ (a h).toNat) (by omega) ⟨fun i a1 a2 => by
        rcases ha.1 i (by omega) (by omega) with c | c
        · exact Or.inl c
        · by_cases e : a i = a h
          · exact Or.inl (ha.2 i h (by omega) (by omega) (Nat.le_refl h) (by omega) (by omega) e)
          · right
            refine ⟨c.1, c.2.1, ?_⟩
            rw [tb_or, c.2.2]
            simp
            omega, fun i j a1 a2 a3 a4 => ha.2 i j (by omega) (by omega) (by omega) (by omega)⟩
      have := eV_some (st := st) (n := n) (h := h) hR hn (r := (a h).toNat) (by omega) h2.2.2
      omega
def setA (a : Nat → Int) (h : Nat) (x : Int) : Nat → Int := fun i => if i = h then x else a i
theorem setA_s {a : Nat → Int} {h i : Nat} {x : Int} (g : i = h) : setA a h x i = x := by unfold setA; rw [if_pos g]
theorem setA_n {a : Nat → Int} {h i : Nat} {x : Int} (g : ¬ i = h) : setA a h x i = a i := by unfold setA; rw [if_neg g]
theorem e_at {st : Nat → Nat → Int} {R : Nat} (hR : R ≤ 10) (hs0 : ∀ h r, 0 ≤ st h r) : ∀ (n h s : Nat), h + n ≤ 6 → ∃ a, okA a R h n s ∧ vlV st a h n = eV st R n h s
  | 0, h, s, hn => ⟨fun _ => -1, ⟨fun i h1 h2 => by omega, fun i j h1 h2 => by omega⟩, by
    show (0 : Int) = 0 * 1771561 + 0
    omega⟩
  | n + 1, h, s, hn => by
    rcases eV_att (st := st) (R := R) (n := n) (h := h) (s := s) hR hs0 with ⟨-, e⟩ | ⟨r, hr, -, hs, e⟩
    · obtain ⟨a, ha, hv⟩ := e_at hR hs0 n (h + 1) s (by omega)
      refine ⟨setA a h (-1), ⟨?_, ?_⟩, ?_⟩
      · intro i h1 h2
        by_cases g : i = h
        · left; rw [setA_s g]
        · rw [setA_n g]; exact ha.1 i (by omega) (by omega)
      · intro i j h1 h2 h3 h4 h5 h6
        by_cases g : i = h
        · rw [setA_s g]
        · by_cases g2 : j = h
          · rw [setA_n g, setA_s g2] at h6
            rw [setA_n g, h6]
          · rw [setA_n g, setA_n g2] at h6
            rw [setA_n g]
            exact ha.2 i j (by omega) (by omega) (by omega) (by omega) h5 h6
      · rw [vlV, setA_s rfl, if_pos rfl, e, ← hv, Int.zero_add]
        apply vl_ext
        intro i h1 h2
        rw [setA_n (by omega)]
    · obtain ⟨a, ha, hv⟩ := e_at hR hs0 n (h + 1) (s ||| 2 ^ r) (by omega)
      have no : ∀ i, h + 1 ≤ i → i < h + 1 + n → ¬ a i = r := by
        intro i h1 h2 e
        rcases ha.1 i h1 h2 with c | c
        · omega
        · have := c.2.2
          rw [tb_or, e] at this
          simp at this
      refine ⟨setA a h r, ⟨?_, ?_⟩, ?_⟩
      · intro i h1 h2
        by_cases g : i = h
        · right
          rw [setA_s g, Int.toNat_natCast]
          exact ⟨by omega, by omega, hs⟩
        · rw [setA_n g]
          rcases ha.1 i (by omega) (by omega) with c | c
          · exact Or.inl c
          · right
            refine ⟨c.1, c.2.1, ?_⟩
            have := c.2.2
            rw [tb_or] at this
            simp at this
            simpa using this.1
      · intro i j h1 h2 h3 h4 h5 h6
        by_cases g : i = h
        · by_cases g2 : j = h
          · omega
          · rw [setA_s g, setA_n g2] at h6
            exact absurd h6.symm (no j (by omega) (by omega))
        · by_cases g2 : j = h
          · rw [setA_n g, setA_s g2] at h6
            exact absurd h6 (no i (by omega) (by omega))
          · rw [setA_n g, setA_n g2] at h6
            rw [setA_n g]
            exact ha.2 i j (by omega) (by omega) (by omega) (by omega) h5 h6
      · rw [vlV, setA_s rfl, if_neg (by omega), e, ← hv, Int.toNat_natCast]
        congr 1
        apply vl_ext
        intro i h1 h2
        rw [setA_n (by omega)]
