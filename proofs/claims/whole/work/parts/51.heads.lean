/-! THE CLASS: heads -/
/-- the second of a stage -/
def secX (p u st : Int) : Int := if st = 0 then 0 else p + (st - 1) * u
/-- the answer in a stage -/
def ansI (A : Nat → Nat → Int) (th r : Nat) (st : Int) : Int := if cntS (ansM A r (-1) (2 ^ st.toNat - 1)) 0 th = 1 then fstP (ansM A r (-1) (2 ^ st.toNat - 1)) 0 th else -1
def stgX (A : Nat → Nat → Int) (th r : Nat) (p u : Int) : Nat → Int → Int
  | 0, _ => -1
  | n + 1, st => if (st = 3 ∨ secX p u st < secX p u (st + 1)) ∧ ¬ ansI A th r st = -1 then st else stgX A th r p u n (st + 1)
theorem op_eq (p u s : Int) : setS (openP p u s) 0 3 = (if p ≤ s then 1 else 0) + ((if p + u ≤ s then 2 else 0) + (if p + 2 * u ≤ s then 4 else 0)) := by
  simp [setS, openP]
theorem fst_cnt {p : Nat → Bool} {n : Nat} (h : cntS p 0 n = 1) : ¬ fstP p 0 n = -1 := by
  obtain ⟨k, -, a2, a3, a4, a5⟩ := cnt1 n 0 h
  rw [fst_any]
  intro e
  have : ∀ (m i : Nat), i ≤ k → k < i + m → anyB p i m = true := by
    intro m
    induction m with
    | zero => intro i h1 h2; omega
    | succ m ih =>
      intro i h1 h2
      rw [anyB]
      by_cases g : i = k
      · rw [g, a3]; rfl
      · rw [ih (i + 1) (by omega) (by omega)]; simp
  rw [this n 0 (Nat.zero_le k) a2] at e
  cases e
/-- stages against seconds -/
theorem hears_stg {A : Nat → Nat → Int} {th r : Nat} {p u : Int} (hp : 0 ≤ p) (hu : 0 ≤ u) : hrM A th r p u 4 0 = (if stgX A th r p u 4 0 = -1 then (-1, -1) else (ansI A th r (stgX A th r p u 4 0), secX p u (stgX A th r p u 4 0))) := by
  have n0 : ∀ o, cntS (ansM A r (-1) o) 0 th = 1 → ¬ fstP (ansM A r (-1) o) 0 th = -1 := fun o h => fst_cnt h
  have a0 : ansI A th r 0 = if cntS (ansM A r (-1) 0) 0 th = 1 then fstP (ansM A r (-1) 0) 0 th else -1 := rfl
  have a1 : ansI A th r 1 = if cntS (ansM A r (-1) 1) 0 th = 1 then fstP (ansM A r (-1) 1) 0 th else -1 := rfl
  have a2 : ansI A th r 2 = if cntS (ansM A r (-1) 3) 0 th = 1 then fstP (ansM A r (-1) 3) 0 th else -1 := rfl
  have a3 : ansI A th r 3 = if cntS (ansM A r (-1) 7) 0 th = 1 then fstP (ansM A r (-1) 7) 0 th else -1 := rfl
  have m0 := n0 0
  have m1 := n0 1
  have m2 := n0 3
  have m3 := n0 7
  simp only [hrM, stgX, op_eq, secX]
  by_cases gp : p = 0
  · by_cases gu : u = 0
    · subst gp gu
      simp [a3]
      by_cases c3 : cntS (ansM A r (-1) 7) 0 th = 1
      · simp [c3, m3 c3, a3]
      · simp [c3]
    · subst gp
      have g1 : 0 < u := by omega
      have g2 : ¬ u ≤ 0 := by omega
      have g3 : ¬ 2 * u ≤ 0 := by omega
      have g4 : ¬ 2 * u ≤ u := by omega
      have g5 : u < 2 * u := by omega
      have g6 : u ≤ 2 * u := by omega
      have g7 : 0 ≤ 2 * u := by omega
      simp [a1, a2, a3, g1, g2, g3, g4, g5, g6, g7, hu]
      by_cases c1 : cntS (ansM A r (-1) 1) 0 th = 1
      · simp [c1, m1 c1, a1]
      · simp only [c1, if_false]
        by_cases c2 : cntS (ansM A r (-1) 3) 0 th = 1
        · simp [c2, m2 c2, a2]
        · simp only [c2, if_false]
          by_cases c3 : cntS (ansM A r (-1) 7) 0 th = 1
          · simp [c3, m3 c3, a3]
          · simp [c3]
  · have g0 : 0 < p := by omega
    have g1 : ¬ p ≤ 0 := by omega
    by_cases gu : u = 0
    · subst gu
      simp [a0, a3, g0, g1]
      by_cases c0 : cntS (ansM A r (-1) 0) 0 th = 1
      · simp [c0, m0 c0, a0]
      · simp only [c0, if_false]
        by_cases c3 : cntS (ansM A r (-1) 7) 0 th = 1
        · simp [c3, m3 c3, a3]
        · simp [c3]
    · have h1 : ¬ p + u ≤ 0 := by omega
      have h2 : ¬ p + 2 * u ≤ 0 := by omega
      have h3 : ¬ p + u ≤ p := by omega
      have h4 : ¬ p + 2 * u ≤ p := by omega
      have h5 : p ≤ p + u := by omega
      have h6 : ¬ p + 2 * u ≤ p + u := by omega
      have h7 : p ≤ p + 2 * u := by omega
      have h8 : p + u ≤ p + 2 * u := by omega
      have h9 : p < p + u := by omega
      have h10 : p + u < p + 2 * u := by omega
      have i1 : 0 < u := by omega
      have i2 : ¬ u ≤ 0 := by omega
      have i3 : ¬ 2 * u ≤ 0 := by omega
      have i4 : ¬ 2 * u ≤ u := by omega
      have i5 : u < 2 * u := by omega
      have i6 : u ≤ 2 * u := by omega
      have i7 : 0 ≤ 2 * u := by omega
      simp [a0, a1, a2, a3, g0, g1, h1, h2, h3, h4, h5, h6, h7, h8, h9, h10, i1, i2, i3, i4, i5, i6, i7, hu]
      by_cases c0 : cntS (ansM A r (-1) 0) 0 th = 1
      · simp [c0, m0 c0, a0]
      · simp only [c0, if_false]
        by_cases c1 : cntS (ansM A r (-1) 1) 0 th = 1
        · simp [c1, m1 c1, a1]
        · simp only [c1, if_false]
          by_cases c2 : cntS (ansM A r (-1) 3) 0 th = 1
          · simp [c2, m2 c2, a2]
          · simp only [c2, if_false]
            by_cases c3 : cntS (ansM A r (-1) 7) 0 th = 1
            · simp [c3, m3 c3, a3]
            · simp [c3]
