/-! WHAT LORE HOLDS: class against reference -/
/-- a saying fits a thing by a sense -/
def fitB (A : Nat → Nat → Int) (s t i : Nat) : Bool :=
  if A 75 s = 5 then decide (i = 0 ∧ (t : Int) = A 77 s)
  else decide ((i : Int) < A 73 (A 76 s).toNat ∧ ibit (A 72 t) (A 74 (3 * (A 76 s).toNat + i)).toNat = 1 ∧ (A 75 s = 1 → i = 0) ∧ (A 75 s = 2 ∨ A 75 s = 3 → 0 < i) ∧ ¬ (A 75 s = 4 ∧ bsum (A 72 t) 0 24 < A 77 s) ∧ ¬ (A 75 s = 3 ∧ 0 < A 73 (A 76 s).toNat ∧ ibit (A 72 t) (A 74 (3 * (A 76 s).toNat)).toNat = 1))
theorem lst_fst {p : Nat → Bool} {n : Int} (hn : 0 ≤ n ∧ n ≤ 3) : lst p n.toNat (-1) = fstP (fun i => decide ((i : Int) < n) && p i) 0 3 := by
  have : n = 0 ∨ n = 1 ∨ n = 2 ∨ n = 3 := by omega
  rcases this with rfl | rfl | rfl | rfl <;> cases h0 : p 0 <;> cases h1 : p 1 <;> cases h2 : p 2 <;> simp [lst, fstP, h0, h1, h2]
theorem fstP_ext {p q : Nat → Bool} : ∀ (n i : Nat), (∀ j, i ≤ j → j < i + n → p j = q j) → fstP p i n = fstP q i n
  | 0, i, _ => rfl
  | n + 1, i, h => by rw [fstP, fstP, h i (Nat.le_refl i) (by omega), fstP_ext n (i + 1) (fun j h1 h2 => h j (by omega) (by omega))]
theorem bM_fst {A : Nat → Nat → Int} (hI : IMb A) (s t : Nat) (o : Int) : bM A s t o = if A 75 s = 5 then (if (t : Int) = A 77 s then 0 else -1) else fstP (fun i => decide (ibit o i = 1) && fitB A s t i) 0 3 := by
  have a3 := hI.2.2.1 (A 76 s).toNat
  unfold bM byM
  by_cases g5 : A 75 s = 5
  · rw [if_pos g5, if_pos g5]
  · rw [if_neg g5, if_neg g5]
    by_cases gb : (A 75 s = 4 ∧ bsum (A 72 t) 0 24 < A 77 s) ∨ (A 75 s = 3 ∧ 0 < A 73 (A 76 s).toNat ∧ ibit (A 72 t) (A 74 (3 * (A 76 s).toNat)).toNat = 1)
    · rw [if_pos gb, fstP_ext (q := fun _ => false) 3 0]
      · simp [fstP]
      · intro j _ _
        unfold fitB
        rw [if_neg g5]
        rcases gb with gb | gb
        · simp [gb]
        · simp [gb]
    · rw [if_neg gb, lst_fst a3]
      apply fstP_ext
      intro j _ _
      have gb1 : ¬ (A 75 s = 4 ∧ bsum (A 72 t) 0 24 < A 77 s) := fun e => gb (Or.inl e)
      have gb2 : ¬ (A 75 s = 3 ∧ 0 < A 73 (A 76 s).toNat ∧ ibit (A 72 t) (A 74 (3 * (A 76 s).toNat)).toNat = 1) := fun e => gb (Or.inr e)
      unfold fitB mayP
      rw [if_neg g5, ← Bool.decide_and, ← Bool.decide_and]
      apply decide_eq_decide.mpr
      constructor
      · rintro ⟨h1, ⟨h2, h3⟩, h4⟩
        refine ⟨h2, h1, h3, ?_, ?_, gb1, gb2⟩
        · intro k1
          rwa [if_pos k1] at h4
        · intro k2
          rw [if_neg (by omega)] at h4
          omega
      · rintro ⟨h2, h1, h3, h4, h5, -, -⟩
        refine ⟨h1, ⟨h2, h3⟩, ?_⟩
        by_cases k1 : A 75 s = 1
        · rw [if_pos k1]; exact h4 k1
        · rw [if_neg k1]
          omega
/-- some place has p -/
def anyB (p : Nat → Bool) : Nat → Nat → Bool
  | _, 0 => false
  | i, n + 1 => p i || anyB p (i + 1) n
theorem fst_any {p : Nat → Bool} : ∀ (n i : Nat), (fstP p i n = -1) ↔ anyB p i n = false
  | 0, i => by simp [fstP, anyB]
  | n + 1, i => by
    rw [fstP, anyB]
    by_cases h : p i = true
    · rw [if_pos h, h]
      simp
    · rw [if_neg h, fst_any n (i + 1)]
      simp at h
      simp [h]
/-- the tables of Lore but for fittingBy -/
def LC (F A : Nat → Nat → Int) : Prop := IMb A ∧ (0 ≤ F 71 0 ∧ F 71 0 ≤ 12) ∧ (0 ≤ F 71 4 ∧ F 71 4 ≤ 20) ∧ F 3 0 = F 71 0 ∧ F 3 1 = F 71 4 ∧ A 4 = A 72 ∧ A 8 = A 73 ∧ A 7 = A 74 ∧ A 9 = A 75 ∧ A 10 = A 76 ∧ A 11 = A 77 ∧ (∀ j, j < 24 → A 5 j = setS (fun t => decide (ibit (A 72 t) j = 1)) 0 (F 71 0).toNat) ∧ (∀ n, n < 24 → A 6 n = setS (fun t => decide ((n : Int) ≤ bsum (A 72 t) 0 24)) 0 (F 71 0).toNat) ∧ (∀ j, 24 ≤ j → A 5 j = 0 ∧ A 6 j = 0)
def LI (F A : Nat → Nat → Int) : Prop := LC F A ∧ ∀ s i : Nat, (s : Int) < F 71 4 → i < 3 → A 12 (3 * s + i) = setS (fun t => fitB A s t i) 0 (F 71 0).toNat
theorem LC.lo {F A : Nat → Nat → Int} (h : LC F A) : ILo A := by
  obtain ⟨⟨i1, i2, i3, i4, i5, i6, -⟩, h0, h1, e0, e1, e4, e8, e7, e9, e10, e11, h5, h6, h7⟩ := h
  refine ⟨?_, ?_, ?_, ?_, ?_, ?_, ?_, ?_⟩
  · rw [e4]; exact i1
  · intro j
    by_cases g : j < 24
    · rw [h5 j g]; exact setS_12 _ (by omega)
    · rw [(h7 j (by omega)).1]; omega
  · intro j
    by_cases g : j < 24
    · rw [h6 j g]; exact setS_12 _ (by omega)
    · rw [(h7 j (by omega)).2]; omega
  · rw [e7]; exact i2
  · rw [e8]; exact i3
  · rw [e9]; exact i4
  · rw [e10]; exact i5
  · rw [e11]; exact i6
theorem LC.hv {F A : Nat → Nat → Int} (h : LC F A) (w i : Nat) : hvX A w i = setS (fun t => decide ((i : Int) < A 73 w ∧ ibit (A 72 t) (A 74 (3 * w + i)).toNat = 1)) 0 (F 71 0).toNat := by
  obtain ⟨⟨i1, i2, i3, i4, i5, i6, -⟩, h0, h1, e0, e1, e4, e8, e7, e9, e10, e11, h5, h6, h7⟩ := h
  have a := i2 (3 * w + i)
  unfold hvX
  rw [e8, e7]
  by_cases g : (i : Int) < A 73 w
  · rw [if_pos g, h5 _ (by omega)]
    simp only [g, true_and]
  · rw [if_neg g]
    simp only [g, false_and, decide_false]
    exact (setS_none0 _).symm
theorem LC.try {F A : Nat → Nat → Int} (h : LC F A) (s : Nat) {i : Nat} (hi : i < 3) : tryX F A s i = setS (fun t => fitB A s t i) 0 (F 71 0).toNat := by
  have hv := h.hv
  obtain ⟨⟨i1, i2, i3, i4, i5, i6, -⟩, h0, h1, e0, e1, e4, e8, e7, e9, e10, e11, h5, h6, h7⟩ := h
  have a4 := i4 s
  have a6 := i6 s
  unfold tryX
  rw [e9, e10, e11, e0, hv, hv]
  have hk : A 75 s = 0 ∨ A 75 s = 1 ∨ A 75 s = 2 ∨ A 75 s = 3 ∨ A 75 s = 4 ∨ A 75 s = 5 := by omega
  rcases hk with k | k | k | k | k | k
  · rw [k, if_neg (by omega), if_neg (by omega), if_neg (by omega), if_neg (by omega), if_neg (by omega)]
    apply setS_ext
    intro t _ _
    unfold fitB
    simp [k]
  · rw [k, if_pos rfl]
    by_cases g : i = 0
    · rw [if_pos g]
      apply setS_ext
      intro t _ _
      unfold fitB
      simp [k, g]
    · rw [if_neg g, ← setS_none0 (F 71 0).toNat]
      apply setS_ext
      intro t _ _
      unfold fitB
      simp [k, g]
  · rw [k, if_neg (by omega), if_pos rfl]
    by_cases g : 0 < i
    · rw [if_pos g]
      apply setS_ext
      intro t _ _
      unfold fitB
      simp [k, g]
    · rw [if_neg g, ← setS_none0 (F 71 0).toNat]
      apply setS_ext
      intro t _ _
      unfold fitB
      simp [k, g]
  · rw [k, if_neg (by omega), if_neg (by omega), if_pos rfl]
    by_cases g : 0 < i
    · rw [if_pos g, dif_SS]
      apply setS_ext
      intro t _ _
      unfold fitB
      by_cases c1 : (i : Int) < A 73 (A 76 s).toNat
      · simp [k, g, c1]
      · simp [k, g, c1]
    · rw [if_neg g, ← setS_none0 (F 71 0).toNat]
      apply setS_ext
      intro t _ _
      unfold fitB
      simp [k, g]
  · rw [k, if_neg (by omega), if_neg (by omega), if_neg (by omega), if_pos rfl, h6 _ (by omega), and_SS]
    apply setS_ext
    intro t _ _
    unfold fitB
    rw [show (((A 77 s).toNat : Nat) : Int) = A 77 s by omega]
    simp [k, and_assoc, Bool.and_assoc]
  · rw [k, if_neg (by omega), if_neg (by omega), if_neg (by omega), if_neg (by omega), if_pos rfl]
    by_cases g : i = 0 ∧ A 77 s < F 71 0
    · rw [if_pos g, ← setS_one (n := (F 71 0).toNat) (by omega)]
      apply setS_ext
      intro t _ _
      unfold fitB
      rw [if_pos k]
      apply decide_eq_decide.mpr
      omega
    · rw [if_neg g, ← setS_none0 (F 71 0).toNat]
      apply setS_ext
      intro t _ h2
      unfold fitB
      rw [if_pos k]
      symm
      apply decide_eq_false
      omega
theorem tryX_congr {F F' A A' : Nat → Nat → Int} (hF : F 3 0 = F' 3 0) (hA : ∀ a, 5 ≤ a → a ≤ 11 → A a = A' a) (s i : Nat) : tryX F A s i = tryX F' A' s i := by
  unfold tryX hvX
  rw [hA 5 (by omega) (by omega), hA 6 (by omega) (by omega), hA 7 (by omega) (by omega), hA 8 (by omega) (by omega), hA 9 (by omega) (by omega), hA 10 (by omega) (by omega), hA 11 (by omega) (by omega), hF]
theorem LC.li {F A : Nat → Nat → Int} (h : LC F A) (hf : ∀ j : Nat, (j : Int) < 3 * F 71 4 → A 12 j = tryX F A (j / 3) (j % 3)) : LI F A := by
  refine ⟨h, fun s i hs hi => ?_⟩
  rw [hf (3 * s + i) (by omega), show (3 * s + i) / 3 = s by omega, show (3 * s + i) % 3 = i by omega]
  exact h.try s hi
