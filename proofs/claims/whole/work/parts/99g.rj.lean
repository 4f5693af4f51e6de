/-! THE TREE THAT IS READ: parents before children, lands once -/
def RK (n us : Int) (par land : Nat → Int) : Prop := 0 ≤ n ∧ (0 < n → par 0 = -1) ∧ (∀ k : Nat, 1 ≤ k → (k : Int) < n → 0 ≤ par k ∧ par k < k) ∧ (∀ j k : Nat, (j : Int) < n → (k : Int) < n → land j = land k → ¬ land j = -1 → j = k) ∧ (0 ≤ us ∧ us < 256) ∧ (∀ l : Nat, ibit us l = 1 ↔ ∃ k : Nat, (k : Int) < n ∧ land k = l)
def RJ (G C : Nat → Nat → Int) : Prop := RK (G 71 29) (G 71 28) (C 89) (C 90) ∧ (-1 ≤ G 71 27 ∧ G 71 27 < G 71 29) ∧ (0 < G 71 29 → ¬ G 71 26 = 0 → 0 ≤ G 71 27) ∧ (G 71 29 = 0 → ¬ G 71 26 = 0)
theorem RK_add {n us ins l us' : Int} {par land : Nat → Int} (h : RK n us par land) (hi : -1 ≤ ins ∧ ins < n) (h0 : 0 < n → 0 ≤ ins) (hl : (l = -1 ∧ us' = us) ∨ ((0 ≤ l ∧ l ≤ 7) ∧ ibit us l.toNat = 0 ∧ us' = us + 2 ^ l.toNat)) : RK (n + 1) us' (uq par n.toNat ins) (uq land n.toNat l) := by
  obtain ⟨a1, a2, a3, a4, a5, a6⟩ := h
  have old : ∀ k : Nat, (k : Int) < n → uq land n.toNat l k = land k := fun k hk => uq_n (by omega)
  have oldp : ∀ k : Nat, (k : Int) < n → uq par n.toNat ins k = par k := fun k hk => uq_n (by omega)
  have new : uq land n.toNat l n.toNat = l := uq_s
  have newp : uq par n.toNat ins n.toNat = ins := uq_s
  have nol : ¬ l = -1 → ∀ k : Nat, (k : Int) < n → ¬ land k = l := by
    intro g k hk e
    rcases hl with ⟨e1, -⟩ | ⟨g1, g2, -⟩
    · exact g e1
    · have := (a6 l.toNat).mpr ⟨k, hk, by omega⟩
      omega
  refine ⟨by omega, fun _ => ?_, fun k h1 h2 => ?_, fun j k h1 h2 e1 e2 => ?_, ?_, fun x => ?_⟩
  · by_cases g : n = 0
    · rw [show (0 : Nat) = n.toNat by omega, newp]; omega
    · rw [oldp 0 (by omega)]; exact a2 (by omega)
  · by_cases g : (k : Int) = n
    · rw [show k = n.toNat by omega, newp]; omega
    · rw [oldp k (by omega)]; exact a3 k h1 (by omega)
  · by_cases g1 : (j : Int) = n
    · by_cases g2 : (k : Int) = n
      · omega
      · rw [show j = n.toNat by omega, new] at e1 e2
        rw [old k (by omega)] at e1
        exact absurd e1.symm (nol e2 k (by omega))
    · by_cases g2 : (k : Int) = n
      · rw [old j (by omega)] at e1 e2
        rw [show k = n.toNat by omega, new] at e1
        exact absurd e1 (nol (by omega) j (by omega))
      · rw [old j (by omega)] at e1 e2
        rw [old k (by omega)] at e1
        exact a4 j k (by omega) (by omega) e1 e2
  · rcases hl with ⟨-, e⟩ | ⟨g1, g2, e⟩
    · rw [e]; exact a5
    · rw [e]; exact or_8r a5 (by omega) g2
  · have ex : (∃ k : Nat, (k : Int) < n + 1 ∧ uq land n.toNat l k = x) ↔ (∃ k : Nat, (k : Int) < n ∧ land k = x) ∨ l = x := by
      constructor
      · rintro ⟨k, h1, h2⟩
        by_cases g : (k : Int) = n
        · rw [show k = n.toNat by omega, new] at h2
          exact Or.inr h2
        · rw [old k (by omega)] at h2
          exact Or.inl ⟨k, by omega, h2⟩
      · rintro (⟨k, h1, h2⟩ | h2)
        · exact ⟨k, by omega, by rw [old k h1]; exact h2⟩
        · exact ⟨n.toNat, by omega, by rw [new]; exact h2⟩
    rw [ex, ← a6 x]
    rcases hl with ⟨e1, e⟩ | ⟨g1, g2, e⟩
    · rw [e]
      constructor
      · exact Or.inl
      · rintro (h | h)
        · exact h
        · omega
    · have p0 : (0 : Int) ≤ 2 ^ l.toNat := Int.le_of_lt (pow_pos2 _)
      have eb : ibit ((2 : Int) ^ l.toNat) x = if x = l.toNat then 1 else 0 := by
        rw [← setS_one (Nat.lt_succ_self l.toNat), ibit_S]
        by_cases g : x = l.toNat
        · subst g; simp
        · simp [g]
      rw [e, ← or_8 a5 (by omega) g2, ibit_or a5.1 p0, eb]
      by_cases g : x = l.toNat
      · have : l = (x : Int) := by omega
        simp [g]
        right; omega
      · have : ¬ l = (x : Int) := by omega
        rcases ibit_01 us x with b | b <;> simp [g, b, this]
theorem RJ_go {G C : Nat → Nat → Int} {c : Int} (h : RJ G C) : RJ (goM G C c).2.1 (goM G C c).2.2 := by
  have e1 : ∀ (F A : Nat → Nat → Int) l, ndA F A l 89 = uq (A 89) (F 71 29).toNat (F 71 27) := fun F A l => by unfold ndA; rw [u2_a (by omega), u2_a (by omega), u2_b]
  have e2 : ∀ (F A : Nat → Nat → Int) l, ndA F A l 90 = uq (A 90) (F 71 29).toNat l := fun F A l => by unfold ndA; rw [u2_a (by omega), u2_b, u2_a (by omega)]
  have e4 : ∀ (A : Nat → Nat → Int) n, enA A n 89 = A 89 := fun A n => by
    unfold enA; split
    · rfl
    · rw [u2_a (by omega)]
  have e5 : ∀ (A : Nat → Nat → Int) n, enA A n 90 = A 90 := fun A n => by
    unfold enA; split
    · rfl
    · rw [u2_a (by omega)]
  obtain ⟨k, hi, hd, h0⟩ := id h
  have k0 := k.1
  unfold goM
  split
  · rename_i due
    split
    · have add := RK_add (l := -1) k hi (fun g => hd g due) (Or.inl ⟨rfl, rfl⟩)
      unfold RJ ndF
      dsimp only
      rw [u2_n (by omega), u2_s, u2_n (by omega), u2_n (by omega), u2_s, u2_n (by omega), u2_n (by omega), e1, e2]
      exact ⟨add, by omega, fun _ _ => by omega, fun _ => due⟩
    · split
      · rename_i g
        have add := RK_add (l := c - 97) k hi (fun g => hd g due) (Or.inr ⟨by omega, g.2, rfl⟩)
        unfold RJ enF ndF
        dsimp only
        rw [e4, e5, e1, e2]
        have u9 : uq (C 89) (G 71 29).toNat (G 71 27) (G 71 29).toNat = G 71 27 := uq_s
        rw [u9]
        simp (disch := omega) only [u2_s, u2_n]
        exact ⟨add, by omega, fun _ g => absurd trivial g, fun g => by omega⟩
      · exact h
  · rename_i due
    split
    · exact h
    · rename_i g1
      split
      · unfold RJ enF
        dsimp only
        rw [e4, e5]
        simp (disch := omega) only [u2_s, u2_n]
        have p1 := k.2.1 (by omega)
        have p2 := k.2.2.1 (G 71 27).toNat
        refine ⟨k, ?_, fun _ g => absurd trivial g, fun g => by omega⟩
        by_cases g2 : G 71 27 = 0
        · rw [g2, show (0 : Int).toNat = 0 from rfl, p1]; omega
        · have := p2 (by omega) (by omega)
          omega
      · unfold RJ
        dsimp only
        simp (disch := omega) only [u2_s, u2_n]
        exact ⟨k, hi, fun _ _ => by omega, fun _ => by omega⟩
theorem RJ_rd {P : Nat → Int} : ∀ (n i : Nat) (F A : Nat → Nat → Int), RJ F A → RJ (rdM P F A i n).2.1 (rdM P F A i n).2.2
  | 0, i, F, A, h => h
  | n + 1, i, F, A, h => by
    rw [rdM]
    split
    · exact RJ_rd n (i + 1) _ _ (RJ_go h)
    · exact RJ_go h
theorem RJ_flt (F A : Nat → Nat → Int) : RJ (fltM F A).2.1 (fltM F A).2.2 := by
  unfold fltM
  refine RJ_rd _ _ _ _ ?_
  unfold RJ st0 RK
  simp (disch := omega) only [u2_s, u2_n]
  refine ⟨⟨by omega, fun h => by omega, fun k _ h => by omega, fun j k h => by omega, by omega, fun l => ?_⟩, by omega, fun h => by omega, fun _ => by omega⟩
  have : ibit 0 l = 0 := by unfold ibit; simp
  rw [this]
  constructor
  · intro h; omega
  · rintro ⟨k, h, -⟩; omega
