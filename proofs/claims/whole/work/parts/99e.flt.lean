theorem goM_cg {F F' A A' : Nat → Nat → Int} {c : Int} (h71 : F' 71 = F 71) (h89 : A' 89 = A 89) (h90 : A' 90 = A 90) (h91 : A' 91 = A 91) : (goM F' A' c).1 = (goM F A c).1 ∧ (goM F' A' c).2.1 71 = (goM F A c).2.1 71 ∧ (goM F' A' c).2.2 89 = (goM F A c).2.2 89 ∧ (goM F' A' c).2.2 90 = (goM F A c).2.2 90 ∧ (goM F' A' c).2.2 91 = (goM F A c).2.2 91 := by
  have e1 : ∀ (F A : Nat → Nat → Int) l, ndA F A l 89 = uq (A 89) (F 71 29).toNat (F 71 27) := fun F A l => by unfold ndA; rw [u2_a (by omega), u2_a (by omega), u2_b]
  have e2 : ∀ (F A : Nat → Nat → Int) l, ndA F A l 90 = uq (A 90) (F 71 29).toNat l := fun F A l => by unfold ndA; rw [u2_a (by omega), u2_b, u2_a (by omega)]
  have e3 : ∀ (F A : Nat → Nat → Int) l, ndA F A l 91 = uq (A 91) (F 71 29).toNat 0 := fun F A l => by unfold ndA; rw [u2_b, u2_a (by omega), u2_a (by omega)]
  have e4 : ∀ (A : Nat → Nat → Int) n, enA A n 89 = A 89 := fun A n => by
    unfold enA; split
    · rfl
    · rw [u2_a (by omega)]
  have e5 : ∀ (A : Nat → Nat → Int) n, enA A n 90 = A 90 := fun A n => by
    unfold enA; split
    · rfl
    · rw [u2_a (by omega)]
  have e6 : ∀ (A : Nat → Nat → Int) n, enA A n 91 = if A 89 n.toNat = -1 then A 91 else uq (A 91) (A 89 n.toNat).toNat (A 91 (A 89 n.toNat).toNat + 1) := fun A n => by
    unfold enA; split
    · rfl
    · rw [u2_b]
  have e7 : ∀ (F : Nat → Nat → Int), ndF F 71 = uq (F 71) 29 (F 71 29 + 1) := fun F => by unfold ndF; rw [u2_b]
  have e8 : ∀ (F A : Nat → Nat → Int) n, enF F A n 71 = uq (uq (F 71) 26 0) 27 (A 89 n.toNat) := fun F A n => by unfold enF; rw [u2_b, u2_b]
  unfold goM
  rw [h71, h91]
  repeat' split
  all_goals simp (disch := omega) only [u2_b, e1, e2, e3, e4, e5, e6, e7, e8, h71, h89, h90, h91, true_and, and_self]
theorem rdM_cg {P : Nat → Int} : ∀ (n i : Nat) {F F' A A' : Nat → Nat → Int}, F' 71 = F 71 → A' 89 = A 89 → A' 90 = A 90 → A' 91 = A 91 → (rdM P F' A' i n).1 = (rdM P F A i n).1 ∧ (rdM P F' A' i n).2.1 71 = (rdM P F A i n).2.1 71 ∧ (rdM P F' A' i n).2.2 89 = (rdM P F A i n).2.2 89 ∧ (rdM P F' A' i n).2.2 90 = (rdM P F A i n).2.2 90 ∧ (rdM P F' A' i n).2.2 91 = (rdM P F A i n).2.2 91
  | 0, i, F, F', A, A', h71, h89, h90, h91 => ⟨rfl, h71, h89, h90, h91⟩
  | n + 1, i, F, F', A, A', h71, h89, h90, h91 => by
    obtain ⟨g1, g2, g3, g4, g5⟩ := goM_cg (c := P i) h71 h89 h90 h91
    rw [rdM, rdM, g1]
    split
    · exact rdM_cg n (i + 1) g2 g3 g4 g5
    · exact ⟨rfl, g2, g3, g4, g5⟩
theorem flt_cg {F F' A A' : Nat → Nat → Int} (h71 : F' 71 = F 71) (h85 : A' 85 = A 85) (h89 : A' 89 = A 89) (h90 : A' 90 = A 90) (h91 : A' 91 = A 91) : (fltM F' A').1 = (fltM F A).1 ∧ (fltM F' A').2.1 71 = (fltM F A).2.1 71 ∧ (fltM F' A').2.2 89 = (fltM F A).2.2 89 ∧ (fltM F' A').2.2 90 = (fltM F A).2.2 90 ∧ (fltM F' A').2.2 91 = (fltM F A).2.2 91 := by
  unfold fltM
  rw [h85, h71]
  refine rdM_cg _ _ ?_ h89 h90 h91
  unfold st0
  simp only [u2_b, h71]
