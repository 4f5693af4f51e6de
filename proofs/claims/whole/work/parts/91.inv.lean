/-! THE INVARIANT -/
def SF (A : Nat → Nat → Int) : Prop := (∀ w, w < 16 → A 15 w = 7) ∧ (∀ w, 0 ≤ A 15 w ∧ A 15 w ≤ 7) ∧ (∀ w, w < 16 → A 24 w = 7) ∧ (∀ w, 0 ≤ A 24 w ∧ A 24 w ≤ 7)
def PX (F A : Nat → Nat → Int) : Prop := F 48 1 = F 71 21 ∧ (0 ≤ F 71 21 ∧ F 71 21 ≤ 40) ∧ A 49 = A 85 ∧ (∀ i, 0 ≤ A 85 i ∧ A 85 i ≤ 255)
def VX (A : Nat → Nat → Int) : Prop := A 62 = A 88 ∧ (∀ i, -1 ≤ A 88 i ∧ A 88 i ≤ 7)
def KX (A : Nat → Nat → Int) : Prop := A 51 = A 97 ∧ (∀ i, 0 ≤ A 97 i ∧ A 97 i ≤ 999)
def NX (F : Nat → Nat → Int) : Prop := F 2 12 = F 71 11 ∧ (0 ≤ F 71 11 ∧ F 71 11 ≤ 20) ∧ F 2 13 = F 71 36 ∧ (0 ≤ F 71 36 ∧ F 71 36 ≤ 12)
def IB (F A : Nat → Nat → Int) : Prop := LI F A ∧ RX F A ∧ HX F A ∧ TX F A ∧ SF A ∧ PX F A ∧ VX A ∧ KX A ∧ NX F
/-- the tree that is told -/
def TT (F A : Nat → Nat → Int) (t : Nat) : Prop := F t 3 = F 71 22 ∧ (0 ≤ F 71 22 ∧ F 71 22 ≤ 40) ∧ (∀ i, -1 ≤ A 86 i ∧ A 86 i ≤ 39) ∧ (∀ i, -1 ≤ A 87 i ∧ A 87 i ≤ 7) ∧ (0 ≤ F t 6 ∧ F t 6 ≤ 1) ∧ (-1 ≤ F t 5 ∧ F t 5 ≤ 39) ∧ ((F t 6 = 0 ∧ F t 5 = -1) ↔ 0 < F 71 22) ∧ (0 < F 71 22 → A 86 0 = -1 ∧ (∀ k : Nat, 1 ≤ k → (k : Int) < F 71 22 → 0 ≤ A 86 k ∧ A 86 k < k) ∧ (∀ x : Nat, (x : Int) < F 71 22 → A (t + 1) x = A 86 x ∧ A (t + 2) x = A 87 x) ∧ (∀ j k : Nat, (j : Int) < F 71 22 → (k : Int) < F 71 22 → A 87 j = A 87 k → ¬ A 87 j = -1 → j = k) ∧ (0 ≤ F t 4 ∧ F t 4 < 256) ∧ (∀ l : Nat, ibit (F t 4) l = 1 ↔ ∃ k : Nat, (k : Int) < F 71 22 ∧ A 87 k = l))
/-- ranges of what is scratch -/
def SC (A : Nat → Nat → Int) : Prop := (∀ i, -1 ≤ A 29 i ∧ A 29 i ≤ 11) ∧ (∀ i, 0 ≤ A 54 i ∧ A 54 i ≤ 100000) ∧ (∀ i, -1 ≤ A 58 i ∧ A 58 i ≤ 7) ∧ (∀ i, 0 ≤ A 92 i ∧ A 92 i ≤ 100000) ∧ (∀ i, 0 ≤ A 91 i ∧ A 91 i ≤ 40) ∧ (∀ i, -1 ≤ A 89 i ∧ A 89 i ≤ 39) ∧ (∀ i, -1 ≤ A 90 i ∧ A 90 i ≤ 7)
def T2 (t1 t2 : Nat) : Prop := (t1 = 63 ∧ t2 = 67) ∨ (t1 = 67 ∧ t2 = 63)
def INV (F A : Nat → Nat → Int) (t1 t2 : Nat) : Prop := IB F A ∧ TT F A t1 ∧ T2 t1 t2 ∧ SC A
theorem IB_cg {F F' A A' : Nat → Nat → Int} (hF : EF F F') (h : EQ A A') (hI : IB F A) : IB F' A' := by
  obtain ⟨a1, a2, a3, a4, a5, a6, a7, a8, a9⟩ := hI
  refine ⟨LI_cg hF h a1, RX_cg hF h a2, HX_cg hF h a3, TX_cg hF h a4, ?_, ?_, ?_, ?_, ?_⟩
  · unfold SF
    rw [h 15 (by unfold NS; omega), h 24 (by unfold NS; omega)]; exact a5
  · unfold PX
    rw [hF 48 1 (by unfold NF; omega), hF 71 21 (by unfold NF; omega), h 49 (by unfold NS; omega), h 85 (by unfold NS; omega)]; exact a6
  · unfold VX
    rw [h 62 (by unfold NS; omega), h 88 (by unfold NS; omega)]; exact a7
  · unfold KX
    rw [h 51 (by unfold NS; omega), h 97 (by unfold NS; omega)]; exact a8
  · unfold NX
    rw [hF 2 12 (by unfold NF; omega), hF 2 13 (by unfold NF; omega), hF 71 11 (by unfold NF; omega), hF 71 36 (by unfold NF; omega)]; exact a9
theorem TT_cg {F F' A A' : Nat → Nat → Int} {t : Nat} (hF : ∀ k, F' t k = F t k) (hn : F' 71 22 = F 71 22) (h1 : A' (t + 1) = A (t + 1)) (h2 : A' (t + 2) = A (t + 2)) (h86 : A' 86 = A 86) (h87 : A' 87 = A 87) (h : TT F A t) : TT F' A' t := by
  unfold TT
  rw [hF, hF, hF, hF, hn, h1, h2, h86, h87]
  exact h
/-- what a call does: the answer is z, and the state behind it is one of P -/
def Out (L : Nat) (xs : Nat → Int32) (q : Nat) (as : List Value) (H : am_H) (z : Value) (P : (Nat → Nat → Int) → (Nat → Nat → Int) → (Nat → Int64) → Int64 → Nat → Nat → Prop) : Prop := ∀ (d : Nat) (Q : Option Value → am_H → Prop), (∀ F A B hs t1 t2, P F A B hs t1 t2 → Q (some z) (HW L xs F A B hs t1 t2)) → Rj (d + 30) q 0 as [] H Q
/-- a call of the class and the same of the reference: the same answer, and the invariant behind them -/
def Cal (L : Nat) (xs : Nat → Int32) (qx qm : Nat) (ax am : List Value) (H : am_H) : Prop := ∃ (z : Value) (P : (Nat → Nat → Int) → (Nat → Nat → Int) → (Nat → Int64) → Int64 → Nat → Nat → Prop), (∃ y : Int, z = .int (jI y)) ∧ Out L xs qx ax H z P ∧ ∀ F A B hs t1 t2, P F A B hs t1 t2 → Out L xs qm am (HW L xs F A B hs t1 t2) z (fun F A _ _ t1 t2 => INV F A t1 t2)
section CAL
variable {L : Nat} {xs : Nat → Int32} {F A F1 A1 F2 A2 : Nat → Nat → Int} {B B1 B2 : Nat → Int64} {hs hs1 hs2 : Int64} {t1 t2 u1 u2 v1 v2 : Nat} {qx qm : Nat} {ax am : List Value} {H : am_H}
theorem Cal_mk (z : Int) (h1 : ∀ d Q, Rj (d + 30) qx 0 ax [] H Q = Q (some (.int (jI z))) (HW L xs F1 A1 B1 hs1 u1 u2)) (h2 : ∀ d Q, Rj (d + 30) qm 0 am [] (HW L xs F1 A1 B1 hs1 u1 u2) Q = Q (some (.int (jI z))) (HW L xs F2 A2 B2 hs2 v1 v2)) (hI : INV F2 A2 v1 v2) : Cal L xs qx qm ax am H := by
  refine ⟨.int (jI z), fun F A B hs t1 t2 => F = F1 ∧ A = A1 ∧ B = B1 ∧ hs = hs1 ∧ t1 = u1 ∧ t2 = u2, ⟨z, rfl⟩, ?_, ?_⟩
  · intro d Q h
    rw [h1]
    exact h F1 A1 B1 hs1 u1 u2 ⟨rfl, rfl, rfl, rfl, rfl, rfl⟩
  · rintro F A B hs t1 t2 ⟨rfl, rfl, rfl, rfl, rfl, rfl⟩ d Q h
    rw [h2]
    exact h _ _ _ _ _ _ hI
end CAL
