/-! THE INVARIANT HOLDS AT THE START -/
theorem F0w_z {o k : Nat} (h : ¬ (o = 63 ∨ o = 67)) : F0w o k = 0 := by
  unfold F0w
  rw [if_neg h]
theorem F0w_3 : F0w 63 3 = 0 := rfl
theorem F0w_5 : F0w 63 5 = -1 := rfl
theorem F0w_6 : F0w 63 6 = 1 := rfl
theorem setS_00 (p : Nat → Bool) : setS p 0 (0 : Int).toNat = 0 := rfl
theorem LI_0 : LI F0w A0 := by
  unfold LI LC IMb
  simp (disch := omega) only [A0_z, F0w_z, setS_00]
  refine ⟨⟨⟨?_, ?_, ?_, ?_, ?_, ?_, ?_, ?_⟩, ?_, ?_, ?_, ?_, ?_, ?_, ?_, ?_, ?_, ?_, ?_, ?_, ?_⟩, ?_⟩
  all_goals first | trivial | (intros; omega) | (intros; trivial) | omega | (intro i; exact ⟨by omega, by omega⟩) | (intros; exact ⟨rfl, rfl⟩) | (intros; rfl)
theorem RX_0 : RX F0w A0 := by
  unfold RX
  simp (disch := omega) only [A0_z, F0w_z]
  refine ⟨trivial, by omega, trivial, trivial, ?_, ?_, ?_⟩
  · intro r h; omega
  · intro r _; trivial
  · intro r i h; omega
theorem HX_0 : HX F0w A0 := by
  unfold HX
  refine ⟨by simp (disch := omega) only [F0w_z], by simp (disch := omega) only [F0w_z]; omega, by simp (disch := omega) only [A0_z], by simp (disch := omega) only [A0_z], ?_, ?_, ?_⟩
  · intro i
    simp (disch := omega) only [A0_z]
    omega
  · intro st w h1 h2
    rcases (show st = 0 ∨ st = 1 ∨ st = 2 ∨ st = 3 by omega) with rfl | rfl | rfl | rfl
    · show A0 31 w = _
      rw [A0_z (by omega)]; rfl
    · show A0 33 w = _
      rw [A0_33]; simp only [if_pos h2]; rfl
    · show A0 35 w = _
      rw [A0_35]; simp only [if_pos h2]; rfl
    · show A0 37 w = _
      rw [A0_7 (by omega)]; simp only [if_pos h2]; rfl
  · intro st w h1
    rcases (show st = 0 ∨ st = 1 ∨ st = 2 ∨ st = 3 by omega) with rfl | rfl | rfl | rfl
    · show 0 ≤ A0 31 w ∧ A0 31 w ≤ 7
      rw [A0_z (by omega)]; dsimp only; omega
    · show 0 ≤ A0 33 w ∧ A0 33 w ≤ 7
      rw [A0_33]; dsimp only; split <;> omega
    · show 0 ≤ A0 35 w ∧ A0 35 w ≤ 7
      rw [A0_35]; dsimp only; split <;> omega
    · show 0 ≤ A0 37 w ∧ A0 37 w ≤ 7
      rw [A0_7 (by omega)]; dsimp only; split <;> omega
theorem TX_0 : TX F0w A0 := by
  unfold TX
  refine ⟨by simp (disch := omega) only [F0w_z], by simp (disch := omega) only [F0w_z]; omega, ?_, ?_, ?_⟩
  · intro i
    simp (disch := omega) only [A0_z]
    omega
  · intro g w h1 h2
    rw [A0_7 (by omega), A0_z (by omega)]
    simp only [if_pos h2]
    rfl
  · intro g w h1
    rw [A0_7 (by omega)]
    dsimp only
    split <;> omega
theorem SF_0 : SF A0 := by
  unfold SF
  rw [A0_7 (j := 15) (by omega), A0_7 (j := 24) (by omega)]
  refine ⟨fun w h => by simp only [if_pos h], fun w => by dsimp only; split <;> omega, fun w h => by simp only [if_pos h], fun w => by dsimp only; split <;> omega⟩
theorem PX_0 : PX F0w A0 := by
  unfold PX
  simp (disch := omega) only [A0_z, F0w_z]
  refine ⟨trivial, by omega, trivial, fun i => by omega⟩
theorem VX_0 : VX A0 := by
  unfold VX
  rw [A0_v (j := 62) (by omega), A0_v (j := 88) (by omega)]
  refine ⟨rfl, fun i => by dsimp only; split <;> omega⟩
theorem KX_0 : KX A0 := by
  unfold KX
  simp (disch := omega) only [A0_z]
  refine ⟨trivial, fun i => by omega⟩
theorem NX_0 : NX F0w := by
  unfold NX
  simp (disch := omega) only [F0w_z]
  refine ⟨trivial, by omega, trivial, by omega⟩
theorem TT_0 : TT F0w A0 63 := by
  unfold TT
  simp (disch := omega) only [A0_z, F0w_z, F0w_3, F0w_5, F0w_6]
  refine ⟨trivial, by omega, fun i => by omega, fun i => by omega, by omega, by omega, by omega, fun h => by omega⟩
theorem SC_0 : SC A0 := by
  unfold SC
  simp (disch := omega) only [A0_z]
  refine ⟨fun i => by omega, fun i => by omega, fun i => by omega, fun i => by omega, fun i => by omega, fun i => by omega, fun i => by omega⟩
theorem INV0 : INV F0w A0 63 67 := ⟨⟨LI_0, RX_0, HX_0, TX_0, SF_0, PX_0, VX_0, KX_0, NX_0⟩, TT_0, Or.inl ⟨rfl, rfl⟩, SC_0⟩
