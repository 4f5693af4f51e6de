/-! THE WORLD BEHIND THE CONSTRUCTORS -/
theorem A0_z {j : Nat} (h : ¬ (j = 15 ∨ j = 24 ∨ j = 37 ∨ j = 41 ∨ j = 43 ∨ j = 45 ∨ j = 47 ∨ j = 33 ∨ j = 35 ∨ j = 62 ∨ j = 88)) : A0 j = fun _ => 0 := by
  funext i
  unfold A0
  rw [if_neg (by omega), if_neg (by omega), if_neg (by omega), if_neg (by omega)]
theorem A0_7 {j : Nat} (h : j = 15 ∨ j = 24 ∨ j = 37 ∨ j = 41 ∨ j = 43 ∨ j = 45 ∨ j = 47) : A0 j = fun i => if i < 16 then 7 else 0 := by
  funext i
  unfold A0
  rw [if_pos h]
theorem A0_33 : A0 33 = fun i => if i < 16 then 1 else 0 := by
  funext i
  unfold A0
  rw [if_neg (by omega), if_pos rfl]
theorem A0_35 : A0 35 = fun i => if i < 16 then 3 else 0 := by
  funext i
  unfold A0
  rw [if_neg (by omega), if_neg (by omega), if_pos rfl]
theorem A0_v {j : Nat} (h : j = 62 ∨ j = 88) : A0 j = fun i => if i < 8 then -1 else 0 := by
  funext i
  unfold A0
  rw [if_neg (by omega), if_neg (by omega), if_neg (by omega), if_pos h]
theorem A0_0 : A0 31 = fun i => if i < 16 then 0 else 0 := by
  rw [A0_z (by omega)]
  funext i
  rw [ite_self]
section WRL
variable {L : Nat} {xs : Nat → Int32} {F A : Nat → Nat → Int} {B : Nat → Int64} {hs : Int64} {t1 t2 : Nat}
theorem wc_z {j n : Nat} (he : WT.getD j (9, 0, []) = (0, n, [])) (hz : A j = fun _ => 0) : zA n = wcell L xs F A B hs t1 t2 j (WT.getD j (9, 0, [])) := by
  rw [he]
  show _ = Sum.inl (0, n, Sum.inl (fun i => jI (A j i)))
  rw [hz]
  rfl
theorem wc_f {j n : Nat} {z : Int} (he : WT.getD j (9, 0, []) = (0, n, [])) (hz : A j = fun i => if i < n then z else 0) : fA n z = wcell L xs F A B hs t1 t2 j (WT.getD j (9, 0, [])) := by
  rw [he]
  show _ = Sum.inl (0, n, Sum.inl (fun i => jI (A j i)))
  rw [hz]
  rfl
theorem wc_r {f : Nat → Option Nat} {j n : Nat} {l : List (Nat × Nat)} (he : WT.getD j (9, 0, []) = (3, n, l)) (hz : f = fun i => (l[i]?).map (fun c => c.2)) : rA n f = wcell L xs F A B hs t1 t2 j (WT.getD j (9, 0, [])) := by
  rw [he, hz]
  rfl
end WRL
theorem r4 {a b c d : Nat} : va_up (va_up (va_up (va_up (fun _ => (none : Option Nat)) 0 (some a)) 1 (some b)) 2 (some c)) 3 (some d) = fun i => ([((1, a) : Nat × Nat), (1, b), (1, c), (1, d)][i]?).map (fun c => c.2) := by
  funext i
  match i with
  | 0 => rfl
  | 1 => rfl
  | 2 => rfl
  | 3 => rfl
  | i + 4 =>
    rw [up_ne (by omega), up_ne (by omega), up_ne (by omega), up_ne (by omega)]
    rfl
set_option maxRecDepth 20000 in
set_option maxHeartbeats 8000000 in
theorem i_world (L : Nat) (xs : Nat → Int32) : ((99, 10264, (va_up (va_up (va_up (va_up (va_up (va_up (va_up (va_up (va_up (va_up (va_up (va_up (va_up (va_up (va_up (va_up (va_up (va_up (va_up (va_up (va_up (va_up (va_up (va_up (va_up (va_up (va_up (va_up (va_up (va_up (va_up (va_up (va_up (va_up (va_up (va_up (va_up (va_up (va_up (va_up (va_up (va_up (va_up (va_up (va_up (va_up (va_up (va_up (va_up (va_up (va_up (va_up (va_up (va_up (va_up (va_up (va_up (va_up (va_up (va_up (va_up (va_up (va_up (va_up (va_up (va_up (va_up (va_up (va_up (va_up (va_up (va_up (va_up (va_up (va_up (va_up (va_up (va_up (va_up (va_up (va_up (va_up (va_up (va_up (va_up (va_up (va_up (va_up (va_up (va_up (va_up (va_up (va_up (va_up (va_up (va_up (va_up (f0 L xs) 2 (.inr (11, [.ref 3, .ref 13, .ref 18, .ref 25, .ref 38, .ref 48, .ref 50, .ref 53, .ref 57, .ref 62, .ref 63, .ref 67, .int (jI (0)), .int (jI (0))]))) 3 (.inr (3, [.int (jI (0)), .int (jI (0)), .ref 4, .ref 5, .ref 6, .ref 7, .ref 8, .ref 9, .ref 10, .ref 11, .ref 12]))) 4 (zA 12)) 5 (zA 24)) 6 (zA 24)) 7 (zA 48)) 8 (zA 16)) 9 (zA 20)) 10 (zA 20)) 11 (zA 20)) 12 (zA 60)) 13 (.inr (6, [.ref 3, .ref 14, .ref 16, .ref 17, .int (jI (0))]))) 14 (.inr (7, [.ref 15]))) 15 (fA 16 (7))) 16 (zA 60)) 17 (zA 10)) 18 (.inr (4, [.ref 19, .ref 20, .ref 21, .ref 22, .ref 23, .int 0, .int 0, .int 0, .int 0]))) 19 (zA 20)) 20 (zA 20)) 21 (zA 20)) 22 (zA 21)) 23 (.inr (7, [.ref 24]))) 24 (fA 16 (7))) 25 (.inr (2, [.ref 13, .ref 26, .ref 27, .ref 28, .ref 29, .int (jI (0))]))) 26 (rA 4 (va_up (va_up (va_up (va_up (fun _ => none) 0 (some 30)) 1 (some 32)) 2 (some 34)) 3 (some 36)))) 27 (zA 6)) 28 (zA 6)) 29 (zA 6)) 30 (.inr (7, [.ref 31]))) 31 (fA 16 (0))) 32 (.inr (7, [.ref 33]))) 33 (fA 16 (1))) 34 (.inr (7, [.ref 35]))) 35 (fA 16 (3))) 36 (.inr (7, [.ref 37]))) 37 (fA 16 (7))) 38 (.inr (9, [.ref 13, .ref 39, .int (jI (0))]))) 39 (rA 4 (va_up (va_up (va_up (va_up (fun _ => none) 0 (some 40)) 1 (some 42)) 2 (some 44)) 3 (some 46)))) 40 (.inr (7, [.ref 41]))) 41 (fA 16 (7))) 42 (.inr (7, [.ref 43]))) 43 (fA 16 (7))) 44 (.inr (7, [.ref 45]))) 45 (fA 16 (7))) 46 (.inr (7, [.ref 47]))) 47 (fA 16 (7))) 48 (.inr (5, [.ref 49, .int (jI (0))]))) 49 (zA 40)) 50 (.inr (8, [.ref 51, .ref 52]))) 51 (zA 60)) 52 (zL 64)) 53 (.inr (0, [.ref 54, .ref 55, .ref 56]))) 54 (zA 320)) 55 (zA 320)) 56 (zA 8)) 57 (.inr (1, [.ref 58, .ref 59, .ref 60, .ref 61, .int 0, .int 0, .int 0, .int 0]))) 58 (zA 8)) 59 (zA 8)) 60 (zA 8)) 61 (zA 8)) 62 (fA 8 (-1))) 63 (.inr (10, [.ref 64, .ref 65, .ref 66, .int (jI (0)), .int (jI (0)), .int (jI (-1)), .int (jI (1))]))) 64 (zA 40)) 65 (zA 40)) 66 (zA 40)) 67 (.inr (10, [.ref 68, .ref 69, .ref 70, .int (jI (0)), .int (jI (0)), .int (jI (-1)), .int (jI (1))]))) 68 (zA 40)) 69 (zA 40)) 70 (zA 40)) 71 (.inr (12, [.int 0, .ref 72, .ref 73, .ref 74, .int 0, .ref 75, .ref 76, .ref 77, .int 0, .ref 78, .ref 79, .int 0, .ref 80, .ref 81, .int 0, .ref 82, .ref 83, .int 0, .int 0, .ref 84, .ref 85, .int 0, .int 0, .ref 86, .ref 87, .ref 88, .int 0, .int 0, .int 0, .int 0, .ref 89, .ref 90, .ref 91, .ref 92, .ref 93, .ref 94, .int 0, .ref 95, .ref 96, .ref 97, .ref 98, .long 0]))) 72 (zA 12)) 73 (zA 16)) 74 (zA 48)) 75 (zA 20)) 76 (zA 20)) 77 (zA 20)) 78 (zA 10)) 79 (zA 60)) 80 (zA 20)) 81 (zA 20)) 82 (zA 6)) 83 (zA 6)) 84 (zA 64)) 85 (zA 40)) 86 (zA 40)) 87 (zA 40)) 88 (fA 8 (-1))) 89 (zA 40)) 90 (zA 40)) 91 (zA 40)) 92 (zA 320)) 93 (zA 320)) 94 (zA 8)) 95 (zA 8)) 96 (zA 8)) 97 (zA 60)) 98 (zA 7168))) : am_H) = HW L xs F0w A0 (fun _ => 0) 0 63 67 := by
  unfold HW
  refine congrArg (fun g => ((99, 10264, g) : am_H)) ?_
  funext j
  match j with
  | 0 =>
    simp (disch := omega) only [up_at, up_ne]
    rfl
  | 1 =>
    simp (disch := omega) only [up_at, up_ne]
    rfl
  | 2 =>
    simp (disch := omega) only [up_at, up_ne]
    rfl
  | 3 =>
    simp (disch := omega) only [up_at, up_ne]
    rfl
  | 4 =>
    simp (disch := omega) only [up_at, up_ne]
    exact wc_z rfl (A0_z (by omega))
  | 5 =>
    simp (disch := omega) only [up_at, up_ne]
    exact wc_z rfl (A0_z (by omega))
  | 6 =>
    simp (disch := omega) only [up_at, up_ne]
    exact wc_z rfl (A0_z (by omega))
  | 7 =>
    simp (disch := omega) only [up_at, up_ne]
    exact wc_z rfl (A0_z (by omega))
  | 8 =>
    simp (disch := omega) only [up_at, up_ne]
    exact wc_z rfl (A0_z (by omega))
  | 9 =>
    simp (disch := omega) only [up_at, up_ne]
    exact wc_z rfl (A0_z (by omega))
  | 10 =>
    simp (disch := omega) only [up_at, up_ne]
    exact wc_z rfl (A0_z (by omega))
  | 11 =>
    simp (disch := omega) only [up_at, up_ne]
    exact wc_z rfl (A0_z (by omega))
  | 12 =>
    simp (disch := omega) only [up_at, up_ne]
    exact wc_z rfl (A0_z (by omega))
  | 13 =>
    simp (disch := omega) only [up_at, up_ne]
    rfl
  | 14 =>
    simp (disch := omega) only [up_at, up_ne]
    rfl
  | 15 =>
    simp (disch := omega) only [up_at, up_ne]
    exact wc_f rfl (A0_7 (by omega))
  | 16 =>
    simp (disch := omega) only [up_at, up_ne]
    exact wc_z rfl (A0_z (by omega))
  | 17 =>
    simp (disch := omega) only [up_at, up_ne]
    exact wc_z rfl (A0_z (by omega))
  | 18 =>
    simp (disch := omega) only [up_at, up_ne]
    rfl
  | 19 =>
    simp (disch := omega) only [up_at, up_ne]
    exact wc_z rfl (A0_z (by omega))
  | 20 =>
    simp (disch := omega) only [up_at, up_ne]
    exact wc_z rfl (A0_z (by omega))
  | 21 =>
    simp (disch := omega) only [up_at, up_ne]
    exact wc_z rfl (A0_z (by omega))
  | 22 =>
    simp (disch := omega) only [up_at, up_ne]
    exact wc_z rfl (A0_z (by omega))
  | 23 =>
    simp (disch := omega) only [up_at, up_ne]
    rfl
  | 24 =>
    simp (disch := omega) only [up_at, up_ne]
    exact wc_f rfl (A0_7 (by omega))
  | 25 =>
    simp (disch := omega) only [up_at, up_ne]
    rfl
  | 26 =>
    simp (disch := omega) only [up_at, up_ne]
    exact wc_r rfl r4
  | 27 =>
    simp (disch := omega) only [up_at, up_ne]
    exact wc_z rfl (A0_z (by omega))
  | 28 =>
    simp (disch := omega) only [up_at, up_ne]
    exact wc_z rfl (A0_z (by omega))
  | 29 =>
    simp (disch := omega) only [up_at, up_ne]
    exact wc_z rfl (A0_z (by omega))
  | 30 =>
    simp (disch := omega) only [up_at, up_ne]
    rfl
  | 31 =>
    simp (disch := omega) only [up_at, up_ne]
    exact wc_f rfl A0_0
  | 32 =>
    simp (disch := omega) only [up_at, up_ne]
    rfl
  | 33 =>
    simp (disch := omega) only [up_at, up_ne]
    exact wc_f rfl A0_33
  | 34 =>
    simp (disch := omega) only [up_at, up_ne]
    rfl
  | 35 =>
    simp (disch := omega) only [up_at, up_ne]
    exact wc_f rfl A0_35
  | 36 =>
    simp (disch := omega) only [up_at, up_ne]
    rfl
  | 37 =>
    simp (disch := omega) only [up_at, up_ne]
    exact wc_f rfl (A0_7 (by omega))
  | 38 =>
    simp (disch := omega) only [up_at, up_ne]
    rfl
  | 39 =>
    simp (disch := omega) only [up_at, up_ne]
    exact wc_r rfl r4
  | 40 =>
    simp (disch := omega) only [up_at, up_ne]
    rfl
  | 41 =>
    simp (disch := omega) only [up_at, up_ne]
    exact wc_f rfl (A0_7 (by omega))
  | 42 =>
    simp (disch := omega) only [up_at, up_ne]
    rfl
  | 43 =>
    simp (disch := omega) only [up_at, up_ne]
    exact wc_f rfl (A0_7 (by omega))
  | 44 =>
    simp (disch := omega) only [up_at, up_ne]
    rfl
  | 45 =>
    simp (disch := omega) only [up_at, up_ne]
    exact wc_f rfl (A0_7 (by omega))
  | 46 =>
    simp (disch := omega) only [up_at, up_ne]
    rfl
  | 47 =>
    simp (disch := omega) only [up_at, up_ne]
    exact wc_f rfl (A0_7 (by omega))
  | 48 =>
    simp (disch := omega) only [up_at, up_ne]
    rfl
  | 49 =>
    simp (disch := omega) only [up_at, up_ne]
    exact wc_z rfl (A0_z (by omega))
  | 50 =>
    simp (disch := omega) only [up_at, up_ne]
    rfl
  | 51 =>
    simp (disch := omega) only [up_at, up_ne]
    exact wc_z rfl (A0_z (by omega))
  | 52 =>
    simp (disch := omega) only [up_at, up_ne]
    rfl
  | 53 =>
    simp (disch := omega) only [up_at, up_ne]
    rfl
  | 54 =>
    simp (disch := omega) only [up_at, up_ne]
    exact wc_z rfl (A0_z (by omega))
  | 55 =>
    simp (disch := omega) only [up_at, up_ne]
    exact wc_z rfl (A0_z (by omega))
  | 56 =>
    simp (disch := omega) only [up_at, up_ne]
    exact wc_z rfl (A0_z (by omega))
  | 57 =>
    simp (disch := omega) only [up_at, up_ne]
    rfl
  | 58 =>
    simp (disch := omega) only [up_at, up_ne]
    exact wc_z rfl (A0_z (by omega))
  | 59 =>
    simp (disch := omega) only [up_at, up_ne]
    exact wc_z rfl (A0_z (by omega))
  | 60 =>
    simp (disch := omega) only [up_at, up_ne]
    exact wc_z rfl (A0_z (by omega))
  | 61 =>
    simp (disch := omega) only [up_at, up_ne]
    exact wc_z rfl (A0_z (by omega))
  | 62 =>
    simp (disch := omega) only [up_at, up_ne]
    exact wc_f rfl (A0_v (by omega))
  | 63 =>
    simp (disch := omega) only [up_at, up_ne]
    rfl
  | 64 =>
    simp (disch := omega) only [up_at, up_ne]
    exact wc_z rfl (A0_z (by omega))
  | 65 =>
    simp (disch := omega) only [up_at, up_ne]
    exact wc_z rfl (A0_z (by omega))
  | 66 =>
    simp (disch := omega) only [up_at, up_ne]
    exact wc_z rfl (A0_z (by omega))
  | 67 =>
    simp (disch := omega) only [up_at, up_ne]
    rfl
  | 68 =>
    simp (disch := omega) only [up_at, up_ne]
    exact wc_z rfl (A0_z (by omega))
  | 69 =>
    simp (disch := omega) only [up_at, up_ne]
    exact wc_z rfl (A0_z (by omega))
  | 70 =>
    simp (disch := omega) only [up_at, up_ne]
    exact wc_z rfl (A0_z (by omega))
  | 71 =>
    simp (disch := omega) only [up_at, up_ne]
    rfl
  | 72 =>
    simp (disch := omega) only [up_at, up_ne]
    exact wc_z rfl (A0_z (by omega))
  | 73 =>
    simp (disch := omega) only [up_at, up_ne]
    exact wc_z rfl (A0_z (by omega))
  | 74 =>
    simp (disch := omega) only [up_at, up_ne]
    exact wc_z rfl (A0_z (by omega))
  | 75 =>
    simp (disch := omega) only [up_at, up_ne]
    exact wc_z rfl (A0_z (by omega))
  | 76 =>
    simp (disch := omega) only [up_at, up_ne]
    exact wc_z rfl (A0_z (by omega))
  | 77 =>
    simp (disch := omega) only [up_at, up_ne]
    exact wc_z rfl (A0_z (by omega))
  | 78 =>
    simp (disch := omega) only [up_at, up_ne]
    exact wc_z rfl (A0_z (by omega))
  | 79 =>
    simp (disch := omega) only [up_at, up_ne]
    exact wc_z rfl (A0_z (by omega))
  | 80 =>
    simp (disch := omega) only [up_at, up_ne]
    exact wc_z rfl (A0_z (by omega))
  | 81 =>
    simp (disch := omega) only [up_at, up_ne]
    exact wc_z rfl (A0_z (by omega))
  | 82 =>
    simp (disch := omega) only [up_at, up_ne]
    exact wc_z rfl (A0_z (by omega))
  | 83 =>
    simp (disch := omega) only [up_at, up_ne]
    exact wc_z rfl (A0_z (by omega))
  | 84 =>
    simp (disch := omega) only [up_at, up_ne]
    exact wc_z rfl (A0_z (by omega))
  | 85 =>
    simp (disch := omega) only [up_at, up_ne]
    exact wc_z rfl (A0_z (by omega))
  | 86 =>
    simp (disch := omega) only [up_at, up_ne]
    exact wc_z rfl (A0_z (by omega))
  | 87 =>
    simp (disch := omega) only [up_at, up_ne]
    exact wc_z rfl (A0_z (by omega))
  | 88 =>
    simp (disch := omega) only [up_at, up_ne]
    exact wc_f rfl (A0_v (by omega))
  | 89 =>
    simp (disch := omega) only [up_at, up_ne]
    exact wc_z rfl (A0_z (by omega))
  | 90 =>
    simp (disch := omega) only [up_at, up_ne]
    exact wc_z rfl (A0_z (by omega))
  | 91 =>
    simp (disch := omega) only [up_at, up_ne]
    exact wc_z rfl (A0_z (by omega))
  | 92 =>
    simp (disch := omega) only [up_at, up_ne]
    exact wc_z rfl (A0_z (by omega))
  | 93 =>
    simp (disch := omega) only [up_at, up_ne]
    exact wc_z rfl (A0_z (by omega))
  | 94 =>
    simp (disch := omega) only [up_at, up_ne]
    exact wc_z rfl (A0_z (by omega))
  | 95 =>
    simp (disch := omega) only [up_at, up_ne]
    exact wc_z rfl (A0_z (by omega))
  | 96 =>
    simp (disch := omega) only [up_at, up_ne]
    exact wc_z rfl (A0_z (by omega))
  | 97 =>
    simp (disch := omega) only [up_at, up_ne]
    exact wc_z rfl (A0_z (by omega))
  | 98 =>
    simp (disch := omega) only [up_at, up_ne]
    exact wc_z rfl (A0_z (by omega))
  | j + 99 =>
    have e : WT.getD (j + 99) (9, 0, []) = (9, 0, []) := by
      rw [List.getD_eq_getElem?_getD, List.getElem?_eq_none (by show 99 ≤ j + 99; omega)]
      rfl
    rw [e]
    simp (disch := omega) only [up_ne]
    unfold f0
    rw [if_neg (by omega), if_neg (by omega)]
    rfl
