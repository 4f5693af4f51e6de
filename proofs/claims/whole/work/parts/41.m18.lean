/-! THE REFERENCE: leastChanges, bounds -/
theorem minS_mono {f : Nat → Int} : ∀ (n i : Nat) (m m' : Int), m ≤ m' → minS f i n m ≤ minS f i n m'
  | 0, i, m, m', h => h
  | n + 1, i, m, m', h => minS_mono n (i + 1) _ _ (by split <;> split <;> omega)
theorem minS_le {f : Nat → Int} : ∀ (n i : Nat) (m : Int), minS f i n m ≤ m
  | 0, i, m => Int.le_refl _
  | n + 1, i, m => by
    rw [minS]
    exact Int.le_trans (minS_le n (i + 1) _) (by split <;> omega)
theorem minS_at {f : Nat → Int} : ∀ (n i w : Nat) (m : Int), i ≤ w → w < i + n → minS f i n m ≤ f w
  | 0, i, w, m, h1, h2 => by omega
  | n + 1, i, w, m, h1, h2 => by
    rw [minS]
    by_cases g : w = i
    · rw [g]
      exact Int.le_trans (minS_le n (i + 1) _) (by split <;> omega)
    · exact minS_at n (i + 1) w _ (by omega) (by omega)
/-- what a node costs at most -/
def cst (A : Nat → Nat → Int) (j : Nat) : Int := minS (fun w => A 92 (8 * j + w) + 1) 0 8 100001
theorem cst_0 {A : Nat → Nat → Int} (hW : ∀ i, 0 ≤ A 92 i ∧ A 92 i ≤ 100000) (j : Nat) : 0 ≤ cst A j := (minS_rng (lo := 0) (hi := 100001) (fun i => by have := hW (8 * j + i); omega) 8 0 100001 (by omega)).1
theorem lst_cst {A : Nat → Nat → Int} (hW : ∀ i, 0 ≤ A 92 i ∧ A 92 i ≤ 100000) (j v : Nat) : lstM A j v ≤ cst A j := minS_mono 8 0 _ _ (by have := hW (8 * j + v); omega)
theorem cst_congr {A A' : Nat → Nat → Int} {j : Nat} (h : ∀ i, 8 * j ≤ i → A 92 i = A' 92 i) : cst A j = cst A' j := by
  unfold cst
  rw [show (fun w => A 92 (8 * j + w) + 1) = (fun w => A' 92 (8 * j + w) + 1) from funext fun w => by rw [h _ (by omega)]]
/-- the costs of the nodes from j on, k of them, whose parent is before n -/
def pot (A : Nat → Nat → Int) (n : Nat) : Nat → Nat → Int
  | _, 0 => 0
  | j, k + 1 => (if A 86 j < n then cst A j else 0) + pot A n (j + 1) k
theorem pot_congr {A A' : Nat → Nat → Int} {n j0 : Nat} (hp : A 86 = A' 86) (h : ∀ i, 8 * j0 ≤ i → A 92 i = A' 92 i) : ∀ (k j : Nat), j0 ≤ j → pot A n j k = pot A' n j k
  | 0, j, hj => rfl
  | k + 1, j, hj => by
    rw [pot, pot, pot_congr hp h k (j + 1) (by omega), hp, cst_congr (fun i hi => h i (by omega))]
theorem pot_0 {A : Nat → Nat → Int} (hW : ∀ i, 0 ≤ A 92 i ∧ A 92 i ≤ 100000) {n : Nat} : ∀ (k j : Nat), 0 ≤ pot A n j k
  | 0, j => Int.le_refl _
  | k + 1, j => by
    have := pot_0 hW (n := n) k (j + 1)
    have := cst_0 hW j
    rw [pot]
    split <;> omega
theorem pot_step {A : Nat → Nat → Int} (hW : ∀ i, 0 ≤ A 92 i ∧ A 92 i ≤ 100000) {n v : Nat} : ∀ (k j : Nat), 0 ≤ blwM A n v j k ∧ blwM A n v j k + pot A n j k ≤ pot A (n + 1) j k
  | 0, j => by simp [blwM, pot]
  | k + 1, j => by
    have h1 := pot_step hW (n := n) (v := v) k (j + 1)
    have h2 := cst_0 hW j
    have h3 := lst_cst hW j v
    have h4 := (lstM_rng hW j v).1
    rw [blwM, pot, pot]
    by_cases g : A 86 j = n
    · rw [if_pos g, if_neg (by omega), if_pos (by omega)]
      omega
    · rw [if_neg g]
      by_cases g2 : A 86 j < n
      · rw [if_pos g2, if_pos (by omega)]
        omega
      · rw [if_neg g2, if_neg (by omega)]
        omega
theorem rowM_f {m n : Nat} {b : Int} {a i : Nat} (h : ¬ (a = 92 ∧ 8 * n ≤ i ∧ i < 8 * n + 8)) : ∀ (k v : Nat) (A : Nat → Nat → Int), v + k = 8 → rowM m n b A v k a i = A a i
  | 0, v, A, hv => rfl
  | k + 1, v, A, hv => by
    rw [rowM, rowM_f h k (v + 1) _ (by omega), u2_n (by omega)]
theorem rowM_at {m n : Nat} {b : Int} {w : Nat} : ∀ (k v : Nat) (A : Nat → Nat → Int), v + k = 8 → w < 8 → rowM m n b A v k 92 (8 * n + w) = if v ≤ w then basM b w + blwM A n w (n + 1) (m - (n + 1)) else A 92 (8 * n + w)
  | 0, v, A, hv, hw => by
    rw [rowM, if_neg (by omega)]
  | k + 1, v, A, hv, hw => by
    rw [rowM, rowM_at k (v + 1) _ (by omega) hw]
    have e1 : blwM (u2 A 92 (8 * n + v) (basM b v + blwM A n v (n + 1) (m - (n + 1)))) n w (n + 1) (m - (n + 1)) = blwM A n w (n + 1) (m - (n + 1)) :=
      blwM_congr (j0 := n + 1) (u2_a (by omega)) (fun i hi => u2_n (by omega)) _ _ (by omega)
    rw [e1]
    by_cases g : v = w
    · rw [if_neg (by omega), if_pos (by omega), g, u2_s]
    · by_cases g2 : v ≤ w
      · rw [if_pos (by omega), if_pos g2]
      · rw [if_neg (by omega), if_neg g2, u2_n (by omega)]
