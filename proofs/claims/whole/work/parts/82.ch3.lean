/-! BY CHANCE: variants that may be swapped -/
def swN (x y z : Nat) : Nat := if z = x then y else if z = y then x else z
def swI (x y : Nat) (z : Int) : Int := if z = x then y else if z = y then x else z
theorem swN_I (x y z : Nat) : swI x y (z : Int) = ((swN x y z : Nat) : Int) := by
  unfold swI swN
  by_cases g : z = x
  · rw [if_pos g, if_pos (by omega)]
  · rw [if_neg g, if_neg (by omega)]
    by_cases g2 : z = y
    · rw [if_pos g2, if_pos (by omega)]
    · rw [if_neg g2, if_neg (by omega)]
theorem swN_lt {x y z : Nat} (hx : x < 8) (hy : y < 8) (hz : z < 8) : swN x y z < 8 := by
  unfold swN
  split
  · exact hy
  · split <;> omega
theorem swN_swN (x y z : Nat) : swN x y (swN x y z) = z := by
  unfold swN
  by_cases g : z = x
  · rw [if_pos g]
    by_cases g2 : y = x
    · rw [if_pos g2, g2, g]
    · rw [if_neg g2, if_pos rfl, g]
  · rw [if_neg g]
    by_cases g2 : z = y
    · rw [if_pos g2, if_pos rfl, g2]
    · rw [if_neg g2, if_neg g, if_neg g2]
/-- a sum of eight, its places swapped -/
theorem sN_sw {h : Nat → Nat} {x y : Nat} (hx : x < 8) (hy : y < 8) : sN (fun z => h (swN x y z)) 8 = sN h 8 := by
  have := sN_fib (p := fun _ => true) (r := swN x y) (h := h) (n := 8) (fun z hz _ => swN_lt hx hy hz)
  simp only [if_true, true_and] at this
  rw [this]
  apply sN_ext
  intro w hw
  have e : sN (fun z => if swN x y z = w then 1 else 0) 8 = 1 := by
    refine Eq.trans (sN_ext (g := fun i => if i = swN x y w then 1 else 0) 8 ?_) (sN_one (n := 8) (c := swN x y w) 1 8 (swN_lt hx hy hw))
    intro z _
    by_cases g : swN x y z = w
    · rw [if_pos g, if_pos (by rw [← g, swN_swN])]
    · rw [if_neg g, if_neg (fun e => g (by rw [e, swN_swN]))]
  rw [e, Nat.one_mul]
/-- deals that differ by a swap -/
theorem U_sym {P : (Nat → Int) → Bool} {R : Nat → Prop} {x y : Nat} (hx : x < 8) (hy : y < 8) (hP : ∀ v v', (∀ l, R l → v' l = swI x y (v l)) → P v' = P v) :
    ∀ (ss : List Nat) (c : Nat → Nat) (v v' : Nat → Int), (∀ l, R l → ¬ l ∈ ss → v' l = swI x y (v l)) → UU P ss c v = UU P ss (fun z => c (swN x y z)) v'
  | [], c, v, v', h => by
    rw [UU, UU, hP v v' (fun l hl => h l hl (by simp))]
  | s :: ss, c, v, v', h => by
    rw [UU, UU, ← sN_sw (h := fun z => if 0 < c (swN x y z) then UU P ss (dec (fun z => c (swN x y z)) z) (setA v' s (z : Int)) else 0) hx hy]
    apply sN_ext
    intro z _
    rw [swN_swN]
    by_cases g : 0 < c z
    · rw [if_pos g, if_pos g]
      have e : dec (fun z => c (swN x y z)) (swN x y z) = (fun w => dec c z (swN x y w)) := by
        funext w
        unfold dec
        by_cases g2 : w = swN x y z
        · rw [if_pos g2, if_pos (by rw [g2, swN_swN])]
        · rw [if_neg g2, if_neg (fun e => g2 (by rw [← e, swN_swN]))]
      rw [e]
      apply U_sym hx hy hP ss
      intro l hl hns
      by_cases g2 : l = s
      · rw [setA_s g2, setA_s g2, swN_I]
      · rw [setA_n g2, setA_n g2]
        exact h l hl (by simp [g2, hns])
    · rw [if_neg g, if_neg g]
/-- the class's deals: of variants that are there equally often and not dealt yet, the first alone -/
def twB (had c : Nat → Nat) (x : Nat) : Bool := decide (had x ≤ c x) && anyB (fun u => decide (had u = had x ∧ c u = had u)) 0 x
def KK (P : (Nat → Int) → Bool) (had : Nat → Nat) : List Nat → (Nat → Nat) → (Nat → Int) → Nat
  | [], _, v => if P v = true then 1 else 0
  | s :: ss, c, v => sN (fun x => if 0 < c x ∧ twB had c x = false then KK P had ss (dec c x) (setA v s x) else 0) 8
/-- how many variants that come w times aren't dealt yet -/
def unN (had c : Nat → Nat) (w : Nat) : Nat := sN (fun x => if had x = w ∧ c x = had x then 1 else 0) 8
def CC (had c : Nat → Nat) : Nat := pN (fun w => fac (unN had c (w + 1))) 8
theorem CC_pos (had c : Nat → Nat) : 0 < CC had c := pN_pos (fun _ => fac_pos _) 8
theorem any_iff {p : Nat → Bool} : ∀ (n i : Nat), anyB p i n = true ↔ ∃ j, i ≤ j ∧ j < i + n ∧ p j = true
  | 0, i => by
    constructor
    · intro h; cases h
    · rintro ⟨j, h1, h2, -⟩; omega
  | n + 1, i => by
    rw [anyB, Bool.or_eq_true, any_iff n (i + 1)]
    constructor
    · rintro (h | ⟨j, h1, h2, h3⟩)
      · exact ⟨i, Nat.le_refl i, by omega, h⟩
      · exact ⟨j, by omega, by omega, h3⟩
    · rintro ⟨j, h1, h2, h3⟩
      by_cases g : j = i
      · rw [g] at h3; exact Or.inl h3
      · exact Or.inr ⟨j, by omega, by omega, h3⟩
/-- used: nothing changes -/
theorem CC_used {had c : Nat → Nat} {x : Nat} (h : c x < had x) (h0 : 0 < c x) : CC had (dec c x) = CC had c := by
  unfold CC
  apply pN_ext
  intro w _
  congr 1
  unfold unN
  apply sN_ext
  intro z _
  by_cases g : z = x
  · rw [g, dec_s, if_neg (by omega), if_neg (by omega)]
  · rw [dec_n g]
/-- not yet used: one less -/
theorem CC_new {had c : Nat → Nat} {x : Nat} (hx : x < 8) (h : c x = had x) (h0 : 0 < c x) (h8 : had x ≤ 8) : CC had c = unN had c (had x) * CC had (dec c x) := by
  have un : unN had c (had x) = unN had (dec c x) (had x) + 1 := by
    unfold unN
    have s1 := sN_one (n := 8) (c := x) 1 8 hx
    have s2 : sN (fun z => if had z = had x ∧ c z = had z then 1 else 0) 8 = sN (fun z => (if had z = had x ∧ dec c x z = had z then 1 else 0) + (if z = x then 1 else 0)) 8 := by
      apply sN_ext
      intro z _
      by_cases g : z = x
      · rw [g, dec_s, if_pos ⟨rfl, h⟩, if_neg (by omega), if_pos rfl]
      · rw [dec_n g, if_neg g, Nat.add_zero]
    rw [s2, sN_add, s1]
  unfold CC
  apply pN_one (x := had x - 1)
  · intro w hw
    congr 1
    unfold unN
    apply sN_ext
    intro z _
    by_cases g : z = x
    · rw [g, dec_s, if_neg (by omega), if_neg (by omega)]
    · rw [dec_n g]
  · rw [show had x - 1 + 1 = had x by omega, un, fac]
  · omega
