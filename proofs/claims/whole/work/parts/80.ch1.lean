/-! BY CHANCE: sums -/
def sN (f : Nat → Nat) : Nat → Nat
  | 0 => 0
  | n + 1 => sN f n + f n
theorem sN_ext {f g : Nat → Nat} : ∀ n, (∀ i, i < n → f i = g i) → sN f n = sN g n
  | 0, _ => rfl
  | n + 1, h => by rw [sN, sN, sN_ext n (fun i hi => h i (by omega)), h n (by omega)]
theorem sN_add {f g : Nat → Nat} : ∀ n, sN (fun i => f i + g i) n = sN f n + sN g n
  | 0 => rfl
  | n + 1 => by rw [sN, sN, sN, sN_add n]; omega
theorem sN_mul {f : Nat → Nat} (c : Nat) : ∀ n, sN (fun i => c * f i) n = c * sN f n
  | 0 => by simp [sN]
  | n + 1 => by rw [sN, sN, sN_mul c n, Nat.mul_add]
theorem sN_0 {f : Nat → Nat} : ∀ n, (∀ i, i < n → f i = 0) → sN f n = 0
  | 0, _ => rfl
  | n + 1, h => by rw [sN, sN_0 n (fun i hi => h i (by omega)), h n (by omega)]
theorem sN_comm {h : Nat → Nat → Nat} (m : Nat) : ∀ n, sN (fun i => sN (fun j => h i j) m) n = sN (fun j => sN (fun i => h i j) n) m
  | 0 => (sN_0 m (fun _ _ => rfl)).symm
  | n + 1 => by
    rw [sN, sN_comm m n, ← sN_add]
    rfl
theorem sN_one {n c : Nat} (a : Nat) : ∀ n, c < n → sN (fun i => if i = c then a else 0) n = a
  | 0, h => by omega
  | n + 1, h => by
    rw [sN]
    by_cases g : c = n
    · rw [if_pos g.symm, sN_0 n (fun i hi => if_neg (by omega)), Nat.zero_add]
    · rw [if_neg (by omega), sN_one (n := n) a n (by omega), Nat.add_zero]
theorem sN_app {f : Nat → Nat} (n : Nat) : ∀ m, sN f (n + m) = sN f n + sN (fun i => f (n + i)) m
  | 0 => rfl
  | m + 1 => by
    rw [← Nat.add_assoc, sN, sN_app n m, sN, Nat.add_assoc]
theorem sN_div {h : Nat → Nat → Nat} {a : Nat} (ha : 0 < a) : ∀ b, sN (fun k => h (k % a) (k / a)) (a * b) = sN (fun i => sN (fun j => h i j) b) a
  | 0 => by
    rw [Nat.mul_zero, sN]
    exact (sN_0 a (fun _ _ => rfl)).symm
  | b + 1 => by
    rw [Nat.mul_add, Nat.mul_one, sN_app, sN_div ha b]
    have e : sN (fun i => h ((a * b + i) % a) ((a * b + i) / a)) a = sN (fun i => h i b) a := by
      apply sN_ext
      intro i hi
      rw [Nat.mul_add_mod, Nat.mod_eq_of_lt hi, Nat.mul_add_div ha, Nat.div_eq_of_lt hi, Nat.add_zero]
    rw [e, ← sN_add]
    rfl
/-- a sum by what it is told by -/
theorem sN_fib {p : Nat → Bool} {r : Nat → Nat} {h : Nat → Nat} {n : Nat} (hr : ∀ x, x < n → p x = true → r x < n) : sN (fun x => if p x = true then h (r x) else 0) n = sN (fun y => sN (fun x => if p x = true ∧ r x = y then 1 else 0) n * h y) n := by
  have e1 : sN (fun x => if p x = true then h (r x) else 0) n = sN (fun x => sN (fun y => if p x = true ∧ r x = y then h y else 0) n) n := by
    apply sN_ext
    intro x hx
    by_cases g : p x = true
    · rw [if_pos g]
      have := sN_one (n := n) (c := r x) (h (r x)) n (hr x hx g)
      rw [← this]
      apply sN_ext
      intro y _
      by_cases c : y = r x
      · rw [if_pos c, if_pos ⟨g, c.symm⟩, c]
      · rw [if_neg c, if_neg (fun e => c e.2.symm)]
    · rw [if_neg g]
      exact (sN_0 n (fun y _ => if_neg (fun e => g e.1))).symm
  rw [e1, sN_comm]
  apply sN_ext
  intro y _
  rw [Nat.mul_comm, ← sN_mul]
  apply sN_ext
  intro x _
  by_cases g : p x = true ∧ r x = y
  · rw [if_pos g, if_pos g, Nat.mul_one]
  · rw [if_neg g, if_neg g, Nat.mul_zero]
def dec (c : Nat → Nat) (x : Nat) : Nat → Nat := fun y => if y = x then c y - 1 else c y
theorem dec_s {c : Nat → Nat} {x : Nat} : dec c x x = c x - 1 := by unfold dec; rw [if_pos rfl]
theorem dec_n {c : Nat → Nat} {x y : Nat} (h : ¬ y = x) : dec c x y = c y := by unfold dec; rw [if_neg h]
theorem dec_comm {c : Nat → Nat} {x y : Nat} : dec (dec c x) y = dec (dec c y) x := by
  funext z
  unfold dec
  by_cases g1 : z = x
  · by_cases g2 : z = y
    · rw [if_pos g2, if_pos g1, if_pos g1, if_pos g2]
    · rw [if_neg g2, if_pos g1, if_pos g1, if_neg g2]
  · by_cases g2 : z = y
    · rw [if_pos g2, if_neg g1, if_neg g1, if_pos g2]
    · rw [if_neg g2, if_neg g1, if_neg g1, if_neg g2]
/-- all deals: seats, how many are left of each variant, what is dealt -/
def UU (P : (Nat → Int) → Bool) : List Nat → (Nat → Nat) → (Nat → Int) → Nat
  | [], _, v => if P v = true then 1 else 0
  | s :: ss, c, v => sN (fun x => if 0 < c x then UU P ss (dec c x) (setA v s x) else 0) 8
theorem setA_comm {v : Nat → Int} {a b : Nat} {x y : Int} (h : ¬ a = b) : setA (setA v a x) b y = setA (setA v b y) a x := by
  funext i
  unfold setA
  by_cases g1 : i = a
  · rw [if_neg (by omega), if_pos g1, if_pos g1]
  · rw [if_neg g1, if_neg g1]
theorem U_swap {P : (Nat → Int) → Bool} {a b : Nat} {ss : List Nat} (hab : ¬ a = b) (c : Nat → Nat) (v : Nat → Int) : UU P (a :: b :: ss) c v = UU P (b :: a :: ss) c v := by
  have e : ∀ (a b : Nat) , UU P (a :: b :: ss) c v = sN (fun x => sN (fun y => if 0 < c x ∧ 0 < dec c x y then UU P ss (dec (dec c x) y) (setA (setA v a x) b y) else 0) 8) 8 := by
    intro a b
    rw [UU]
    apply sN_ext
    intro x _
    by_cases g : 0 < c x
    · rw [if_pos g, UU]
      apply sN_ext
      intro y _
      simp only [g, true_and]
    · rw [if_neg g]
      exact (sN_0 8 (fun y _ => if_neg (fun e => g e.1))).symm
  rw [e a b, e b a, sN_comm]
  apply sN_ext
  intro x _
  apply sN_ext
  intro y _
  have hc : (0 < c y ∧ 0 < dec c y x) ↔ (0 < c x ∧ 0 < dec c x y) := by
    by_cases g : x = y
    · rw [g]
    · rw [dec_n g, dec_n (fun e => g e.symm)]
      exact And.comm
  by_cases g : 0 < c x ∧ 0 < dec c x y
  · rw [if_pos g, if_pos (hc.mpr g), dec_comm, setA_comm hab]
  · rw [if_neg g, if_neg (fun e => g (hc.mp e))]
theorem U_perm {P : (Nat → Int) → Bool} {l1 l2 : List Nat} (h : l1.Perm l2) : l1.Nodup → ∀ c v, UU P l1 c v = UU P l2 c v := by
  induction h with
  | nil => intro _ c v; rfl
  | cons x h ih =>
    intro hn c v
    rw [UU, UU]
    apply sN_ext
    intro y _
    rw [ih (List.nodup_cons.mp hn).2]
  | swap x y l =>
    intro hn c v
    apply U_swap
    intro e
    rw [e] at hn
    have := (List.nodup_cons.mp hn).1
    exact this List.mem_cons_self
  | trans h1 h2 ih1 ih2 =>
    intro hn c v
    rw [ih1 hn, ih2 ((List.Perm.nodup_iff h1).mp hn)]
