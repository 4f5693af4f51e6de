/-! BY CHANCE: orders -/
def fac : Nat → Nat
  | 0 => 1
  | n + 1 => (n + 1) * fac n
theorem fac_pos : ∀ n, 0 < fac n
  | 0 => by decide
  | n + 1 => Nat.mul_pos (by omega) (fac_pos n)
def pN (f : Nat → Nat) : Nat → Nat
  | 0 => 1
  | n + 1 => pN f n * f n
theorem pN_ext {f g : Nat → Nat} : ∀ n, (∀ i, i < n → f i = g i) → pN f n = pN g n
  | 0, _ => rfl
  | n + 1, h => by rw [pN, pN, pN_ext n (fun i hi => h i (by omega)), h n (by omega)]
theorem pN_one {f g : Nat → Nat} {x a : Nat} (h1 : ∀ y, ¬ y = x → f y = g y) (h2 : g x = a * f x) : ∀ n, x < n → pN g n = a * pN f n
  | 0, h => by omega
  | n + 1, h => by
    rw [pN, pN]
    by_cases c : x = n
    · subst c
      rw [h2, pN_ext (f := g) (g := f) x (fun i hi => (h1 i (by omega)).symm), Nat.mul_left_comm]
    · rw [pN_one h1 h2 n (by omega), h1 n (by omega), Nat.mul_assoc]
theorem pN_pos {f : Nat → Nat} (h : ∀ i, 0 < f i) : ∀ n, 0 < pN f n
  | 0 => Nat.zero_lt_one
  | n + 1 => Nat.mul_pos (pN_pos h n) (h n)
/-- how many orders give one deal -/
def WW (c : Nat → Nat) : Nat := pN (fun x => fac (c x)) 8
theorem WW_dec {c : Nat → Nat} {x : Nat} (hx : x < 8) (hc : 0 < c x) : c x * WW (dec c x) = WW c := by
  unfold WW
  symm
  apply pN_one (x := x)
  · intro y hy
    rw [dec_n hy]
  · rw [dec_s]
    obtain ⟨m, hm⟩ : ∃ m, c x = m + 1 := ⟨c x - 1, by omega⟩
    rw [hm, fac, Nat.add_sub_cancel]
  · exact hx
/-- the reference's deal by number -/
def dlV : List Nat → List Nat → Nat → (Nat → Int) → (Nat → Int)
  | [], _, _, v => v
  | s :: ss, fr, num, v => dlV ss (fr.eraseIdx (num % fr.length)) (num / fr.length) (setA v s ((fr.getD (num % fr.length) 0 : Nat) : Int))
def GG (P : (Nat → Int) → Bool) : List Nat → List Nat → (Nat → Int) → Nat
  | [], _, v => if P v = true then 1 else 0
  | s :: ss, fr, v => sN (fun k => GG P ss (fr.eraseIdx k) (setA v s ((fr.getD k 0 : Nat) : Int))) fr.length
theorem GG_sum {P : (Nat → Int) → Bool} : ∀ (ss fr : List Nat) (v : Nat → Int), ss.length = fr.length → sN (fun num => if P (dlV ss fr num v) = true then 1 else 0) (fac ss.length) = GG P ss fr v
  | [], fr, v, h => by
    rw [List.length_nil, fac, sN, sN, Nat.zero_add, GG]
    rfl
  | s :: ss, fr, v, h => by
    rw [List.length_cons] at h
    rw [List.length_cons, fac, GG, h]
    have := sN_div (h := fun i j => if P (dlV ss (fr.eraseIdx i) j (setA v s ((fr.getD i 0 : Nat) : Int))) = true then 1 else 0) (a := fr.length) (by omega) (fac ss.length)
    rw [show (fun num => if P (dlV (s :: ss) fr num v) = true then 1 else 0) = (fun k => (fun i j => if P (dlV ss (fr.eraseIdx i) j (setA v s ((fr.getD i 0 : Nat) : Int))) = true then 1 else 0) (k % fr.length) (k / fr.length)) from rfl, this]
    apply sN_ext
    intro k hk
    apply GG_sum ss
    rw [List.length_eraseIdx_of_lt hk]
    omega
def cnF (fr : List Nat) (x : Nat) : Nat := fr.count x
theorem cnt_erase {x : Nat} : ∀ (fr : List Nat) (k : Nat), k < fr.length → fr.count x = (fr.eraseIdx k).count x + (if x = fr.getD k 0 then 1 else 0)
  | [], k, h => by simp at h
  | a :: l, 0, h => by
    rw [List.count_cons]
    show l.count x + _ = l.count x + (if x = a then 1 else 0)
    congr 1
    by_cases g : x = a
    · rw [if_pos g, if_pos (by simp [g])]
    · rw [if_neg g, if_neg (by simp; exact fun e => g e.symm)]
  | a :: l, k + 1, h => by
    rw [List.length_cons] at h
    rw [List.count_cons, cnt_erase l k (by omega), List.eraseIdx_cons_succ, List.count_cons, List.getD_cons_succ]
    omega
theorem cnF_erase {fr : List Nat} {k : Nat} (hk : k < fr.length) : cnF (fr.eraseIdx k) = dec (cnF fr) (fr.getD k 0) := by
  funext x
  have p := cnt_erase (x := x) fr k hk
  show (fr.eraseIdx k).count x = (if x = fr.getD k 0 then fr.count x - 1 else fr.count x)
  by_cases g : x = fr.getD k 0
  · rw [if_pos g]
    rw [if_pos g] at p
    omega
  · rw [if_neg g]
    rw [if_neg g] at p
    omega
theorem sN_list {t : Nat → Nat} : ∀ (fr : List Nat), (∀ x, x ∈ fr → x < 8) → sN (fun k => t (fr.getD k 0)) fr.length = sN (fun x => cnF fr x * t x) 8
  | [], _ => (sN_0 8 (fun x _ => by unfold cnF; simp)).symm
  | a :: l, h => by
    have ih := sN_list (t := t) l (fun x hx => h x (List.mem_cons_of_mem _ hx))
    have ha := h a List.mem_cons_self
    rw [List.length_cons, Nat.add_comm, sN_app 1 l.length]
    have e1 : sN (fun k => t ((a :: l).getD k 0)) 1 = t a := by
      rw [sN, sN, Nat.zero_add]
      rfl
    have e2 : sN (fun i => t ((a :: l).getD (1 + i) 0)) l.length = sN (fun k => t (l.getD k 0)) l.length := by
      apply sN_ext
      intro i _
      rw [Nat.add_comm, List.getD_cons_succ]
    rw [e1, e2, ih, ← sN_one (n := 8) (c := a) (t a) 8 ha, ← sN_add]
    apply sN_ext
    intro x _
    unfold cnF
    rw [List.count_cons]
    by_cases g : x = a
    · rw [if_pos g, g]
      simp [Nat.add_mul]
      omega
    · rw [if_neg g]
      have : ¬ (a == x) = true := by simp; exact fun e => g e.symm
      rw [if_neg this]
      simp
/-- each deal comes of as many orders -/
theorem GG_U {P : (Nat → Int) → Bool} : ∀ (ss fr : List Nat) (v : Nat → Int), ss.length = fr.length → (∀ x, x ∈ fr → x < 8) → GG P ss fr v = WW (cnF fr) * UU P ss (cnF fr) v
  | [], fr, v, h, hf => by
    have e : fr = [] := List.length_eq_zero_iff.mp h.symm
    subst e
    have : WW (cnF []) = 1 := by decide
    rw [GG, UU, this, Nat.one_mul]
  | s :: ss, fr, v, h, hf => by
    rw [List.length_cons] at h
    rw [GG, UU]
    have e1 : sN (fun k => GG P ss (fr.eraseIdx k) (setA v s ((fr.getD k 0 : Nat) : Int))) fr.length = sN (fun k => (fun x => WW (dec (cnF fr) x) * UU P ss (dec (cnF fr) x) (setA v s (x : Int))) (fr.getD k 0)) fr.length := by
      apply sN_ext
      intro k hk
      rw [GG_U ss (fr.eraseIdx k) _ (by rw [List.length_eraseIdx_of_lt hk]; omega) (fun x hx => hf x (List.mem_of_mem_eraseIdx hx)), cnF_erase hk]
    rw [e1, sN_list (t := fun x => WW (dec (cnF fr) x) * UU P ss (dec (cnF fr) x) (setA v s (x : Int))) fr hf, ← sN_mul]
    apply sN_ext
    intro x hx
    by_cases g : 0 < cnF fr x
    · rw [if_pos g, ← Nat.mul_assoc, WW_dec hx g]
    · rw [if_neg g, show cnF fr x = 0 by omega, Nat.zero_mul, Nat.mul_zero]
