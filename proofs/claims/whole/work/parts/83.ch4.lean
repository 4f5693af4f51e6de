/-! BY CHANCE: one of twins stands for all -/
def repV (had c : Nat → Nat) (x : Nat) : Nat := (fstP (fun u => decide (had u = had x ∧ c u = had u)) 0 8).toNat
theorem rep_ok {had c : Nat → Nat} {x : Nat} (hx : x < 8) (h : c x = had x) : repV had c x ≤ x ∧ had (repV had c x) = had x ∧ c (repV had c x) = had (repV had c x) := by
  have f := fst_le (p := fun u => decide (had u = had x ∧ c u = had u)) (k := x) 8 0 (by omega) (by omega) (by simp [h])
  have f3 := of_decide_eq_true f.2.2
  unfold repV
  exact ⟨by omega, f3.1, f3.2⟩
theorem rep_min {had c : Nat → Nat} {x u : Nat} (hu : u < 8) (h1 : had u = had x) (h2 : c u = had u) : repV had c x ≤ u := by
  have f := fst_le (p := fun u => decide (had u = had x ∧ c u = had u)) (k := u) 8 0 (by omega) (by omega) (by simp [h1, h2])
  unfold repV
  omega
def rhoV (had c : Nat → Nat) (x : Nat) : Nat := if c x < had x then x else repV had c x
theorem sN_dec {c : Nat → Nat} {x : Nat} (hx : x < 8) (h : 0 < c x) : sN (dec c x) 8 + 1 = sN c 8 := by
  have s1 := sN_one (n := 8) (c := x) 1 8 hx
  have s2 : sN c 8 = sN (fun z => dec c x z + (if z = x then 1 else 0)) 8 := by
    apply sN_ext
    intro z _
    by_cases g : z = x
    · rw [g, dec_s, if_pos rfl]; omega
    · rw [dec_n g, if_neg g, Nat.add_zero]
  rw [s2, sN_add, s1]
theorem sN_all0 {f : Nat → Nat} : ∀ n, sN f n = 0 → ∀ i, i < n → f i = 0
  | 0, _, i, hi => by omega
  | n + 1, h, i, hi => by
    rw [sN] at h
    by_cases g : i = n
    · rw [g]; omega
    · exact sN_all0 n (by omega) i (by omega)
theorem U_K {P : (Nat → Int) → Bool} {R : Nat → Prop} {had : Nat → Nat} (hP : ∀ x y, x < 8 → y < 8 → ∀ v v', (∀ l, R l → v' l = swI x y (v l)) → P v' = P v) (h8 : ∀ x, had x ≤ 8) :
    ∀ (ss : List Nat) (c : Nat → Nat) (v : Nat → Int), sN c 8 = ss.length → (∀ z, c z ≤ had z) → (∀ z, z < 8 → c z = had z → 0 < had z → ∀ l, R l → ¬ l ∈ ss → ¬ v l = z) → UU P ss c v = CC had c * KK P had ss c v
  | [], c, v, hs, hc, hN => by
    have z := sN_all0 8 hs
    have e : CC had c = 1 := by
      unfold CC
      have : ∀ n, pN (fun w => fac (unN had c (w + 1))) n = 1 := by
        intro n
        induction n with
        | zero => rfl
        | succ n ih =>
          have u : unN had c (n + 1) = 0 := by
            unfold unN
            apply sN_0
            intro x hx
            rw [if_neg]
            have := z x hx
            omega
          rw [pN, ih, u]
          rfl
      exact this 8
    rw [UU, KK, e, Nat.one_mul]
  | s :: ss, c, v, hs, hc, hN => by
    rw [List.length_cons] at hs
    have ih : ∀ x, x < 8 → 0 < c x → UU P ss (dec c x) (setA v s x) = CC had (dec c x) * KK P had ss (dec c x) (setA v s x) := by
      intro x hx h0
      apply U_K hP h8 ss
      · have := sN_dec hx h0
        omega
      · intro z
        have := hc z
        by_cases g : z = x
        · rw [g, dec_s]; rw [g] at this; omega
        · rw [dec_n g]; exact this
      · intro z hz hcz h0z l hl hns
        have hzx : ¬ z = x := by
          intro e
          rw [e, dec_s] at hcz
          have := hc x
          omega
        rw [dec_n hzx] at hcz
        by_cases g : l = s
        · rw [setA_s g]; omega
        · rw [setA_n g]
          exact hN z hz hcz h0z l hl (by simp [g, hns])
    have same : ∀ x, x < 8 → 0 < c x → UU P ss (dec c x) (setA v s x) = UU P ss (dec c (rhoV had c x)) (setA v s (rhoV had c x : Nat)) := by
      intro x hx h0
      unfold rhoV
      by_cases g : c x < had x
      · rw [if_pos g]
      · rw [if_neg g]
        have cx : c x = had x := by have := hc x; omega
        obtain ⟨r1, r2, r3⟩ := rep_ok hx cx
        generalize repV had c x = r at r1 r2 r3
        rw [U_sym (R := R) (x := x) (y := r) hx (by omega) (hP x r hx (by omega)) ss (dec c x) (setA v s x) (setA v s (r : Nat))]
        · congr 1
          funext z
          by_cases e : x = r
          · rw [e]
            have : swN r r z = z := by
              unfold swN
              by_cases a : z = r
              · rw [if_pos a, a]
              · rw [if_neg a, if_neg a]
            rw [this]
          · unfold swN
            by_cases a : z = x
            · rw [if_pos a, dec_n (fun e2 => e e2.symm), a, dec_n e]; omega
            · rw [if_neg a]
              by_cases b : z = r
              · rw [if_pos b, dec_s, b, dec_s]; omega
              · rw [if_neg b, dec_n a, dec_n b]
        · intro l hl hns
          by_cases a : l = s
          · rw [setA_s a, setA_s a, swN_I]
            unfold swN
            rw [if_pos rfl]
          · rw [setA_n a, setA_n a]
            have n1 := hN x hx cx (by omega) l hl (by simp [a, hns])
            have n2 := hN r (by omega) r3 (by omega) l hl (by simp [a, hns])
            unfold swI
            rw [if_neg n1, if_neg n2]
    rw [UU, KK, ← sN_mul]
    have e1 : sN (fun x => if 0 < c x then UU P ss (dec c x) (setA v s x) else 0) 8 = sN (fun x => if decide (0 < c x) = true then (fun r => UU P ss (dec c r) (setA v s (r : Nat))) (rhoV had c x) else 0) 8 := by
      apply sN_ext
      intro x hx
      by_cases g : 0 < c x
      · rw [if_pos g, if_pos (by simp [g]), same x hx g]
      · rw [if_neg g, if_neg (by simp; omega)]
    rw [e1, sN_fib (p := fun x => decide (0 < c x)) (r := rhoV had c) (h := fun r => UU P ss (dec c r) (setA v s (r : Nat))) (fun x hx g => by
      unfold rhoV
      split
      · exact hx
      · rename_i g2
        have cx : c x = had x := by have := hc x; omega
        have := (rep_ok hx cx).1
        omega)]
    apply sN_ext
    intro r hr
    have cr := hc r
    -- who is told by r
    have key : ∀ x, x < 8 → (decide (0 < c x) = true ∧ rhoV had c x = r) → (c x < had x ∧ x = r) ∨ (c x = had x ∧ had x = had r ∧ c r = had r ∧ repV had c x = r) := by
      rintro x hx ⟨h1, h2⟩
      unfold rhoV at h2
      by_cases g : c x < had x
      · rw [if_pos g] at h2; exact Or.inl ⟨g, h2⟩
      · rw [if_neg g] at h2
        have cx : c x = had x := by have := hc x; omega
        have q := rep_ok hx cx
        rw [h2] at q
        exact Or.inr ⟨cx, q.2.1.symm, q.2.2, h2⟩
    by_cases c0 : 0 < c r
    · by_cases cu : c r < had r
      · have tw : twB had c r = false := by unfold twB; rw [show decide (had r ≤ c r) = false by simp; omega]; rfl
        have N1 : sN (fun x => if decide (0 < c x) = true ∧ rhoV had c x = r then 1 else 0) 8 = 1 := by
          refine Eq.trans (sN_ext (g := fun i => if i = r then 1 else 0) 8 ?_) (sN_one (n := 8) (c := r) 1 8 hr)
          intro x hx
          by_cases g : x = r
          · rw [if_pos g, if_pos]
            rw [g]
            refine ⟨by simp [c0], ?_⟩
            unfold rhoV
            rw [if_pos cu]
          · rw [if_neg g, if_neg]
            intro h
            rcases key x hx h with k | k
            · exact g k.2
            · omega
        rw [N1, Nat.one_mul, if_pos ⟨c0, tw⟩, ih r hr c0, CC_used cu c0]
      · have ce : c r = had r := by omega
        by_cases tw : twB had c r = false
        · have N2 : sN (fun x => if decide (0 < c x) = true ∧ rhoV had c x = r then 1 else 0) 8 = unN had c (had r) := by
            unfold unN
            apply sN_ext
            intro x hx
            by_cases g : had x = had r ∧ c x = had x
            · rw [if_pos g, if_pos]
              refine ⟨by simp; omega, ?_⟩
              unfold rhoV
              rw [if_neg (by omega)]
              have q := rep_ok hx g.2
              have m := rep_min (had := had) (c := c) (x := x) hr g.1.symm ce
              by_cases e : repV had c x = r
              · exact e
              · exfalso
                have : twB had c r = true := by
                  unfold twB
                  rw [Bool.and_eq_true]
                  refine ⟨by simp; omega, ?_⟩
                  rw [any_iff]
                  exact ⟨repV had c x, by omega, by omega, by simp; omega⟩
                rw [tw] at this
                cases this
            · rw [if_neg g, if_neg]
              intro h
              rcases key x hx h with k | k
              · rw [k.2] at k; omega
              · exact g ⟨k.2.1, k.1⟩
          rw [N2, if_pos ⟨c0, tw⟩, ih r hr c0, CC_new hr ce c0 (h8 r), Nat.mul_assoc]
        · have tw' : twB had c r = true := by simpa using tw
          have N3 : sN (fun x => if decide (0 < c x) = true ∧ rhoV had c x = r then 1 else 0) 8 = 0 := by
            apply sN_0
            intro x hx
            rw [if_neg]
            intro h
            rcases key x hx h with k | k
            · rw [k.2] at k; omega
            · unfold twB at tw'
              rw [Bool.and_eq_true, any_iff] at tw'
              obtain ⟨-, u, u1, u2, u3⟩ := tw'
              have u4 := of_decide_eq_true u3
              have := rep_min (had := had) (c := c) (x := x) (u := u) (by omega) (by omega) u4.2
              omega
          rw [N3, Nat.zero_mul, if_neg (fun e => tw e.2), Nat.mul_zero]
    · have N4 : sN (fun x => if decide (0 < c x) = true ∧ rhoV had c x = r then 1 else 0) 8 = 0 := by
        apply sN_0
        intro x hx
        rw [if_neg]
        intro h
        have h1 := of_decide_eq_true h.1
        rcases key x hx h with k | k
        · rw [k.2] at h1; omega
        · omega
      rw [N4, Nat.zero_mul, if_neg (fun e => c0 e.1), Nat.mul_zero]
