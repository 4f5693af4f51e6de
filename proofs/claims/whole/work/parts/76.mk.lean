/-! THE CLASS: what may be chosen -/
/-- g tells those before n that have p, in order, k of them -/
def GE (g : Nat → Nat) (k n : Nat) (p : Nat → Bool) : Prop := (∀ i, i < k → g i < n ∧ p (g i) = true) ∧ (∀ i j, i < j → j < k → g i < g j) ∧ (∀ s, s < n → p s = true → ∃ i, i < k ∧ g i = s)
def gx (g : Nat → Nat) (k n i : Nat) : Nat := if i < k then g i else n
theorem gx_lt {g : Nat → Nat} {k n i : Nat} (h : i < k) : gx g k n i = g i := by unfold gx; rw [if_pos h]
theorem gx_k {g : Nat → Nat} {k n i : Nat} (h : k ≤ i) : gx g k n i = n := by unfold gx; rw [if_neg (by omega)]
theorem gx_s {g : Nat → Nat} {k n : Nat} {p : Nat → Bool} (h : GE g k n p) {i : Nat} (hi : i < k) : g i < gx g k n (i + 1) ∧ gx g k n (i + 1) ≤ n ∧ ∀ s, g i < s → s < gx g k n (i + 1) → ¬ p s = true := by
  unfold gx
  by_cases c : i + 1 < k
  · rw [if_pos c]
    refine ⟨h.2.1 i (i + 1) (by omega) c, by have := (h.1 (i + 1) c).1; omega, fun s h1 h2 hp => ?_⟩
    obtain ⟨j, hj, e⟩ := h.2.2 s (by have := (h.1 (i + 1) c).1; omega) hp
    by_cases a : j ≤ i
    · by_cases b : j = i
      · rw [b] at e; omega
      · have := h.2.1 j i (by omega) hi; omega
    · by_cases b : j = i + 1
      · rw [b] at e; omega
      · have := h.2.1 (i + 1) j (by omega) hj; omega
  · rw [if_neg c]
    refine ⟨(h.1 i hi).1, Nat.le_refl n, fun s h1 h2 hp => ?_⟩
    obtain ⟨j, hj, e⟩ := h.2.2 s h2 hp
    by_cases b : j = i
    · rw [b] at e; omega
    · have := h.2.1 j i (by omega) hi; omega
theorem sumS_one {u v : Nat → Int} {a : Nat} {z : Int} (h1 : ∀ s, ¬ s = a → v s = u s) (h2 : v a = u a + z) : ∀ (n i : Nat), i ≤ a → a < i + n → sumS v i n = sumS u i n + z
  | 0, i, h3, h4 => by omega
  | n + 1, i, h3, h4 => by
    rw [sumS, sumS]
    by_cases c : i = a
    · subst c
      have : ∀ (m j : Nat), i < j → sumS v j m = sumS u j m := by
        intro m
        induction m with
        | zero => intro j _; rfl
        | succ m ih => intro j hj; rw [sumS, sumS, ih (j + 1) (by omega), h1 j (by omega)]
      rw [this n (i + 1) (by omega), h2]
      omega
    · rw [h1 i c, sumS_one h1 h2 n (i + 1) (by omega) (by omega)]
      omega
theorem cnt_sum (p : Nat → Bool) : ∀ (n i : Nat), cntS p i n = sumS (fun s => if p s = true then 1 else 0) i n
  | 0, i => rfl
  | n + 1, i => by rw [cntS, sumS, cnt_sum p n (i + 1)]
section CHS
variable {f : Nat → Nat → Bool} {tu : Nat → Int} {n th t : Nat} {g : Nat → Nat} {k : Nat}
theorem tn_or {c a : Nat} (ha : a < n) (hc : c.testBit a = false) : tnV tu n (c ||| 2 ^ a) = tnV tu n c + tu a := by
  unfold tnV
  apply sumS_one (a := a)
  · intro s hs
    rw [tb_or, show decide (a = s) = false by simp; omega, Bool.or_false]
  · rw [tb_or, hc]
    simp
  · omega
  · omega
theorem pc_or {c a : Nat} (ha : a < n) (hc : c.testBit a = false) : pcV n (c ||| 2 ^ a) = pcV n c + 1 := by
  unfold pcV
  rw [cnt_sum, cnt_sum]
  apply sumS_one (a := a)
  · intro s hs
    rw [tb_or, show decide (a = s) = false by simp; omega, Bool.or_false]
  · rw [tb_or, hc]
    simp
  · omega
  · omega
theorem int_or {c a z : Nat} (ha : a < n) : intP f n (c ||| 2 ^ a) z = (intP f n c z && f a z) := by
  unfold intP
  apply Bool.eq_iff_iff.mpr
  rw [Bool.and_eq_true, allB_iff, allB_iff]
  constructor
  · intro h
    refine ⟨fun j h1 h2 => ?_, ?_⟩
    · have := h j h1 h2
      rw [tb_or] at this
      cases e1 : c.testBit j
      · rfl
      · rw [e1] at this
        simpa using this
    · have := h a (by omega) (by omega)
      rw [tb_or] at this
      simpa using this
  · rintro ⟨h, h'⟩ j h1 h2
    have := h j h1 h2
    rw [tb_or]
    by_cases e : a = j
    · rw [← e, h']; simp
    · simp [e]
      simpa using this
/-- what is looked at from place i on -/
def mkC (f : Nat → Nat → Bool) (n th t : Nat) (g : Nat → Nat) (k i : Nat) (left : Int) (c x : Nat) : Prop := x < 2 ^ n ∧ vldP f n th t x ∧ (∀ s, s < gx g k n i → x.testBit s = c.testBit s) ∧ pcV n x = pcV n c + left
theorem vld_f {x s : Nat} (ht : t < th) (hv : vldP f n th t x) (hs : s < n) (hx : x.testBit s = true) : f s t = true := by
  have h := hv t ht
  rw [show decide (t = t) = true by simp] at h
  unfold intP at h
  rw [allB_iff] at h
  have := h s (by omega) (by omega)
  rw [hx] at this
  simpa using this
theorem mk_split (hG : GE g k n (fun s => f s t)) (ht : t < th) {i c : Nat} {left : Int} (hi : i < k) (hc : ∀ s, gx g k n i ≤ s → c.testBit s = false) (x : Nat) : mkC f n th t g k i left c x ↔ (mkC f n th t g k (i + 1) (left - 1) (c ||| 2 ^ g i) x ∨ mkC f n th t g k (i + 1) left c x) := by
  have e0 := gx_lt (g := g) (n := n) hi
  have s0 := gx_s hG hi
  have gi := hG.1 i hi
  have cg : c.testBit (g i) = false := hc _ (by omega)
  constructor
  · rintro ⟨h1, h2, h3, h4⟩
    have mid : ∀ s, g i < s → s < gx g k n (i + 1) → x.testBit s = false := by
      intro s a1 a2
      cases e : x.testBit s
      · rfl
      · exact absurd (vld_f ht h2 (by omega) e) (s0.2.2 s a1 a2)
    cases e : x.testBit (g i)
    · right
      refine ⟨h1, h2, fun s hs => ?_, h4⟩
      by_cases a1 : s < g i
      · exact h3 s (by omega)
      · by_cases a2 : s = g i
        · rw [a2, e, cg]
        · rw [mid s (by omega) hs, hc s (by omega)]
    · left
      refine ⟨h1, h2, fun s hs => ?_, by rw [pc_or gi.1 cg]; omega⟩
      rw [tb_or]
      by_cases a1 : s < g i
      · rw [h3 s (by omega), show decide (g i = s) = false by simp; omega, Bool.or_false]
      · by_cases a2 : s = g i
        · rw [a2, e]; simp
        · rw [mid s (by omega) hs, hc s (by omega), show decide (g i = s) = false by simp; omega]; rfl
  · rintro (⟨h1, h2, h3, h4⟩ | ⟨h1, h2, h3, h4⟩)
    · refine ⟨h1, h2, fun s hs => ?_, by rw [pc_or gi.1 cg] at h4; omega⟩
      rw [h3 s (by omega), tb_or, show decide (g i = s) = false by simp; omega, Bool.or_false]
    · exact ⟨h1, h2, fun s hs => h3 s (by omega), h4⟩
theorem cnt_app (p : Nat → Bool) : ∀ (a b i : Nat), cntS p i (a + b) = cntS p i a + cntS p (i + a) b
  | 0, b, i => by rw [Nat.zero_add, cntS, Int.zero_add, Nat.add_zero]
  | a + 1, b, i => by rw [show a + 1 + b = (a + b) + 1 by omega, cntS, cntS, cnt_app p a b (i + 1), show i + 1 + a = i + (a + 1) by omega, Int.add_assoc]
theorem cnt_none {p : Nat → Bool} : ∀ (n i : Nat), (∀ j, i ≤ j → j < i + n → p j = false) → cntS p i n = 0
  | 0, i, _ => rfl
  | n + 1, i, h => by rw [cntS, h i (Nat.le_refl i) (by omega), cnt_none n (i + 1) (fun j h1 h2 => h j (by omega) (by omega))]; rfl
theorem cnt_tail (hG : GE g k n (fun s => f s t)) {x : Nat} (hx : ∀ s, s < n → x.testBit s = true → f s t = true) : ∀ (m i : Nat), i + m = k → cntS (fun s => x.testBit s) (gx g k n i) (n - gx g k n i) ≤ m
  | 0, i, h => by rw [gx_k (by omega), Nat.sub_self]; exact Int.le_refl _
  | m + 1, i, h => by
    have e0 := gx_lt (g := g) (n := n) (show i < k by omega)
    have s0 := gx_s hG (show i < k by omega)
    have ih := cnt_tail hG hx m (i + 1) (by omega)
    rw [e0, show n - g i = 1 + ((gx g k n (i + 1) - (g i + 1)) + (n - gx g k n (i + 1))) by omega, cnt_app, cnt_app, show g i + 1 + (gx g k n (i + 1) - (g i + 1)) = gx g k n (i + 1) by omega]
    rw [cnt_none (gx g k n (i + 1) - (g i + 1)) (g i + 1) (fun j h1 h2 => by
      cases e : x.testBit j
      · rfl
      · exact absurd (hx j (by omega) e) (s0.2.2 j (by omega) (by omega)))]
    have := cntS_rng (fun s => x.testBit s) 1 (g i)
    omega
theorem mk_empty (hG : GE g k n (fun s => f s t)) (ht : t < th) {i c : Nat} {left : Int} (hi : i ≤ k) (hl : (k : Int) < i + left) (hc : ∀ s, gx g k n i ≤ s → c.testBit s = false) (x : Nat) : ¬ mkC f n th t g k i left c x := by
  rintro ⟨h1, h2, h3, h4⟩
  have hgn : gx g k n i ≤ n := by
    by_cases c1 : i < k
    · rw [gx_lt c1]; have := (hG.1 i c1).1; omega
    · rw [gx_k (by omega)]; exact Nat.le_refl n
  have t0 := cnt_tail hG (fun s hs hx => vld_f ht h2 hs hx) (k - i) i (by omega)
  have a1 : pcV n x = cntS (fun s => x.testBit s) 0 (gx g k n i) + cntS (fun s => x.testBit s) (gx g k n i) (n - gx g k n i) := by
    unfold pcV
    have := cnt_app (fun s => x.testBit s) (gx g k n i) (n - gx g k n i) 0
    rw [show gx g k n i + (n - gx g k n i) = n by omega, Nat.zero_add] at this
    exact this
  have a2 : pcV n c = cntS (fun s => c.testBit s) 0 (gx g k n i) := by
    unfold pcV
    have := cnt_app (fun s => c.testBit s) (gx g k n i) (n - gx g k n i) 0
    rw [show gx g k n i + (n - gx g k n i) = n by omega, Nat.zero_add, cnt_none (p := fun s => c.testBit s) (n - gx g k n i) (gx g k n i) (fun j j1 j2 => hc j j1), Int.add_zero] at this
    exact this
  have a3 : cntS (fun s => x.testBit s) 0 (gx g k n i) = cntS (fun s => c.testBit s) 0 (gx g k n i) := cntS_ext _ _ (fun j _ h => h3 j (by omega))
  omega
/-- the rest cannot leave less -/
theorem mk_prune (hG : GE g k n (fun s => f s t)) (ht : t < th) {i c x : Nat} {left : Int} (hi : i ≤ k) (hc : ∀ s, gx g k n i ≤ s → c.testBit s = false) (hf : ∀ s, s < n → c.testBit s = true → f s t = true) (hx : mkC f n th t g k i left c x) : ∀ z, z < th → (intP f n c z && allB (fun j => f (g j) z) i (k - i)) = decide (z = t) := by
  obtain ⟨h1, h2, h3, h4⟩ := hx
  intro z hz
  by_cases e : z = t
  · rw [show decide (z = t) = true by simp [e], Bool.and_eq_true]
    subst e
    constructor
    · unfold intP
      rw [allB_iff]
      intro j _ hj
      cases e1 : c.testBit j
      · rfl
      · rw [hf j (by omega) e1]; simp
    · rw [allB_iff]
      intro j j1 j2
      exact (hG.1 j (by omega)).2
  · rw [show decide (z = t) = false by simp [e]]
    cases e2 : (intP f n c z && allB (fun j => f (g j) z) i (k - i))
    · rfl
    · exfalso
      rw [Bool.and_eq_true] at e2
      have i1 : intP f n x z = true := by
        unfold intP
        rw [allB_iff]
        intro s _ hs
        cases e3 : x.testBit s
        · rfl
        · by_cases a1 : s < gx g k n i
          · have := h3 s a1
            rw [e3] at this
            have b := e2.1
            unfold intP at b
            rw [allB_iff] at b
            have := b s (by omega) (by omega)
            rw [← ‹true = c.testBit s›] at this
            simpa using this
          · obtain ⟨j, hj, ej⟩ := hG.2.2 s (by omega) (vld_f ht h2 (by omega) e3)
            have ji : i ≤ j := by
              by_cases b : i ≤ j
              · exact b
              · exfalso
                by_cases c1 : i < k
                · rw [gx_lt c1] at a1
                  have := hG.2.1 j i (by omega) c1
                  omega
                · have := (hG.1 j hj).1
                  rw [gx_k (by omega)] at a1
                  omega
            have b := e2.2
            rw [allB_iff] at b
            have := b j ji (by omega)
            rw [ej] at this
            rw [this]; simp
      rw [h2 z hz] at i1
      simp [e] at i1
end CHS
