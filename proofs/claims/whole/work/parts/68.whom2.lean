/-! WHOM TO ASK: the class's sets of heads -/
def dV (st : Nat → Nat → Int) (H : Nat) : Nat → Nat → Int
  | 0, _ => 0
  | r + 1, S => maxS (fun h => if S.testBit h = true then dV st H r (S ^^^ 2 ^ h) + wV st h r else 0) 0 H (dV st H r S)
theorem tb_xor {s r k : Nat} : (s ^^^ 2 ^ r).testBit k = (s.testBit k ^^ decide (r = k)) := by rw [Nat.testBit_xor, Nat.testBit_two_pow]
theorem dV_0 {st : Nat → Nat → Int} {H : Nat} : ∀ (r S : Nat), 0 ≤ dV st H r S
  | 0, S => Int.le_refl _
  | r + 1, S => Int.le_trans (dV_0 r S) (maxS_le _ _ _)
theorem vl_set {st : Nat → Nat → Int} {a : Nat → Int} {i r : Nat} (ha : a i = -1) : ∀ (n h : Nat), h ≤ i → i < h + n → vlV st (setA a i r) h n = vlV st a h n + wV st i r
  | 0, h, h1, h2 => by omega
  | n + 1, h, h1, h2 => by
    rw [vlV, vlV]
    by_cases g : h = i
    · subst g
      rw [setA_s rfl, if_neg (by omega), if_pos ha, Int.toNat_natCast, vl_ext (b := a) n (h + 1) (fun j j1 j2 => setA_n (by omega))]
      omega
    · rw [setA_n g, vl_set ha n (h + 1) (by omega) (by omega)]
      omega
def okD (a : Nat → Int) (H S r : Nat) : Prop := (∀ i, i < H → a i = -1 ∨ (S.testBit i = true ∧ 0 ≤ a i ∧ a i < r)) ∧ ∀ i j, i < H → j < H → ¬ i = j → a i = a j → a i = -1
theorem vl_none {st : Nat → Nat → Int} {a : Nat → Int} : ∀ (n h : Nat), (∀ i, h ≤ i → i < h + n → a i = -1) → vlV st a h n = 0
  | 0, h, _ => rfl
  | n + 1, h, g => by rw [vlV, if_pos (g h (Nat.le_refl h) (by omega)), vl_none n (h + 1) (fun i h1 h2 => g i (by omega) (by omega))]; rfl
theorem ex_dec {p : Nat → Prop} (hp : ∀ i, p i ∨ ¬ p i) : ∀ n : Nat, (∃ i, i < n ∧ p i) ∨ ∀ i, i < n → ¬ p i
  | 0 => Or.inr (fun i h => by omega)
  | n + 1 => by
    rcases ex_dec hp n with ⟨i, h1, h2⟩ | h
    · exact Or.inl ⟨i, by omega, h2⟩
    · rcases hp n with g | g
      · exact Or.inl ⟨n, by omega, g⟩
      · refine Or.inr (fun i hi => ?_)
        by_cases e : i = n
        · rw [e]; exact g
        · exact h i (by omega)
theorem d_up {st : Nat → Nat → Int} {H : Nat} : ∀ (r S : Nat) (a : Nat → Int), okD a H S r → vlV st a 0 H ≤ dV st H r S
  | 0, S, a, ha => by
    rw [vl_none H 0 (fun i _ h2 => by
      rcases ha.1 i (by omega) with c | c
      · exact c
      · omega)]
    exact Int.le_refl _
  | r + 1, S, a, ha => by
    rcases ex_dec (p := fun i => a i = (r : Int)) (fun i => Int.decEq (a i) r |>.byCases Or.inl Or.inr) H with ⟨i, hi, e⟩ | hno
    · have c : S.testBit i = true := by
        rcases ha.1 i hi with c | c
        · omega
        · exact c.1
      have ea : a = setA (setA a i (-1)) i r := by
        funext j
        by_cases g : j = i
        · rw [setA_s g, g, e]
        · rw [setA_n g, setA_n g]
      have hv := vl_set (st := st) (a := setA a i (-1)) (i := i) (r := r) (setA_s rfl) H 0 (by omega) (by omega)
      rw [← ea] at hv
      have ih := d_up r (S ^^^ 2 ^ i) (setA a i (-1)) ⟨fun j hj => by
        by_cases g : j = i
        · left; exact setA_s g
        · rw [setA_n g]
          rcases ha.1 j hj with c2 | c2
          · exact Or.inl c2
          · right
            refine ⟨?_, c2.2.1, ?_⟩
            · rw [tb_xor, c2.1]
              simp
              omega
            · have : ¬ a j = r := fun e2 => by
                have := ha.2 j i hj hi g (by rw [e2, e])
                omega
              omega, fun j k hj hk hjk ejk => by
        by_cases g : j = i
        · exact setA_s g
        · by_cases g2 : k = i
          · rw [ejk]; exact setA_s g2
          · rw [setA_n g, setA_n g2] at ejk
            rw [setA_n g]
            exact ha.2 j k hj hk hjk ejk⟩ (st := st)
      have m := maxS_at (f := fun h => if S.testBit h = true then dV st H r (S ^^^ 2 ^ h) + wV st h r else 0) H 0 i (dV st H r S) (by omega) (by omega)
      rw [if_pos c] at m
      rw [dV]
      omega
    · refine Int.le_trans (d_up r S a ⟨fun i hi => ?_, ha.2⟩) (maxS_le _ _ _)
      rcases ha.1 i hi with c | c
      · exact Or.inl c
      · have := hno i hi
        exact Or.inr ⟨c.1, c.2.1, by omega⟩
theorem d_at {st : Nat → Nat → Int} {H : Nat} : ∀ (r S : Nat), ∃ a, okD a H S r ∧ vlV st a 0 H = dV st H r S
  | 0, S => ⟨fun _ => -1, ⟨fun i hi => Or.inl rfl, fun i j h1 h2 h3 h4 => rfl⟩, vl_none H 0 (fun _ _ _ => rfl)⟩
  | r + 1, S => by
    have base : dV st H (r + 1) S = dV st H r S → ∃ a, okD a H S (r + 1) ∧ vlV st a 0 H = dV st H (r + 1) S := by
      intro e
      obtain ⟨a, ha, hv⟩ := d_at (st := st) (H := H) r S
      refine ⟨a, ⟨fun i hi => ?_, ha.2⟩, by rw [hv, e]⟩
      rcases ha.1 i hi with c | c
      · exact Or.inl c
      · exact Or.inr ⟨c.1, c.2.1, by omega⟩
    rcases maxS_mem (f := fun h => if S.testBit h = true then dV st H r (S ^^^ 2 ^ h) + wV st h r else 0) H 0 (dV st H r S) with e | ⟨i, h1, h2, h3⟩
    · exact base e
    · by_cases c : S.testBit i = true
      · rw [if_pos c] at h3
        obtain ⟨a, ha, hv⟩ := d_at (st := st) (H := H) r (S ^^^ 2 ^ i)
        have ai : a i = -1 := by
          rcases ha.1 i (by omega) with c2 | c2
          · exact c2
          · have := c2.1
            rw [tb_xor, c] at this
            simp at this
        have lt : ∀ j, j < H → a j < r := by
          intro j hj
          rcases ha.1 j hj with c2 | c2
          · omega
          · exact c2.2.2
        refine ⟨setA a i r, ⟨fun j hj => ?_, fun j k hj hk hjk ejk => ?_⟩, ?_⟩
        · by_cases g : j = i
          · right
            rw [setA_s g, g]
            exact ⟨c, by omega, by omega⟩
          · rw [setA_n g]
            rcases ha.1 j hj with c2 | c2
            · exact Or.inl c2
            · right
              refine ⟨?_, c2.2.1, by omega⟩
              have := c2.1
              rw [tb_xor] at this
              simp [show ¬ i = j from fun e => g e.symm] at this
              exact this
        · by_cases g : j = i
          · by_cases g2 : k = i
            · omega
            · rw [setA_s g, setA_n g2] at ejk
              have := lt k hk
              omega
          · by_cases g2 : k = i
            · rw [setA_n g, setA_s g2] at ejk
              have := lt j hj
              omega
            · rw [setA_n g, setA_n g2] at ejk
              rw [setA_n g]
              exact ha.2 j k hj hk hjk ejk
        · rw [vl_set ai H 0 (by omega) (by omega), hv, dV, h3]
      · rw [if_neg c] at h3
        apply base
        have a1 := maxS_le (f := fun h => if S.testBit h = true then dV st H r (S ^^^ 2 ^ h) + wV st h r else 0) H 0 (dV st H r S)
        have a2 := dV_0 (st := st) (H := H) r S
        rw [dV]
        omega
/-- both find the same -/
theorem d_e {st : Nat → Nat → Int} {H R : Nat} (hH : H ≤ 6) (hR : R ≤ 10) (hs0 : ∀ h r, 0 ≤ st h r) : dV st H R (2 ^ H - 1) = eV st R H 0 0 := by
  have tb : ∀ i, i < H → (2 ^ H - 1).testBit i = true := fun i hi => by rw [Nat.testBit_two_pow_sub_one]; simp [hi]
  apply Int.le_antisymm
  · obtain ⟨a, ha, hv⟩ := d_at (st := st) (H := H) R (2 ^ H - 1)
    rw [← hv]
    refine e_up hR H 0 0 (by omega) ⟨fun i h1 h2 => ?_, fun i j _ h2 _ h4 h5 h6 => ha.2 i j (by omega) (by omega) h5 h6⟩
    rcases ha.1 i (by omega) with c | c
    · exact Or.inl c
    · exact Or.inr ⟨c.2.1, c.2.2, Nat.zero_testBit _⟩
  · obtain ⟨a, ha, hv⟩ := e_at (st := st) hR hs0 H 0 0 (by omega)
    rw [← hv]
    refine d_up R (2 ^ H - 1) a ⟨fun i hi => ?_, fun i j h1 h2 h3 h4 => ha.2 i j (by omega) (by omega) (by omega) (by omega) h3 h4⟩
    rcases ha.1 i (by omega) (by omega) with c | c
    · exact Or.inl c
    · exact Or.inr ⟨tb i hi, c.1, c.2.1⟩
/-- what is read off the greatest number -/
theorem e_sum {st : Nat → Nat → Int} {H R : Nat} (hH : H ≤ 6) (hR : R ≤ 10) : eV st R H 0 0 / 1771561 = brV st R H 0 0 := by
  have l := lx_rng hR (st := st) H 0 0 (by omega)
  have : PP 0 = 1771561 := rfl
  unfold eV
  omega
theorem e_dig {st : Nat → Nat → Int} {R : Nat} (hR : R ≤ 10) : ∀ (k n h s : Nat) (X : Int), h + n ≤ 6 → k < n → (X * PP h + lxV st R n h s) / PP (h + k + 1) % 11 = (if chV st R k n h s = -1 then 0 else 10 - chV st R k n h s)
  | k, 0, h, s, X, hn, hk => by omega
  | 0, n + 1, h, s, X, hn, hk => by
    have p := PP_s h (by omega)
    have d := dig_rng (st := st) (R := R) (n := n) (h := h) (s := s) hR
    have l := lx_rng hR (st := st) n (h + 1) (nxtV st R n h s) (by omega)
    have e1 : X * PP h + lxV st R (n + 1) h s = (X * 11 + digV st R n h s) * PP (h + 1) + lxV st R n (h + 1) (nxtV st R n h s) := by
      rw [lxV, p.1, Int.add_mul, Int.mul_assoc]
      omega
    have e2 : (X * PP h + lxV st R (n + 1) h s) / PP (h + 0 + 1) = X * 11 + digV st R n h s := by
      rw [e1, Nat.add_zero, Int.add_comm, Int.add_mul_ediv_right _ _ (by omega), Int.ediv_eq_zero_of_lt l.1 l.2, Int.zero_add]
    rw [e2]
    have e3 : digV st R n h s = (if chV st R 0 (n + 1) h s = -1 then 0 else 10 - chV st R 0 (n + 1) h s) := rfl
    rw [← e3]
    omega
  | k + 1, n + 1, h, s, X, hn, hk => by
    have p := PP_s h (by omega)
    have e1 : X * PP h + lxV st R (n + 1) h s = (X * 11 + digV st R n h s) * PP (h + 1) + lxV st R n (h + 1) (nxtV st R n h s) := by
      rw [lxV, p.1, Int.add_mul, Int.mul_assoc]
      omega
    rw [e1, show h + (k + 1) + 1 = h + 1 + k + 1 by omega]
    exact e_dig hR k n (h + 1) (nxtV st R n h s) _ (by omega) (by omega)
theorem ch_rng {st : Nat → Nat → Int} {R : Nat} : ∀ (k n h s : Nat), -1 ≤ chV st R k n h s ∧ (chV st R k n h s = -1 ∨ chV st R k n h s < R)
  | k, 0, h, s => by
    cases k <;> simp [chV]
  | 0, n + 1, h, s => by
    have := fnd_rng (st := st) (R := R) (n := n) (h := h) (s := s)
    show -1 ≤ fndV st R n h s ∧ _
    exact ⟨this.1, Or.inr this.2⟩
  | k + 1, n + 1, h, s => ch_rng k n (h + 1) _
/-- no number is too great -/
theorem d_big {st : Nat → Nat → Int} {H : Nat} (hH : H ≤ 6) (hs : ∀ h r, 0 ≤ st h r ∧ st h r ≤ 999) : ∀ (r S : Nat), r ≤ 10 → dV st H r S ≤ 2000000000 * r
  | 0, S, _ => by simp [dV]
  | r + 1, S, hr => by
    have ih := d_big hH hs r S (by omega)
    rw [dV]
    rcases maxS_mem (f := fun h => if S.testBit h = true then dV st H r (S ^^^ 2 ^ h) + wV st h r else 0) H 0 (dV st H r S) with e | ⟨i, h1, h2, h3⟩
    · rw [e]; omega
    · rw [h3]
      split
      · have ih2 := d_big hH hs r (S ^^^ 2 ^ i) (by omega)
        have p := PP_s i (by omega)
        have w := hs i r
        have m : (10 - (r : Int)) * PP (i + 1) ≤ 10 * PP (i + 1) := Int.mul_le_mul_of_nonneg_right (by omega) (by omega)
        unfold wV
        omega
      · omega
