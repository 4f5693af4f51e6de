/-! LEAST CHANGES: tables -/
def lstT (T : Nat → Int) (n v : Nat) : Int := minS (fun w => T (8 * n + w) + 1) 0 8 (T (8 * n + v))
theorem lstM_T (A : Nat → Nat → Int) (n v : Nat) : lstM A n v = lstT (A 92) n v := rfl
def blwT (T par : Nat → Int) (n v : Nat) : Nat → Nat → Int
  | _, 0 => 0
  | j, k + 1 => (if par j = n then lstT T j v else 0) + blwT T par n v (j + 1) k
theorem blwM_T {A : Nat → Nat → Int} {n v : Nat} : ∀ (k j : Nat), blwM A n v j k = blwT (A 92) (A 86) n v j k
  | 0, j => rfl
  | k + 1, j => by rw [blwM, blwT, blwM_T k, lstM_T]
theorem minS_ext {f g : Nat → Int} : ∀ (n i : Nat) (m : Int), (∀ j, i ≤ j → j < i + n → f j = g j) → minS f i n m = minS g i n m
  | 0, i, m, _ => rfl
  | n + 1, i, m, h => by rw [minS, minS, h i (Nat.le_refl i) (by omega), minS_ext n (i + 1) _ (fun j h1 h2 => h j (by omega) (by omega))]
theorem minS_mem {f : Nat → Int} : ∀ (n i : Nat) (m : Int), minS f i n m = m ∨ ∃ w, i ≤ w ∧ w < i + n ∧ minS f i n m = f w
  | 0, i, m => Or.inl rfl
  | n + 1, i, m => by
    rw [minS]
    rcases minS_mem (f := f) n (i + 1) (if m ≤ f i then m else f i) with h | ⟨w, h1, h2, h3⟩
    · by_cases g : m ≤ f i
      · rw [if_pos g] at h ⊢; exact Or.inl h
      · rw [if_neg g] at h ⊢; exact Or.inr ⟨i, Nat.le_refl i, by omega, h⟩
    · exact Or.inr ⟨w, by omega, by omega, h3⟩
/-- a least number is told by what it is below and by what it is -/
theorem minS_eq {f : Nat → Int} {n i : Nat} {m z : Int} (h1 : z ≤ m) (h2 : ∀ w, i ≤ w → w < i + n → z ≤ f w) (h3 : z = m ∨ ∃ w, i ≤ w ∧ w < i + n ∧ z = f w) : minS f i n m = z := by
  apply Int.le_antisymm
  · rcases h3 with h | ⟨w, a, b, c⟩
    · rw [h]; exact minS_le n i m
    · rw [c]; exact minS_at n i w m a b
  · rcases minS_mem (f := f) n i m with h | ⟨w, a, b, c⟩
    · rw [h]; exact h1
    · rw [c]; exact h2 w a b
theorem lstT_cg {T T' : Nat → Int} {n v : Nat} (hv : v < 8) (h : ∀ w, w < 8 → T (8 * n + w) = T' (8 * n + w)) : lstT T n v = lstT T' n v := by
  unfold lstT
  rw [h v hv]
  exact minS_ext _ _ _ (fun j _ h2 => by rw [h j (by omega)])
theorem blwT_cg {T T' par par' : Nat → Int} {n v : Nat} (hv : v < 8) : ∀ (k j : Nat), (∀ x w, j ≤ x → x < j + k → w < 8 → T (8 * x + w) = T' (8 * x + w)) → (∀ x, j ≤ x → x < j + k → par x = par' x) → blwT T par n v j k = blwT T' par' n v j k
  | 0, j, _, _ => rfl
  | k + 1, j, h, g => by
    rw [blwT, blwT, g j (Nat.le_refl j) (by omega), lstT_cg hv (fun w hw => h j w (Nat.le_refl j) (by omega) hw), blwT_cg hv k (j + 1) (fun x w a b c => h x w (by omega) (by omega) c) (fun x a b => g x (by omega) (by omega))]
/-- a table that keeps the rule -/
def TabEq (T par own : Nat → Int) (m : Nat) : Prop := ∀ k v, k < m → v < 8 → T (8 * k + v) = basM (own k) v + blwT T par k v (k + 1) (m - (k + 1))
theorem Tab_uni {T T' par par' own own' : Nat → Int} {m : Nat} (h : TabEq T par own m) (h' : TabEq T' par' own' m) (hp : ∀ k, k < m → par k = par' k ∧ own k = own' k) : ∀ (n k : Nat), m ≤ k + n → k < m → ∀ v, v < 8 → T (8 * k + v) = T' (8 * k + v)
  | 0, k, hn, hk, v, hv => by omega
  | n + 1, k, hn, hk, v, hv => by
    rw [h k v hk hv, h' k v hk hv, (hp k hk).2]
    congr 1
    exact blwT_cg hv _ _ (fun x w h1 h2 hw => Tab_uni h h' hp n x (by omega) (by omega) w hw) (fun x h1 h2 => (hp x (by omega)).1)
theorem lndM_cg {A A' : Nat → Nat → Int} (h : A' 87 = A 87) (g : A' 88 = A 88) : lndM A' = lndM A := by
  funext j
  unfold lndM
  rw [h, g]
/-- the rows as the reference lays them -/
theorem allR_ok {m : Nat} (hm : m ≤ 40) : ∀ (k : Nat) (A : Nat → Nat → Int), k ≤ m → (∀ i, 0 ≤ A 92 i ∧ A 92 i ≤ 100000) → (∀ i, -1 ≤ A 87 i ∧ A 87 i ≤ 7) → (∀ i, -1 ≤ A 88 i ∧ A 88 i ≤ 7) → pot A k k (m - k) ≤ (m - k : Nat) → (∀ j v, k ≤ j → j < m → v < 8 → A 92 (8 * j + v) = basM (lndM A j) v + blwM A j v (j + 1) (m - (j + 1)) ∧ 0 ≤ blwM A j v (j + 1) (m - (j + 1)) ∧ blwM A j v (j + 1) (m - (j + 1)) ≤ 39) →
    (∀ a, ¬ a = 92 → allR m A k a = A a) ∧ (∀ i, 0 ≤ allR m A k 92 i ∧ allR m A k 92 i ≤ 100000) ∧ pot (allR m A k) 0 0 m ≤ m ∧ (∀ j v, j < m → v < 8 → allR m A k 92 (8 * j + v) = basM (lndM A j) v + blwM (allR m A k) j v (j + 1) (m - (j + 1)) ∧ 0 ≤ blwM (allR m A k) j v (j + 1) (m - (j + 1)) ∧ blwM (allR m A k) j v (j + 1) (m - (j + 1)) ≤ 39)
  | 0, A, hk, hW, hL, hV, hp, hE => ⟨fun _ _ => rfl, hW, hp, fun j v h1 h2 => hE j v (Nat.zero_le j) h1 h2⟩
  | k + 1, A, hk, hW, hL, hV, hp, hE => by
    have c1 := hL k
    have c2 := hV (A 87 k).toNat
    have hb : -1 ≤ lndM A k ∧ lndM A k ≤ 7 := by
      unfold lndM
      split <;> omega
    have hB : ∀ w, 0 ≤ blwM A k w (k + 1) (m - (k + 1)) ∧ blwM A k w (k + 1) (m - (k + 1)) ≤ 39 := by
      intro w
      have := pot_step hW (n := k) (v := w) (m - (k + 1)) (k + 1)
      have := pot_0 hW (n := k) (m - (k + 1)) (k + 1)
      omega
    have fr : ∀ a i, ¬ (a = 92 ∧ 8 * k ≤ i ∧ i < 8 * k + 8) → rowM m k (lndM A k) A 0 8 a i = A a i := fun a i h => rowM_f h 8 0 A (by omega)
    have at' : ∀ w, w < 8 → rowM m k (lndM A k) A 0 8 92 (8 * k + w) = basM (lndM A k) w + blwM A k w (k + 1) (m - (k + 1)) := fun w hw => by
      rw [rowM_at 8 0 A (by omega) hw, if_pos (by omega)]
    have f86 : rowM m k (lndM A k) A 0 8 86 = A 86 := funext fun i => fr 86 i (by omega)
    have f87 : rowM m k (lndM A k) A 0 8 87 = A 87 := funext fun i => fr 87 i (by omega)
    have f88 : rowM m k (lndM A k) A 0 8 88 = A 88 := funext fun i => fr 88 i (by omega)
    have fl : lndM (rowM m k (lndM A k) A 0 8) = lndM A := lndM_cg f87 f88
    have fb : ∀ j v, k ≤ j → blwM (rowM m k (lndM A k) A 0 8) j v (j + 1) (m - (j + 1)) = blwM A j v (j + 1) (m - (j + 1)) := fun j v hj => blwM_congr (j0 := j + 1) f86 (fun i hi => fr 92 i (by omega)) _ _ (by omega)
    have hW' : ∀ i, 0 ≤ rowM m k (lndM A k) A 0 8 92 i ∧ rowM m k (lndM A k) A 0 8 92 i ≤ 100000 := by
      intro i
      by_cases g : 8 * k ≤ i ∧ i < 8 * k + 8
      · have h1 := at' (i - 8 * k) (by omega)
        have h2 := hB (i - 8 * k)
        have h3 := basM_rng (lndM A k) ((i - 8 * k : Nat) : Int)
        rw [show 8 * k + (i - 8 * k) = i by omega] at h1
        rw [h1]
        omega
      · rw [fr 92 i (by omega)]
        exact hW i
    have hp' : pot (rowM m k (lndM A k) A 0 8) k k (m - k) ≤ (m - k : Nat) := by
      have g1 : pot (rowM m k (lndM A k) A 0 8) k (k + 1) (m - (k + 1)) = pot A k (k + 1) (m - (k + 1)) := pot_congr (j0 := k + 1) f86 (fun i hi => fr 92 i (by omega)) _ _ (by omega)
      have g2 : ∃ w : Nat, w < 8 ∧ basM (lndM A k) w = 0 := by
        by_cases g : lndM A k = -1
        · exact ⟨0, by omega, by unfold basM; rw [if_pos g]⟩
        · exact ⟨(lndM A k).toNat, by omega, by unfold basM; rw [if_neg g, if_pos (by omega)]⟩
      obtain ⟨w, hw, hw0⟩ := g2
      have g3 : cst (rowM m k (lndM A k) A 0 8) k ≤ rowM m k (lndM A k) A 0 8 92 (8 * k + w) + 1 := minS_at (f := fun w => rowM m k (lndM A k) A 0 8 92 (8 * k + w) + 1) 8 0 w _ (by omega) (by omega)
      rw [at' w hw, hw0] at g3
      have g4 := pot_step hW (n := k) (v := w) (m - (k + 1)) (k + 1)
      have g5 := (hB w).1
      rw [show m - k = (m - (k + 1)) + 1 by omega, pot, g1]
      split <;> omega
    obtain ⟨a1, a2, a3, a4⟩ := allR_ok hm k (rowM m k (lndM A k) A 0 8) (by omega) hW' (by rw [f87]; exact hL) (by rw [f88]; exact hV) hp' (by
      intro j v h1 h2 h3
      rw [fl, fb j v h1]
      by_cases g : j = k
      · rw [g]
        exact ⟨at' v h3, hB v⟩
      · rw [fr 92 _ (by omega)]
        exact hE j v (by omega) h2 h3)
    rw [allR]
    refine ⟨fun a ha => by rw [a1 a ha]; exact funext fun i => fr a i (by omega), a2, a3, ?_⟩
    rw [fl] at a4
    exact a4
/-- parents, lands, variants laid as the reference lays them -/
def tabA (par land vars : Nat → Int) : Nat → Nat → Int := fun a i => if a = 86 then par i else if a = 87 then land i else if a = 88 then vars i else 0
def Tab (par land vars : Nat → Int) (m : Nat) : Nat → Int := allR m (tabA par land vars) m 92
def ownV (land vars : Nat → Int) (k : Nat) : Int := if land k = -1 then -1 else vars (land k).toNat
theorem Tab_ok {par land vars : Nat → Int} {m : Nat} (hm : m ≤ 40) (hL : ∀ i, -1 ≤ land i ∧ land i ≤ 7) (hV : ∀ i, -1 ≤ vars i ∧ vars i ≤ 7) : TabEq (Tab par land vars m) par (ownV land vars) m ∧ (∀ j v, j < m → v < 8 → 0 ≤ blwT (Tab par land vars m) par j v (j + 1) (m - (j + 1)) ∧ blwT (Tab par land vars m) par j v (j + 1) (m - (j + 1)) ≤ 39) ∧ (par 0 = -1 → 0 < m → ∃ w, w < 8 ∧ Tab par land vars m w ≤ 39) ∧ (∀ i, 0 ≤ Tab par land vars m i ∧ Tab par land vars m i ≤ 100000) := by
  obtain ⟨a1, a2, a3, a4⟩ := allR_ok hm m (tabA par land vars) (Nat.le_refl m) (fun i => by show 0 ≤ (0 : Int) ∧ (0 : Int) ≤ 100000; omega) hL hV (by rw [Nat.sub_self, pot]; omega) (fun j v h1 h2 => by omega)
  have e86 : allR m (tabA par land vars) m 86 = par := a1 86 (by omega)
  have ew : ∀ j, lndM (tabA par land vars) j = ownV land vars j := fun j => rfl
  have eb : ∀ j v, blwM (allR m (tabA par land vars) m) j v (j + 1) (m - (j + 1)) = blwT (Tab par land vars m) par j v (j + 1) (m - (j + 1)) := fun j v => by rw [blwM_T, e86]; rfl
  refine ⟨fun k v h1 h2 => ?_, fun j v h1 h2 => ?_, fun h0 hm0 => ?_, a2⟩
  · rw [← eb, ← ew]
    exact (a4 k v h1 h2).1
  · rw [← eb]
    exact (a4 j v h1 h2).2
  · obtain ⟨m', rfl⟩ : ∃ m', m = m' + 1 := ⟨m - 1, by omega⟩
    have p0 := pot_0 a2 (n := 0) m' (0 + 1)
    rw [pot, e86, h0, if_pos (by omega)] at a3
    unfold cst at a3
    rcases minS_mem (f := fun w => allR (m' + 1) (tabA par land vars) (m' + 1) 92 (8 * 0 + w) + 1) 8 0 100001 with h | ⟨w, h1, h2, h3⟩
    · rw [h] at a3; omega
    · refine ⟨w, by omega, ?_⟩
      rw [h3] at a3
      rw [show 8 * 0 + w = w by omega] at a3
      show allR (m' + 1) (tabA par land vars) (m' + 1) 92 w ≤ 39
      omega
/-- the least of eight, and the least when a change may be made -/
def mn (f : Nat → Int) : Int := minS f 1 7 (f 0)
def LL (f : Nat → Int) (v : Nat) : Int := minS (fun u => f u + 1) 0 8 (f v)
theorem mn_le {f : Nat → Int} {w : Nat} (hw : w < 8) : mn f ≤ f w := by
  unfold mn
  by_cases g : w = 0
  · rw [g]; exact minS_le 7 1 _
  · exact minS_at 7 1 w _ (by omega) (by omega)
theorem mn_mem (f : Nat → Int) : ∃ w, w < 8 ∧ mn f = f w := by
  unfold mn
  rcases minS_mem (f := f) 7 1 (f 0) with h | ⟨w, h1, h2, h3⟩
  · exact ⟨0, by omega, h⟩
  · exact ⟨w, by omega, h3⟩
theorem mn_ext {f g : Nat → Int} (h : ∀ w, w < 8 → f w = g w) : mn f = mn g := by
  unfold mn
  rw [h 0 (by omega)]
  exact minS_ext _ _ _ (fun j _ h2 => h j (by omega))
theorem LL_ext {f g : Nat → Int} {v : Nat} (hv : v < 8) (h : ∀ w, w < 8 → f w = g w) : LL f v = LL g v := by
  unfold LL
  rw [h v hv]
  exact minS_ext _ _ _ (fun j _ h2 => by rw [h j (by omega)])
theorem LL_mn (f : Nat → Int) (v : Nat) : LL f v = if mn f + 1 < f v then mn f + 1 else f v := by
  obtain ⟨w, hw, e⟩ := mn_mem f
  unfold LL
  split
  · rename_i g
    apply minS_eq (by omega)
    · intro u _ h2
      have := mn_le (f := f) (w := u) (by omega)
      omega
    · exact Or.inr ⟨w, by omega, by omega, by omega⟩
  · rename_i g
    apply minS_eq (Int.le_refl _)
    · intro u _ h2
      have := mn_le (f := f) (w := u) (by omega)
      omega
    · exact Or.inl rfl
theorem mn_1000 {f : Nat → Int} (h : ∃ w, w < 8 ∧ f w ≤ 1000) : minS f 0 8 1000 = mn f := by
  obtain ⟨w, hw, e⟩ := mn_mem f
  obtain ⟨x, hx, hx2⟩ := h
  have := mn_le (f := f) hx
  apply minS_eq (by omega)
  · intro u _ h2
    exact mn_le (by omega)
  · exact Or.inr ⟨w, by omega, by omega, e⟩
/-- two sides of an edge: the least is the same from both -/
theorem mn_two (a b : Nat → Int) : mn (fun v => a v + LL b v) ≤ mn (fun v => b v + LL a v) := by
  obtain ⟨u, hu, e⟩ := mn_mem (fun v => b v + LL a v)
  rw [e, LL_mn a u]
  by_cases g : mn a + 1 < a u
  · rw [if_pos g]
    obtain ⟨w, hw, e2⟩ := mn_mem a
    have h1 := mn_le (f := fun v => a v + LL b v) hw
    have h2 : LL b w ≤ b u + 1 := minS_at (f := fun u => b u + 1) 8 0 u _ (by omega) (by omega)
    omega
  · rw [if_neg g]
    have h1 := mn_le (f := fun v => a v + LL b v) hu
    have h2 : LL b u ≤ b u := minS_le 8 0 _
    omega
def rsT (H T par : Nat → Int) (k u : Nat) : Int := H (8 * (par k).toNat + u) - lstT T k u
/-- the whole tree's costs, node by node -/
def WhEq (H T par : Nat → Int) (m : Nat) : Prop := (∀ v, v < 8 → H v = T v) ∧ ∀ k v, 1 ≤ k → k < m → v < 8 → H (8 * k + v) = T (8 * k + v) + LL (rsT H T par k) v
theorem lstT_LL (T : Nat → Int) (k v : Nat) : lstT T k v = LL (fun w => T (8 * k + w)) v := rfl
theorem Wh_uni {H H' T T' par par' : Nat → Int} {m : Nat} (h : WhEq H T par m) (h' : WhEq H' T' par' m) (hT : ∀ k v, k < m → v < 8 → T (8 * k + v) = T' (8 * k + v)) (hm : 0 < m) (hp : ∀ k, 1 ≤ k → k < m → par k = par' k ∧ 0 ≤ par k ∧ par k < k) : ∀ (n k : Nat), k < n → k < m → ∀ v, v < 8 → H (8 * k + v) = H' (8 * k + v)
  | 0, k, hn, hk, v, hv => by omega
  | n + 1, k, hn, hk, v, hv => by
    by_cases g : k = 0
    · subst g
      rw [show 8 * 0 + v = v by omega, h.1 v hv, h'.1 v hv]
      have := hT 0 v hm hv
      rw [show 8 * 0 + v = v by omega] at this
      exact this
    · have p := hp k (by omega) hk
      rw [h.2 k v (by omega) hk hv, h'.2 k v (by omega) hk hv, hT k v hk hv]
      congr 1
      apply LL_ext hv
      intro w hw
      unfold rsT
      rw [← p.1, Wh_uni h h' hT hm hp n (par k).toNat (by omega) (by omega) w hw, lstT_cg hw (fun x hx => hT k x hk hx)]
theorem Wh_mn {H T par : Nat → Int} {m : Nat} (h : WhEq H T par m) (hp : ∀ k, 1 ≤ k → k < m → 0 ≤ par k ∧ par k < k) : ∀ (n k : Nat), k < n → k < m → mn (fun v => H (8 * k + v)) = mn T
  | 0, k, hn, hk => by omega
  | n + 1, k, hn, hk => by
    by_cases g : k = 0
    · subst g
      apply mn_ext
      intro w hw
      rw [show 8 * 0 + w = w by omega]
      exact h.1 w hw
    · have p := hp k (by omega) hk
      rw [← Wh_mn h hp n (par k).toNat (by omega) (by omega)]
      have e1 : mn (fun v => H (8 * k + v)) = mn (fun v => T (8 * k + v) + LL (rsT H T par k) v) := mn_ext (fun w hw => h.2 k w (by omega) hk hw)
      have e2 : mn (fun v => H (8 * (par k).toNat + v)) = mn (fun v => rsT H T par k v + LL (fun w => T (8 * k + w)) v) := mn_ext (fun w hw => by
        rw [← lstT_LL]
        unfold rsT
        omega)
      rw [e1, e2]
      exact Int.le_antisymm (mn_two _ _) (mn_two _ _)
theorem LL_rng {f : Nat → Int} {lo hi : Int} (h : ∀ w, w < 8 → lo ≤ f w ∧ f w ≤ hi) {v : Nat} (hv : v < 8) : lo ≤ LL f v ∧ LL f v ≤ hi := by
  obtain ⟨w, hw, e⟩ := mn_mem f
  have h1 := h w hw
  have h2 := h v hv
  rw [LL_mn]
  split <;> omega
theorem mn_rng {f : Nat → Int} {lo hi : Int} (h : ∀ w, w < 8 → lo ≤ f w ∧ f w ≤ hi) : lo ≤ mn f ∧ mn f ≤ hi := by
  obtain ⟨w, hw, e⟩ := mn_mem f
  rw [e]
  exact h w hw
theorem rs_rng {H T par : Nat → Int} {k : Nat} {c : Int} (hT : ∀ v, v < 8 → 0 ≤ T (8 * k + v) ∧ T (8 * k + v) ≤ 1039) (hH : ∀ v, v < 8 → -c ≤ H (8 * (par k).toNat + v) ∧ H (8 * (par k).toNat + v) ≤ c) : ∀ v, v < 8 → -c - 1039 ≤ rsT H T par k v ∧ rsT H T par k v ≤ c := by
  intro v hv
  have h1 := LL_rng hT hv
  have h2 := hH v hv
  unfold rsT
  rw [lstT_LL]
  omega
