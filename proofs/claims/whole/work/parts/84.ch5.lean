/-! BY CHANCE: least changes ask only which are alike -/
theorem mn_sw {f : Nat → Int} {x y : Nat} (hx : x < 8) (hy : y < 8) : mn (fun u => f (swN x y u)) = mn f := by
  apply Int.le_antisymm
  · obtain ⟨w, hw, e⟩ := mn_mem f
    rw [e]
    have := mn_le (f := fun u => f (swN x y u)) (w := swN x y w) (swN_lt hx hy hw)
    rw [swN_swN] at this
    exact this
  · obtain ⟨w, hw, e⟩ := mn_mem (fun u => f (swN x y u))
    rw [e]
    exact mn_le (swN_lt hx hy hw)
theorem basM_sw {b : Int} {x y w : Nat} (hb : -1 ≤ b ∧ b ≤ 7) : basM (swI x y b) (w : Int) = basM b ((swN x y w : Nat) : Int) := by
  by_cases g : b = -1
  · have : swI x y b = -1 := by
      unfold swI
      rw [if_neg (by omega), if_neg (by omega)]
      exact g
    unfold basM
    rw [if_pos this, if_pos g]
  · obtain ⟨n, rfl⟩ := Int.eq_ofNat_of_zero_le (show 0 ≤ b by omega)
    rw [swN_I]
    unfold basM
    rw [if_neg (show ¬ ((swN x y n : Nat) : Int) = -1 by omega), if_neg (show ¬ (n : Int) = -1 by omega)]
    by_cases g2 : swN x y n = w
    · have g3 : n = swN x y w := by rw [← g2, swN_swN]
      rw [if_pos (show ((swN x y n : Nat) : Int) = (w : Int) by omega), if_pos (show (n : Int) = ((swN x y w : Nat) : Int) by omega)]
    · have g3 : ¬ n = swN x y w := fun e => g2 (by rw [e, swN_swN])
      rw [if_neg (show ¬ ((swN x y n : Nat) : Int) = (w : Int) by omega), if_neg (show ¬ (n : Int) = ((swN x y w : Nat) : Int) by omega)]
def swT (T : Nat → Int) (x y : Nat) : Nat → Int := fun i => T (8 * (i / 8) + swN x y (i % 8))
theorem swT_at {T : Nat → Int} {x y k w : Nat} (hw : w < 8) : swT T x y (8 * k + w) = T (8 * k + swN x y w) := by
  unfold swT
  rw [show (8 * k + w) / 8 = k by omega, show (8 * k + w) % 8 = w by omega]
theorem lst_sw {T : Nat → Int} {x y k w : Nat} (hx : x < 8) (hy : y < 8) (hw : w < 8) : lstT (swT T x y) k w = lstT T k (swN x y w) := by
  rw [lstT_LL, lstT_LL, LL_ext (g := fun u => (fun u => T (8 * k + u)) (swN x y u)) hw (fun u hu => swT_at hu), LL_mn, LL_mn, mn_sw (f := fun u => T (8 * k + u)) hx hy]
theorem blw_sw {T par : Nat → Int} {x y n w : Nat} (hx : x < 8) (hy : y < 8) (hw : w < 8) : ∀ (k j : Nat), blwT (swT T x y) par n w j k = blwT T par n (swN x y w) j k
  | 0, j => rfl
  | k + 1, j => by rw [blwT, blwT, blw_sw hx hy hw k (j + 1), lst_sw hx hy hw]
theorem lcV_sw {par land v v' : Nat → Int} {m x y : Nat} (hm : 1 ≤ m ∧ m ≤ 40) (hL : ∀ i, -1 ≤ land i ∧ land i ≤ 7) (hV : ∀ i, -1 ≤ v i ∧ v i ≤ 7) (hV' : ∀ i, -1 ≤ v' i ∧ v' i ≤ 7) (h0 : par 0 = -1) (hx : x < 8) (hy : y < 8) (h : ∀ l, (∃ k, k < m ∧ land k = (l : Nat)) → v' l = swI x y (v l)) : lcV par land v' m = lcV par land v m := by
  have K := Tab_ok (par := par) hm.2 hL hV
  have K' := Tab_ok (par := par) hm.2 hL hV'
  have hE : TabEq (swT (Tab par land v m) x y) par (ownV land v') m := by
    intro k w hk hw
    rw [swT_at hw, K.1 k _ hk (swN_lt hx hy hw), blw_sw hx hy hw]
    congr 1
    have : ownV land v' k = swI x y (ownV land v k) := by
      have hl := hL k
      unfold ownV
      by_cases g : land k = -1
      · rw [if_pos g, if_pos g]
        unfold swI
        rw [if_neg (by omega), if_neg (by omega)]
      · rw [if_neg g, if_neg g]
        exact h (land k).toNat ⟨k, hk, by omega⟩
    rw [this, basM_sw (ownV_rng hV k)]
  rw [(lcV_mn hm hL hV' h0).1, (lcV_mn hm hL hV h0).1, ← mn_sw (f := Tab par land v m) hx hy]
  apply mn_ext
  intro w hw
  have := Tab_uni K'.1 hE (fun k _ => ⟨rfl, rfl⟩) m 0 (by omega) (by omega) w hw
  rw [swT_at hw] at this
  rw [Nat.mul_zero, Nat.zero_add, Nat.zero_add] at this
  exact this
theorem lcV_cg {par par' land land' v v' : Nat → Int} {m : Nat} (hm : 1 ≤ m ∧ m ≤ 40) (hL : ∀ i, -1 ≤ land i ∧ land i ≤ 7) (hL' : ∀ i, -1 ≤ land' i ∧ land' i ≤ 7) (hV : ∀ i, -1 ≤ v i ∧ v i ≤ 7) (hV' : ∀ i, -1 ≤ v' i ∧ v' i ≤ 7) (h0 : par 0 = -1) (hp : ∀ k, k < m → par k = par' k ∧ land k = land' k) (h : ∀ l, (∃ k, k < m ∧ land k = (l : Nat)) → v' l = v l) : lcV par' land' v' m = lcV par land v m := by
  have K := Tab_ok (par := par) hm.2 hL hV
  have K' := Tab_ok (par := par') hm.2 hL' hV'
  have h0' : par' 0 = -1 := by rw [← (hp 0 (by omega)).1]; exact h0
  rw [(lcV_mn hm hL' hV' h0').1, (lcV_mn hm hL hV h0).1]
  apply mn_ext
  intro w hw
  have := Tab_uni K'.1 K.1 (fun k hk => ⟨(hp k hk).1.symm, by
    have hl := hL k
    unfold ownV
    rw [← (hp k hk).2]
    by_cases g : land k = -1
    · rw [if_pos g, if_pos g]
    · rw [if_neg g, if_neg g]
      exact h (land k).toNat ⟨k, hk, by omega⟩⟩) m 0 (by omega) (by omega) w hw
  rw [Nat.mul_zero, Nat.zero_add] at this
  exact this
/-- deals ask for nothing that is dealt anew -/
theorem KK_cg {P : (Nat → Int) → Bool} {had : Nat → Nat} : ∀ (ss : List Nat) (c : Nat → Nat) (v v' : Nat → Int), (∀ l, ¬ l ∈ ss → v l = v' l) → KK P had ss c v = KK P had ss c v'
  | [], c, v, v', h => by
    have : v = v' := funext fun l => h l (by simp)
    rw [this]
  | s :: ss, c, v, v', h => by
    rw [KK, KK]
    apply sN_ext
    intro x _
    rw [KK_cg ss (dec c x) (setA v s x) (setA v' s x) (fun l hl => by
      by_cases g : l = s
      · rw [setA_s g, setA_s g]
      · rw [setA_n g, setA_n g]
        exact h l (by simp [g, hl]))]
theorem dl_cg : ∀ (ss fr : List Nat) (num : Nat) (v v' : Nat → Int), (∀ l, ¬ l ∈ ss → v l = v' l) → dlV ss fr num v = dlV ss fr num v'
  | [], fr, num, v, v', h => funext fun l => h l (by simp)
  | s :: ss, fr, num, v, v', h => by
    rw [dlV, dlV]
    apply dl_cg ss
    intro l hl
    by_cases g : l = s
    · rw [setA_s g, setA_s g]
    · rw [setA_n g, setA_n g]
      exact h l (by simp [g, hl])
theorem dl_out : ∀ (ss fr : List Nat) (num : Nat) (v : Nat → Int) (l : Nat), ¬ l ∈ ss → dlV ss fr num v l = v l
  | [], fr, num, v, l, h => rfl
  | s :: ss, fr, num, v, l, h => by
    rw [List.mem_cons, not_or] at h
    rw [dlV, dl_out ss _ _ _ l h.2, setA_n h.1]
theorem KK_big {P : (Nat → Int) → Bool} {had : Nat → Nat} : ∀ (ss : List Nat) (c : Nat → Nat) (v : Nat → Int), KK P had ss c v ≤ 8 ^ ss.length
  | [], c, v => by rw [KK]; split <;> simp
  | s :: ss, c, v => by
    rw [KK, List.length_cons, Nat.pow_succ]
    have : ∀ n, sN (fun x => if 0 < c x ∧ twB had c x = false then KK P had ss (dec c x) (setA v s x) else 0) n ≤ 8 ^ ss.length * n := by
      intro n
      induction n with
      | zero => simp [sN]
      | succ n ih =>
        rw [sN, Nat.mul_add, Nat.mul_one]
        apply Nat.add_le_add ih
        split
        · exact KK_big ss _ _
        · exact Nat.zero_le _
    exact this 8
/-- the share is the same -/
theorem share {a b x y k : Nat} (ha : a = k * x) (hb : b = k * y) (hk : 0 < k) : a / Nat.gcd a b = x / Nat.gcd x y ∧ b / Nat.gcd a b = y / Nat.gcd x y := by
  rw [ha, hb, Nat.gcd_mul_left, Nat.mul_div_mul_left _ _ hk, Nat.mul_div_mul_left _ _ hk]
  exact ⟨rfl, rfl⟩
/-- a divisor by a bounded count of steps -/
def gdF : Nat → Nat → Nat → Nat
  | 0, a, _ => a
  | k + 1, a, b => if b = 0 then a else gdF k b (a % b)
theorem gd_ok : ∀ (j k a b : Nat), b < 2 ^ j → 2 * j ≤ k → gdF k a b = Nat.gcd a b
  | 0, k, a, b, hb, hk => by
    rw [Nat.pow_zero] at hb
    have e : b = 0 := by omega
    subst e
    rw [Nat.gcd_zero_right]
    cases k with
    | zero => rfl
    | succ k => rw [gdF, if_pos rfl]
  | j + 1, k, a, b, hb, hk => by
    obtain ⟨k2, rfl⟩ : ∃ k2, k = k2 + 1 + 1 := ⟨k - 2, by omega⟩
    rw [gdF]
    by_cases g : b = 0
    · rw [if_pos g, g, Nat.gcd_zero_right]
    · rw [if_neg g, gdF]
      have m1 := Nat.mod_lt a (show b > 0 by omega)
      by_cases g2 : a % b = 0
      · rw [if_pos g2, Nat.gcd_comm, Nat.gcd_rec, g2, Nat.gcd_zero_left]
      · rw [if_neg g2]
        have m2 := Nat.mod_lt b (show a % b > 0 by omega)
        have m3 : b % (a % b) ≤ b - a % b := by
          have := Nat.div_add_mod b (a % b)
          have q : 1 ≤ b / (a % b) := (Nat.one_le_div_iff (by omega)).mpr (by omega)
          have : (a % b) * 1 ≤ (a % b) * (b / (a % b)) := Nat.mul_le_mul_left _ q
          omega
        rw [Nat.pow_succ] at hb
        rw [gd_ok j k2 (a % b) (b % (a % b)) (by omega) (by omega), Nat.gcd_comm a b, Nat.gcd_rec b a, Nat.gcd_rec (a % b) b]
        rw [Nat.gcd_comm]
