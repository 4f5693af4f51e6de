/-! THE REFERENCE: chance -/
/-- the lands with a variant, in the order of the nodes -/
def wlL (land vars : Nat → Int) : Nat → List Nat
  | 0 => []
  | k + 1 => if land k = -1 ∨ vars (land k).toNat = -1 then wlL land vars k else wlL land vars k ++ [(land k).toNat]
theorem wl_mem {land vars : Nat → Int} (hL : ∀ i, -1 ≤ land i ∧ land i ≤ 7) : ∀ (k l : Nat), l ∈ wlL land vars k ↔ (∃ j, j < k ∧ land j = (l : Int)) ∧ ¬ vars l = -1
  | 0, l => by
    simp [wlL]
  | k + 1, l => by
    have hk := hL k
    rw [wlL]
    by_cases g : land k = -1 ∨ vars (land k).toNat = -1
    · rw [if_pos g, wl_mem hL k l]
      constructor
      · rintro ⟨⟨j, h1, h2⟩, h3⟩
        exact ⟨⟨j, by omega, h2⟩, h3⟩
      · rintro ⟨⟨j, h1, h2⟩, h3⟩
        by_cases e : j = k
        · exfalso
          rw [e] at h2
          rcases g with g | g
          · omega
          · rw [show (land k).toNat = l by omega] at g
            exact h3 g
        · exact ⟨⟨j, by omega, h2⟩, h3⟩
    · rw [if_neg g, List.mem_append, wl_mem hL k l, List.mem_singleton]
      constructor
      · rintro (⟨⟨j, h1, h2⟩, h3⟩ | h)
        · exact ⟨⟨j, by omega, h2⟩, h3⟩
        · rw [h]
          exact ⟨⟨k, by omega, by omega⟩, fun e => g (Or.inr e)⟩
      · rintro ⟨⟨j, h1, h2⟩, h3⟩
        by_cases e : j = k
        · right; rw [e] at h2; omega
        · exact Or.inl ⟨⟨j, by omega, h2⟩, h3⟩
theorem wl_nodup {land vars : Nat → Int} {m : Nat} (hL : ∀ i, -1 ≤ land i ∧ land i ≤ 7) (hJ : ∀ j k, j < m → k < m → land j = land k → ¬ land j = -1 → j = k) : ∀ k, k ≤ m → (wlL land vars k).Nodup
  | 0, _ => by simp [wlL]
  | k + 1, h => by
    have hk := hL k
    rw [wlL]
    by_cases g : land k = -1 ∨ vars (land k).toNat = -1
    · rw [if_pos g]; exact wl_nodup hL hJ k (by omega)
    · rw [if_neg g, List.nodup_append]
      refine ⟨wl_nodup hL hJ k (by omega), by simp, ?_⟩
      intro a ha b hb e
      rw [List.mem_singleton] at hb
      obtain ⟨⟨j, j1, j2⟩, -⟩ := (wl_mem hL k a).mp ha
      have := hJ j k (by omega) (by omega) (by omega) (by omega)
      omega
theorem len_8 {l : List Nat} (hn : l.Nodup) (h8 : ∀ x, x ∈ l → x < 8) : l.length ≤ 8 := by
  have p : l.Perm (seL (fun x => decide (x ∈ l)) 8) := by
    rw [List.perm_ext_iff_of_nodup hn (seL_nodup 8)]
    intro a
    rw [seL_mem]
    constructor
    · intro h; exact ⟨h8 a h, by simp [h]⟩
    · rintro ⟨-, h⟩; simpa using h
  rw [p.length_eq]
  exact seL_len 8
theorem whL_eq {l : List Nat} : ∀ (n a : Nat), a + n = l.length → whL (fun i => l.getD i 0) a n = l.drop a
  | 0, a, h => by rw [whL, List.drop_eq_nil_of_le (by omega)]
  | n + 1, a, h => by
    rw [whL, whL_eq n (a + 1) (by omega), List.drop_eq_getElem_cons (show a < l.length by omega), List.getD_eq_getElem?_getD, List.getElem?_eq_getElem (show a < l.length by omega)]
    rfl
theorem whL_map {l : List Nat} {f : Nat → Nat} : ∀ (n a : Nat), a + n = l.length → whL (fun i => f (l.getD i 0)) a n = (l.drop a).map f
  | 0, a, h => by rw [whL, List.drop_eq_nil_of_le (by omega)]; rfl
  | n + 1, a, h => by
    rw [whL, whL_map n (a + 1) (by omega), List.drop_eq_getElem_cons (show a < l.length by omega), List.getD_eq_getElem?_getD, List.getElem?_eq_getElem (show a < l.length by omega)]
    rfl
theorem frF_full {fm : Nat} {D : Nat → Nat} : ∀ (n i : Nat), (∀ s, i ≤ s → s < i + n → fm.testBit s = true) → frF fm D i n = whL D i n
  | 0, i, _ => rfl
  | n + 1, i, h => by rw [frF, whL, if_pos (h i (Nat.le_refl i) (by omega)), frF_full n (i + 1) (fun s h1 h2 => h s (by omega) (by omega))]
theorem cn_se {p : Nat → Bool} {vars : Nat → Int} (hV : ∀ l, p l = true → 0 ≤ vars l) (x : Nat) : ∀ j, ((seL p j).map (fun l => (vars l).toNat)).count x = hdN p vars j x
  | 0 => rfl
  | j + 1 => by
    have eh : hdN p vars (j + 1) x = hdN p vars j x + (if p j = true ∧ vars j = (x : Int) then 1 else 0) := rfl
    rw [eh, ← cn_se hV x j, seL]
    by_cases g : p j = true
    · have v0 := hV j g
      rw [if_pos g, List.map_append, List.count_append]
      congr 1
      show List.count x [(vars j).toNat] = _
      rw [List.count_singleton]
      by_cases e : vars j = x
      · rw [if_pos (show p j = true ∧ vars j = (x : Int) from ⟨g, e⟩), if_pos (show ((vars j).toNat == x) = true by simp; omega)]
      · rw [if_neg (show ¬ (p j = true ∧ vars j = (x : Int)) from fun h => e h.2), if_neg (show ¬ ((vars j).toNat == x) = true by simp; omega)]
    · rw [if_neg g, if_neg (fun h => g h.1), Nat.add_zero]
theorem dl_rng {v : Nat → Int} (hv : ∀ i, -1 ≤ v i ∧ v i ≤ 7) : ∀ (ss fr : List Nat) (num : Nat) (v : Nat → Int), (∀ i, -1 ≤ v i ∧ v i ≤ 7) → (∀ x, x ∈ fr → x < 8) → ∀ i, -1 ≤ dlV ss fr num v i ∧ dlV ss fr num v i ≤ 7
  | [], fr, num, v, h, hf => h
  | s :: ss, fr, num, v, h, hf => by
    rw [dlV]
    apply dl_rng hv ss
    · intro i
      by_cases e : i = s
      · rw [setA_s e]
        have : fr.getD (num % fr.length) 0 < 8 := by
          rw [List.getD_eq_getElem?_getD]
          cases c : fr[num % fr.length]? with
          | none => decide
          | some y => exact hf y (List.mem_of_getElem? c)
        omega
      · rw [setA_n e]; exact h i
    · intro x hx
      exact hf x (List.mem_of_mem_eraseIdx hx)
def clV (u : Nat → Int) : Nat → Int := fun i => if -1 ≤ u i ∧ u i ≤ 7 then u i else -1
theorem clV_rng (u : Nat → Int) : ∀ i, -1 ≤ clV u i ∧ clV u i ≤ 7 := by
  intro i
  unfold clV
  split <;> omega
theorem clV_id {u : Nat → Int} (h : ∀ i, -1 ≤ u i ∧ u i ≤ 7) : clV u = u := by
  funext i
  unfold clV
  rw [if_pos (h i)]
theorem clV_sw {u u' : Nat → Int} {x y l : Nat} (hx : x < 8) (hy : y < 8) (h : u' l = swI x y (u l)) : clV u' l = swI x y (clV u l) := by
  unfold clV
  rw [h]
  by_cases g : -1 ≤ u l ∧ u l ≤ 7
  · rw [if_pos g, if_pos]
    unfold swI
    split
    · omega
    · split <;> omega
  · have e : swI x y (u l) = u l := by
      unfold swI
      rw [if_neg (by omega), if_neg (by omega)]
    rw [e, if_neg g]
    unfold swI
    rw [if_neg (by omega), if_neg (by omega)]
theorem KK_P {P P' : (Nat → Int) → Bool} {had : Nat → Nat} (h : ∀ u, (∀ i, -1 ≤ u i ∧ u i ≤ 7) → P u = P' u) : ∀ (ss : List Nat) (c : Nat → Nat) (v : Nat → Int), (∀ i, -1 ≤ v i ∧ v i ≤ 7) → KK P had ss c v = KK P' had ss c v
  | [], c, v, hv => by rw [KK, KK, h v hv]
  | s :: ss, c, v, hv => by
    rw [KK, KK]
    apply sN_ext
    intro x hx
    rw [KK_P h ss (dec c x) (setA v s x) (fun i => by
      by_cases e : i = s
      · rw [setA_s e]; omega
      · rw [setA_n e]; exact hv i)]
theorem GG_P {P P' : (Nat → Int) → Bool} (h : ∀ u, (∀ i, -1 ≤ u i ∧ u i ≤ 7) → P u = P' u) : ∀ (ss fr : List Nat) (v : Nat → Int), (∀ i, -1 ≤ v i ∧ v i ≤ 7) → (∀ x, x ∈ fr → x < 8) → GG P ss fr v = GG P' ss fr v
  | [], fr, v, hv, hf => by rw [GG, GG, h v hv]
  | s :: ss, fr, v, hv, hf => by
    rw [GG, GG]
    apply sN_ext
    intro k hk
    rw [GG_P h ss (fr.eraseIdx k) _ (fun i => by
      by_cases e : i = s
      · rw [setA_s e]
        have : fr.getD k 0 < 8 := by
          rw [List.getD_eq_getElem?_getD, List.getElem?_eq_getElem hk]
          exact hf _ (List.getElem_mem hk)
        omega
      · rw [setA_n e]; exact hv i) (fun x hx => hf x (List.mem_of_mem_eraseIdx hx))]
/-- both count the same share -/
theorem chance_eq {par land vars v : Nat → Int} {m : Nat} {p : Nat → Bool} (hm : 1 ≤ m ∧ m ≤ 40) (hL : ∀ i, -1 ≤ land i ∧ land i ≤ 7) (hV : ∀ i, -1 ≤ vars i ∧ vars i ≤ 7) (hv : ∀ i, -1 ≤ v i ∧ v i ≤ 7) (h0 : par 0 = -1) (hJ : ∀ j k, j < m → k < m → land j = land k → ¬ land j = -1 → j = k) (hp : ∀ l, p l = true ↔ (∃ k, k < m ∧ land k = (l : Nat)) ∧ ¬ vars l = -1) (hvv : ∀ l, l < 8 → v l = vars l) :
    ∃ w, 0 < w ∧ GG (fun u => decide (lcV par land u m ≤ lcV par land vars m)) (wlL land vars m) ((wlL land vars m).map (fun l => (vars l).toNat)) vars = w * KK (fun u => decide (lcV par land u m ≤ lcV par land vars m)) (hdN p vars 8) (seL p 8) (hdN p vars 8) v ∧ GG (fun _ => true) (wlL land vars m) ((wlL land vars m).map (fun l => (vars l).toNat)) vars = w * KK (fun _ => true) (hdN p vars 8) (seL p 8) (hdN p vars 8) v := by
  have mem8 : ∀ l, l ∈ wlL land vars m → l < 8 := by
    intro l hl
    obtain ⟨⟨j, -, e⟩, -⟩ := (wl_mem hL m l).mp hl
    have := hL j
    omega
  have nd := wl_nodup (vars := vars) hL hJ m (Nat.le_refl m)
  have perm : (wlL land vars m).Perm (seL p 8) := by
    rw [List.perm_ext_iff_of_nodup nd (seL_nodup 8)]
    intro a
    rw [seL_mem, hp, wl_mem hL]
    constructor
    · intro h
      refine ⟨?_, h⟩
      obtain ⟨⟨j, -, e⟩, -⟩ := h
      have := hL j
      omega
    · rintro ⟨-, h⟩; exact h
  have cn : cnF ((wlL land vars m).map (fun l => (vars l).toNat)) = hdN p vars 8 := by
    funext x
    unfold cnF
    rw [(perm.map (fun l => (vars l).toNat)).count_eq x]
    exact cn_se (fun l hl => by
      have := hV l
      have := ((hp l).mp hl).2
      omega) x 8
  have fr8 : ∀ x, x ∈ (wlL land vars m).map (fun l => (vars l).toNat) → x < 8 := by
    intro x hx
    rw [List.mem_map] at hx
    obtain ⟨l, -, rfl⟩ := hx
    have := hV l
    omega
  have key : ∀ P : (Nat → Int) → Bool, (∀ x y, x < 8 → y < 8 → ∀ u u', (∀ i, -1 ≤ u i ∧ u i ≤ 7) → (∀ i, -1 ≤ u' i ∧ u' i ≤ 7) → (∀ l, (∃ k, k < m ∧ land k = (l : Nat)) → u' l = swI x y (u l)) → P u' = P u) → GG P (wlL land vars m) ((wlL land vars m).map (fun l => (vars l).toNat)) vars = WW (hdN p vars 8) * CC (hdN p vars 8) (hdN p vars 8) * KK P (hdN p vars 8) (seL p 8) (hdN p vars 8) v := by
    intro P hP
    have e1 : ∀ u, (∀ i, -1 ≤ u i ∧ u i ≤ 7) → P u = (fun u => P (clV u)) u := fun u hu => by
      show P u = P (clV u)
      rw [clV_id hu]
    have hP' : ∀ x y, x < 8 → y < 8 → ∀ u u', (∀ l, (∃ k, k < m ∧ land k = (l : Nat)) → u' l = swI x y (u l)) → (fun u => P (clV u)) u' = (fun u => P (clV u)) u := fun x y hx hy u u' h => hP x y hx hy (clV u) (clV u') (clV_rng u) (clV_rng u') (fun l hl => clV_sw hx hy (h l hl))
    have s0 : ∀ z : Int, swI 0 0 z = z := by
      intro z
      unfold swI
      by_cases e : z = ((0 : Nat) : Int)
      · rw [if_pos e, e]
      · rw [if_neg e, if_neg e]
    rw [GG_P e1 _ _ vars hV fr8, GG_U _ _ _ (by rw [List.length_map]) fr8, cn, U_perm perm nd]
    rw [U_sym (R := fun l => ∃ k, k < m ∧ land k = (l : Nat)) (x := 0) (y := 0) (by omega) (by omega) (hP' 0 0 (by omega) (by omega)) (seL p 8) (hdN p vars 8) vars v (fun l hl _ => by
      obtain ⟨k, -, e⟩ := hl
      have := hL k
      rw [s0]
      exact hvv l (by omega))]
    have es : (fun z => hdN p vars 8 (swN 0 0 z)) = hdN p vars 8 := by
      funext z
      have : swN 0 0 z = z := by
        unfold swN
        by_cases a : z = 0
        · rw [if_pos a, a]
        · rw [if_neg a, if_neg a]
      rw [this]
    rw [es, U_K (R := fun l => ∃ k, k < m ∧ land k = (l : Nat)) hP' (fun x => hdN_le 8) (seL p 8) (hdN p vars 8) v (hdN_sum (fun l hl => by
      have := hV l
      have := ((hp l).mp hl).2
      omega) 8) (fun z => Nat.le_refl _) (fun z hz _ _ l hl hns => by
      obtain ⟨k, hk, e⟩ := hl
      have hlk := hL k
      have hl8 : l < 8 := by omega
      rw [hvv l hl8]
      have : ¬ p l = true := fun hpl => hns ((seL_mem 8 l).mpr ⟨hl8, hpl⟩)
      rw [hp] at this
      have vm : vars l = -1 := by
        by_cases c : vars l = -1
        · exact c
        · exact absurd ⟨⟨k, hk, e⟩, c⟩ this
      omega), ← Nat.mul_assoc, ← KK_P e1 (seL p 8) (hdN p vars 8) v hv]
  refine ⟨WW (hdN p vars 8) * CC (hdN p vars 8) (hdN p vars 8), Nat.mul_pos (pN_pos (fun _ => fac_pos _) 8) (CC_pos _ _), key _ ?_, key _ (fun _ _ _ _ _ _ _ _ _ => rfl)⟩
  intro x y hx hy u u' hu hu' h
  rw [lcV_sw hm hL hu hu' h0 hx hy h]
