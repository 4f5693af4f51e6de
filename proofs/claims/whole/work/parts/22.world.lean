/-! THE WORLD BEHIND THE CONSTRUCTORS, as a function of the state: F the int fields (object, slot), A the int arrays (address, place), B the long array, hs the reference's hash, t1 t2 the two trees -/
def WT : List (Nat × Nat × List (Nat × Nat)) := [(4, 0, []),
  (5, 0, []),
  (2, 11, [(1, 3), (1, 13), (1, 18), (1, 25), (1, 38), (1, 48), (1, 50), (1, 53), (1, 57), (1, 62), (2, 0), (3, 0), (0, 0), (0, 0)]),
  (2, 3, [(0, 0), (0, 0), (1, 4), (1, 5), (1, 6), (1, 7), (1, 8), (1, 9), (1, 10), (1, 11), (1, 12)]),
  (0, 12, []),
  (0, 24, []),
  (0, 24, []),
  (0, 48, []),
  (0, 16, []),
  (0, 20, []),
  (0, 20, []),
  (0, 20, []),
  (0, 60, []),
  (2, 6, [(1, 3), (1, 14), (1, 16), (1, 17), (0, 0)]),
  (2, 7, [(1, 15)]),
  (0, 16, []),
  (0, 60, []),
  (0, 10, []),
  (2, 4, [(1, 19), (1, 20), (1, 21), (1, 22), (1, 23), (0, 0), (0, 0), (0, 0), (0, 0)]),
  (0, 20, []),
  (0, 20, []),
  (0, 20, []),
  (0, 21, []),
  (2, 7, [(1, 24)]),
  (0, 16, []),
  (2, 2, [(1, 13), (1, 26), (1, 27), (1, 28), (1, 29), (0, 0)]),
  (3, 4, [(1, 30), (1, 32), (1, 34), (1, 36)]),
  (0, 6, []),
  (0, 6, []),
  (0, 6, []),
  (2, 7, [(1, 31)]),
  (0, 16, []),
  (2, 7, [(1, 33)]),
  (0, 16, []),
  (2, 7, [(1, 35)]),
  (0, 16, []),
  (2, 7, [(1, 37)]),
  (0, 16, []),
  (2, 9, [(1, 13), (1, 39), (0, 0)]),
  (3, 4, [(1, 40), (1, 42), (1, 44), (1, 46)]),
  (2, 7, [(1, 41)]),
  (0, 16, []),
  (2, 7, [(1, 43)]),
  (0, 16, []),
  (2, 7, [(1, 45)]),
  (0, 16, []),
  (2, 7, [(1, 47)]),
  (0, 16, []),
  (2, 5, [(1, 49), (0, 0)]),
  (0, 40, []),
  (2, 8, [(1, 51), (1, 52)]),
  (0, 60, []),
  (1, 64, []),
  (2, 0, [(1, 54), (1, 55), (1, 56)]),
  (0, 320, []),
  (0, 320, []),
  (0, 8, []),
  (2, 1, [(1, 58), (1, 59), (1, 60), (1, 61), (0, 0), (0, 0), (0, 0), (0, 0)]),
  (0, 8, []),
  (0, 8, []),
  (0, 8, []),
  (0, 8, []),
  (0, 8, []),
  (2, 10, [(1, 64), (1, 65), (1, 66), (0, 0), (0, 0), (0, 0), (0, 0)]),
  (0, 40, []),
  (0, 40, []),
  (0, 40, []),
  (2, 10, [(1, 68), (1, 69), (1, 70), (0, 0), (0, 0), (0, 0), (0, 0)]),
  (0, 40, []),
  (0, 40, []),
  (0, 40, []),
  (2, 12, [(0, 0), (1, 72), (1, 73), (1, 74), (0, 0), (1, 75), (1, 76), (1, 77), (0, 0), (1, 78), (1, 79), (0, 0), (1, 80), (1, 81), (0, 0), (1, 82), (1, 83), (0, 0), (0, 0), (1, 84), (1, 85), (0, 0), (0, 0), (1, 86), (1, 87), (1, 88), (0, 0), (0, 0), (0, 0), (0, 0), (1, 89), (1, 90), (1, 91), (1, 92), (1, 93), (1, 94), (0, 0), (1, 95), (1, 96), (1, 97), (1, 98), (4, 0)]),
  (0, 12, []),
  (0, 16, []),
  (0, 48, []),
  (0, 20, []),
  (0, 20, []),
  (0, 20, []),
  (0, 10, []),
  (0, 60, []),
  (0, 20, []),
  (0, 20, []),
  (0, 6, []),
  (0, 6, []),
  (0, 64, []),
  (0, 40, []),
  (0, 40, []),
  (0, 40, []),
  (0, 8, []),
  (0, 40, []),
  (0, 40, []),
  (0, 40, []),
  (0, 320, []),
  (0, 320, []),
  (0, 8, []),
  (0, 8, []),
  (0, 8, []),
  (0, 60, []),
  (0, 7168, [])]
def w_hp (i : Nat) : Int64 := jL (([161051, 14641, 1331, 121, 11, 1] : List Int).getD i 0)
def wv (F : Nat → Nat → Int) (hs : Int64) (t1 t2 o k : Nat) (c : Nat × Nat) : Value := match c.1 with
  | 0 => .int (jI (F o k))
  | 1 => .ref c.2
  | 2 => .ref t1
  | 3 => .ref t2
  | _ => .long hs
def wfs (F : Nat → Nat → Int) (hs : Int64) (t1 t2 o : Nat) : Nat → List (Nat × Nat) → List Value
  | _, [] => []
  | k, c :: l => wv F hs t1 t2 o k c :: wfs F hs t1 t2 o (k + 1) l
def wcell (L : Nat) (xs : Nat → Int32) (F A : Nat → Nat → Int) (B : Nat → Int64) (hs : Int64) (t1 t2 j : Nat) (e : Nat × Nat × List (Nat × Nat)) : am_E := match e.1 with
  | 0 => .inl (0, e.2.1, .inl (fun i => jI (A j i)))
  | 1 => .inl (1, e.2.1, .inr (.inl B))
  | 2 => .inr (e.2.1, wfs F hs t1 t2 j 0 e.2.2)
  | 3 => .inl (2, e.2.1, .inr (.inr (.inr (.inr (fun i => (e.2.2[i]?).map (fun c => c.2))))))
  | 4 => .inl (4, 6, .inr (.inl w_hp))
  | 5 => .inl (3, L, .inl xs)
  | _ => am_no
def HW (L : Nat) (xs : Nat → Int32) (F A : Nat → Nat → Int) (B : Nat → Int64) (hs : Int64) (t1 t2 : Nat) : am_H := (99, 10264, fun j => wcell L xs F A B hs t1 t2 j (WT.getD j (9, 0, [])))
/-- one place of a table changes -/
def u2 (A : Nat → Nat → Int) (a k : Nat) (x : Int) : Nat → Nat → Int := fun j i => if j = a ∧ i = k then x else A j i
theorem u2_s {A : Nat → Nat → Int} {a k : Nat} {x : Int} : u2 A a k x a k = x := by simp [u2]
theorem u2_n {A : Nat → Nat → Int} {a k j i : Nat} {x : Int} (h : ¬ (j = a ∧ i = k)) : u2 A a k x j i = A j i := by simp [u2, h]
theorem u2_a {A : Nat → Nat → Int} {a k j : Nat} {x : Int} (h : ¬ j = a) : u2 A a k x j = A j := by funext i; simp [u2, h]
def u1 (B : Nat → Int64) (k : Nat) (x : Int64) : Nat → Int64 := fun i => if i = k then x else B i
theorem wfs_get {F : Nat → Nat → Int} {hs : Int64} {t1 t2 o : Nat} : ∀ (l : List (Nat × Nat)) (i k : Nat), (wfs F hs t1 t2 o i l)[k]? = (l[k]?).map (fun c => wv F hs t1 t2 o (i + k) c)
  | [], _, _ => by simp [wfs]
  | c :: l, i, 0 => by simp [wfs]
  | c :: l, i, k + 1 => by
    simp only [wfs, List.getElem?_cons_succ]
    rw [wfs_get l (i + 1) k, show i + 1 + k = i + (k + 1) by omega]
theorem wfs_len {F : Nat → Nat → Int} {hs : Int64} {t1 t2 o : Nat} : ∀ (l : List (Nat × Nat)) (i : Nat), (wfs F hs t1 t2 o i l).length = l.length
  | [], _ => rfl
  | c :: l, i => by simp only [wfs, List.length_cons, wfs_len l (i + 1)]
theorem wfs_ext {F F' : Nat → Nat → Int} {hs hs' : Int64} {t1 t2 t1' t2' o : Nat} (l : List (Nat × Nat)) (v : Value) (k : Nat) (hk : k < l.length) (h1 : ∀ j c, j ≠ k → l[j]? = some c → wv F' hs' t1' t2' o j c = wv F hs t1 t2 o j c) (h2 : ∀ c, l[k]? = some c → wv F' hs' t1' t2' o k c = v) : (wfs F hs t1 t2 o 0 l).set k v = wfs F' hs' t1' t2' o 0 l := by
  apply List.ext_getElem?
  intro j
  rw [List.getElem?_set]
  by_cases hj : k = j
  · subst hj
    rw [if_pos rfl, if_pos (by rw [wfs_len]; exact hk), wfs_get, Nat.zero_add]
    rw [List.getElem?_eq_getElem hk]
    simp only [Option.map_some]
    rw [h2 _ (List.getElem?_eq_getElem hk)]
  · rw [if_neg hj, wfs_get, wfs_get, Nat.zero_add]
    cases hc : l[j]? with
    | none => rfl
    | some c => simp only [Option.map_some]; rw [h1 j c (fun z => hj z.symm) hc]
theorem w_long_b : (List.range WT.length).all (fun j => !((WT.getD j (9, 0, [])).1 == 1) || j == 52) = true := by decide +kernel
theorem w_long (j : Nat) (e : Nat × Nat × List (Nat × Nat)) (h : WT[j]? = some e) (h1 : e.1 = 1) : j = 52 := by
  have hl := (List.getElem?_eq_some_iff.mp h).1
  have := List.all_eq_true.mp w_long_b j (List.mem_range.mpr hl)
  rw [List.getD_eq_getElem?_getD, h] at this
  simpa [h1] using this
section WORLD
variable {d y nx : Nat} {is : List Instr} {ls st r : List Value} {Q : Option Value → am_H → Prop}
variable {L : Nat} {xs : Nat → Int32} {F A : Nat → Nat → Int} {B : Nat → Int64} {hs : Int64} {t1 t2 : Nat}
theorem hw_at {j : Nat} {e : Nat × Nat × List (Nat × Nat)} (he : WT[j]? = some e) : (HW L xs F A B hs t1 t2).2.2 j = wcell L xs F A B hs t1 t2 j e := by
  show wcell L xs F A B hs t1 t2 j (WT.getD j (9, 0, [])) = _
  rw [List.getD_eq_getElem?_getD, he]
  rfl
theorem hw_get {o ci k q : Nat} {fs : List (Nat × Nat)} {c : Nat × Nat} (he : WT[o]? = some (2, ci, fs)) (hk : fs[k]? = some c) (hq : q = ci * 64 + k) (h64 : k < 64) : am_get ((HW L xs F A B hs t1 t2).2.2 o) q r = some (wv F hs t1 t2 o k c :: r) := by
  rw [hw_at he]
  subst hq
  obtain ⟨d1, d2⟩ := am_div1 (a := ci) h64
  simp only [wcell, am_get]
  rw [d1, d2, if_pos rfl, wfs_get, hk, Nat.zero_add]
  simp only [Option.map_some]
  rw [if_neg]
  unfold wv
  split <;> (intro z; cases z)
theorem hw_ck {o ci : Nat} {fs : List (Nat × Nat)} (he : WT[o]? = some (2, ci, fs)) : am_ck ((HW L xs F A B hs t1 t2).2.2 o) ci = true := by
  rw [hw_at he]; simp [wcell, am_ck]
theorem hw_rd {o n : Nat} {i : Int32} (he : WT[o]? = some (0, n, [])) : am_rd ((HW L xs F A B hs t1 t2).2.2 o) i r = if vp_inB i n = true then some (.int (jI (A o i.toNatClampNeg)) :: r) else none := by
  rw [hw_at he]; rfl
theorem hw_len {o n : Nat} (he : WT[o]? = some (0, n, [])) : am_len ((HW L xs F A B hs t1 t2).2.2 o) r = some (.int (jI n) :: r) := by
  rw [hw_at he, ← jI_nat]; rfl
theorem hw_rdl {o n : Nat} {i : Int32} (he : WT[o]? = some (1, n, [])) : am_rdl ((HW L xs F A B hs t1 t2).2.2 o) i r = if vp_inB i n = true then some (.long (B i.toNatClampNeg) :: r) else none := by
  rw [hw_at he]; rfl
theorem hw_ext {F' A' : Nat → Nat → Int} {B' : Nat → Int64} {hs' : Int64} {t1' t2' a : Nat} {c : am_E} {e : Nat × Nat × List (Nat × Nat)} (he : WT[a]? = some e) (h1 : wcell L xs F' A' B' hs' t1' t2' a e = c) (h2 : ∀ j e', j ≠ a → WT[j]? = some e' → wcell L xs F' A' B' hs' t1' t2' j e' = wcell L xs F A B hs t1 t2 j e') : am_set (HW L xs F A B hs t1 t2) a c = HW L xs F' A' B' hs' t1' t2' := by
  unfold am_set HW
  congr 2
  funext j
  simp only [va_up]
  by_cases hj : j = a
  · subst hj
    rw [if_pos rfl, ← h1, List.getD_eq_getElem?_getD, he]
    rfl
  · rw [if_neg hj, List.getD_eq_getElem?_getD]
    cases hc : WT[j]? with
    | none => rfl
    | some e' => exact (h2 j e' hj hc).symm
theorem wcell_A {j : Nat} {e : Nat × Nat × List (Nat × Nat)} {A' : Nat → Nat → Int} (h : A' j = A j) : wcell L xs F A' B hs t1 t2 j e = wcell L xs F A B hs t1 t2 j e := by
  unfold wcell
  split <;> first | rfl | (rw [h])
theorem wfs_F {j : Nat} {F' : Nat → Nat → Int} (h : F' j = F j) : ∀ (l : List (Nat × Nat)) (i : Nat), wfs F' hs t1 t2 j i l = wfs F hs t1 t2 j i l
  | [], _ => rfl
  | c :: l, i => by
    simp only [wfs, wfs_F h l (i + 1)]
    congr 1
    unfold wv
    rw [h]
theorem wcell_F {j : Nat} {e : Nat × Nat × List (Nat × Nat)} {F' : Nat → Nat → Int} (h : F' j = F j) : wcell L xs F' A B hs t1 t2 j e = wcell L xs F A B hs t1 t2 j e := by
  unfold wcell
  split <;> first | rfl | (rw [wfs_F h])
theorem hw_wi {o n : Nat} {i : Int32} {x : Int} (he : WT[o]? = some (0, n, [])) : rP d y is nx ls r (HW L xs F A B hs t1 t2) o Q (am_wi ((HW L xs F A B hs t1 t2).2.2 o) i (jI x)) = (vp_inB i n = true ∧ Rn d (y, is, nx, ls, r) (HW L xs F (u2 A o i.toNatClampNeg x) B hs t1 t2) Q) := by
  rw [hw_at he]
  show rP d y is nx ls r _ o Q (if vp_inB i n = true then some (.inl (0, n, .inl (upd (fun z => jI (A o z)) i.toNatClampNeg (jI x)))) else none) = _
  rw [rP_i, hw_ext (F' := F) (A' := u2 A o i.toNatClampNeg x) (B' := B) (hs' := hs) (t1' := t1) (t2' := t2) he]
  · have e1 : (fun z => jI (u2 A o i.toNatClampNeg x o z)) = upd (fun z => jI (A o z)) i.toNatClampNeg (jI x) := by
      funext z
      simp only [u2, upd, true_and]
      by_cases hz : z = i.toNatClampNeg <;> simp [hz]
    show (Sum.inl (0, n, Sum.inl (fun z => jI (u2 A o i.toNatClampNeg x o z))) : am_E) = _
    rw [e1]
  · intro j e' hj _
    exact wcell_A (u2_a hj)
theorem hw_wl {o n : Nat} {i : Int32} {x : Int64} (ho : o = 52) (he : WT[o]? = some (1, n, [])) : rP d y is nx ls r (HW L xs F A B hs t1 t2) o Q (am_wl ((HW L xs F A B hs t1 t2).2.2 o) i x) = (vp_inB i n = true ∧ Rn d (y, is, nx, ls, r) (HW L xs F A (u1 B i.toNatClampNeg x) hs t1 t2) Q) := by
  rw [hw_at he]
  show rP d y is nx ls r _ o Q (if vp_inB i n = true then some (.inl (1, n, .inr (.inl (vp_updL B i.toNatClampNeg x)))) else none) = _
  rw [rP_i, hw_ext (F' := F) (A' := A) (B' := u1 B i.toNatClampNeg x) (hs' := hs) (t1' := t1) (t2' := t2) he]
  · rfl
  · intro j e' hj hje
    unfold wcell
    split <;> first | rfl | skip
    rename_i h1
    exact absurd (w_long j e' hje h1) (by rw [← ho]; exact hj)
theorem hw_wf {o ci k q : Nat} {fs : List (Nat × Nat)} {x : Int} (he : WT[o]? = some (2, ci, fs)) (hk : fs[k]? = some (0, 0)) (hq : q = ci * 64 + k) (h64 : k < 64) (hc : ci < 64) : rP d y is nx ls r (HW L xs F A B hs t1 t2) o Q (am_wf ((HW L xs F A B hs t1 t2).2.2 o) q (.int (jI x))) = Rn d (y, is, nx, ls, r) (HW L xs (u2 F o k x) A B hs t1 t2) Q := by
  rw [hw_at he]
  subst hq
  obtain ⟨d1, d2, d3⟩ := am_div2 (t := 0) (a := ci) h64 hc
  simp only [Nat.zero_mul, Nat.zero_add] at d1 d2 d3
  simp only [wcell, am_wf]
  rw [d1, d2, d3, if_pos ⟨rfl, by rw [wfs_len]; exact (List.getElem?_eq_some_iff.mp hk).1, rfl⟩, rP_s]
  rw [hw_ext (F' := u2 F o k x) (A' := A) (B' := B) (hs' := hs) (t1' := t1) (t2' := t2) he]
  · simp only [wcell]
    rw [wfs_ext (F' := u2 F o k x) (hs' := hs) (t1' := t1) (t2' := t2) fs _ k (List.getElem?_eq_some_iff.mp hk).1]
    · intro j c hj hc
      unfold wv
      rw [u2_n (by omega)]
    · intro c hc
      rw [hk] at hc
      cases hc
      simp [wv, u2_s]
  · intro j e' hj _
    exact wcell_F (u2_a hj)
/-- a boolean field -/
theorem hw_wz {o ci k q : Nat} {fs : List (Nat × Nat)} {x : Int} (he : WT[o]? = some (2, ci, fs)) (hk : fs[k]? = some (0, 0)) (hq : q = (64 + ci) * 64 + k) (h64 : k < 64) (hc : ci < 64) (hx : x = 0 ∨ x = 1) : rP d y is nx ls r (HW L xs F A B hs t1 t2) o Q (am_wf ((HW L xs F A B hs t1 t2).2.2 o) q (.int (jI x))) = Rn d (y, is, nx, ls, r) (HW L xs (u2 F o k x) A B hs t1 t2) Q := by
  rw [hw_at he]
  subst hq
  obtain ⟨d1, d2, d3⟩ := am_div2 (t := 1) (a := ci) h64 hc
  simp only [Nat.one_mul] at d1 d2 d3
  simp only [wcell, am_wf]
  rw [d1, d2, d3, if_pos ⟨rfl, by rw [wfs_len]; exact (List.getElem?_eq_some_iff.mp hk).1, by rcases hx with rfl | rfl <;> rfl⟩, rP_s]
  rw [hw_ext (F' := u2 F o k x) (A' := A) (B' := B) (hs' := hs) (t1' := t1) (t2' := t2) he]
  · simp only [wcell]
    rw [wfs_ext (F' := u2 F o k x) (hs' := hs) (t1' := t1) (t2' := t2) fs _ k (List.getElem?_eq_some_iff.mp hk).1]
    · intro j c hj hc
      unfold wv
      rw [u2_n (by omega)]
    · intro c hc
      rw [hk] at hc
      cases hc
      simp [wv, u2_s]
  · intro j e' hj _
    exact wcell_F (u2_a hj)
theorem w_ck_2 : am_ck ((HW L xs F A B hs t1 t2).2.2 2) 11 = true := hw_ck (o := 2) (ci := 11) rfl
theorem w_g_2_0 : am_get ((HW L xs F A B hs t1 t2).2.2 2) 704 r = some (.ref 3 :: r) := hw_get (o := 2) (ci := 11) (q := 704) (k := 0) (c := (1, 3)) rfl rfl rfl (by decide)
theorem w_g_2_1 : am_get ((HW L xs F A B hs t1 t2).2.2 2) 705 r = some (.ref 13 :: r) := hw_get (o := 2) (ci := 11) (q := 705) (k := 1) (c := (1, 13)) rfl rfl rfl (by decide)
theorem w_g_2_2 : am_get ((HW L xs F A B hs t1 t2).2.2 2) 706 r = some (.ref 18 :: r) := hw_get (o := 2) (ci := 11) (q := 706) (k := 2) (c := (1, 18)) rfl rfl rfl (by decide)
theorem w_g_2_3 : am_get ((HW L xs F A B hs t1 t2).2.2 2) 707 r = some (.ref 25 :: r) := hw_get (o := 2) (ci := 11) (q := 707) (k := 3) (c := (1, 25)) rfl rfl rfl (by decide)
theorem w_g_2_4 : am_get ((HW L xs F A B hs t1 t2).2.2 2) 708 r = some (.ref 38 :: r) := hw_get (o := 2) (ci := 11) (q := 708) (k := 4) (c := (1, 38)) rfl rfl rfl (by decide)
theorem w_g_2_5 : am_get ((HW L xs F A B hs t1 t2).2.2 2) 709 r = some (.ref 48 :: r) := hw_get (o := 2) (ci := 11) (q := 709) (k := 5) (c := (1, 48)) rfl rfl rfl (by decide)
theorem w_g_2_6 : am_get ((HW L xs F A B hs t1 t2).2.2 2) 710 r = some (.ref 50 :: r) := hw_get (o := 2) (ci := 11) (q := 710) (k := 6) (c := (1, 50)) rfl rfl rfl (by decide)
theorem w_g_2_7 : am_get ((HW L xs F A B hs t1 t2).2.2 2) 711 r = some (.ref 53 :: r) := hw_get (o := 2) (ci := 11) (q := 711) (k := 7) (c := (1, 53)) rfl rfl rfl (by decide)
theorem w_g_2_8 : am_get ((HW L xs F A B hs t1 t2).2.2 2) 712 r = some (.ref 57 :: r) := hw_get (o := 2) (ci := 11) (q := 712) (k := 8) (c := (1, 57)) rfl rfl rfl (by decide)
theorem w_g_2_9 : am_get ((HW L xs F A B hs t1 t2).2.2 2) 713 r = some (.ref 62 :: r) := hw_get (o := 2) (ci := 11) (q := 713) (k := 9) (c := (1, 62)) rfl rfl rfl (by decide)
theorem w_g_2_10 : am_get ((HW L xs F A B hs t1 t2).2.2 2) 714 r = some (.ref t1 :: r) := hw_get (o := 2) (ci := 11) (q := 714) (k := 10) (c := (2, 0)) rfl rfl rfl (by decide)
theorem w_g_2_11 : am_get ((HW L xs F A B hs t1 t2).2.2 2) 715 r = some (.ref t2 :: r) := hw_get (o := 2) (ci := 11) (q := 715) (k := 11) (c := (3, 0)) rfl rfl rfl (by decide)
theorem w_g_2_12 : am_get ((HW L xs F A B hs t1 t2).2.2 2) 716 r = some (.int (jI (F 2 12)) :: r) := hw_get (o := 2) (ci := 11) (q := 716) (k := 12) (c := (0, 0)) rfl rfl rfl (by decide)
theorem w_p_2_12 {x : Int} : rP d y is nx ls r (HW L xs F A B hs t1 t2) 2 Q (am_wf ((HW L xs F A B hs t1 t2).2.2 2) 716 (.int (jI x))) = Rn d (y, is, nx, ls, r) (HW L xs (u2 F 2 12 x) A B hs t1 t2) Q := hw_wf (o := 2) (ci := 11) (q := 716) (k := 12) rfl rfl rfl (by decide) (by decide)
theorem w_g_2_13 : am_get ((HW L xs F A B hs t1 t2).2.2 2) 717 r = some (.int (jI (F 2 13)) :: r) := hw_get (o := 2) (ci := 11) (q := 717) (k := 13) (c := (0, 0)) rfl rfl rfl (by decide)
theorem w_p_2_13 {x : Int} : rP d y is nx ls r (HW L xs F A B hs t1 t2) 2 Q (am_wf ((HW L xs F A B hs t1 t2).2.2 2) 717 (.int (jI x))) = Rn d (y, is, nx, ls, r) (HW L xs (u2 F 2 13 x) A B hs t1 t2) Q := hw_wf (o := 2) (ci := 11) (q := 717) (k := 13) rfl rfl rfl (by decide) (by decide)
theorem w_ck_3 : am_ck ((HW L xs F A B hs t1 t2).2.2 3) 3 = true := hw_ck (o := 3) (ci := 3) rfl
theorem w_g_3_0 : am_get ((HW L xs F A B hs t1 t2).2.2 3) 192 r = some (.int (jI (F 3 0)) :: r) := hw_get (o := 3) (ci := 3) (q := 192) (k := 0) (c := (0, 0)) rfl rfl rfl (by decide)
theorem w_p_3_0 {x : Int} : rP d y is nx ls r (HW L xs F A B hs t1 t2) 3 Q (am_wf ((HW L xs F A B hs t1 t2).2.2 3) 192 (.int (jI x))) = Rn d (y, is, nx, ls, r) (HW L xs (u2 F 3 0 x) A B hs t1 t2) Q := hw_wf (o := 3) (ci := 3) (q := 192) (k := 0) rfl rfl rfl (by decide) (by decide)
theorem w_g_3_1 : am_get ((HW L xs F A B hs t1 t2).2.2 3) 193 r = some (.int (jI (F 3 1)) :: r) := hw_get (o := 3) (ci := 3) (q := 193) (k := 1) (c := (0, 0)) rfl rfl rfl (by decide)
theorem w_p_3_1 {x : Int} : rP d y is nx ls r (HW L xs F A B hs t1 t2) 3 Q (am_wf ((HW L xs F A B hs t1 t2).2.2 3) 193 (.int (jI x))) = Rn d (y, is, nx, ls, r) (HW L xs (u2 F 3 1 x) A B hs t1 t2) Q := hw_wf (o := 3) (ci := 3) (q := 193) (k := 1) rfl rfl rfl (by decide) (by decide)
theorem w_g_3_2 : am_get ((HW L xs F A B hs t1 t2).2.2 3) 194 r = some (.ref 4 :: r) := hw_get (o := 3) (ci := 3) (q := 194) (k := 2) (c := (1, 4)) rfl rfl rfl (by decide)
theorem w_g_3_3 : am_get ((HW L xs F A B hs t1 t2).2.2 3) 195 r = some (.ref 5 :: r) := hw_get (o := 3) (ci := 3) (q := 195) (k := 3) (c := (1, 5)) rfl rfl rfl (by decide)
theorem w_g_3_4 : am_get ((HW L xs F A B hs t1 t2).2.2 3) 196 r = some (.ref 6 :: r) := hw_get (o := 3) (ci := 3) (q := 196) (k := 4) (c := (1, 6)) rfl rfl rfl (by decide)
theorem w_g_3_5 : am_get ((HW L xs F A B hs t1 t2).2.2 3) 197 r = some (.ref 7 :: r) := hw_get (o := 3) (ci := 3) (q := 197) (k := 5) (c := (1, 7)) rfl rfl rfl (by decide)
theorem w_g_3_6 : am_get ((HW L xs F A B hs t1 t2).2.2 3) 198 r = some (.ref 8 :: r) := hw_get (o := 3) (ci := 3) (q := 198) (k := 6) (c := (1, 8)) rfl rfl rfl (by decide)
theorem w_g_3_7 : am_get ((HW L xs F A B hs t1 t2).2.2 3) 199 r = some (.ref 9 :: r) := hw_get (o := 3) (ci := 3) (q := 199) (k := 7) (c := (1, 9)) rfl rfl rfl (by decide)
theorem w_g_3_8 : am_get ((HW L xs F A B hs t1 t2).2.2 3) 200 r = some (.ref 10 :: r) := hw_get (o := 3) (ci := 3) (q := 200) (k := 8) (c := (1, 10)) rfl rfl rfl (by decide)
theorem w_g_3_9 : am_get ((HW L xs F A B hs t1 t2).2.2 3) 201 r = some (.ref 11 :: r) := hw_get (o := 3) (ci := 3) (q := 201) (k := 9) (c := (1, 11)) rfl rfl rfl (by decide)
theorem w_g_3_10 : am_get ((HW L xs F A B hs t1 t2).2.2 3) 202 r = some (.ref 12 :: r) := hw_get (o := 3) (ci := 3) (q := 202) (k := 10) (c := (1, 12)) rfl rfl rfl (by decide)
theorem w_r_4 {i : Int32} : am_rd ((HW L xs F A B hs t1 t2).2.2 4) i r = if vp_inB i 12 = true then some (.int (jI (A 4 i.toNatClampNeg)) :: r) else none := hw_rd (o := 4) (n := 12) rfl
theorem w_l_4 : am_len ((HW L xs F A B hs t1 t2).2.2 4) r = some (.int (jI 12) :: r) := hw_len (o := 4) (n := 12) rfl
theorem w_w_4 {i : Int32} {x : Int} : rP d y is nx ls r (HW L xs F A B hs t1 t2) 4 Q (am_wi ((HW L xs F A B hs t1 t2).2.2 4) i (jI x)) = (vp_inB i 12 = true ∧ Rn d (y, is, nx, ls, r) (HW L xs F (u2 A 4 i.toNatClampNeg x) B hs t1 t2) Q) := hw_wi (o := 4) (n := 12) rfl
theorem w_r_5 {i : Int32} : am_rd ((HW L xs F A B hs t1 t2).2.2 5) i r = if vp_inB i 24 = true then some (.int (jI (A 5 i.toNatClampNeg)) :: r) else none := hw_rd (o := 5) (n := 24) rfl
theorem w_l_5 : am_len ((HW L xs F A B hs t1 t2).2.2 5) r = some (.int (jI 24) :: r) := hw_len (o := 5) (n := 24) rfl
theorem w_w_5 {i : Int32} {x : Int} : rP d y is nx ls r (HW L xs F A B hs t1 t2) 5 Q (am_wi ((HW L xs F A B hs t1 t2).2.2 5) i (jI x)) = (vp_inB i 24 = true ∧ Rn d (y, is, nx, ls, r) (HW L xs F (u2 A 5 i.toNatClampNeg x) B hs t1 t2) Q) := hw_wi (o := 5) (n := 24) rfl
theorem w_r_6 {i : Int32} : am_rd ((HW L xs F A B hs t1 t2).2.2 6) i r = if vp_inB i 24 = true then some (.int (jI (A 6 i.toNatClampNeg)) :: r) else none := hw_rd (o := 6) (n := 24) rfl
theorem w_l_6 : am_len ((HW L xs F A B hs t1 t2).2.2 6) r = some (.int (jI 24) :: r) := hw_len (o := 6) (n := 24) rfl
theorem w_w_6 {i : Int32} {x : Int} : rP d y is nx ls r (HW L xs F A B hs t1 t2) 6 Q (am_wi ((HW L xs F A B hs t1 t2).2.2 6) i (jI x)) = (vp_inB i 24 = true ∧ Rn d (y, is, nx, ls, r) (HW L xs F (u2 A 6 i.toNatClampNeg x) B hs t1 t2) Q) := hw_wi (o := 6) (n := 24) rfl
theorem w_r_7 {i : Int32} : am_rd ((HW L xs F A B hs t1 t2).2.2 7) i r = if vp_inB i 48 = true then some (.int (jI (A 7 i.toNatClampNeg)) :: r) else none := hw_rd (o := 7) (n := 48) rfl
theorem w_l_7 : am_len ((HW L xs F A B hs t1 t2).2.2 7) r = some (.int (jI 48) :: r) := hw_len (o := 7) (n := 48) rfl
theorem w_w_7 {i : Int32} {x : Int} : rP d y is nx ls r (HW L xs F A B hs t1 t2) 7 Q (am_wi ((HW L xs F A B hs t1 t2).2.2 7) i (jI x)) = (vp_inB i 48 = true ∧ Rn d (y, is, nx, ls, r) (HW L xs F (u2 A 7 i.toNatClampNeg x) B hs t1 t2) Q) := hw_wi (o := 7) (n := 48) rfl
theorem w_r_8 {i : Int32} : am_rd ((HW L xs F A B hs t1 t2).2.2 8) i r = if vp_inB i 16 = true then some (.int (jI (A 8 i.toNatClampNeg)) :: r) else none := hw_rd (o := 8) (n := 16) rfl
theorem w_l_8 : am_len ((HW L xs F A B hs t1 t2).2.2 8) r = some (.int (jI 16) :: r) := hw_len (o := 8) (n := 16) rfl
theorem w_w_8 {i : Int32} {x : Int} : rP d y is nx ls r (HW L xs F A B hs t1 t2) 8 Q (am_wi ((HW L xs F A B hs t1 t2).2.2 8) i (jI x)) = (vp_inB i 16 = true ∧ Rn d (y, is, nx, ls, r) (HW L xs F (u2 A 8 i.toNatClampNeg x) B hs t1 t2) Q) := hw_wi (o := 8) (n := 16) rfl
theorem w_r_9 {i : Int32} : am_rd ((HW L xs F A B hs t1 t2).2.2 9) i r = if vp_inB i 20 = true then some (.int (jI (A 9 i.toNatClampNeg)) :: r) else none := hw_rd (o := 9) (n := 20) rfl
theorem w_l_9 : am_len ((HW L xs F A B hs t1 t2).2.2 9) r = some (.int (jI 20) :: r) := hw_len (o := 9) (n := 20) rfl
theorem w_w_9 {i : Int32} {x : Int} : rP d y is nx ls r (HW L xs F A B hs t1 t2) 9 Q (am_wi ((HW L xs F A B hs t1 t2).2.2 9) i (jI x)) = (vp_inB i 20 = true ∧ Rn d (y, is, nx, ls, r) (HW L xs F (u2 A 9 i.toNatClampNeg x) B hs t1 t2) Q) := hw_wi (o := 9) (n := 20) rfl
theorem w_r_10 {i : Int32} : am_rd ((HW L xs F A B hs t1 t2).2.2 10) i r = if vp_inB i 20 = true then some (.int (jI (A 10 i.toNatClampNeg)) :: r) else none := hw_rd (o := 10) (n := 20) rfl
theorem w_l_10 : am_len ((HW L xs F A B hs t1 t2).2.2 10) r = some (.int (jI 20) :: r) := hw_len (o := 10) (n := 20) rfl
theorem w_w_10 {i : Int32} {x : Int} : rP d y is nx ls r (HW L xs F A B hs t1 t2) 10 Q (am_wi ((HW L xs F A B hs t1 t2).2.2 10) i (jI x)) = (vp_inB i 20 = true ∧ Rn d (y, is, nx, ls, r) (HW L xs F (u2 A 10 i.toNatClampNeg x) B hs t1 t2) Q) := hw_wi (o := 10) (n := 20) rfl
theorem w_r_11 {i : Int32} : am_rd ((HW L xs F A B hs t1 t2).2.2 11) i r = if vp_inB i 20 = true then some (.int (jI (A 11 i.toNatClampNeg)) :: r) else none := hw_rd (o := 11) (n := 20) rfl
theorem w_l_11 : am_len ((HW L xs F A B hs t1 t2).2.2 11) r = some (.int (jI 20) :: r) := hw_len (o := 11) (n := 20) rfl
theorem w_w_11 {i : Int32} {x : Int} : rP d y is nx ls r (HW L xs F A B hs t1 t2) 11 Q (am_wi ((HW L xs F A B hs t1 t2).2.2 11) i (jI x)) = (vp_inB i 20 = true ∧ Rn d (y, is, nx, ls, r) (HW L xs F (u2 A 11 i.toNatClampNeg x) B hs t1 t2) Q) := hw_wi (o := 11) (n := 20) rfl
theorem w_r_12 {i : Int32} : am_rd ((HW L xs F A B hs t1 t2).2.2 12) i r = if vp_inB i 60 = true then some (.int (jI (A 12 i.toNatClampNeg)) :: r) else none := hw_rd (o := 12) (n := 60) rfl
theorem w_l_12 : am_len ((HW L xs F A B hs t1 t2).2.2 12) r = some (.int (jI 60) :: r) := hw_len (o := 12) (n := 60) rfl
theorem w_w_12 {i : Int32} {x : Int} : rP d y is nx ls r (HW L xs F A B hs t1 t2) 12 Q (am_wi ((HW L xs F A B hs t1 t2).2.2 12) i (jI x)) = (vp_inB i 60 = true ∧ Rn d (y, is, nx, ls, r) (HW L xs F (u2 A 12 i.toNatClampNeg x) B hs t1 t2) Q) := hw_wi (o := 12) (n := 60) rfl
theorem w_ck_13 : am_ck ((HW L xs F A B hs t1 t2).2.2 13) 6 = true := hw_ck (o := 13) (ci := 6) rfl
theorem w_g_13_0 : am_get ((HW L xs F A B hs t1 t2).2.2 13) 384 r = some (.ref 3 :: r) := hw_get (o := 13) (ci := 6) (q := 384) (k := 0) (c := (1, 3)) rfl rfl rfl (by decide)
theorem w_g_13_1 : am_get ((HW L xs F A B hs t1 t2).2.2 13) 385 r = some (.ref 14 :: r) := hw_get (o := 13) (ci := 6) (q := 385) (k := 1) (c := (1, 14)) rfl rfl rfl (by decide)
theorem w_g_13_2 : am_get ((HW L xs F A B hs t1 t2).2.2 13) 386 r = some (.ref 16 :: r) := hw_get (o := 13) (ci := 6) (q := 386) (k := 2) (c := (1, 16)) rfl rfl rfl (by decide)
theorem w_g_13_3 : am_get ((HW L xs F A B hs t1 t2).2.2 13) 387 r = some (.ref 17 :: r) := hw_get (o := 13) (ci := 6) (q := 387) (k := 3) (c := (1, 17)) rfl rfl rfl (by decide)
theorem w_g_13_4 : am_get ((HW L xs F A B hs t1 t2).2.2 13) 388 r = some (.int (jI (F 13 4)) :: r) := hw_get (o := 13) (ci := 6) (q := 388) (k := 4) (c := (0, 0)) rfl rfl rfl (by decide)
theorem w_p_13_4 {x : Int} : rP d y is nx ls r (HW L xs F A B hs t1 t2) 13 Q (am_wf ((HW L xs F A B hs t1 t2).2.2 13) 388 (.int (jI x))) = Rn d (y, is, nx, ls, r) (HW L xs (u2 F 13 4 x) A B hs t1 t2) Q := hw_wf (o := 13) (ci := 6) (q := 388) (k := 4) rfl rfl rfl (by decide) (by decide)
theorem w_ck_14 : am_ck ((HW L xs F A B hs t1 t2).2.2 14) 7 = true := hw_ck (o := 14) (ci := 7) rfl
theorem w_g_14_0 : am_get ((HW L xs F A B hs t1 t2).2.2 14) 448 r = some (.ref 15 :: r) := hw_get (o := 14) (ci := 7) (q := 448) (k := 0) (c := (1, 15)) rfl rfl rfl (by decide)
theorem w_r_15 {i : Int32} : am_rd ((HW L xs F A B hs t1 t2).2.2 15) i r = if vp_inB i 16 = true then some (.int (jI (A 15 i.toNatClampNeg)) :: r) else none := hw_rd (o := 15) (n := 16) rfl
theorem w_l_15 : am_len ((HW L xs F A B hs t1 t2).2.2 15) r = some (.int (jI 16) :: r) := hw_len (o := 15) (n := 16) rfl
theorem w_w_15 {i : Int32} {x : Int} : rP d y is nx ls r (HW L xs F A B hs t1 t2) 15 Q (am_wi ((HW L xs F A B hs t1 t2).2.2 15) i (jI x)) = (vp_inB i 16 = true ∧ Rn d (y, is, nx, ls, r) (HW L xs F (u2 A 15 i.toNatClampNeg x) B hs t1 t2) Q) := hw_wi (o := 15) (n := 16) rfl
theorem w_r_16 {i : Int32} : am_rd ((HW L xs F A B hs t1 t2).2.2 16) i r = if vp_inB i 60 = true then some (.int (jI (A 16 i.toNatClampNeg)) :: r) else none := hw_rd (o := 16) (n := 60) rfl
theorem w_l_16 : am_len ((HW L xs F A B hs t1 t2).2.2 16) r = some (.int (jI 60) :: r) := hw_len (o := 16) (n := 60) rfl
theorem w_w_16 {i : Int32} {x : Int} : rP d y is nx ls r (HW L xs F A B hs t1 t2) 16 Q (am_wi ((HW L xs F A B hs t1 t2).2.2 16) i (jI x)) = (vp_inB i 60 = true ∧ Rn d (y, is, nx, ls, r) (HW L xs F (u2 A 16 i.toNatClampNeg x) B hs t1 t2) Q) := hw_wi (o := 16) (n := 60) rfl
theorem w_r_17 {i : Int32} : am_rd ((HW L xs F A B hs t1 t2).2.2 17) i r = if vp_inB i 10 = true then some (.int (jI (A 17 i.toNatClampNeg)) :: r) else none := hw_rd (o := 17) (n := 10) rfl
theorem w_l_17 : am_len ((HW L xs F A B hs t1 t2).2.2 17) r = some (.int (jI 10) :: r) := hw_len (o := 17) (n := 10) rfl
theorem w_w_17 {i : Int32} {x : Int} : rP d y is nx ls r (HW L xs F A B hs t1 t2) 17 Q (am_wi ((HW L xs F A B hs t1 t2).2.2 17) i (jI x)) = (vp_inB i 10 = true ∧ Rn d (y, is, nx, ls, r) (HW L xs F (u2 A 17 i.toNatClampNeg x) B hs t1 t2) Q) := hw_wi (o := 17) (n := 10) rfl
theorem w_ck_18 : am_ck ((HW L xs F A B hs t1 t2).2.2 18) 4 = true := hw_ck (o := 18) (ci := 4) rfl
theorem w_g_18_0 : am_get ((HW L xs F A B hs t1 t2).2.2 18) 256 r = some (.ref 19 :: r) := hw_get (o := 18) (ci := 4) (q := 256) (k := 0) (c := (1, 19)) rfl rfl rfl (by decide)
theorem w_g_18_1 : am_get ((HW L xs F A B hs t1 t2).2.2 18) 257 r = some (.ref 20 :: r) := hw_get (o := 18) (ci := 4) (q := 257) (k := 1) (c := (1, 20)) rfl rfl rfl (by decide)
theorem w_g_18_2 : am_get ((HW L xs F A B hs t1 t2).2.2 18) 258 r = some (.ref 21 :: r) := hw_get (o := 18) (ci := 4) (q := 258) (k := 2) (c := (1, 21)) rfl rfl rfl (by decide)
theorem w_g_18_3 : am_get ((HW L xs F A B hs t1 t2).2.2 18) 259 r = some (.ref 22 :: r) := hw_get (o := 18) (ci := 4) (q := 259) (k := 3) (c := (1, 22)) rfl rfl rfl (by decide)
theorem w_g_18_4 : am_get ((HW L xs F A B hs t1 t2).2.2 18) 260 r = some (.ref 23 :: r) := hw_get (o := 18) (ci := 4) (q := 260) (k := 4) (c := (1, 23)) rfl rfl rfl (by decide)
theorem w_g_18_5 : am_get ((HW L xs F A B hs t1 t2).2.2 18) 261 r = some (.int (jI (F 18 5)) :: r) := hw_get (o := 18) (ci := 4) (q := 261) (k := 5) (c := (0, 0)) rfl rfl rfl (by decide)
theorem w_p_18_5 {x : Int} : rP d y is nx ls r (HW L xs F A B hs t1 t2) 18 Q (am_wf ((HW L xs F A B hs t1 t2).2.2 18) 261 (.int (jI x))) = Rn d (y, is, nx, ls, r) (HW L xs (u2 F 18 5 x) A B hs t1 t2) Q := hw_wf (o := 18) (ci := 4) (q := 261) (k := 5) rfl rfl rfl (by decide) (by decide)
theorem w_g_18_6 : am_get ((HW L xs F A B hs t1 t2).2.2 18) 262 r = some (.int (jI (F 18 6)) :: r) := hw_get (o := 18) (ci := 4) (q := 262) (k := 6) (c := (0, 0)) rfl rfl rfl (by decide)
theorem w_p_18_6 {x : Int} : rP d y is nx ls r (HW L xs F A B hs t1 t2) 18 Q (am_wf ((HW L xs F A B hs t1 t2).2.2 18) 262 (.int (jI x))) = Rn d (y, is, nx, ls, r) (HW L xs (u2 F 18 6 x) A B hs t1 t2) Q := hw_wf (o := 18) (ci := 4) (q := 262) (k := 6) rfl rfl rfl (by decide) (by decide)
theorem w_g_18_7 : am_get ((HW L xs F A B hs t1 t2).2.2 18) 263 r = some (.int (jI (F 18 7)) :: r) := hw_get (o := 18) (ci := 4) (q := 263) (k := 7) (c := (0, 0)) rfl rfl rfl (by decide)
theorem w_p_18_7 {x : Int} : rP d y is nx ls r (HW L xs F A B hs t1 t2) 18 Q (am_wf ((HW L xs F A B hs t1 t2).2.2 18) 263 (.int (jI x))) = Rn d (y, is, nx, ls, r) (HW L xs (u2 F 18 7 x) A B hs t1 t2) Q := hw_wf (o := 18) (ci := 4) (q := 263) (k := 7) rfl rfl rfl (by decide) (by decide)
theorem w_g_18_8 : am_get ((HW L xs F A B hs t1 t2).2.2 18) 264 r = some (.int (jI (F 18 8)) :: r) := hw_get (o := 18) (ci := 4) (q := 264) (k := 8) (c := (0, 0)) rfl rfl rfl (by decide)
theorem w_p_18_8 {x : Int} : rP d y is nx ls r (HW L xs F A B hs t1 t2) 18 Q (am_wf ((HW L xs F A B hs t1 t2).2.2 18) 264 (.int (jI x))) = Rn d (y, is, nx, ls, r) (HW L xs (u2 F 18 8 x) A B hs t1 t2) Q := hw_wf (o := 18) (ci := 4) (q := 264) (k := 8) rfl rfl rfl (by decide) (by decide)
theorem w_r_19 {i : Int32} : am_rd ((HW L xs F A B hs t1 t2).2.2 19) i r = if vp_inB i 20 = true then some (.int (jI (A 19 i.toNatClampNeg)) :: r) else none := hw_rd (o := 19) (n := 20) rfl
theorem w_l_19 : am_len ((HW L xs F A B hs t1 t2).2.2 19) r = some (.int (jI 20) :: r) := hw_len (o := 19) (n := 20) rfl
theorem w_w_19 {i : Int32} {x : Int} : rP d y is nx ls r (HW L xs F A B hs t1 t2) 19 Q (am_wi ((HW L xs F A B hs t1 t2).2.2 19) i (jI x)) = (vp_inB i 20 = true ∧ Rn d (y, is, nx, ls, r) (HW L xs F (u2 A 19 i.toNatClampNeg x) B hs t1 t2) Q) := hw_wi (o := 19) (n := 20) rfl
theorem w_r_20 {i : Int32} : am_rd ((HW L xs F A B hs t1 t2).2.2 20) i r = if vp_inB i 20 = true then some (.int (jI (A 20 i.toNatClampNeg)) :: r) else none := hw_rd (o := 20) (n := 20) rfl
theorem w_l_20 : am_len ((HW L xs F A B hs t1 t2).2.2 20) r = some (.int (jI 20) :: r) := hw_len (o := 20) (n := 20) rfl
theorem w_w_20 {i : Int32} {x : Int} : rP d y is nx ls r (HW L xs F A B hs t1 t2) 20 Q (am_wi ((HW L xs F A B hs t1 t2).2.2 20) i (jI x)) = (vp_inB i 20 = true ∧ Rn d (y, is, nx, ls, r) (HW L xs F (u2 A 20 i.toNatClampNeg x) B hs t1 t2) Q) := hw_wi (o := 20) (n := 20) rfl
theorem w_r_21 {i : Int32} : am_rd ((HW L xs F A B hs t1 t2).2.2 21) i r = if vp_inB i 20 = true then some (.int (jI (A 21 i.toNatClampNeg)) :: r) else none := hw_rd (o := 21) (n := 20) rfl
theorem w_l_21 : am_len ((HW L xs F A B hs t1 t2).2.2 21) r = some (.int (jI 20) :: r) := hw_len (o := 21) (n := 20) rfl
theorem w_w_21 {i : Int32} {x : Int} : rP d y is nx ls r (HW L xs F A B hs t1 t2) 21 Q (am_wi ((HW L xs F A B hs t1 t2).2.2 21) i (jI x)) = (vp_inB i 20 = true ∧ Rn d (y, is, nx, ls, r) (HW L xs F (u2 A 21 i.toNatClampNeg x) B hs t1 t2) Q) := hw_wi (o := 21) (n := 20) rfl
theorem w_r_22 {i : Int32} : am_rd ((HW L xs F A B hs t1 t2).2.2 22) i r = if vp_inB i 21 = true then some (.int (jI (A 22 i.toNatClampNeg)) :: r) else none := hw_rd (o := 22) (n := 21) rfl
theorem w_l_22 : am_len ((HW L xs F A B hs t1 t2).2.2 22) r = some (.int (jI 21) :: r) := hw_len (o := 22) (n := 21) rfl
theorem w_w_22 {i : Int32} {x : Int} : rP d y is nx ls r (HW L xs F A B hs t1 t2) 22 Q (am_wi ((HW L xs F A B hs t1 t2).2.2 22) i (jI x)) = (vp_inB i 21 = true ∧ Rn d (y, is, nx, ls, r) (HW L xs F (u2 A 22 i.toNatClampNeg x) B hs t1 t2) Q) := hw_wi (o := 22) (n := 21) rfl
theorem w_ck_23 : am_ck ((HW L xs F A B hs t1 t2).2.2 23) 7 = true := hw_ck (o := 23) (ci := 7) rfl
theorem w_g_23_0 : am_get ((HW L xs F A B hs t1 t2).2.2 23) 448 r = some (.ref 24 :: r) := hw_get (o := 23) (ci := 7) (q := 448) (k := 0) (c := (1, 24)) rfl rfl rfl (by decide)
theorem w_r_24 {i : Int32} : am_rd ((HW L xs F A B hs t1 t2).2.2 24) i r = if vp_inB i 16 = true then some (.int (jI (A 24 i.toNatClampNeg)) :: r) else none := hw_rd (o := 24) (n := 16) rfl
theorem w_l_24 : am_len ((HW L xs F A B hs t1 t2).2.2 24) r = some (.int (jI 16) :: r) := hw_len (o := 24) (n := 16) rfl
theorem w_w_24 {i : Int32} {x : Int} : rP d y is nx ls r (HW L xs F A B hs t1 t2) 24 Q (am_wi ((HW L xs F A B hs t1 t2).2.2 24) i (jI x)) = (vp_inB i 16 = true ∧ Rn d (y, is, nx, ls, r) (HW L xs F (u2 A 24 i.toNatClampNeg x) B hs t1 t2) Q) := hw_wi (o := 24) (n := 16) rfl
theorem w_ck_25 : am_ck ((HW L xs F A B hs t1 t2).2.2 25) 2 = true := hw_ck (o := 25) (ci := 2) rfl
theorem w_g_25_0 : am_get ((HW L xs F A B hs t1 t2).2.2 25) 128 r = some (.ref 13 :: r) := hw_get (o := 25) (ci := 2) (q := 128) (k := 0) (c := (1, 13)) rfl rfl rfl (by decide)
theorem w_g_25_1 : am_get ((HW L xs F A B hs t1 t2).2.2 25) 129 r = some (.ref 26 :: r) := hw_get (o := 25) (ci := 2) (q := 129) (k := 1) (c := (1, 26)) rfl rfl rfl (by decide)
theorem w_g_25_2 : am_get ((HW L xs F A B hs t1 t2).2.2 25) 130 r = some (.ref 27 :: r) := hw_get (o := 25) (ci := 2) (q := 130) (k := 2) (c := (1, 27)) rfl rfl rfl (by decide)
theorem w_g_25_3 : am_get ((HW L xs F A B hs t1 t2).2.2 25) 131 r = some (.ref 28 :: r) := hw_get (o := 25) (ci := 2) (q := 131) (k := 3) (c := (1, 28)) rfl rfl rfl (by decide)
theorem w_g_25_4 : am_get ((HW L xs F A B hs t1 t2).2.2 25) 132 r = some (.ref 29 :: r) := hw_get (o := 25) (ci := 2) (q := 132) (k := 4) (c := (1, 29)) rfl rfl rfl (by decide)
theorem w_g_25_5 : am_get ((HW L xs F A B hs t1 t2).2.2 25) 133 r = some (.int (jI (F 25 5)) :: r) := hw_get (o := 25) (ci := 2) (q := 133) (k := 5) (c := (0, 0)) rfl rfl rfl (by decide)
theorem w_p_25_5 {x : Int} : rP d y is nx ls r (HW L xs F A B hs t1 t2) 25 Q (am_wf ((HW L xs F A B hs t1 t2).2.2 25) 133 (.int (jI x))) = Rn d (y, is, nx, ls, r) (HW L xs (u2 F 25 5 x) A B hs t1 t2) Q := hw_wf (o := 25) (ci := 2) (q := 133) (k := 5) rfl rfl rfl (by decide) (by decide)
theorem w_r_27 {i : Int32} : am_rd ((HW L xs F A B hs t1 t2).2.2 27) i r = if vp_inB i 6 = true then some (.int (jI (A 27 i.toNatClampNeg)) :: r) else none := hw_rd (o := 27) (n := 6) rfl
theorem w_l_27 : am_len ((HW L xs F A B hs t1 t2).2.2 27) r = some (.int (jI 6) :: r) := hw_len (o := 27) (n := 6) rfl
theorem w_w_27 {i : Int32} {x : Int} : rP d y is nx ls r (HW L xs F A B hs t1 t2) 27 Q (am_wi ((HW L xs F A B hs t1 t2).2.2 27) i (jI x)) = (vp_inB i 6 = true ∧ Rn d (y, is, nx, ls, r) (HW L xs F (u2 A 27 i.toNatClampNeg x) B hs t1 t2) Q) := hw_wi (o := 27) (n := 6) rfl
theorem w_r_28 {i : Int32} : am_rd ((HW L xs F A B hs t1 t2).2.2 28) i r = if vp_inB i 6 = true then some (.int (jI (A 28 i.toNatClampNeg)) :: r) else none := hw_rd (o := 28) (n := 6) rfl
theorem w_l_28 : am_len ((HW L xs F A B hs t1 t2).2.2 28) r = some (.int (jI 6) :: r) := hw_len (o := 28) (n := 6) rfl
theorem w_w_28 {i : Int32} {x : Int} : rP d y is nx ls r (HW L xs F A B hs t1 t2) 28 Q (am_wi ((HW L xs F A B hs t1 t2).2.2 28) i (jI x)) = (vp_inB i 6 = true ∧ Rn d (y, is, nx, ls, r) (HW L xs F (u2 A 28 i.toNatClampNeg x) B hs t1 t2) Q) := hw_wi (o := 28) (n := 6) rfl
theorem w_r_29 {i : Int32} : am_rd ((HW L xs F A B hs t1 t2).2.2 29) i r = if vp_inB i 6 = true then some (.int (jI (A 29 i.toNatClampNeg)) :: r) else none := hw_rd (o := 29) (n := 6) rfl
theorem w_l_29 : am_len ((HW L xs F A B hs t1 t2).2.2 29) r = some (.int (jI 6) :: r) := hw_len (o := 29) (n := 6) rfl
theorem w_w_29 {i : Int32} {x : Int} : rP d y is nx ls r (HW L xs F A B hs t1 t2) 29 Q (am_wi ((HW L xs F A B hs t1 t2).2.2 29) i (jI x)) = (vp_inB i 6 = true ∧ Rn d (y, is, nx, ls, r) (HW L xs F (u2 A 29 i.toNatClampNeg x) B hs t1 t2) Q) := hw_wi (o := 29) (n := 6) rfl
theorem w_ck_30 : am_ck ((HW L xs F A B hs t1 t2).2.2 30) 7 = true := hw_ck (o := 30) (ci := 7) rfl
theorem w_g_30_0 : am_get ((HW L xs F A B hs t1 t2).2.2 30) 448 r = some (.ref 31 :: r) := hw_get (o := 30) (ci := 7) (q := 448) (k := 0) (c := (1, 31)) rfl rfl rfl (by decide)
theorem w_r_31 {i : Int32} : am_rd ((HW L xs F A B hs t1 t2).2.2 31) i r = if vp_inB i 16 = true then some (.int (jI (A 31 i.toNatClampNeg)) :: r) else none := hw_rd (o := 31) (n := 16) rfl
theorem w_l_31 : am_len ((HW L xs F A B hs t1 t2).2.2 31) r = some (.int (jI 16) :: r) := hw_len (o := 31) (n := 16) rfl
theorem w_w_31 {i : Int32} {x : Int} : rP d y is nx ls r (HW L xs F A B hs t1 t2) 31 Q (am_wi ((HW L xs F A B hs t1 t2).2.2 31) i (jI x)) = (vp_inB i 16 = true ∧ Rn d (y, is, nx, ls, r) (HW L xs F (u2 A 31 i.toNatClampNeg x) B hs t1 t2) Q) := hw_wi (o := 31) (n := 16) rfl
theorem w_ck_32 : am_ck ((HW L xs F A B hs t1 t2).2.2 32) 7 = true := hw_ck (o := 32) (ci := 7) rfl
theorem w_g_32_0 : am_get ((HW L xs F A B hs t1 t2).2.2 32) 448 r = some (.ref 33 :: r) := hw_get (o := 32) (ci := 7) (q := 448) (k := 0) (c := (1, 33)) rfl rfl rfl (by decide)
theorem w_r_33 {i : Int32} : am_rd ((HW L xs F A B hs t1 t2).2.2 33) i r = if vp_inB i 16 = true then some (.int (jI (A 33 i.toNatClampNeg)) :: r) else none := hw_rd (o := 33) (n := 16) rfl
theorem w_l_33 : am_len ((HW L xs F A B hs t1 t2).2.2 33) r = some (.int (jI 16) :: r) := hw_len (o := 33) (n := 16) rfl
theorem w_w_33 {i : Int32} {x : Int} : rP d y is nx ls r (HW L xs F A B hs t1 t2) 33 Q (am_wi ((HW L xs F A B hs t1 t2).2.2 33) i (jI x)) = (vp_inB i 16 = true ∧ Rn d (y, is, nx, ls, r) (HW L xs F (u2 A 33 i.toNatClampNeg x) B hs t1 t2) Q) := hw_wi (o := 33) (n := 16) rfl
theorem w_ck_34 : am_ck ((HW L xs F A B hs t1 t2).2.2 34) 7 = true := hw_ck (o := 34) (ci := 7) rfl
theorem w_g_34_0 : am_get ((HW L xs F A B hs t1 t2).2.2 34) 448 r = some (.ref 35 :: r) := hw_get (o := 34) (ci := 7) (q := 448) (k := 0) (c := (1, 35)) rfl rfl rfl (by decide)
theorem w_r_35 {i : Int32} : am_rd ((HW L xs F A B hs t1 t2).2.2 35) i r = if vp_inB i 16 = true then some (.int (jI (A 35 i.toNatClampNeg)) :: r) else none := hw_rd (o := 35) (n := 16) rfl
theorem w_l_35 : am_len ((HW L xs F A B hs t1 t2).2.2 35) r = some (.int (jI 16) :: r) := hw_len (o := 35) (n := 16) rfl
theorem w_w_35 {i : Int32} {x : Int} : rP d y is nx ls r (HW L xs F A B hs t1 t2) 35 Q (am_wi ((HW L xs F A B hs t1 t2).2.2 35) i (jI x)) = (vp_inB i 16 = true ∧ Rn d (y, is, nx, ls, r) (HW L xs F (u2 A 35 i.toNatClampNeg x) B hs t1 t2) Q) := hw_wi (o := 35) (n := 16) rfl
theorem w_ck_36 : am_ck ((HW L xs F A B hs t1 t2).2.2 36) 7 = true := hw_ck (o := 36) (ci := 7) rfl
theorem w_g_36_0 : am_get ((HW L xs F A B hs t1 t2).2.2 36) 448 r = some (.ref 37 :: r) := hw_get (o := 36) (ci := 7) (q := 448) (k := 0) (c := (1, 37)) rfl rfl rfl (by decide)
theorem w_r_37 {i : Int32} : am_rd ((HW L xs F A B hs t1 t2).2.2 37) i r = if vp_inB i 16 = true then some (.int (jI (A 37 i.toNatClampNeg)) :: r) else none := hw_rd (o := 37) (n := 16) rfl
theorem w_l_37 : am_len ((HW L xs F A B hs t1 t2).2.2 37) r = some (.int (jI 16) :: r) := hw_len (o := 37) (n := 16) rfl
theorem w_w_37 {i : Int32} {x : Int} : rP d y is nx ls r (HW L xs F A B hs t1 t2) 37 Q (am_wi ((HW L xs F A B hs t1 t2).2.2 37) i (jI x)) = (vp_inB i 16 = true ∧ Rn d (y, is, nx, ls, r) (HW L xs F (u2 A 37 i.toNatClampNeg x) B hs t1 t2) Q) := hw_wi (o := 37) (n := 16) rfl
theorem w_ck_38 : am_ck ((HW L xs F A B hs t1 t2).2.2 38) 9 = true := hw_ck (o := 38) (ci := 9) rfl
theorem w_g_38_0 : am_get ((HW L xs F A B hs t1 t2).2.2 38) 576 r = some (.ref 13 :: r) := hw_get (o := 38) (ci := 9) (q := 576) (k := 0) (c := (1, 13)) rfl rfl rfl (by decide)
theorem w_g_38_1 : am_get ((HW L xs F A B hs t1 t2).2.2 38) 577 r = some (.ref 39 :: r) := hw_get (o := 38) (ci := 9) (q := 577) (k := 1) (c := (1, 39)) rfl rfl rfl (by decide)
theorem w_g_38_2 : am_get ((HW L xs F A B hs t1 t2).2.2 38) 578 r = some (.int (jI (F 38 2)) :: r) := hw_get (o := 38) (ci := 9) (q := 578) (k := 2) (c := (0, 0)) rfl rfl rfl (by decide)
theorem w_p_38_2 {x : Int} : rP d y is nx ls r (HW L xs F A B hs t1 t2) 38 Q (am_wf ((HW L xs F A B hs t1 t2).2.2 38) 578 (.int (jI x))) = Rn d (y, is, nx, ls, r) (HW L xs (u2 F 38 2 x) A B hs t1 t2) Q := hw_wf (o := 38) (ci := 9) (q := 578) (k := 2) rfl rfl rfl (by decide) (by decide)
theorem w_ck_40 : am_ck ((HW L xs F A B hs t1 t2).2.2 40) 7 = true := hw_ck (o := 40) (ci := 7) rfl
theorem w_g_40_0 : am_get ((HW L xs F A B hs t1 t2).2.2 40) 448 r = some (.ref 41 :: r) := hw_get (o := 40) (ci := 7) (q := 448) (k := 0) (c := (1, 41)) rfl rfl rfl (by decide)
theorem w_r_41 {i : Int32} : am_rd ((HW L xs F A B hs t1 t2).2.2 41) i r = if vp_inB i 16 = true then some (.int (jI (A 41 i.toNatClampNeg)) :: r) else none := hw_rd (o := 41) (n := 16) rfl
theorem w_l_41 : am_len ((HW L xs F A B hs t1 t2).2.2 41) r = some (.int (jI 16) :: r) := hw_len (o := 41) (n := 16) rfl
theorem w_w_41 {i : Int32} {x : Int} : rP d y is nx ls r (HW L xs F A B hs t1 t2) 41 Q (am_wi ((HW L xs F A B hs t1 t2).2.2 41) i (jI x)) = (vp_inB i 16 = true ∧ Rn d (y, is, nx, ls, r) (HW L xs F (u2 A 41 i.toNatClampNeg x) B hs t1 t2) Q) := hw_wi (o := 41) (n := 16) rfl
theorem w_ck_42 : am_ck ((HW L xs F A B hs t1 t2).2.2 42) 7 = true := hw_ck (o := 42) (ci := 7) rfl
theorem w_g_42_0 : am_get ((HW L xs F A B hs t1 t2).2.2 42) 448 r = some (.ref 43 :: r) := hw_get (o := 42) (ci := 7) (q := 448) (k := 0) (c := (1, 43)) rfl rfl rfl (by decide)
theorem w_r_43 {i : Int32} : am_rd ((HW L xs F A B hs t1 t2).2.2 43) i r = if vp_inB i 16 = true then some (.int (jI (A 43 i.toNatClampNeg)) :: r) else none := hw_rd (o := 43) (n := 16) rfl
theorem w_l_43 : am_len ((HW L xs F A B hs t1 t2).2.2 43) r = some (.int (jI 16) :: r) := hw_len (o := 43) (n := 16) rfl
theorem w_w_43 {i : Int32} {x : Int} : rP d y is nx ls r (HW L xs F A B hs t1 t2) 43 Q (am_wi ((HW L xs F A B hs t1 t2).2.2 43) i (jI x)) = (vp_inB i 16 = true ∧ Rn d (y, is, nx, ls, r) (HW L xs F (u2 A 43 i.toNatClampNeg x) B hs t1 t2) Q) := hw_wi (o := 43) (n := 16) rfl
theorem w_ck_44 : am_ck ((HW L xs F A B hs t1 t2).2.2 44) 7 = true := hw_ck (o := 44) (ci := 7) rfl
theorem w_g_44_0 : am_get ((HW L xs F A B hs t1 t2).2.2 44) 448 r = some (.ref 45 :: r) := hw_get (o := 44) (ci := 7) (q := 448) (k := 0) (c := (1, 45)) rfl rfl rfl (by decide)
theorem w_r_45 {i : Int32} : am_rd ((HW L xs F A B hs t1 t2).2.2 45) i r = if vp_inB i 16 = true then some (.int (jI (A 45 i.toNatClampNeg)) :: r) else none := hw_rd (o := 45) (n := 16) rfl
theorem w_l_45 : am_len ((HW L xs F A B hs t1 t2).2.2 45) r = some (.int (jI 16) :: r) := hw_len (o := 45) (n := 16) rfl
theorem w_w_45 {i : Int32} {x : Int} : rP d y is nx ls r (HW L xs F A B hs t1 t2) 45 Q (am_wi ((HW L xs F A B hs t1 t2).2.2 45) i (jI x)) = (vp_inB i 16 = true ∧ Rn d (y, is, nx, ls, r) (HW L xs F (u2 A 45 i.toNatClampNeg x) B hs t1 t2) Q) := hw_wi (o := 45) (n := 16) rfl
theorem w_ck_46 : am_ck ((HW L xs F A B hs t1 t2).2.2 46) 7 = true := hw_ck (o := 46) (ci := 7) rfl
theorem w_g_46_0 : am_get ((HW L xs F A B hs t1 t2).2.2 46) 448 r = some (.ref 47 :: r) := hw_get (o := 46) (ci := 7) (q := 448) (k := 0) (c := (1, 47)) rfl rfl rfl (by decide)
theorem w_r_47 {i : Int32} : am_rd ((HW L xs F A B hs t1 t2).2.2 47) i r = if vp_inB i 16 = true then some (.int (jI (A 47 i.toNatClampNeg)) :: r) else none := hw_rd (o := 47) (n := 16) rfl
theorem w_l_47 : am_len ((HW L xs F A B hs t1 t2).2.2 47) r = some (.int (jI 16) :: r) := hw_len (o := 47) (n := 16) rfl
theorem w_w_47 {i : Int32} {x : Int} : rP d y is nx ls r (HW L xs F A B hs t1 t2) 47 Q (am_wi ((HW L xs F A B hs t1 t2).2.2 47) i (jI x)) = (vp_inB i 16 = true ∧ Rn d (y, is, nx, ls, r) (HW L xs F (u2 A 47 i.toNatClampNeg x) B hs t1 t2) Q) := hw_wi (o := 47) (n := 16) rfl
theorem w_ck_48 : am_ck ((HW L xs F A B hs t1 t2).2.2 48) 5 = true := hw_ck (o := 48) (ci := 5) rfl
theorem w_g_48_0 : am_get ((HW L xs F A B hs t1 t2).2.2 48) 320 r = some (.ref 49 :: r) := hw_get (o := 48) (ci := 5) (q := 320) (k := 0) (c := (1, 49)) rfl rfl rfl (by decide)
theorem w_g_48_1 : am_get ((HW L xs F A B hs t1 t2).2.2 48) 321 r = some (.int (jI (F 48 1)) :: r) := hw_get (o := 48) (ci := 5) (q := 321) (k := 1) (c := (0, 0)) rfl rfl rfl (by decide)
theorem w_p_48_1 {x : Int} : rP d y is nx ls r (HW L xs F A B hs t1 t2) 48 Q (am_wf ((HW L xs F A B hs t1 t2).2.2 48) 321 (.int (jI x))) = Rn d (y, is, nx, ls, r) (HW L xs (u2 F 48 1 x) A B hs t1 t2) Q := hw_wf (o := 48) (ci := 5) (q := 321) (k := 1) rfl rfl rfl (by decide) (by decide)
theorem w_r_49 {i : Int32} : am_rd ((HW L xs F A B hs t1 t2).2.2 49) i r = if vp_inB i 40 = true then some (.int (jI (A 49 i.toNatClampNeg)) :: r) else none := hw_rd (o := 49) (n := 40) rfl
theorem w_l_49 : am_len ((HW L xs F A B hs t1 t2).2.2 49) r = some (.int (jI 40) :: r) := hw_len (o := 49) (n := 40) rfl
theorem w_w_49 {i : Int32} {x : Int} : rP d y is nx ls r (HW L xs F A B hs t1 t2) 49 Q (am_wi ((HW L xs F A B hs t1 t2).2.2 49) i (jI x)) = (vp_inB i 40 = true ∧ Rn d (y, is, nx, ls, r) (HW L xs F (u2 A 49 i.toNatClampNeg x) B hs t1 t2) Q) := hw_wi (o := 49) (n := 40) rfl
theorem w_ck_50 : am_ck ((HW L xs F A B hs t1 t2).2.2 50) 8 = true := hw_ck (o := 50) (ci := 8) rfl
theorem w_g_50_0 : am_get ((HW L xs F A B hs t1 t2).2.2 50) 512 r = some (.ref 51 :: r) := hw_get (o := 50) (ci := 8) (q := 512) (k := 0) (c := (1, 51)) rfl rfl rfl (by decide)
theorem w_g_50_1 : am_get ((HW L xs F A B hs t1 t2).2.2 50) 513 r = some (.ref 52 :: r) := hw_get (o := 50) (ci := 8) (q := 513) (k := 1) (c := (1, 52)) rfl rfl rfl (by decide)
theorem w_r_51 {i : Int32} : am_rd ((HW L xs F A B hs t1 t2).2.2 51) i r = if vp_inB i 60 = true then some (.int (jI (A 51 i.toNatClampNeg)) :: r) else none := hw_rd (o := 51) (n := 60) rfl
theorem w_l_51 : am_len ((HW L xs F A B hs t1 t2).2.2 51) r = some (.int (jI 60) :: r) := hw_len (o := 51) (n := 60) rfl
theorem w_w_51 {i : Int32} {x : Int} : rP d y is nx ls r (HW L xs F A B hs t1 t2) 51 Q (am_wi ((HW L xs F A B hs t1 t2).2.2 51) i (jI x)) = (vp_inB i 60 = true ∧ Rn d (y, is, nx, ls, r) (HW L xs F (u2 A 51 i.toNatClampNeg x) B hs t1 t2) Q) := hw_wi (o := 51) (n := 60) rfl
theorem w_ck_53 : am_ck ((HW L xs F A B hs t1 t2).2.2 53) 0 = true := hw_ck (o := 53) (ci := 0) rfl
theorem w_g_53_0 : am_get ((HW L xs F A B hs t1 t2).2.2 53) 0 r = some (.ref 54 :: r) := hw_get (o := 53) (ci := 0) (q := 0) (k := 0) (c := (1, 54)) rfl rfl rfl (by decide)
theorem w_g_53_1 : am_get ((HW L xs F A B hs t1 t2).2.2 53) 1 r = some (.ref 55 :: r) := hw_get (o := 53) (ci := 0) (q := 1) (k := 1) (c := (1, 55)) rfl rfl rfl (by decide)
theorem w_g_53_2 : am_get ((HW L xs F A B hs t1 t2).2.2 53) 2 r = some (.ref 56 :: r) := hw_get (o := 53) (ci := 0) (q := 2) (k := 2) (c := (1, 56)) rfl rfl rfl (by decide)
theorem w_r_54 {i : Int32} : am_rd ((HW L xs F A B hs t1 t2).2.2 54) i r = if vp_inB i 320 = true then some (.int (jI (A 54 i.toNatClampNeg)) :: r) else none := hw_rd (o := 54) (n := 320) rfl
theorem w_l_54 : am_len ((HW L xs F A B hs t1 t2).2.2 54) r = some (.int (jI 320) :: r) := hw_len (o := 54) (n := 320) rfl
theorem w_w_54 {i : Int32} {x : Int} : rP d y is nx ls r (HW L xs F A B hs t1 t2) 54 Q (am_wi ((HW L xs F A B hs t1 t2).2.2 54) i (jI x)) = (vp_inB i 320 = true ∧ Rn d (y, is, nx, ls, r) (HW L xs F (u2 A 54 i.toNatClampNeg x) B hs t1 t2) Q) := hw_wi (o := 54) (n := 320) rfl
theorem w_r_55 {i : Int32} : am_rd ((HW L xs F A B hs t1 t2).2.2 55) i r = if vp_inB i 320 = true then some (.int (jI (A 55 i.toNatClampNeg)) :: r) else none := hw_rd (o := 55) (n := 320) rfl
theorem w_l_55 : am_len ((HW L xs F A B hs t1 t2).2.2 55) r = some (.int (jI 320) :: r) := hw_len (o := 55) (n := 320) rfl
theorem w_w_55 {i : Int32} {x : Int} : rP d y is nx ls r (HW L xs F A B hs t1 t2) 55 Q (am_wi ((HW L xs F A B hs t1 t2).2.2 55) i (jI x)) = (vp_inB i 320 = true ∧ Rn d (y, is, nx, ls, r) (HW L xs F (u2 A 55 i.toNatClampNeg x) B hs t1 t2) Q) := hw_wi (o := 55) (n := 320) rfl
theorem w_r_56 {i : Int32} : am_rd ((HW L xs F A B hs t1 t2).2.2 56) i r = if vp_inB i 8 = true then some (.int (jI (A 56 i.toNatClampNeg)) :: r) else none := hw_rd (o := 56) (n := 8) rfl
theorem w_l_56 : am_len ((HW L xs F A B hs t1 t2).2.2 56) r = some (.int (jI 8) :: r) := hw_len (o := 56) (n := 8) rfl
theorem w_w_56 {i : Int32} {x : Int} : rP d y is nx ls r (HW L xs F A B hs t1 t2) 56 Q (am_wi ((HW L xs F A B hs t1 t2).2.2 56) i (jI x)) = (vp_inB i 8 = true ∧ Rn d (y, is, nx, ls, r) (HW L xs F (u2 A 56 i.toNatClampNeg x) B hs t1 t2) Q) := hw_wi (o := 56) (n := 8) rfl
theorem w_ck_57 : am_ck ((HW L xs F A B hs t1 t2).2.2 57) 1 = true := hw_ck (o := 57) (ci := 1) rfl
theorem w_g_57_0 : am_get ((HW L xs F A B hs t1 t2).2.2 57) 64 r = some (.ref 58 :: r) := hw_get (o := 57) (ci := 1) (q := 64) (k := 0) (c := (1, 58)) rfl rfl rfl (by decide)
theorem w_g_57_1 : am_get ((HW L xs F A B hs t1 t2).2.2 57) 65 r = some (.ref 59 :: r) := hw_get (o := 57) (ci := 1) (q := 65) (k := 1) (c := (1, 59)) rfl rfl rfl (by decide)
theorem w_g_57_2 : am_get ((HW L xs F A B hs t1 t2).2.2 57) 66 r = some (.ref 60 :: r) := hw_get (o := 57) (ci := 1) (q := 66) (k := 2) (c := (1, 60)) rfl rfl rfl (by decide)
theorem w_g_57_3 : am_get ((HW L xs F A B hs t1 t2).2.2 57) 67 r = some (.ref 61 :: r) := hw_get (o := 57) (ci := 1) (q := 67) (k := 3) (c := (1, 61)) rfl rfl rfl (by decide)
theorem w_g_57_4 : am_get ((HW L xs F A B hs t1 t2).2.2 57) 68 r = some (.int (jI (F 57 4)) :: r) := hw_get (o := 57) (ci := 1) (q := 68) (k := 4) (c := (0, 0)) rfl rfl rfl (by decide)
theorem w_p_57_4 {x : Int} : rP d y is nx ls r (HW L xs F A B hs t1 t2) 57 Q (am_wf ((HW L xs F A B hs t1 t2).2.2 57) 68 (.int (jI x))) = Rn d (y, is, nx, ls, r) (HW L xs (u2 F 57 4 x) A B hs t1 t2) Q := hw_wf (o := 57) (ci := 1) (q := 68) (k := 4) rfl rfl rfl (by decide) (by decide)
theorem w_g_57_5 : am_get ((HW L xs F A B hs t1 t2).2.2 57) 69 r = some (.int (jI (F 57 5)) :: r) := hw_get (o := 57) (ci := 1) (q := 69) (k := 5) (c := (0, 0)) rfl rfl rfl (by decide)
theorem w_p_57_5 {x : Int} : rP d y is nx ls r (HW L xs F A B hs t1 t2) 57 Q (am_wf ((HW L xs F A B hs t1 t2).2.2 57) 69 (.int (jI x))) = Rn d (y, is, nx, ls, r) (HW L xs (u2 F 57 5 x) A B hs t1 t2) Q := hw_wf (o := 57) (ci := 1) (q := 69) (k := 5) rfl rfl rfl (by decide) (by decide)
theorem w_g_57_6 : am_get ((HW L xs F A B hs t1 t2).2.2 57) 70 r = some (.int (jI (F 57 6)) :: r) := hw_get (o := 57) (ci := 1) (q := 70) (k := 6) (c := (0, 0)) rfl rfl rfl (by decide)
theorem w_p_57_6 {x : Int} : rP d y is nx ls r (HW L xs F A B hs t1 t2) 57 Q (am_wf ((HW L xs F A B hs t1 t2).2.2 57) 70 (.int (jI x))) = Rn d (y, is, nx, ls, r) (HW L xs (u2 F 57 6 x) A B hs t1 t2) Q := hw_wf (o := 57) (ci := 1) (q := 70) (k := 6) rfl rfl rfl (by decide) (by decide)
theorem w_g_57_7 : am_get ((HW L xs F A B hs t1 t2).2.2 57) 71 r = some (.int (jI (F 57 7)) :: r) := hw_get (o := 57) (ci := 1) (q := 71) (k := 7) (c := (0, 0)) rfl rfl rfl (by decide)
theorem w_p_57_7 {x : Int} : rP d y is nx ls r (HW L xs F A B hs t1 t2) 57 Q (am_wf ((HW L xs F A B hs t1 t2).2.2 57) 71 (.int (jI x))) = Rn d (y, is, nx, ls, r) (HW L xs (u2 F 57 7 x) A B hs t1 t2) Q := hw_wf (o := 57) (ci := 1) (q := 71) (k := 7) rfl rfl rfl (by decide) (by decide)
theorem w_r_58 {i : Int32} : am_rd ((HW L xs F A B hs t1 t2).2.2 58) i r = if vp_inB i 8 = true then some (.int (jI (A 58 i.toNatClampNeg)) :: r) else none := hw_rd (o := 58) (n := 8) rfl
theorem w_l_58 : am_len ((HW L xs F A B hs t1 t2).2.2 58) r = some (.int (jI 8) :: r) := hw_len (o := 58) (n := 8) rfl
theorem w_w_58 {i : Int32} {x : Int} : rP d y is nx ls r (HW L xs F A B hs t1 t2) 58 Q (am_wi ((HW L xs F A B hs t1 t2).2.2 58) i (jI x)) = (vp_inB i 8 = true ∧ Rn d (y, is, nx, ls, r) (HW L xs F (u2 A 58 i.toNatClampNeg x) B hs t1 t2) Q) := hw_wi (o := 58) (n := 8) rfl
theorem w_r_59 {i : Int32} : am_rd ((HW L xs F A B hs t1 t2).2.2 59) i r = if vp_inB i 8 = true then some (.int (jI (A 59 i.toNatClampNeg)) :: r) else none := hw_rd (o := 59) (n := 8) rfl
theorem w_l_59 : am_len ((HW L xs F A B hs t1 t2).2.2 59) r = some (.int (jI 8) :: r) := hw_len (o := 59) (n := 8) rfl
theorem w_w_59 {i : Int32} {x : Int} : rP d y is nx ls r (HW L xs F A B hs t1 t2) 59 Q (am_wi ((HW L xs F A B hs t1 t2).2.2 59) i (jI x)) = (vp_inB i 8 = true ∧ Rn d (y, is, nx, ls, r) (HW L xs F (u2 A 59 i.toNatClampNeg x) B hs t1 t2) Q) := hw_wi (o := 59) (n := 8) rfl
theorem w_r_60 {i : Int32} : am_rd ((HW L xs F A B hs t1 t2).2.2 60) i r = if vp_inB i 8 = true then some (.int (jI (A 60 i.toNatClampNeg)) :: r) else none := hw_rd (o := 60) (n := 8) rfl
theorem w_l_60 : am_len ((HW L xs F A B hs t1 t2).2.2 60) r = some (.int (jI 8) :: r) := hw_len (o := 60) (n := 8) rfl
theorem w_w_60 {i : Int32} {x : Int} : rP d y is nx ls r (HW L xs F A B hs t1 t2) 60 Q (am_wi ((HW L xs F A B hs t1 t2).2.2 60) i (jI x)) = (vp_inB i 8 = true ∧ Rn d (y, is, nx, ls, r) (HW L xs F (u2 A 60 i.toNatClampNeg x) B hs t1 t2) Q) := hw_wi (o := 60) (n := 8) rfl
theorem w_r_61 {i : Int32} : am_rd ((HW L xs F A B hs t1 t2).2.2 61) i r = if vp_inB i 8 = true then some (.int (jI (A 61 i.toNatClampNeg)) :: r) else none := hw_rd (o := 61) (n := 8) rfl
theorem w_l_61 : am_len ((HW L xs F A B hs t1 t2).2.2 61) r = some (.int (jI 8) :: r) := hw_len (o := 61) (n := 8) rfl
theorem w_w_61 {i : Int32} {x : Int} : rP d y is nx ls r (HW L xs F A B hs t1 t2) 61 Q (am_wi ((HW L xs F A B hs t1 t2).2.2 61) i (jI x)) = (vp_inB i 8 = true ∧ Rn d (y, is, nx, ls, r) (HW L xs F (u2 A 61 i.toNatClampNeg x) B hs t1 t2) Q) := hw_wi (o := 61) (n := 8) rfl
theorem w_r_62 {i : Int32} : am_rd ((HW L xs F A B hs t1 t2).2.2 62) i r = if vp_inB i 8 = true then some (.int (jI (A 62 i.toNatClampNeg)) :: r) else none := hw_rd (o := 62) (n := 8) rfl
theorem w_l_62 : am_len ((HW L xs F A B hs t1 t2).2.2 62) r = some (.int (jI 8) :: r) := hw_len (o := 62) (n := 8) rfl
theorem w_w_62 {i : Int32} {x : Int} : rP d y is nx ls r (HW L xs F A B hs t1 t2) 62 Q (am_wi ((HW L xs F A B hs t1 t2).2.2 62) i (jI x)) = (vp_inB i 8 = true ∧ Rn d (y, is, nx, ls, r) (HW L xs F (u2 A 62 i.toNatClampNeg x) B hs t1 t2) Q) := hw_wi (o := 62) (n := 8) rfl
theorem w_ck_63 : am_ck ((HW L xs F A B hs t1 t2).2.2 63) 10 = true := hw_ck (o := 63) (ci := 10) rfl
theorem w_g_63_0 : am_get ((HW L xs F A B hs t1 t2).2.2 63) 640 r = some (.ref 64 :: r) := hw_get (o := 63) (ci := 10) (q := 640) (k := 0) (c := (1, 64)) rfl rfl rfl (by decide)
theorem w_g_63_1 : am_get ((HW L xs F A B hs t1 t2).2.2 63) 641 r = some (.ref 65 :: r) := hw_get (o := 63) (ci := 10) (q := 641) (k := 1) (c := (1, 65)) rfl rfl rfl (by decide)
theorem w_g_63_2 : am_get ((HW L xs F A B hs t1 t2).2.2 63) 642 r = some (.ref 66 :: r) := hw_get (o := 63) (ci := 10) (q := 642) (k := 2) (c := (1, 66)) rfl rfl rfl (by decide)
theorem w_g_63_3 : am_get ((HW L xs F A B hs t1 t2).2.2 63) 643 r = some (.int (jI (F 63 3)) :: r) := hw_get (o := 63) (ci := 10) (q := 643) (k := 3) (c := (0, 0)) rfl rfl rfl (by decide)
theorem w_p_63_3 {x : Int} : rP d y is nx ls r (HW L xs F A B hs t1 t2) 63 Q (am_wf ((HW L xs F A B hs t1 t2).2.2 63) 643 (.int (jI x))) = Rn d (y, is, nx, ls, r) (HW L xs (u2 F 63 3 x) A B hs t1 t2) Q := hw_wf (o := 63) (ci := 10) (q := 643) (k := 3) rfl rfl rfl (by decide) (by decide)
theorem w_g_63_4 : am_get ((HW L xs F A B hs t1 t2).2.2 63) 644 r = some (.int (jI (F 63 4)) :: r) := hw_get (o := 63) (ci := 10) (q := 644) (k := 4) (c := (0, 0)) rfl rfl rfl (by decide)
theorem w_p_63_4 {x : Int} : rP d y is nx ls r (HW L xs F A B hs t1 t2) 63 Q (am_wf ((HW L xs F A B hs t1 t2).2.2 63) 644 (.int (jI x))) = Rn d (y, is, nx, ls, r) (HW L xs (u2 F 63 4 x) A B hs t1 t2) Q := hw_wf (o := 63) (ci := 10) (q := 644) (k := 4) rfl rfl rfl (by decide) (by decide)
theorem w_g_63_5 : am_get ((HW L xs F A B hs t1 t2).2.2 63) 645 r = some (.int (jI (F 63 5)) :: r) := hw_get (o := 63) (ci := 10) (q := 645) (k := 5) (c := (0, 0)) rfl rfl rfl (by decide)
theorem w_p_63_5 {x : Int} : rP d y is nx ls r (HW L xs F A B hs t1 t2) 63 Q (am_wf ((HW L xs F A B hs t1 t2).2.2 63) 645 (.int (jI x))) = Rn d (y, is, nx, ls, r) (HW L xs (u2 F 63 5 x) A B hs t1 t2) Q := hw_wf (o := 63) (ci := 10) (q := 645) (k := 5) rfl rfl rfl (by decide) (by decide)
theorem w_g_63_6 : am_get ((HW L xs F A B hs t1 t2).2.2 63) 646 r = some (.int (jI (F 63 6)) :: r) := hw_get (o := 63) (ci := 10) (q := 646) (k := 6) (c := (0, 0)) rfl rfl rfl (by decide)
theorem w_p_63_6_0 : rP d y is nx ls r (HW L xs F A B hs t1 t2) 63 Q (am_wf ((HW L xs F A B hs t1 t2).2.2 63) 4742 (.int (jI 0))) = Rn d (y, is, nx, ls, r) (HW L xs (u2 F 63 6 0) A B hs t1 t2) Q := hw_wz (o := 63) (ci := 10) (q := 4742) (k := 6) rfl rfl rfl (by decide) (by decide) (by decide)
theorem w_p_63_6_1 : rP d y is nx ls r (HW L xs F A B hs t1 t2) 63 Q (am_wf ((HW L xs F A B hs t1 t2).2.2 63) 4742 (.int (jI 1))) = Rn d (y, is, nx, ls, r) (HW L xs (u2 F 63 6 1) A B hs t1 t2) Q := hw_wz (o := 63) (ci := 10) (q := 4742) (k := 6) rfl rfl rfl (by decide) (by decide) (by decide)
theorem w_r_64 {i : Int32} : am_rd ((HW L xs F A B hs t1 t2).2.2 64) i r = if vp_inB i 40 = true then some (.int (jI (A 64 i.toNatClampNeg)) :: r) else none := hw_rd (o := 64) (n := 40) rfl
theorem w_l_64 : am_len ((HW L xs F A B hs t1 t2).2.2 64) r = some (.int (jI 40) :: r) := hw_len (o := 64) (n := 40) rfl
theorem w_w_64 {i : Int32} {x : Int} : rP d y is nx ls r (HW L xs F A B hs t1 t2) 64 Q (am_wi ((HW L xs F A B hs t1 t2).2.2 64) i (jI x)) = (vp_inB i 40 = true ∧ Rn d (y, is, nx, ls, r) (HW L xs F (u2 A 64 i.toNatClampNeg x) B hs t1 t2) Q) := hw_wi (o := 64) (n := 40) rfl
theorem w_r_65 {i : Int32} : am_rd ((HW L xs F A B hs t1 t2).2.2 65) i r = if vp_inB i 40 = true then some (.int (jI (A 65 i.toNatClampNeg)) :: r) else none := hw_rd (o := 65) (n := 40) rfl
theorem w_l_65 : am_len ((HW L xs F A B hs t1 t2).2.2 65) r = some (.int (jI 40) :: r) := hw_len (o := 65) (n := 40) rfl
theorem w_w_65 {i : Int32} {x : Int} : rP d y is nx ls r (HW L xs F A B hs t1 t2) 65 Q (am_wi ((HW L xs F A B hs t1 t2).2.2 65) i (jI x)) = (vp_inB i 40 = true ∧ Rn d (y, is, nx, ls, r) (HW L xs F (u2 A 65 i.toNatClampNeg x) B hs t1 t2) Q) := hw_wi (o := 65) (n := 40) rfl
theorem w_r_66 {i : Int32} : am_rd ((HW L xs F A B hs t1 t2).2.2 66) i r = if vp_inB i 40 = true then some (.int (jI (A 66 i.toNatClampNeg)) :: r) else none := hw_rd (o := 66) (n := 40) rfl
theorem w_l_66 : am_len ((HW L xs F A B hs t1 t2).2.2 66) r = some (.int (jI 40) :: r) := hw_len (o := 66) (n := 40) rfl
theorem w_w_66 {i : Int32} {x : Int} : rP d y is nx ls r (HW L xs F A B hs t1 t2) 66 Q (am_wi ((HW L xs F A B hs t1 t2).2.2 66) i (jI x)) = (vp_inB i 40 = true ∧ Rn d (y, is, nx, ls, r) (HW L xs F (u2 A 66 i.toNatClampNeg x) B hs t1 t2) Q) := hw_wi (o := 66) (n := 40) rfl
theorem w_ck_67 : am_ck ((HW L xs F A B hs t1 t2).2.2 67) 10 = true := hw_ck (o := 67) (ci := 10) rfl
theorem w_g_67_0 : am_get ((HW L xs F A B hs t1 t2).2.2 67) 640 r = some (.ref 68 :: r) := hw_get (o := 67) (ci := 10) (q := 640) (k := 0) (c := (1, 68)) rfl rfl rfl (by decide)
theorem w_g_67_1 : am_get ((HW L xs F A B hs t1 t2).2.2 67) 641 r = some (.ref 69 :: r) := hw_get (o := 67) (ci := 10) (q := 641) (k := 1) (c := (1, 69)) rfl rfl rfl (by decide)
theorem w_g_67_2 : am_get ((HW L xs F A B hs t1 t2).2.2 67) 642 r = some (.ref 70 :: r) := hw_get (o := 67) (ci := 10) (q := 642) (k := 2) (c := (1, 70)) rfl rfl rfl (by decide)
theorem w_g_67_3 : am_get ((HW L xs F A B hs t1 t2).2.2 67) 643 r = some (.int (jI (F 67 3)) :: r) := hw_get (o := 67) (ci := 10) (q := 643) (k := 3) (c := (0, 0)) rfl rfl rfl (by decide)
theorem w_p_67_3 {x : Int} : rP d y is nx ls r (HW L xs F A B hs t1 t2) 67 Q (am_wf ((HW L xs F A B hs t1 t2).2.2 67) 643 (.int (jI x))) = Rn d (y, is, nx, ls, r) (HW L xs (u2 F 67 3 x) A B hs t1 t2) Q := hw_wf (o := 67) (ci := 10) (q := 643) (k := 3) rfl rfl rfl (by decide) (by decide)
theorem w_g_67_4 : am_get ((HW L xs F A B hs t1 t2).2.2 67) 644 r = some (.int (jI (F 67 4)) :: r) := hw_get (o := 67) (ci := 10) (q := 644) (k := 4) (c := (0, 0)) rfl rfl rfl (by decide)
theorem w_p_67_4 {x : Int} : rP d y is nx ls r (HW L xs F A B hs t1 t2) 67 Q (am_wf ((HW L xs F A B hs t1 t2).2.2 67) 644 (.int (jI x))) = Rn d (y, is, nx, ls, r) (HW L xs (u2 F 67 4 x) A B hs t1 t2) Q := hw_wf (o := 67) (ci := 10) (q := 644) (k := 4) rfl rfl rfl (by decide) (by decide)
theorem w_g_67_5 : am_get ((HW L xs F A B hs t1 t2).2.2 67) 645 r = some (.int (jI (F 67 5)) :: r) := hw_get (o := 67) (ci := 10) (q := 645) (k := 5) (c := (0, 0)) rfl rfl rfl (by decide)
theorem w_p_67_5 {x : Int} : rP d y is nx ls r (HW L xs F A B hs t1 t2) 67 Q (am_wf ((HW L xs F A B hs t1 t2).2.2 67) 645 (.int (jI x))) = Rn d (y, is, nx, ls, r) (HW L xs (u2 F 67 5 x) A B hs t1 t2) Q := hw_wf (o := 67) (ci := 10) (q := 645) (k := 5) rfl rfl rfl (by decide) (by decide)
theorem w_g_67_6 : am_get ((HW L xs F A B hs t1 t2).2.2 67) 646 r = some (.int (jI (F 67 6)) :: r) := hw_get (o := 67) (ci := 10) (q := 646) (k := 6) (c := (0, 0)) rfl rfl rfl (by decide)
theorem w_p_67_6_0 : rP d y is nx ls r (HW L xs F A B hs t1 t2) 67 Q (am_wf ((HW L xs F A B hs t1 t2).2.2 67) 4742 (.int (jI 0))) = Rn d (y, is, nx, ls, r) (HW L xs (u2 F 67 6 0) A B hs t1 t2) Q := hw_wz (o := 67) (ci := 10) (q := 4742) (k := 6) rfl rfl rfl (by decide) (by decide) (by decide)
theorem w_p_67_6_1 : rP d y is nx ls r (HW L xs F A B hs t1 t2) 67 Q (am_wf ((HW L xs F A B hs t1 t2).2.2 67) 4742 (.int (jI 1))) = Rn d (y, is, nx, ls, r) (HW L xs (u2 F 67 6 1) A B hs t1 t2) Q := hw_wz (o := 67) (ci := 10) (q := 4742) (k := 6) rfl rfl rfl (by decide) (by decide) (by decide)
theorem w_r_68 {i : Int32} : am_rd ((HW L xs F A B hs t1 t2).2.2 68) i r = if vp_inB i 40 = true then some (.int (jI (A 68 i.toNatClampNeg)) :: r) else none := hw_rd (o := 68) (n := 40) rfl
theorem w_l_68 : am_len ((HW L xs F A B hs t1 t2).2.2 68) r = some (.int (jI 40) :: r) := hw_len (o := 68) (n := 40) rfl
theorem w_w_68 {i : Int32} {x : Int} : rP d y is nx ls r (HW L xs F A B hs t1 t2) 68 Q (am_wi ((HW L xs F A B hs t1 t2).2.2 68) i (jI x)) = (vp_inB i 40 = true ∧ Rn d (y, is, nx, ls, r) (HW L xs F (u2 A 68 i.toNatClampNeg x) B hs t1 t2) Q) := hw_wi (o := 68) (n := 40) rfl
theorem w_r_69 {i : Int32} : am_rd ((HW L xs F A B hs t1 t2).2.2 69) i r = if vp_inB i 40 = true then some (.int (jI (A 69 i.toNatClampNeg)) :: r) else none := hw_rd (o := 69) (n := 40) rfl
theorem w_l_69 : am_len ((HW L xs F A B hs t1 t2).2.2 69) r = some (.int (jI 40) :: r) := hw_len (o := 69) (n := 40) rfl
theorem w_w_69 {i : Int32} {x : Int} : rP d y is nx ls r (HW L xs F A B hs t1 t2) 69 Q (am_wi ((HW L xs F A B hs t1 t2).2.2 69) i (jI x)) = (vp_inB i 40 = true ∧ Rn d (y, is, nx, ls, r) (HW L xs F (u2 A 69 i.toNatClampNeg x) B hs t1 t2) Q) := hw_wi (o := 69) (n := 40) rfl
theorem w_r_70 {i : Int32} : am_rd ((HW L xs F A B hs t1 t2).2.2 70) i r = if vp_inB i 40 = true then some (.int (jI (A 70 i.toNatClampNeg)) :: r) else none := hw_rd (o := 70) (n := 40) rfl
theorem w_l_70 : am_len ((HW L xs F A B hs t1 t2).2.2 70) r = some (.int (jI 40) :: r) := hw_len (o := 70) (n := 40) rfl
theorem w_w_70 {i : Int32} {x : Int} : rP d y is nx ls r (HW L xs F A B hs t1 t2) 70 Q (am_wi ((HW L xs F A B hs t1 t2).2.2 70) i (jI x)) = (vp_inB i 40 = true ∧ Rn d (y, is, nx, ls, r) (HW L xs F (u2 A 70 i.toNatClampNeg x) B hs t1 t2) Q) := hw_wi (o := 70) (n := 40) rfl
theorem w_ck_71 : am_ck ((HW L xs F A B hs t1 t2).2.2 71) 12 = true := hw_ck (o := 71) (ci := 12) rfl
theorem w_g_71_0 : am_get ((HW L xs F A B hs t1 t2).2.2 71) 768 r = some (.int (jI (F 71 0)) :: r) := hw_get (o := 71) (ci := 12) (q := 768) (k := 0) (c := (0, 0)) rfl rfl rfl (by decide)
theorem w_p_71_0 {x : Int} : rP d y is nx ls r (HW L xs F A B hs t1 t2) 71 Q (am_wf ((HW L xs F A B hs t1 t2).2.2 71) 768 (.int (jI x))) = Rn d (y, is, nx, ls, r) (HW L xs (u2 F 71 0 x) A B hs t1 t2) Q := hw_wf (o := 71) (ci := 12) (q := 768) (k := 0) rfl rfl rfl (by decide) (by decide)
theorem w_g_71_1 : am_get ((HW L xs F A B hs t1 t2).2.2 71) 769 r = some (.ref 72 :: r) := hw_get (o := 71) (ci := 12) (q := 769) (k := 1) (c := (1, 72)) rfl rfl rfl (by decide)
theorem w_g_71_2 : am_get ((HW L xs F A B hs t1 t2).2.2 71) 770 r = some (.ref 73 :: r) := hw_get (o := 71) (ci := 12) (q := 770) (k := 2) (c := (1, 73)) rfl rfl rfl (by decide)
theorem w_g_71_3 : am_get ((HW L xs F A B hs t1 t2).2.2 71) 771 r = some (.ref 74 :: r) := hw_get (o := 71) (ci := 12) (q := 771) (k := 3) (c := (1, 74)) rfl rfl rfl (by decide)
theorem w_g_71_4 : am_get ((HW L xs F A B hs t1 t2).2.2 71) 772 r = some (.int (jI (F 71 4)) :: r) := hw_get (o := 71) (ci := 12) (q := 772) (k := 4) (c := (0, 0)) rfl rfl rfl (by decide)
theorem w_p_71_4 {x : Int} : rP d y is nx ls r (HW L xs F A B hs t1 t2) 71 Q (am_wf ((HW L xs F A B hs t1 t2).2.2 71) 772 (.int (jI x))) = Rn d (y, is, nx, ls, r) (HW L xs (u2 F 71 4 x) A B hs t1 t2) Q := hw_wf (o := 71) (ci := 12) (q := 772) (k := 4) rfl rfl rfl (by decide) (by decide)
theorem w_g_71_5 : am_get ((HW L xs F A B hs t1 t2).2.2 71) 773 r = some (.ref 75 :: r) := hw_get (o := 71) (ci := 12) (q := 773) (k := 5) (c := (1, 75)) rfl rfl rfl (by decide)
theorem w_g_71_6 : am_get ((HW L xs F A B hs t1 t2).2.2 71) 774 r = some (.ref 76 :: r) := hw_get (o := 71) (ci := 12) (q := 774) (k := 6) (c := (1, 76)) rfl rfl rfl (by decide)
theorem w_g_71_7 : am_get ((HW L xs F A B hs t1 t2).2.2 71) 775 r = some (.ref 77 :: r) := hw_get (o := 71) (ci := 12) (q := 775) (k := 7) (c := (1, 77)) rfl rfl rfl (by decide)
theorem w_g_71_8 : am_get ((HW L xs F A B hs t1 t2).2.2 71) 776 r = some (.int (jI (F 71 8)) :: r) := hw_get (o := 71) (ci := 12) (q := 776) (k := 8) (c := (0, 0)) rfl rfl rfl (by decide)
theorem w_p_71_8 {x : Int} : rP d y is nx ls r (HW L xs F A B hs t1 t2) 71 Q (am_wf ((HW L xs F A B hs t1 t2).2.2 71) 776 (.int (jI x))) = Rn d (y, is, nx, ls, r) (HW L xs (u2 F 71 8 x) A B hs t1 t2) Q := hw_wf (o := 71) (ci := 12) (q := 776) (k := 8) rfl rfl rfl (by decide) (by decide)
theorem w_g_71_9 : am_get ((HW L xs F A B hs t1 t2).2.2 71) 777 r = some (.ref 78 :: r) := hw_get (o := 71) (ci := 12) (q := 777) (k := 9) (c := (1, 78)) rfl rfl rfl (by decide)
theorem w_g_71_10 : am_get ((HW L xs F A B hs t1 t2).2.2 71) 778 r = some (.ref 79 :: r) := hw_get (o := 71) (ci := 12) (q := 778) (k := 10) (c := (1, 79)) rfl rfl rfl (by decide)
theorem w_g_71_11 : am_get ((HW L xs F A B hs t1 t2).2.2 71) 779 r = some (.int (jI (F 71 11)) :: r) := hw_get (o := 71) (ci := 12) (q := 779) (k := 11) (c := (0, 0)) rfl rfl rfl (by decide)
theorem w_p_71_11 {x : Int} : rP d y is nx ls r (HW L xs F A B hs t1 t2) 71 Q (am_wf ((HW L xs F A B hs t1 t2).2.2 71) 779 (.int (jI x))) = Rn d (y, is, nx, ls, r) (HW L xs (u2 F 71 11 x) A B hs t1 t2) Q := hw_wf (o := 71) (ci := 12) (q := 779) (k := 11) rfl rfl rfl (by decide) (by decide)
theorem w_g_71_12 : am_get ((HW L xs F A B hs t1 t2).2.2 71) 780 r = some (.ref 80 :: r) := hw_get (o := 71) (ci := 12) (q := 780) (k := 12) (c := (1, 80)) rfl rfl rfl (by decide)
theorem w_g_71_13 : am_get ((HW L xs F A B hs t1 t2).2.2 71) 781 r = some (.ref 81 :: r) := hw_get (o := 71) (ci := 12) (q := 781) (k := 13) (c := (1, 81)) rfl rfl rfl (by decide)
theorem w_g_71_14 : am_get ((HW L xs F A B hs t1 t2).2.2 71) 782 r = some (.int (jI (F 71 14)) :: r) := hw_get (o := 71) (ci := 12) (q := 782) (k := 14) (c := (0, 0)) rfl rfl rfl (by decide)
theorem w_p_71_14 {x : Int} : rP d y is nx ls r (HW L xs F A B hs t1 t2) 71 Q (am_wf ((HW L xs F A B hs t1 t2).2.2 71) 782 (.int (jI x))) = Rn d (y, is, nx, ls, r) (HW L xs (u2 F 71 14 x) A B hs t1 t2) Q := hw_wf (o := 71) (ci := 12) (q := 782) (k := 14) rfl rfl rfl (by decide) (by decide)
theorem w_g_71_15 : am_get ((HW L xs F A B hs t1 t2).2.2 71) 783 r = some (.ref 82 :: r) := hw_get (o := 71) (ci := 12) (q := 783) (k := 15) (c := (1, 82)) rfl rfl rfl (by decide)
theorem w_g_71_16 : am_get ((HW L xs F A B hs t1 t2).2.2 71) 784 r = some (.ref 83 :: r) := hw_get (o := 71) (ci := 12) (q := 784) (k := 16) (c := (1, 83)) rfl rfl rfl (by decide)
theorem w_g_71_17 : am_get ((HW L xs F A B hs t1 t2).2.2 71) 785 r = some (.int (jI (F 71 17)) :: r) := hw_get (o := 71) (ci := 12) (q := 785) (k := 17) (c := (0, 0)) rfl rfl rfl (by decide)
theorem w_p_71_17 {x : Int} : rP d y is nx ls r (HW L xs F A B hs t1 t2) 71 Q (am_wf ((HW L xs F A B hs t1 t2).2.2 71) 785 (.int (jI x))) = Rn d (y, is, nx, ls, r) (HW L xs (u2 F 71 17 x) A B hs t1 t2) Q := hw_wf (o := 71) (ci := 12) (q := 785) (k := 17) rfl rfl rfl (by decide) (by decide)
theorem w_g_71_18 : am_get ((HW L xs F A B hs t1 t2).2.2 71) 786 r = some (.int (jI (F 71 18)) :: r) := hw_get (o := 71) (ci := 12) (q := 786) (k := 18) (c := (0, 0)) rfl rfl rfl (by decide)
theorem w_p_71_18 {x : Int} : rP d y is nx ls r (HW L xs F A B hs t1 t2) 71 Q (am_wf ((HW L xs F A B hs t1 t2).2.2 71) 786 (.int (jI x))) = Rn d (y, is, nx, ls, r) (HW L xs (u2 F 71 18 x) A B hs t1 t2) Q := hw_wf (o := 71) (ci := 12) (q := 786) (k := 18) rfl rfl rfl (by decide) (by decide)
theorem w_g_71_19 : am_get ((HW L xs F A B hs t1 t2).2.2 71) 787 r = some (.ref 84 :: r) := hw_get (o := 71) (ci := 12) (q := 787) (k := 19) (c := (1, 84)) rfl rfl rfl (by decide)
theorem w_g_71_20 : am_get ((HW L xs F A B hs t1 t2).2.2 71) 788 r = some (.ref 85 :: r) := hw_get (o := 71) (ci := 12) (q := 788) (k := 20) (c := (1, 85)) rfl rfl rfl (by decide)
theorem w_g_71_21 : am_get ((HW L xs F A B hs t1 t2).2.2 71) 789 r = some (.int (jI (F 71 21)) :: r) := hw_get (o := 71) (ci := 12) (q := 789) (k := 21) (c := (0, 0)) rfl rfl rfl (by decide)
theorem w_p_71_21 {x : Int} : rP d y is nx ls r (HW L xs F A B hs t1 t2) 71 Q (am_wf ((HW L xs F A B hs t1 t2).2.2 71) 789 (.int (jI x))) = Rn d (y, is, nx, ls, r) (HW L xs (u2 F 71 21 x) A B hs t1 t2) Q := hw_wf (o := 71) (ci := 12) (q := 789) (k := 21) rfl rfl rfl (by decide) (by decide)
theorem w_g_71_22 : am_get ((HW L xs F A B hs t1 t2).2.2 71) 790 r = some (.int (jI (F 71 22)) :: r) := hw_get (o := 71) (ci := 12) (q := 790) (k := 22) (c := (0, 0)) rfl rfl rfl (by decide)
theorem w_p_71_22 {x : Int} : rP d y is nx ls r (HW L xs F A B hs t1 t2) 71 Q (am_wf ((HW L xs F A B hs t1 t2).2.2 71) 790 (.int (jI x))) = Rn d (y, is, nx, ls, r) (HW L xs (u2 F 71 22 x) A B hs t1 t2) Q := hw_wf (o := 71) (ci := 12) (q := 790) (k := 22) rfl rfl rfl (by decide) (by decide)
theorem w_g_71_23 : am_get ((HW L xs F A B hs t1 t2).2.2 71) 791 r = some (.ref 86 :: r) := hw_get (o := 71) (ci := 12) (q := 791) (k := 23) (c := (1, 86)) rfl rfl rfl (by decide)
theorem w_g_71_24 : am_get ((HW L xs F A B hs t1 t2).2.2 71) 792 r = some (.ref 87 :: r) := hw_get (o := 71) (ci := 12) (q := 792) (k := 24) (c := (1, 87)) rfl rfl rfl (by decide)
theorem w_g_71_25 : am_get ((HW L xs F A B hs t1 t2).2.2 71) 793 r = some (.ref 88 :: r) := hw_get (o := 71) (ci := 12) (q := 793) (k := 25) (c := (1, 88)) rfl rfl rfl (by decide)
theorem w_g_71_26 : am_get ((HW L xs F A B hs t1 t2).2.2 71) 794 r = some (.int (jI (F 71 26)) :: r) := hw_get (o := 71) (ci := 12) (q := 794) (k := 26) (c := (0, 0)) rfl rfl rfl (by decide)
theorem w_p_71_26_0 : rP d y is nx ls r (HW L xs F A B hs t1 t2) 71 Q (am_wf ((HW L xs F A B hs t1 t2).2.2 71) 4890 (.int (jI 0))) = Rn d (y, is, nx, ls, r) (HW L xs (u2 F 71 26 0) A B hs t1 t2) Q := hw_wz (o := 71) (ci := 12) (q := 4890) (k := 26) rfl rfl rfl (by decide) (by decide) (by decide)
theorem w_p_71_26_1 : rP d y is nx ls r (HW L xs F A B hs t1 t2) 71 Q (am_wf ((HW L xs F A B hs t1 t2).2.2 71) 4890 (.int (jI 1))) = Rn d (y, is, nx, ls, r) (HW L xs (u2 F 71 26 1) A B hs t1 t2) Q := hw_wz (o := 71) (ci := 12) (q := 4890) (k := 26) rfl rfl rfl (by decide) (by decide) (by decide)
theorem w_g_71_27 : am_get ((HW L xs F A B hs t1 t2).2.2 71) 795 r = some (.int (jI (F 71 27)) :: r) := hw_get (o := 71) (ci := 12) (q := 795) (k := 27) (c := (0, 0)) rfl rfl rfl (by decide)
theorem w_p_71_27 {x : Int} : rP d y is nx ls r (HW L xs F A B hs t1 t2) 71 Q (am_wf ((HW L xs F A B hs t1 t2).2.2 71) 795 (.int (jI x))) = Rn d (y, is, nx, ls, r) (HW L xs (u2 F 71 27 x) A B hs t1 t2) Q := hw_wf (o := 71) (ci := 12) (q := 795) (k := 27) rfl rfl rfl (by decide) (by decide)
theorem w_g_71_28 : am_get ((HW L xs F A B hs t1 t2).2.2 71) 796 r = some (.int (jI (F 71 28)) :: r) := hw_get (o := 71) (ci := 12) (q := 796) (k := 28) (c := (0, 0)) rfl rfl rfl (by decide)
theorem w_p_71_28 {x : Int} : rP d y is nx ls r (HW L xs F A B hs t1 t2) 71 Q (am_wf ((HW L xs F A B hs t1 t2).2.2 71) 796 (.int (jI x))) = Rn d (y, is, nx, ls, r) (HW L xs (u2 F 71 28 x) A B hs t1 t2) Q := hw_wf (o := 71) (ci := 12) (q := 796) (k := 28) rfl rfl rfl (by decide) (by decide)
theorem w_g_71_29 : am_get ((HW L xs F A B hs t1 t2).2.2 71) 797 r = some (.int (jI (F 71 29)) :: r) := hw_get (o := 71) (ci := 12) (q := 797) (k := 29) (c := (0, 0)) rfl rfl rfl (by decide)
theorem w_p_71_29 {x : Int} : rP d y is nx ls r (HW L xs F A B hs t1 t2) 71 Q (am_wf ((HW L xs F A B hs t1 t2).2.2 71) 797 (.int (jI x))) = Rn d (y, is, nx, ls, r) (HW L xs (u2 F 71 29 x) A B hs t1 t2) Q := hw_wf (o := 71) (ci := 12) (q := 797) (k := 29) rfl rfl rfl (by decide) (by decide)
theorem w_g_71_30 : am_get ((HW L xs F A B hs t1 t2).2.2 71) 798 r = some (.ref 89 :: r) := hw_get (o := 71) (ci := 12) (q := 798) (k := 30) (c := (1, 89)) rfl rfl rfl (by decide)
theorem w_g_71_31 : am_get ((HW L xs F A B hs t1 t2).2.2 71) 799 r = some (.ref 90 :: r) := hw_get (o := 71) (ci := 12) (q := 799) (k := 31) (c := (1, 90)) rfl rfl rfl (by decide)
theorem w_g_71_32 : am_get ((HW L xs F A B hs t1 t2).2.2 71) 800 r = some (.ref 91 :: r) := hw_get (o := 71) (ci := 12) (q := 800) (k := 32) (c := (1, 91)) rfl rfl rfl (by decide)
theorem w_g_71_33 : am_get ((HW L xs F A B hs t1 t2).2.2 71) 801 r = some (.ref 92 :: r) := hw_get (o := 71) (ci := 12) (q := 801) (k := 33) (c := (1, 92)) rfl rfl rfl (by decide)
theorem w_g_71_34 : am_get ((HW L xs F A B hs t1 t2).2.2 71) 802 r = some (.ref 93 :: r) := hw_get (o := 71) (ci := 12) (q := 802) (k := 34) (c := (1, 93)) rfl rfl rfl (by decide)
theorem w_g_71_35 : am_get ((HW L xs F A B hs t1 t2).2.2 71) 803 r = some (.ref 94 :: r) := hw_get (o := 71) (ci := 12) (q := 803) (k := 35) (c := (1, 94)) rfl rfl rfl (by decide)
theorem w_g_71_36 : am_get ((HW L xs F A B hs t1 t2).2.2 71) 804 r = some (.int (jI (F 71 36)) :: r) := hw_get (o := 71) (ci := 12) (q := 804) (k := 36) (c := (0, 0)) rfl rfl rfl (by decide)
theorem w_p_71_36 {x : Int} : rP d y is nx ls r (HW L xs F A B hs t1 t2) 71 Q (am_wf ((HW L xs F A B hs t1 t2).2.2 71) 804 (.int (jI x))) = Rn d (y, is, nx, ls, r) (HW L xs (u2 F 71 36 x) A B hs t1 t2) Q := hw_wf (o := 71) (ci := 12) (q := 804) (k := 36) rfl rfl rfl (by decide) (by decide)
theorem w_g_71_37 : am_get ((HW L xs F A B hs t1 t2).2.2 71) 805 r = some (.ref 95 :: r) := hw_get (o := 71) (ci := 12) (q := 805) (k := 37) (c := (1, 95)) rfl rfl rfl (by decide)
theorem w_g_71_38 : am_get ((HW L xs F A B hs t1 t2).2.2 71) 806 r = some (.ref 96 :: r) := hw_get (o := 71) (ci := 12) (q := 806) (k := 38) (c := (1, 96)) rfl rfl rfl (by decide)
theorem w_g_71_39 : am_get ((HW L xs F A B hs t1 t2).2.2 71) 807 r = some (.ref 97 :: r) := hw_get (o := 71) (ci := 12) (q := 807) (k := 39) (c := (1, 97)) rfl rfl rfl (by decide)
theorem w_g_71_40 : am_get ((HW L xs F A B hs t1 t2).2.2 71) 808 r = some (.ref 98 :: r) := hw_get (o := 71) (ci := 12) (q := 808) (k := 40) (c := (1, 98)) rfl rfl rfl (by decide)
theorem w_g_71_41 : am_get ((HW L xs F A B hs t1 t2).2.2 71) 809 r = some (.long hs :: r) := hw_get (o := 71) (ci := 12) (q := 809) (k := 41) (c := (4, 0)) rfl rfl rfl (by decide)
theorem w_r_72 {i : Int32} : am_rd ((HW L xs F A B hs t1 t2).2.2 72) i r = if vp_inB i 12 = true then some (.int (jI (A 72 i.toNatClampNeg)) :: r) else none := hw_rd (o := 72) (n := 12) rfl
theorem w_l_72 : am_len ((HW L xs F A B hs t1 t2).2.2 72) r = some (.int (jI 12) :: r) := hw_len (o := 72) (n := 12) rfl
theorem w_w_72 {i : Int32} {x : Int} : rP d y is nx ls r (HW L xs F A B hs t1 t2) 72 Q (am_wi ((HW L xs F A B hs t1 t2).2.2 72) i (jI x)) = (vp_inB i 12 = true ∧ Rn d (y, is, nx, ls, r) (HW L xs F (u2 A 72 i.toNatClampNeg x) B hs t1 t2) Q) := hw_wi (o := 72) (n := 12) rfl
theorem w_r_73 {i : Int32} : am_rd ((HW L xs F A B hs t1 t2).2.2 73) i r = if vp_inB i 16 = true then some (.int (jI (A 73 i.toNatClampNeg)) :: r) else none := hw_rd (o := 73) (n := 16) rfl
theorem w_l_73 : am_len ((HW L xs F A B hs t1 t2).2.2 73) r = some (.int (jI 16) :: r) := hw_len (o := 73) (n := 16) rfl
theorem w_w_73 {i : Int32} {x : Int} : rP d y is nx ls r (HW L xs F A B hs t1 t2) 73 Q (am_wi ((HW L xs F A B hs t1 t2).2.2 73) i (jI x)) = (vp_inB i 16 = true ∧ Rn d (y, is, nx, ls, r) (HW L xs F (u2 A 73 i.toNatClampNeg x) B hs t1 t2) Q) := hw_wi (o := 73) (n := 16) rfl
theorem w_r_74 {i : Int32} : am_rd ((HW L xs F A B hs t1 t2).2.2 74) i r = if vp_inB i 48 = true then some (.int (jI (A 74 i.toNatClampNeg)) :: r) else none := hw_rd (o := 74) (n := 48) rfl
theorem w_l_74 : am_len ((HW L xs F A B hs t1 t2).2.2 74) r = some (.int (jI 48) :: r) := hw_len (o := 74) (n := 48) rfl
theorem w_w_74 {i : Int32} {x : Int} : rP d y is nx ls r (HW L xs F A B hs t1 t2) 74 Q (am_wi ((HW L xs F A B hs t1 t2).2.2 74) i (jI x)) = (vp_inB i 48 = true ∧ Rn d (y, is, nx, ls, r) (HW L xs F (u2 A 74 i.toNatClampNeg x) B hs t1 t2) Q) := hw_wi (o := 74) (n := 48) rfl
theorem w_r_75 {i : Int32} : am_rd ((HW L xs F A B hs t1 t2).2.2 75) i r = if vp_inB i 20 = true then some (.int (jI (A 75 i.toNatClampNeg)) :: r) else none := hw_rd (o := 75) (n := 20) rfl
theorem w_l_75 : am_len ((HW L xs F A B hs t1 t2).2.2 75) r = some (.int (jI 20) :: r) := hw_len (o := 75) (n := 20) rfl
theorem w_w_75 {i : Int32} {x : Int} : rP d y is nx ls r (HW L xs F A B hs t1 t2) 75 Q (am_wi ((HW L xs F A B hs t1 t2).2.2 75) i (jI x)) = (vp_inB i 20 = true ∧ Rn d (y, is, nx, ls, r) (HW L xs F (u2 A 75 i.toNatClampNeg x) B hs t1 t2) Q) := hw_wi (o := 75) (n := 20) rfl
theorem w_r_76 {i : Int32} : am_rd ((HW L xs F A B hs t1 t2).2.2 76) i r = if vp_inB i 20 = true then some (.int (jI (A 76 i.toNatClampNeg)) :: r) else none := hw_rd (o := 76) (n := 20) rfl
theorem w_l_76 : am_len ((HW L xs F A B hs t1 t2).2.2 76) r = some (.int (jI 20) :: r) := hw_len (o := 76) (n := 20) rfl
theorem w_w_76 {i : Int32} {x : Int} : rP d y is nx ls r (HW L xs F A B hs t1 t2) 76 Q (am_wi ((HW L xs F A B hs t1 t2).2.2 76) i (jI x)) = (vp_inB i 20 = true ∧ Rn d (y, is, nx, ls, r) (HW L xs F (u2 A 76 i.toNatClampNeg x) B hs t1 t2) Q) := hw_wi (o := 76) (n := 20) rfl
theorem w_r_77 {i : Int32} : am_rd ((HW L xs F A B hs t1 t2).2.2 77) i r = if vp_inB i 20 = true then some (.int (jI (A 77 i.toNatClampNeg)) :: r) else none := hw_rd (o := 77) (n := 20) rfl
theorem w_l_77 : am_len ((HW L xs F A B hs t1 t2).2.2 77) r = some (.int (jI 20) :: r) := hw_len (o := 77) (n := 20) rfl
theorem w_w_77 {i : Int32} {x : Int} : rP d y is nx ls r (HW L xs F A B hs t1 t2) 77 Q (am_wi ((HW L xs F A B hs t1 t2).2.2 77) i (jI x)) = (vp_inB i 20 = true ∧ Rn d (y, is, nx, ls, r) (HW L xs F (u2 A 77 i.toNatClampNeg x) B hs t1 t2) Q) := hw_wi (o := 77) (n := 20) rfl
theorem w_r_78 {i : Int32} : am_rd ((HW L xs F A B hs t1 t2).2.2 78) i r = if vp_inB i 10 = true then some (.int (jI (A 78 i.toNatClampNeg)) :: r) else none := hw_rd (o := 78) (n := 10) rfl
theorem w_l_78 : am_len ((HW L xs F A B hs t1 t2).2.2 78) r = some (.int (jI 10) :: r) := hw_len (o := 78) (n := 10) rfl
theorem w_w_78 {i : Int32} {x : Int} : rP d y is nx ls r (HW L xs F A B hs t1 t2) 78 Q (am_wi ((HW L xs F A B hs t1 t2).2.2 78) i (jI x)) = (vp_inB i 10 = true ∧ Rn d (y, is, nx, ls, r) (HW L xs F (u2 A 78 i.toNatClampNeg x) B hs t1 t2) Q) := hw_wi (o := 78) (n := 10) rfl
theorem w_r_79 {i : Int32} : am_rd ((HW L xs F A B hs t1 t2).2.2 79) i r = if vp_inB i 60 = true then some (.int (jI (A 79 i.toNatClampNeg)) :: r) else none := hw_rd (o := 79) (n := 60) rfl
theorem w_l_79 : am_len ((HW L xs F A B hs t1 t2).2.2 79) r = some (.int (jI 60) :: r) := hw_len (o := 79) (n := 60) rfl
theorem w_w_79 {i : Int32} {x : Int} : rP d y is nx ls r (HW L xs F A B hs t1 t2) 79 Q (am_wi ((HW L xs F A B hs t1 t2).2.2 79) i (jI x)) = (vp_inB i 60 = true ∧ Rn d (y, is, nx, ls, r) (HW L xs F (u2 A 79 i.toNatClampNeg x) B hs t1 t2) Q) := hw_wi (o := 79) (n := 60) rfl
theorem w_r_80 {i : Int32} : am_rd ((HW L xs F A B hs t1 t2).2.2 80) i r = if vp_inB i 20 = true then some (.int (jI (A 80 i.toNatClampNeg)) :: r) else none := hw_rd (o := 80) (n := 20) rfl
theorem w_l_80 : am_len ((HW L xs F A B hs t1 t2).2.2 80) r = some (.int (jI 20) :: r) := hw_len (o := 80) (n := 20) rfl
theorem w_w_80 {i : Int32} {x : Int} : rP d y is nx ls r (HW L xs F A B hs t1 t2) 80 Q (am_wi ((HW L xs F A B hs t1 t2).2.2 80) i (jI x)) = (vp_inB i 20 = true ∧ Rn d (y, is, nx, ls, r) (HW L xs F (u2 A 80 i.toNatClampNeg x) B hs t1 t2) Q) := hw_wi (o := 80) (n := 20) rfl
theorem w_r_81 {i : Int32} : am_rd ((HW L xs F A B hs t1 t2).2.2 81) i r = if vp_inB i 20 = true then some (.int (jI (A 81 i.toNatClampNeg)) :: r) else none := hw_rd (o := 81) (n := 20) rfl
theorem w_l_81 : am_len ((HW L xs F A B hs t1 t2).2.2 81) r = some (.int (jI 20) :: r) := hw_len (o := 81) (n := 20) rfl
theorem w_w_81 {i : Int32} {x : Int} : rP d y is nx ls r (HW L xs F A B hs t1 t2) 81 Q (am_wi ((HW L xs F A B hs t1 t2).2.2 81) i (jI x)) = (vp_inB i 20 = true ∧ Rn d (y, is, nx, ls, r) (HW L xs F (u2 A 81 i.toNatClampNeg x) B hs t1 t2) Q) := hw_wi (o := 81) (n := 20) rfl
theorem w_r_82 {i : Int32} : am_rd ((HW L xs F A B hs t1 t2).2.2 82) i r = if vp_inB i 6 = true then some (.int (jI (A 82 i.toNatClampNeg)) :: r) else none := hw_rd (o := 82) (n := 6) rfl
theorem w_l_82 : am_len ((HW L xs F A B hs t1 t2).2.2 82) r = some (.int (jI 6) :: r) := hw_len (o := 82) (n := 6) rfl
theorem w_w_82 {i : Int32} {x : Int} : rP d y is nx ls r (HW L xs F A B hs t1 t2) 82 Q (am_wi ((HW L xs F A B hs t1 t2).2.2 82) i (jI x)) = (vp_inB i 6 = true ∧ Rn d (y, is, nx, ls, r) (HW L xs F (u2 A 82 i.toNatClampNeg x) B hs t1 t2) Q) := hw_wi (o := 82) (n := 6) rfl
theorem w_r_83 {i : Int32} : am_rd ((HW L xs F A B hs t1 t2).2.2 83) i r = if vp_inB i 6 = true then some (.int (jI (A 83 i.toNatClampNeg)) :: r) else none := hw_rd (o := 83) (n := 6) rfl
theorem w_l_83 : am_len ((HW L xs F A B hs t1 t2).2.2 83) r = some (.int (jI 6) :: r) := hw_len (o := 83) (n := 6) rfl
theorem w_w_83 {i : Int32} {x : Int} : rP d y is nx ls r (HW L xs F A B hs t1 t2) 83 Q (am_wi ((HW L xs F A B hs t1 t2).2.2 83) i (jI x)) = (vp_inB i 6 = true ∧ Rn d (y, is, nx, ls, r) (HW L xs F (u2 A 83 i.toNatClampNeg x) B hs t1 t2) Q) := hw_wi (o := 83) (n := 6) rfl
theorem w_r_84 {i : Int32} : am_rd ((HW L xs F A B hs t1 t2).2.2 84) i r = if vp_inB i 64 = true then some (.int (jI (A 84 i.toNatClampNeg)) :: r) else none := hw_rd (o := 84) (n := 64) rfl
theorem w_l_84 : am_len ((HW L xs F A B hs t1 t2).2.2 84) r = some (.int (jI 64) :: r) := hw_len (o := 84) (n := 64) rfl
theorem w_w_84 {i : Int32} {x : Int} : rP d y is nx ls r (HW L xs F A B hs t1 t2) 84 Q (am_wi ((HW L xs F A B hs t1 t2).2.2 84) i (jI x)) = (vp_inB i 64 = true ∧ Rn d (y, is, nx, ls, r) (HW L xs F (u2 A 84 i.toNatClampNeg x) B hs t1 t2) Q) := hw_wi (o := 84) (n := 64) rfl
theorem w_r_85 {i : Int32} : am_rd ((HW L xs F A B hs t1 t2).2.2 85) i r = if vp_inB i 40 = true then some (.int (jI (A 85 i.toNatClampNeg)) :: r) else none := hw_rd (o := 85) (n := 40) rfl
theorem w_l_85 : am_len ((HW L xs F A B hs t1 t2).2.2 85) r = some (.int (jI 40) :: r) := hw_len (o := 85) (n := 40) rfl
theorem w_w_85 {i : Int32} {x : Int} : rP d y is nx ls r (HW L xs F A B hs t1 t2) 85 Q (am_wi ((HW L xs F A B hs t1 t2).2.2 85) i (jI x)) = (vp_inB i 40 = true ∧ Rn d (y, is, nx, ls, r) (HW L xs F (u2 A 85 i.toNatClampNeg x) B hs t1 t2) Q) := hw_wi (o := 85) (n := 40) rfl
theorem w_r_86 {i : Int32} : am_rd ((HW L xs F A B hs t1 t2).2.2 86) i r = if vp_inB i 40 = true then some (.int (jI (A 86 i.toNatClampNeg)) :: r) else none := hw_rd (o := 86) (n := 40) rfl
theorem w_l_86 : am_len ((HW L xs F A B hs t1 t2).2.2 86) r = some (.int (jI 40) :: r) := hw_len (o := 86) (n := 40) rfl
theorem w_w_86 {i : Int32} {x : Int} : rP d y is nx ls r (HW L xs F A B hs t1 t2) 86 Q (am_wi ((HW L xs F A B hs t1 t2).2.2 86) i (jI x)) = (vp_inB i 40 = true ∧ Rn d (y, is, nx, ls, r) (HW L xs F (u2 A 86 i.toNatClampNeg x) B hs t1 t2) Q) := hw_wi (o := 86) (n := 40) rfl
theorem w_r_87 {i : Int32} : am_rd ((HW L xs F A B hs t1 t2).2.2 87) i r = if vp_inB i 40 = true then some (.int (jI (A 87 i.toNatClampNeg)) :: r) else none := hw_rd (o := 87) (n := 40) rfl
theorem w_l_87 : am_len ((HW L xs F A B hs t1 t2).2.2 87) r = some (.int (jI 40) :: r) := hw_len (o := 87) (n := 40) rfl
theorem w_w_87 {i : Int32} {x : Int} : rP d y is nx ls r (HW L xs F A B hs t1 t2) 87 Q (am_wi ((HW L xs F A B hs t1 t2).2.2 87) i (jI x)) = (vp_inB i 40 = true ∧ Rn d (y, is, nx, ls, r) (HW L xs F (u2 A 87 i.toNatClampNeg x) B hs t1 t2) Q) := hw_wi (o := 87) (n := 40) rfl
theorem w_r_88 {i : Int32} : am_rd ((HW L xs F A B hs t1 t2).2.2 88) i r = if vp_inB i 8 = true then some (.int (jI (A 88 i.toNatClampNeg)) :: r) else none := hw_rd (o := 88) (n := 8) rfl
theorem w_l_88 : am_len ((HW L xs F A B hs t1 t2).2.2 88) r = some (.int (jI 8) :: r) := hw_len (o := 88) (n := 8) rfl
theorem w_w_88 {i : Int32} {x : Int} : rP d y is nx ls r (HW L xs F A B hs t1 t2) 88 Q (am_wi ((HW L xs F A B hs t1 t2).2.2 88) i (jI x)) = (vp_inB i 8 = true ∧ Rn d (y, is, nx, ls, r) (HW L xs F (u2 A 88 i.toNatClampNeg x) B hs t1 t2) Q) := hw_wi (o := 88) (n := 8) rfl
theorem w_r_89 {i : Int32} : am_rd ((HW L xs F A B hs t1 t2).2.2 89) i r = if vp_inB i 40 = true then some (.int (jI (A 89 i.toNatClampNeg)) :: r) else none := hw_rd (o := 89) (n := 40) rfl
theorem w_l_89 : am_len ((HW L xs F A B hs t1 t2).2.2 89) r = some (.int (jI 40) :: r) := hw_len (o := 89) (n := 40) rfl
theorem w_w_89 {i : Int32} {x : Int} : rP d y is nx ls r (HW L xs F A B hs t1 t2) 89 Q (am_wi ((HW L xs F A B hs t1 t2).2.2 89) i (jI x)) = (vp_inB i 40 = true ∧ Rn d (y, is, nx, ls, r) (HW L xs F (u2 A 89 i.toNatClampNeg x) B hs t1 t2) Q) := hw_wi (o := 89) (n := 40) rfl
theorem w_r_90 {i : Int32} : am_rd ((HW L xs F A B hs t1 t2).2.2 90) i r = if vp_inB i 40 = true then some (.int (jI (A 90 i.toNatClampNeg)) :: r) else none := hw_rd (o := 90) (n := 40) rfl
theorem w_l_90 : am_len ((HW L xs F A B hs t1 t2).2.2 90) r = some (.int (jI 40) :: r) := hw_len (o := 90) (n := 40) rfl
theorem w_w_90 {i : Int32} {x : Int} : rP d y is nx ls r (HW L xs F A B hs t1 t2) 90 Q (am_wi ((HW L xs F A B hs t1 t2).2.2 90) i (jI x)) = (vp_inB i 40 = true ∧ Rn d (y, is, nx, ls, r) (HW L xs F (u2 A 90 i.toNatClampNeg x) B hs t1 t2) Q) := hw_wi (o := 90) (n := 40) rfl
theorem w_r_91 {i : Int32} : am_rd ((HW L xs F A B hs t1 t2).2.2 91) i r = if vp_inB i 40 = true then some (.int (jI (A 91 i.toNatClampNeg)) :: r) else none := hw_rd (o := 91) (n := 40) rfl
theorem w_l_91 : am_len ((HW L xs F A B hs t1 t2).2.2 91) r = some (.int (jI 40) :: r) := hw_len (o := 91) (n := 40) rfl
theorem w_w_91 {i : Int32} {x : Int} : rP d y is nx ls r (HW L xs F A B hs t1 t2) 91 Q (am_wi ((HW L xs F A B hs t1 t2).2.2 91) i (jI x)) = (vp_inB i 40 = true ∧ Rn d (y, is, nx, ls, r) (HW L xs F (u2 A 91 i.toNatClampNeg x) B hs t1 t2) Q) := hw_wi (o := 91) (n := 40) rfl
theorem w_r_92 {i : Int32} : am_rd ((HW L xs F A B hs t1 t2).2.2 92) i r = if vp_inB i 320 = true then some (.int (jI (A 92 i.toNatClampNeg)) :: r) else none := hw_rd (o := 92) (n := 320) rfl
theorem w_l_92 : am_len ((HW L xs F A B hs t1 t2).2.2 92) r = some (.int (jI 320) :: r) := hw_len (o := 92) (n := 320) rfl
theorem w_w_92 {i : Int32} {x : Int} : rP d y is nx ls r (HW L xs F A B hs t1 t2) 92 Q (am_wi ((HW L xs F A B hs t1 t2).2.2 92) i (jI x)) = (vp_inB i 320 = true ∧ Rn d (y, is, nx, ls, r) (HW L xs F (u2 A 92 i.toNatClampNeg x) B hs t1 t2) Q) := hw_wi (o := 92) (n := 320) rfl
theorem w_r_93 {i : Int32} : am_rd ((HW L xs F A B hs t1 t2).2.2 93) i r = if vp_inB i 320 = true then some (.int (jI (A 93 i.toNatClampNeg)) :: r) else none := hw_rd (o := 93) (n := 320) rfl
theorem w_l_93 : am_len ((HW L xs F A B hs t1 t2).2.2 93) r = some (.int (jI 320) :: r) := hw_len (o := 93) (n := 320) rfl
theorem w_w_93 {i : Int32} {x : Int} : rP d y is nx ls r (HW L xs F A B hs t1 t2) 93 Q (am_wi ((HW L xs F A B hs t1 t2).2.2 93) i (jI x)) = (vp_inB i 320 = true ∧ Rn d (y, is, nx, ls, r) (HW L xs F (u2 A 93 i.toNatClampNeg x) B hs t1 t2) Q) := hw_wi (o := 93) (n := 320) rfl
theorem w_r_94 {i : Int32} : am_rd ((HW L xs F A B hs t1 t2).2.2 94) i r = if vp_inB i 8 = true then some (.int (jI (A 94 i.toNatClampNeg)) :: r) else none := hw_rd (o := 94) (n := 8) rfl
theorem w_l_94 : am_len ((HW L xs F A B hs t1 t2).2.2 94) r = some (.int (jI 8) :: r) := hw_len (o := 94) (n := 8) rfl
theorem w_w_94 {i : Int32} {x : Int} : rP d y is nx ls r (HW L xs F A B hs t1 t2) 94 Q (am_wi ((HW L xs F A B hs t1 t2).2.2 94) i (jI x)) = (vp_inB i 8 = true ∧ Rn d (y, is, nx, ls, r) (HW L xs F (u2 A 94 i.toNatClampNeg x) B hs t1 t2) Q) := hw_wi (o := 94) (n := 8) rfl
theorem w_r_95 {i : Int32} : am_rd ((HW L xs F A B hs t1 t2).2.2 95) i r = if vp_inB i 8 = true then some (.int (jI (A 95 i.toNatClampNeg)) :: r) else none := hw_rd (o := 95) (n := 8) rfl
theorem w_l_95 : am_len ((HW L xs F A B hs t1 t2).2.2 95) r = some (.int (jI 8) :: r) := hw_len (o := 95) (n := 8) rfl
theorem w_w_95 {i : Int32} {x : Int} : rP d y is nx ls r (HW L xs F A B hs t1 t2) 95 Q (am_wi ((HW L xs F A B hs t1 t2).2.2 95) i (jI x)) = (vp_inB i 8 = true ∧ Rn d (y, is, nx, ls, r) (HW L xs F (u2 A 95 i.toNatClampNeg x) B hs t1 t2) Q) := hw_wi (o := 95) (n := 8) rfl
theorem w_r_96 {i : Int32} : am_rd ((HW L xs F A B hs t1 t2).2.2 96) i r = if vp_inB i 8 = true then some (.int (jI (A 96 i.toNatClampNeg)) :: r) else none := hw_rd (o := 96) (n := 8) rfl
theorem w_l_96 : am_len ((HW L xs F A B hs t1 t2).2.2 96) r = some (.int (jI 8) :: r) := hw_len (o := 96) (n := 8) rfl
theorem w_w_96 {i : Int32} {x : Int} : rP d y is nx ls r (HW L xs F A B hs t1 t2) 96 Q (am_wi ((HW L xs F A B hs t1 t2).2.2 96) i (jI x)) = (vp_inB i 8 = true ∧ Rn d (y, is, nx, ls, r) (HW L xs F (u2 A 96 i.toNatClampNeg x) B hs t1 t2) Q) := hw_wi (o := 96) (n := 8) rfl
theorem w_r_97 {i : Int32} : am_rd ((HW L xs F A B hs t1 t2).2.2 97) i r = if vp_inB i 60 = true then some (.int (jI (A 97 i.toNatClampNeg)) :: r) else none := hw_rd (o := 97) (n := 60) rfl
theorem w_l_97 : am_len ((HW L xs F A B hs t1 t2).2.2 97) r = some (.int (jI 60) :: r) := hw_len (o := 97) (n := 60) rfl
theorem w_w_97 {i : Int32} {x : Int} : rP d y is nx ls r (HW L xs F A B hs t1 t2) 97 Q (am_wi ((HW L xs F A B hs t1 t2).2.2 97) i (jI x)) = (vp_inB i 60 = true ∧ Rn d (y, is, nx, ls, r) (HW L xs F (u2 A 97 i.toNatClampNeg x) B hs t1 t2) Q) := hw_wi (o := 97) (n := 60) rfl
theorem w_r_98 {i : Int32} : am_rd ((HW L xs F A B hs t1 t2).2.2 98) i r = if vp_inB i 7168 = true then some (.int (jI (A 98 i.toNatClampNeg)) :: r) else none := hw_rd (o := 98) (n := 7168) rfl
theorem w_l_98 : am_len ((HW L xs F A B hs t1 t2).2.2 98) r = some (.int (jI 7168) :: r) := hw_len (o := 98) (n := 7168) rfl
theorem w_w_98 {i : Int32} {x : Int} : rP d y is nx ls r (HW L xs F A B hs t1 t2) 98 Q (am_wi ((HW L xs F A B hs t1 t2).2.2 98) i (jI x)) = (vp_inB i 7168 = true ∧ Rn d (y, is, nx, ls, r) (HW L xs F (u2 A 98 i.toNatClampNeg x) B hs t1 t2) Q) := hw_wi (o := 98) (n := 7168) rfl
end WORLD
