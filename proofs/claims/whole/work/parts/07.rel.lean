/-! THE REAL MACHINE FOLLOWS THE ABSTRACT ONE: what holds between them -/
def am_ad (tS b base : Nat) : Nat → Nat
  | 0 => tS
  | 1 => b
  | k + 2 => base + k
def am_tr (ad : Nat → Nat) (v : Value) : Value := match v with
  | .ref k => .ref (ad k)
  | v => v
def am_trA (ad : Nat → Nat) (a : vp_A) : vp_A := (a.1, match a.2 with
  | .inr (.inr (.inr (.inr f))) => .inr (.inr (.inr (.inr (fun i => (f i).map ad))))
  | x => x)
def am_trE (ad : Nat → Nat) (tys : List (ClassId × FieldType)) (c : am_E) : va_E := match c with
  | .inl (t, a) => .inl ((tys.getD t (0, .int)).1, am_trA ad a)
  | .inr (ci, fs) => .inr (ci, fs.map (am_tr ad))
def am_ws (ad : Nat → Nat) (tys : List (ClassId × FieldType)) (base : Nat) (h : am_H) : va_W := (List.range (h.1 - 2)).map (fun k => (base + k, am_trE ad tys (h.2.2 (k + 2))))
theorem am_tr_cat (ad : Nat → Nat) (v : Value) : (am_tr ad v).category = v.category := by cases v <;> rfl
theorem am_map_cat (ad : Nat → Nat) (l : List Value) : ((l.map (am_tr ad)).map (fun v => v.category)).sum = (l.map Value.category).sum := by
  induction l with
  | nil => rfl
  | cons a l ih => simp only [List.map_cons, List.sum_cons, am_tr_cat]; rw [ih]
/-- the locals -/
def am_Lo (ad : Nat → Nat) (al : List Value) (ls : Array Slot) : Prop := ls.size = al.length ∧ lv_wf ls ∧ ∀ (k : Nat) (v : Value), al[k]? = some v → v ≠ .null → ls[k]? = some (.val (am_tr ad v))
def am_fx (ad : Nat → Nat) (al : List Value) : List (Nat × Value) := (List.range al.length).filterMap (fun k => match al[k]? with
  | some v => if v = .null then none else some (k, am_tr ad v)
  | none => none)
theorem am_fx_mem {ad : Nat → Nat} {al : List Value} {k : Nat} {w : Value} : (k, w) ∈ am_fx ad al ↔ ∃ v, al[k]? = some v ∧ v ≠ .null ∧ w = am_tr ad v := by
  simp only [am_fx, List.mem_filterMap, List.mem_range]
  constructor
  · rintro ⟨j, hj, h⟩
    cases hv : al[j]? with
    | none => rw [hv] at h; cases h
    | some v =>
      rw [hv] at h
      dsimp only at h
      by_cases hn : v = .null
      · rw [if_pos hn] at h; cases h
      · rw [if_neg hn] at h
        simp only [Option.some.injEq, Prod.mk.injEq] at h
        obtain ⟨rfl, rfl⟩ := h
        exact ⟨v, hv, hn, rfl⟩
  · rintro ⟨v, hv, hn, rfl⟩
    refine ⟨k, (List.getElem?_eq_some_iff.mp hv).1, ?_⟩
    rw [hv]
    dsimp only
    rw [if_neg hn]
theorem am_Lo.has {ad : Nat → Nat} {al : List Value} {ls : Array Slot} (h : am_Lo ad al ls) : lv_has ls al.length (am_fx ad al) := ⟨h.1, h.2.1, fun q hq => by
  obtain ⟨k, w⟩ := q
  obtain ⟨v, hv, hn, rfl⟩ := am_fx_mem.mp hq
  exact h.2.2 k v hv hn⟩
theorem am_ok_lt {al : List Value} {i : Nat} (h : am_ok al i = true) : i < al.length := by
  cases i with
  | zero => simpa [am_ok] using h
  | succ j => simp only [am_ok, Bool.and_eq_true, decide_eq_true_eq] at h; exact h.1
theorem am_ok_prev {al : List Value} {i k : Nat} {v : Value} (h : am_ok al i = true) (hk : k + 1 = i) (hv : al[k]? = some v) : v.category = 1 := by
  subst hk
  simp only [am_ok, Bool.and_eq_true, hv] at h
  simpa using h.2
theorem am_Lo.set {ad : Nat → Nat} {al : List Value} {ls' : Array Slot} {i : Nat} {v : Value} (hok : am_ok al i = true) (h : lv_has ls' al.length ((i, am_tr ad v) :: (am_fx ad al).filter (fun q => !(q.1 == i) && !(q.1 + 1 == i && q.2.category == 2)))) : am_Lo ad (al.set i v) ls' := by
  refine ⟨by rw [List.length_set]; exact h.1, h.2.1, fun k w hw hn => ?_⟩
  by_cases hk : k = i
  · subst hk
    rw [List.getElem?_set_self (am_ok_lt hok)] at hw
    cases hw
    exact h.2.2 _ List.mem_cons_self
  · rw [List.getElem?_set_ne (fun e => hk e.symm)] at hw
    refine h.2.2 (k, am_tr ad w) (List.mem_cons_of_mem _ (List.mem_filter.mpr ⟨am_fx_mem.mpr ⟨w, hw, hn, rfl⟩, ?_⟩))
    simp only [Bool.and_eq_true, Bool.not_eq_true', beq_eq_false_iff_ne, ne_eq, Bool.and_eq_false_iff, am_tr_cat]
    refine ⟨hk, ?_⟩
    by_cases hk2 : k + 1 = i
    · right; rw [am_ok_prev hok hk2 hw]; decide
    · left; exact hk2
theorem am_Lo.setL {ad : Nat → Nat} {al : List Value} {ls' : Array Slot} {i : Nat} {v : Value} (hok : am_ok al i = true) (h : lv_has ls' al.length ((i, am_tr ad v) :: (am_fx ad al).filter (fun q => !(q.1 == i) && (!(q.1 == i + 1) && !(q.1 + 1 == i && q.2.category == 2))))) : am_Lo ad ((al.set (i + 1) .null).set i v) ls' := by
  refine ⟨by rw [List.length_set, List.length_set]; exact h.1, h.2.1, fun k w hw hn => ?_⟩
  by_cases hk : k = i
  · subst hk
    rw [List.getElem?_set_self (by rw [List.length_set]; exact am_ok_lt hok)] at hw
    cases hw
    exact h.2.2 _ List.mem_cons_self
  · rw [List.getElem?_set_ne (fun e => hk e.symm)] at hw
    by_cases hk1 : k = i + 1
    · subst hk1
      by_cases hl : i + 1 < al.length
      · rw [List.getElem?_set_self hl] at hw
        cases hw
        exact absurd rfl hn
      · rw [List.getElem?_eq_none (by rw [List.length_set]; omega)] at hw
        cases hw
    rw [List.getElem?_set_ne (fun e => hk1 e.symm)] at hw
    refine h.2.2 (k, am_tr ad w) (List.mem_cons_of_mem _ (List.mem_filter.mpr ⟨am_fx_mem.mpr ⟨w, hw, hn, rfl⟩, ?_⟩))
    simp only [Bool.and_eq_true, Bool.not_eq_true', beq_eq_false_iff_ne, ne_eq, Bool.and_eq_false_iff, am_tr_cat]
    refine ⟨hk, hk1, ?_⟩
    by_cases hk2 : k + 1 = i
    · right; rw [am_ok_prev hok hk2 hw]; decide
    · left; exact hk2
/-- a static array of longs -/
def am_Y (t : Nat) (f : Nat → Int64) (U : State) (H : Heap) : Prop := ∃ scr : Cell, H[t]? = some scr ∧ U.isArrayOf scr .long ∧ scr.vm ≠ .unknown ∧ scr.slots.size = 6 ∧ ∀ j : Nat, j < 6 → scr.slots[j]? = some (.long (f j))
def am_tys (cI cJ cS : ClassId) : List (ClassId × FieldType) := [(cI, .int), (cJ, .long), (cS, .object "MouthRiddles$Sight")]
def am_Ab (base : Nat) : Nat → Prop := fun q => base ≤ q
/-- the script's and the static array's kinds of cell are theirs alone -/
def am_tagF (c : am_E) : Bool := match c with
  | .inl (3, _) => false
  | .inl (4, _) => false
  | _ => true
/-- heap and abstract heap -/
def am_R (tS b base L : Nat) (xs : Nat → Int32) (hp : Nat → Int64) (D : va_G) (cI cJ cS : ClassId) (h : am_H) (H : Heap) : Prop :=
  va_P D vwCl (am_ws (am_ad tS b base) (am_tys cI cJ cS) base h) H ∧ 2 ≤ h.1 ∧ h.2.2 0 = .inl (4, 6, .inr (.inl hp)) ∧ h.2.2 1 = .inl (3, L, .inl xs) ∧ (∀ k, h.1 ≤ k → h.2.2 k = am_no) ∧ ∀ k, 2 ≤ k → am_tagF (h.2.2 k) = true
/-- what holds of a state at a method's entry, its words apart -/
def am_U (tS b base L : Nat) (xs : Nat → Int32) (hp : Nat → Int64) (D : va_G) (cI cJ cS : ClassId) (U : State) : Prop :=
  va_K D vwCl (am_tys cI cJ cS) U ∧ (∀ w ∈ lw_tbl, am_nest w = true → va_Nw w U) ∧ va_AO "MouthRiddles$Sight" U ∧ va_Z "MouthRiddles$Stakes" "HEAD_PLACES" "[J" (.ref tS) (am_Ab base) U U.heap ∧ am_Y tS hp U U.heap ∧ va_X b L xs U U.heap ∧ tS < base ∧ b < base ∧ base ≤ U.heap.size
def am_Wd (args : Array Value) (s : State) : Prop := ∀ w ∈ lw_tbl, goodWord w = true → w.before args s = true
section REL
variable {tS b base L : Nat} {xs : Nat → Int32} {hp : Nat → Int64} {D : va_G} {cI cJ cS : ClassId} {h : am_H} {H H1 : Heap}
theorem am_ws_get {ad : Nat → Nat} {tys : List (ClassId × FieldType)} {k : Nat} (h2 : 2 ≤ k) (hk : k < h.1) : (am_ws ad tys base h)[k - 2]? = some (base + (k - 2), am_trE ad tys (h.2.2 k)) := by
  simp only [am_ws, List.getElem?_map]
  rw [List.getElem?_range (by omega)]
  simp only [Option.map_some]
  rw [show k - 2 + 2 = k by omega]
theorem am_ws_inv {ad : Nat → Nat} {tys : List (ClassId × FieldType)} {i : Nat} {q : Nat × va_E} (e : (am_ws ad tys base h)[i]? = some q) : i + 2 < h.1 ∧ q.1 = base + i := by
  simp only [am_ws, List.getElem?_map] at e
  by_cases hi : i < h.1 - 2
  · rw [List.getElem?_range hi] at e
    simp only [Option.map_some, Option.some.injEq] at e
    rw [← e]
    exact ⟨by omega, rfl⟩
  · rw [List.getElem?_eq_none (by simp; omega)] at e
    cases e
theorem am_ad_k {k : Nat} (h2 : 2 ≤ k) : am_ad tS b base k = base + (k - 2) := by
  match k, h2 with
  | k + 2, _ => rfl
theorem am_D (ad : Nat → Nat) (tys : List (ClassId × FieldType)) (h : am_H) : va_D (am_Ab base) (am_ws ad tys base h) := by
  refine ⟨fun i j p q hi hj e => ?_, fun k q hq => ?_⟩
  · have h1 := am_ws_inv hi
    have h2 := am_ws_inv hj
    omega
  · have h1 := am_ws_inv hq
    show base ≤ q.1
    omega
theorem am_ws_set {ad : Nat → Nat} {tys : List (ClassId × FieldType)} {k : Nat} (h2 : 2 ≤ k) (hk : k < h.1) (c : am_E) : (am_ws ad tys base h).set (k - 2) (base + (k - 2), am_trE ad tys c) = am_ws ad tys base (am_set h k c) := by
  apply List.ext_getElem?
  intro i
  rw [List.getElem?_set]
  by_cases hi : k - 2 = i
  · rw [if_pos hi, if_pos (by simp [am_ws]; omega)]
    subst hi
    rw [am_ws_get (h := am_set h k c) h2 hk]
    simp [am_set, va_up]
  · rw [if_neg hi]
    by_cases hl : i < h.1 - 2
    · have e1 := am_ws_get (ad := ad) (tys := tys) (base := base) (h := h) (k := i + 2) (by omega) (by omega)
      have e2 := am_ws_get (ad := ad) (tys := tys) (base := base) (h := am_set h k c) (k := i + 2) (by omega) (by show i + 2 < h.1; omega)
      rw [show i + 2 - 2 = i by omega] at e1 e2
      rw [e1, e2]
      simp only [am_set, va_up]
      rw [if_neg (by omega)]
    · rw [List.getElem?_eq_none (by simp [am_ws]; omega), List.getElem?_eq_none (by simp [am_ws, am_set]; omega)]
theorem am_ws_new {ad : Nat → Nat} {tys : List (ClassId × FieldType)} (h2 : 2 ≤ h.1) (n : Nat) (c : am_E) : am_ws ad tys base (am_new h n c) = am_ws ad tys base h ++ [(base + (h.1 - 2), am_trE ad tys c)] := by
  have e : (am_new h n c).1 - 2 = (h.1 - 2) + 1 := by show h.1 + 1 - 2 = _; omega
  simp only [am_ws]
  rw [e, List.range_succ, List.map_append]
  congr 1
  · apply List.map_congr_left
    intro k hk
    have := List.mem_range.mp hk
    simp only [am_new, va_up]
    rw [if_neg (by omega)]
  · simp only [List.map_cons, List.map_nil, am_new, va_up]
    rw [if_pos (by omega)]
theorem am_rng (hR : am_R tS b base L xs hp D cI cJ cS h H) {k : Nat} {c : am_E} (hc : h.2.2 k = c) (h4 : c ≠ .inl (4, 6, .inr (.inl hp))) (h3 : c ≠ .inl (3, L, .inl xs)) (h9 : c ≠ am_no) : 2 ≤ k ∧ k < h.1 := by
  obtain ⟨-, -, e0, e1, e9, -⟩ := hR
  refine ⟨?_, ?_⟩
  · match k, hc with
    | 0, hc => exact absurd (hc.symm.trans e0) h4
    | 1, hc => exact absurd (hc.symm.trans e1) h3
    | k + 2, _ => omega
  · rcases Nat.lt_or_ge k h.1 with q | q
    · exact q
    · exact absurd (hc.symm.trans (e9 k q)) h9
theorem am_R.at (hR : am_R tS b base L xs hp D cI cJ cS h H) {k : Nat} (h2 : 2 ≤ k) (hk : k < h.1) : (am_ws (am_ad tS b base) (am_tys cI cJ cS) base h)[k - 2]? = some (am_ad tS b base k, am_trE (am_ad tS b base) (am_tys cI cJ cS) (h.2.2 k)) := by
  rw [am_ad_k h2]; exact am_ws_get h2 hk
theorem am_R.set (hR : am_R tS b base L xs hp D cI cJ cS h H) {k : Nat} (h2 : 2 ≤ k) (hk : k < h.1) {c : am_E} (hP : va_P D vwCl ((am_ws (am_ad tS b base) (am_tys cI cJ cS) base h).set (k - 2) (am_ad tS b base k, am_trE (am_ad tS b base) (am_tys cI cJ cS) c)) H1) (ht : am_tagF c = true) : am_R tS b base L xs hp D cI cJ cS (am_set h k c) H1 := by
  obtain ⟨-, q1, e0, e1, e9, eT⟩ := hR
  rw [am_ad_k h2, am_ws_set h2 hk] at hP
  refine ⟨hP, q1, ?_, ?_, fun j hj => ?_, fun j hj => ?_⟩
  · simp only [am_set, va_up]; rw [if_neg (by omega)]; exact e0
  · simp only [am_set, va_up]; rw [if_neg (by omega)]; exact e1
  · have : h.1 ≤ j := hj
    simp only [am_set, va_up]; rw [if_neg (by omega)]; exact e9 j this
  · simp only [am_set, va_up]
    by_cases hjk : j = k
    · rw [if_pos hjk]; exact ht
    · rw [if_neg hjk]; exact eT j hj
theorem am_R.new (hR : am_R tS b base L xs hp D cI cJ cS h H) {n : Nat} {c : am_E} (hP : va_P D vwCl (am_ws (am_ad tS b base) (am_tys cI cJ cS) base h ++ [(base + (h.1 - 2), am_trE (am_ad tS b base) (am_tys cI cJ cS) c)]) H1) (ht : am_tagF c = true) : am_R tS b base L xs hp D cI cJ cS (am_new h n c) H1 := by
  obtain ⟨-, q1, e0, e1, e9, eT⟩ := hR
  rw [← am_ws_new (n := n) q1] at hP
  refine ⟨hP, Nat.le_succ_of_le q1, ?_, ?_, fun j hj => ?_, fun j hj => ?_⟩
  · simp only [am_new, va_up]; rw [if_neg (by omega)]; exact e0
  · simp only [am_new, va_up]; rw [if_neg (by omega)]; exact e1
  · have : h.1 + 1 ≤ j := hj
    simp only [am_new, va_up]; rw [if_neg (by omega)]; exact e9 j (by omega)
  · simp only [am_new, va_up]
    by_cases hjk : j = h.1
    · rw [if_pos hjk]; exact ht
    · rw [if_neg hjk]; exact eT j hj
end REL
theorem am_inB {i : Int32} {n : Nat} (h : vp_inB i n = true) : vp_in i n := by
  simp only [vp_inB, Bool.and_eq_true, Bool.not_eq_true', decide_eq_false_iff_not, decide_eq_true_eq] at h
  intro q
  rcases q with q | q
  · exact h.1 q
  · omega
