/-! WHAT HOLDS AT THE LAW'S ENTRY -/
theorem kn_of {ci : Nat} {r : vw_C} (h : vwCl[ci]? = some r) {args : Array Value} {s : State} (hw : am_Wd args s) : ∃ (cC : ClassId) (iS : Nat → Nat), u_Kn s r.1 r.2.1 r.2.2 cC iS := by
  have h1 := am_c_at h
  simp only [am_ckc, h, Bool.and_eq_true, decide_eq_true_eq] at h1
  exact u_known (ws := u_ws r.1 r.2.1 r.2.2) (am_us_in h hw) (fun _ z => z) (hw _ (List.mem_of_getElem? h1.1.1.1.1) rfl)
theorem kn_all {args : Array Value} {s : State} (hw : am_Wd args s) : ∃ D : va_G, ∀ (c : Nat) (q : vw_C), vwCl[c]? = some q → u_Kn s q.1 q.2.1 q.2.2 (D.1 c) (D.2 c) := by
  have h : ∀ c : Nat, ∃ z : ClassId × (Nat → Nat), ∀ q, vwCl[c]? = some q → u_Kn s q.1 q.2.1 q.2.2 z.1 z.2 := by
    intro c
    cases e : vwCl[c]? with
    | none => exact ⟨(0, fun _ => 0), fun q hq => by cases hq⟩
    | some r =>
      obtain ⟨cC, iS, hk⟩ := kn_of e hw
      exact ⟨(cC, iS), fun q hq => by cases hq; exact hk⟩
  exact ⟨(fun c => (h c).choose.1, fun c => (h c).choose.2), fun c q hq => (h c).choose_spec q hq⟩
theorem ty_all {args : Array Value} {s : State} (hts : ∀ w ∈ lw_tbl, w.before args s = true) : ∃ cI cJ cS : ClassId, ∀ (k : Nat) (q : ClassId × FieldType), (am_tys cI cJ cS)[k]? = some q → ArrOfT s q.1 q.2 ∧ va_RA s q.1 q.2 := by
  obtain ⟨cI, kI, mI, f1, f2, f3⟩ := Cond.arrayClass_spec (hts _ am_w_ci)
  obtain ⟨cJ, kJ, mJ, g1, g2, g3⟩ := Cond.arrayClass_spec (hts _ am_w_cj)
  obtain ⟨mS, cS, kS, h1, h2, h3, h4, h5⟩ := Cond.arrayOver_spec (hts _ am_w_ca)
  refine ⟨cI, cJ, cS, fun k q hk => ?_⟩
  match k, hk with
  | 0, hk => cases hk; exact ⟨fun N z => ⟨(fun k h => by cases h), kI, f2, mI, f3⟩, f1⟩
  | 1, hk => cases hk; exact ⟨fun N z => ⟨(fun k h => by cases h), kJ, g2, mJ, g3⟩, g1⟩
  | 2, hk => cases hk; exact ⟨fun N z => ⟨(fun k h => by cases h), kS, h3, mS, h4⟩, kS, mS, h3, h4, h1, h5⟩
  | k + 3, hk => simp [am_tys] at hk
abbrev tmS : Term := .static "MouthRiddles$Stakes" "HEAD_PLACES" "[J"
set_option maxRecDepth 100000 in
theorem ls_in : (Cond.laysStatic "MouthRiddles$Stakes" "HEAD_PLACES" "[J") ∈ lw_tbl := by decide +kernel
set_option maxRecDepth 100000 in
theorem is_in : (Cond.initialized "MouthRiddles$Stakes") ∈ lw_tbl := by decide +kernel
theorem hp_of {args : Array Value} {s : State} (hgv : (Jvm.Cond.and given_1 narrow_1).before args s = true) : ∃ tS : Nat, tmS.eval args s none [] s = some (.ref tS) ∧ am_Y tS w_hp s s.heap ∧ tS < s.heap.size := by
  have hs := flat_of_before _ hgv
  have harr : (Cond.arrayOf tmS .long).before args s = true := hs _ (by decide +kernel)
  have hlen : (Term.length tmS).eval args s none [] s = some (.int 6) := va_eqt (hs _ (by decide +kernel))
  have e0 : (Term.elem tmS (.int 0)).eval args s none [] s = some (.long 161051) := va_eqtl (hs _ (by decide +kernel))
  have e1 : (Term.elem tmS (.int 1)).eval args s none [] s = some (.long 14641) := va_eqtl (hs _ (by decide +kernel))
  have e2 : (Term.elem tmS (.int 2)).eval args s none [] s = some (.long 1331) := va_eqtl (hs _ (by decide +kernel))
  have e3 : (Term.elem tmS (.int 3)).eval args s none [] s = some (.long 121) := va_eqtl (hs _ (by decide +kernel))
  have e4 : (Term.elem tmS (.int 4)).eval args s none [] s = some (.long 11) := va_eqtl (hs _ (by decide +kernel))
  have e5 : (Term.elem tmS (.int 5)).eval args s none [] s = some (.long 1) := va_eqtl (hs _ (by decide +kernel))
  obtain ⟨t, ht, hT⟩ := va_Tof (N := 6) (f := fun j => .long (w_hp j)) (A := fun _ => False) (by decide) harr hlen (fun j hj => by
    rcases (show j = 0 ∨ j = 1 ∨ j = 2 ∨ j = 3 ∨ j = 4 ∨ j = 5 by omega) with rfl | rfl | rfl | rfl | rfl | rfl
    · exact e0
    · exact e1
    · exact e2
    · exact e3
    · exact e4
    · exact e5) (fun _ _ h => h)
  obtain ⟨cell, h1, h2, h3, h4, h5, h6, -⟩ := hT
  obtain ⟨t', cell', ht', hat, -⟩ := Term.length_spec hlen
  cases ht.symm.trans ht'
  have hc := (State.arrayAt?_spec hat).1
  cases h1.symm.trans hc
  have hsz : cell.slots.size < 2147483648 := by
    have hv := hlen
    simp only [Term.eval, hat, Option.bind_eq_bind, Option.bind_some] at hv
    have ht2 := ht
    simp only [Term.eval, Option.bind_eq_bind] at ht2
    rw [ht2] at hv
    simp only [Option.bind_some, hat] at hv
    by_cases hlt : cell.slots.size < 2147483648
    · exact hlt
    · simp [hlt] at hv
  have h6' : cell.slots.size = 6 := by
    have e : cell.slots.size.toInt32.toNatClampNeg = (Int32.ofNat 6).toNatClampNeg := congrArg Int32.toNatClampNeg h5
    have e6 : (Int32.ofNat 6).toNatClampNeg = 6 := by decide
    have e2 : cell.slots.size.toInt32.toNatClampNeg = cell.slots.size := Int32.toNatClampNeg_ofNat_of_lt hsz
    omega
  exact ⟨t, ht, ⟨cell, h1, h2, h3, h6', h6⟩, (Array.getElem?_eq_some_iff.mp h1).1⟩
theorem nest_all {args : Array Value} {s : State} (hts : ∀ w ∈ lw_tbl, w.before args s = true) : ∀ w ∈ lw_tbl, am_nest w = true → va_Nw w s := by
  intro w hw hn
  refine va_Nw.of ?_ (hts w hw)
  cases w <;> simp [am_nest] at hn <;> rfl
theorem U_all {b L : Nat} {xs : Nat → Int32} {s : State} (hts : ∀ w ∈ lw_tbl, w.before #[Value.ref b] s = true) (hX : va_X b L xs s s.heap) (hbl : b < s.heap.size) (hgv : (Jvm.Cond.and given_1 narrow_1).before #[Value.ref b] s = true) : ∃ (tS : Nat) (D : va_G) (cI cJ cS : ClassId), am_U tS b s.heap.size L xs w_hp D cI cJ cS s := by
  have hw : am_Wd #[Value.ref b] s := fun w h _ => hts w h
  obtain ⟨D, hK⟩ := kn_all hw
  obtain ⟨cI, cJ, cS, hT⟩ := ty_all hts
  obtain ⟨tS, hv, hY, ht⟩ := hp_of hgv
  refine ⟨tS, D, cI, cJ, cS, ⟨hK, hT⟩, nest_all hts, va_AO.of (hts _ am_w_ca), va_Zref (hts _ ls_in) (hts _ is_in) hv (fun a h => Nat.not_le.mpr h), hY, hX, ht, hbl, Nat.le_refl _⟩
theorem R_all {tS b base L : Nat} {xs : Nat → Int32} {D : va_G} {cI cJ cS : ClassId} {H : Heap} : am_R tS b base L xs w_hp D cI cJ cS (2, 0, f0 L xs) H := by
  refine ⟨fun k q h => ?_, Nat.le_refl 2, rfl, rfl, fun k hk => ?_, fun k hk => ?_⟩
  · simp [am_ws] at h
  · show f0 L xs k = am_no
    have hk : 2 ≤ k := hk
    unfold f0
    rw [if_neg (by omega), if_neg (by omega)]
  · show am_tagF (f0 L xs k) = true
    unfold f0
    rw [if_neg (by omega), if_neg (by omega)]
    rfl
theorem law_by : am_by 194 = code := rfl
theorem law_nl : am_nl 194 = 4 := rfl
theorem law_nm : am_nm (am_oc 194) = "MouthRiddlesLaw" := rfl
theorem law_y : ¬ (am_y 194).name = "<init>" := by decide
theorem law_ok : am_okb 194 0 [] 0 = true := rfl
theorem room_c {L : Nat} {xs : Nat → Int32} {h' : am_H} (e : h'.1 = 99) : 0 + (h'.1 - ((2, 0, f0 L xs) : am_H).1) = 97 := by rw [e]; dsimp only
theorem room_s {L : Nat} {xs : Nat → Int32} {h' : am_H} (e : h'.2.1 = 10264) : 0 + (h'.2.1 - ((2, 0, f0 L xs) : am_H).2.1) = 10264 := by rw [e]; dsimp only
theorem room_1c : room_1.cells = 600000 := rfl
theorem room_1s : room_1.slots = 7302250 := rfl
theorem room_1f : 0 + 31 + 1 ≤ room_1.frames := by decide
theorem room_1l : 64 * (0 + 31 + 1) ≤ room_1.locals := by decide
theorem one_st {ad : Nat → Nat} : (some (Value.int (jI 1))).toList.map (am_tr ad) = [.int 1] := rfl
