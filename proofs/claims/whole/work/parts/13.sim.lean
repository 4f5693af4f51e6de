/-! THE SIMULATION: contracts -/
theorem am_hop_mono {i : Instr} {st st' : List Value} {h h' : am_H} (hs : am_hop i st h = some (st', h')) : h.1 ≤ h'.1 ∧ h.2.1 ≤ h'.2.1 := by
  unfold am_hop at hs
  split at hs <;> (repeat' split at hs) <;> (try rw [Option.map_eq_some_iff] at hs) <;> first
    | (obtain ⟨z, hz, e1⟩ := hs; cases e1; exact ⟨Nat.le_refl _, Nat.le_refl _⟩)
    | (cases hs; exact ⟨Nat.le_succ _, Nat.le_add_right _ _⟩)
    | (cases hs; done)
theorem am_stp_mono {y : Nat} {i : Instr} {is : List Instr} {nx : Nat} {ls st : List Value} {h h' : am_H} {F : am_F} (hs : am_stp y i is nx ls st h = some (F, h')) : h.1 ≤ h'.1 ∧ h.2.1 ≤ h'.2.1 := by
  unfold am_stp at hs
  split at hs
  · cases hs; exact ⟨Nat.le_refl _, Nat.le_refl _⟩
  · split at hs
    · cases hs; exact ⟨Nat.le_refl _, Nat.le_refl _⟩
    · split at hs
      · rename_i p hp
        obtain ⟨p1, p2⟩ := p
        cases hs
        exact am_hop_mono hp
      · split at hs
        · cases hs; exact ⟨Nat.le_refl _, Nat.le_refl _⟩
        · cases hs; exact ⟨Nat.le_refl _, Nat.le_refl _⟩
        · cases hs
theorem am_ev_mono : ∀ (n d : Nat) (F : am_F) (h h' : am_H) (v : Option Value), am_ev n d F h = some (v, h') → h.1 ≤ h'.1 ∧ h.2.1 ≤ h'.2.1
  | 0, d, F, h, h', v, hs => by simp [am_ev] at hs
  | n + 1, d, (y, [], nx, ls, st), h, h', v, hs => by
    rw [am_ev] at hs
    split at hs
    · exact am_ev_mono n d _ h h' v hs
    · cases hs
  | n + 1, d, (y, i :: is, nx, ls, st), h, h', v, hs => by
    rw [am_ev] at hs
    split at hs
    · cases hs; exact ⟨Nat.le_refl _, Nat.le_refl _⟩
    · split at hs
      · split at hs
        · split at hs
          · cases hs
          · split at hs
            · rename_i v1 h1 he
              have a1 := am_ev_mono n _ _ h h1 v1 he
              have a2 := am_ev_mono n _ _ h1 h' v hs
              omega
            · cases hs
        · cases hs
      · split at hs
        · rename_i F1 h1 he
          have a1 := am_stp_mono he
          have a2 := am_ev_mono n _ _ h1 h' v hs
          omega
        · cases hs
def am_Pc (tS b base L : Nat) (xs : Nat → Int32) (hp : Nat → Int64) (D : va_G) (cI cJ cS : ClassId) (as : List Value) (h : am_H) : Array Value → State → Prop := fun v U => v = (as.map (am_tr (am_ad tS b base))).toArray ∧ am_U tS b base L xs hp D cI cJ cS U ∧ am_R tS b base L xs hp D cI cJ cS h U.heap ∧ U.heap.size + 2 = base + h.1
def am_Qc (tS b base L : Nat) (xs : Nat → Int32) (hp : Nat → Int64) (D : va_G) (cI cJ cS : ClassId) (v : Option Value) (h' : am_H) : Array Value → State → Outcome → State → Prop := fun _ st oc t => oc = .returned (v.map (am_tr (am_ad tS b base))) ∧ am_R tS b base L xs hp D cI cJ cS h' t.heap ∧ va_F (am_Ab base) st t
def am_wsq (q : Nat) : List Cond := .code (am_y q) (am_by q) (am_nl q) (am_rt q) :: lw_tbl.filter goodWord
def am_rm (d mc ms : Nat) : Room := { frames := d + 1, cells := mc, slots := ms, locals := 64 * (d + 1) }
/-- the return instruction fits the answer -/
def am_rk (y : Nat) (v : Option Value) (i : Instr) : Prop := match v with
  | none => i = .return_ ∧ am_rt y = none
  | some (.int x) => i = .ireturn ∧ (am_rt y = some .int ∨ am_rt y = some .boolean ∧ (x = 0 ∨ x = 1))
  | some (.long _) => i = .lreturn ∧ am_rt y = some .long
  | _ => False
theorem am_Y.kept {t : Nat} {f : Nat → Int64} {U : State} {H H1 : Heap} (h : am_Y t f U H) (hq : H1[t]? = H[t]?) : am_Y t f U H1 := by
  obtain ⟨scr, h1, h2⟩ := h
  exact ⟨scr, by rw [hq]; exact h1, h2⟩
theorem am_Y.moved {t : Nat} {f : Nat → Int64} {u U : State} {H : Heap} (hvm : u.vm.Alike U.vm) (h : am_Y t f u H) : am_Y t f U H := by
  obtain ⟨scr, h1, h2, h3⟩ := h
  exact ⟨scr, h1, State.isArrayOf_alike hvm h2, h3⟩
section SIM
variable {tS b base L : Nat} {xs : Nat → Int32} {hp : Nat → Int64} {D : va_G} {cI cJ cS : ClassId}
theorem am_U.to {s U : State} (hU : am_U tS b base L xs hp D cI cJ cS s) (hvm : s.vm.Alike U.vm) (hn : ∀ w ∈ lw_tbl, am_nest w = true → va_Nw w U) (hh : ∀ q : Nat, q < s.heap.size → ¬ am_Ab base q → U.heap[q]? = s.heap[q]?) (hz : s.heap.size ≤ U.heap.size) : am_U tS b base L xs hp D cI cJ cS U := by
  obtain ⟨a1, a2, a3, a4, a5, a6, a7, a8, a9⟩ := hU
  exact ⟨a1.moved hvm, hn, a3.moved hvm, (a4.moved hvm).kept hh, (a5.moved hvm).kept (hh _ (by omega) (by show ¬ base ≤ tS; omega)), (a6.moved hvm).kept (hh _ (by omega) (by show ¬ base ≤ b; omega)), a7, a8, Nat.le_trans a9 hz⟩
theorem am_nest_onT {w : Cond} (h : am_nest w = true) : w.onTables = true := by
  cases w <;> first | rfl | cases h
theorem am_nest_warm {w : Cond} {s U : State} (h : am_nest w = true) (hW : s.WarmedH U.vm) (hZ : va_Nw w s) : va_Nw w U := by
  cases w <;> first | exact va_Nw.warmF hW hZ | exact va_Nw.warmM hW hZ | cases h
theorem am_blind {as : List Value} {h : am_H} : FrameBlind (am_Pc tS b base L xs hp D cI cJ cS as h) := by
  intro a U g mk hP
  obtain ⟨h1, h2, h3, h4⟩ := hP
  refine ⟨h1, h2.to (U := U.calling g mk a) (Vm.Alike.refl U.vm) (fun w hw hn => va_Nw.same (u := U) (U := U.calling g mk a) (am_nest_onT hn) rfl (h2.2.1 w hw hn)) (fun _ _ _ => rfl) (Nat.le_refl _), h3, h4⟩
theorem am_call_U {s U : State} {H : Heap} {locs : List Loc} (hU : am_U tS b base L xs hp D cI cJ cS s) (hS : va_S (am_Ab base) s.heap H locs) (hUH : U.heap = H) (hW : s.WarmedH U.vm) : am_U tS b base L xs hp D cI cJ cS U := by
  subst hUH
  exact hU.to hW.alike (fun w hw hn => am_nest_warm hn hW (hU.2.1 w hw hn)) hS.2.1 hS.1
theorem am_size {s : State} {H : Heap} {locs : List Loc} {h : am_H} {cells : Nat} (hU : am_U tS b base L xs hp D cI cJ cS s) (hS : va_S (am_Ab base) s.heap H locs) (hR : am_R tS b base L xs hp D cI cJ cS h H) (hE : s.heap.size + cells + 2 = base + h.1) (hz : H.size ≤ s.heap.size + cells) : H.size + 2 = base + h.1 := by
  rcases Nat.lt_or_ge 2 h.1 with q | q
  · have := (hR.1 _ _ (am_ws_get (k := h.1 - 1) (by omega) (by omega))).lt
    dsimp only at this
    omega
  · have := hR.2.1
    have := hU.2.2.2.2.2.2.2.2
    have := hS.1
    omega
theorem am_lay_sl (ad : Nat → Nat) : ∀ (as : List Value), (lg_sl (as.map (am_tr ad))).length = (am_lay as).length ∧ ∀ (k : Nat) (v : Value), (am_lay as)[k]? = some v → v ≠ .null → (lg_sl (as.map (am_tr ad)))[k]? = some (.val (am_tr ad v))
  | [] => ⟨rfl, fun k v h => by simp [am_lay] at h⟩
  | a :: as => by
    obtain ⟨e1, e2⟩ := am_lay_sl ad as
    have c1 : am_lay (a :: as) = (if a.category = 2 then [a, .null] else [a]) ++ am_lay as := rfl
    have c2 : lg_sl ((a :: as).map (am_tr ad)) = (if (am_tr ad a).category = 2 then [.val (am_tr ad a), .second] else [.val (am_tr ad a)]) ++ lg_sl (as.map (am_tr ad)) := rfl
    rw [c1, c2, am_tr_cat]
    by_cases hc : a.category = 2
    · rw [if_pos hc, if_pos hc]
      refine ⟨by simp [e1], fun k v hk hv => ?_⟩
      match k, hk with
      | 0, hk => cases hk; rfl
      | 1, hk => cases hk; exact absurd rfl hv
      | k + 2, hk => exact e2 k v hk hv
    · rw [if_neg hc, if_neg hc]
      refine ⟨by simp [e1], fun k v hk hv => ?_⟩
      match k, hk with
      | 0, hk => cases hk; rfl
      | k + 1, hk => exact e2 k v hk hv
theorem am_Lo_entry {as : List Value} {n : Nat} (ad : Nat → Nat) (h : (am_lay as).length ≤ n) : am_Lo ad (am_lay as ++ List.replicate (n - (am_lay as).length) .null) ((lg_sl (as.map (am_tr ad)) ++ List.replicate (n - (lg_sl (as.map (am_tr ad))).length) Slot.unset).toArray) := by
  obtain ⟨e1, e2⟩ := am_lay_sl ad as
  have h0 := lv_entry (as.map (am_tr ad)) (n := n) (by rw [e1]; exact h)
  refine ⟨by simp [e1], h0.2.1, fun k v hk hv => ?_⟩
  by_cases hl : k < (am_lay as).length
  · rw [List.getElem?_append_left hl] at hk
    have := e2 k v hk hv
    have hl2 : k < (lg_sl (as.map (am_tr ad))).length := by rw [e1]; exact hl
    simp only [List.getElem?_toArray]
    rw [List.getElem?_append_left hl2]
    exact this
  · rw [List.getElem?_append_right (by omega)] at hk
    have := List.getElem?_replicate (n := n - (am_lay as).length) (a := Value.null) (i := k - (am_lay as).length)
    rw [this] at hk
    split at hk
    · cases hk; exact absurd rfl hv
    · cases hk
variable {p : Program} {l : Launch} {e : Env} {R : Room} {s : State} {m : MethodId} {args : Array Value} {below : List Frame} {meth : Method} {c : Code} {H : Heap} {locs : List Loc} {cells slots : Nat} {Q : State → Prop}
/-- behind a call -/
theorem am_after {mc ms pc : Nat} {ls : Array Slot} {st0 rest : List Value} {v : Option Value} {h' : am_H} {a : Array Value} (hr : va_Run p l e R s m args below meth c H locs cells slots mc ms (F0 m pc ls st0) rest (am_Qc tS b base L xs hp D cI cJ cS v h' a) (am_Ab base)) (hS : va_S (am_Ab base) s.heap H locs)
    (kk : ∀ (H1 : Heap) (locs1 : List Loc), am_R tS b base L xs hp D cI cJ cS h' H1 → va_S (am_Ab base) s.heap H1 locs1 → W p l e R s m args below meth c H1 locs1 (cells + mc) (slots + ms) Q (F0 m (pc + 3) ls ((v.map (am_tr (am_ad tS b base))).toList ++ rest))) : W p l e R s m args below meth c H locs cells slots Q (F0 m pc ls st0) := by
  intro T hT X
  obtain ⟨v1, st₀, t, T', L1, h0, X', hL, e1, e2, ⟨hv, hR1, hz, hk⟩, st⟩ := hr T hT X
  cases hv
  rw [h0] at hz hk
  obtain ⟨t2, a1, b1⟩ := kk T'.heap (locs ++ L1) (by rw [e1]; exact hR1) ⟨Nat.le_trans hS.1 (by rw [e1]; exact hz), fun q h1 h2 => by rw [e1, hk q (Nat.lt_of_lt_of_le h1 hS.1) h2]; exact hS.2.1 q h1 h2, fun q hq => by
      rcases List.mem_append.mp hq with h | h
      · exact hS.2.2 q h
      · exact hL q h⟩ T' rfl X'
  exact ⟨t2, st t2 a1, b1⟩
end SIM
