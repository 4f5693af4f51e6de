/-! THE SIMULATION -/
def am_Sim (n : Nat) : Prop := ∀ (d y nx : Nat) (is : List Instr) (al st : List Value) (h h' : am_H) (v : Option Value), am_ev n d (y, is, nx, al, st) h = some (v, h') →
  ∀ (tS b base L : Nat) (xs : Nat → Int32) (hp : Nat → Int64) (D : va_G) (cI cJ cS : ClassId) (p : Program) (l : Launch) (e : Env) (R : Room) (s : State) (m : MethodId) (args : Array Value) (below : List Frame) (meth : Method) (c : Code) (H : Heap) (locs : List Loc) (cells slots : Nat) (Q : State → Prop) (pc : Nat) (ls : Array Slot),
    p.tables.exec = Jvm.exec → c.code = am_by y → c.maxLocals = am_nl y → al.length = am_nl y → s.vm.findClass (am_nm (am_oc y)) = some m.cls → ((am_y y).name = "<init>" → meth.name = "<init>") → am_Wd args s → am_U tS b base L xs hp D cI cJ cS s → va_S (am_Ab base) s.heap H locs → am_R tS b base L xs hp D cI cJ cS h H → am_Lo (am_ad tS b base) al ls → d + 1 ≤ R.frames → 64 * (d + 1) ≤ R.locals →
    s.heap.size + cells + 2 = base + h.1 → cells + (h'.1 - h.1) ≤ R.cells → slots + (h'.2.1 - h.2.1) ≤ R.slots → am_okb y pc is nx = true →
    (∀ H' locs' pc' ls' i, am_R tS b base L xs hp D cI cJ cS h' H' → va_S (am_Ab base) s.heap H' locs' → decode (am_by y) pc' = .ok (i, 1) → am_rk y v i → W p l e R s m args below meth c H' locs' (cells + (h'.1 - h.1)) (slots + (h'.2.1 - h.2.1)) Q (F0 m pc' ls' (v.toList.map (am_tr (am_ad tS b base))))) →
    W p l e R s m args below meth c H locs cells slots Q (F0 m pc ls (st.map (am_tr (am_ad tS b base))))
theorem am_q_at {q : Nat} (hq : q < 194) : (am_y q).cls = am_nm (am_oc q) ∧ am_nl q ≤ 40 ∧ plainName (am_y q).cls = true ∧ ((am_y q).cls ≠ "java/lang/invoke/MethodHandle" ∧ (am_y q).cls ≠ "java/lang/invoke/VarHandle") ∧
    Cond.code (am_y q) (am_by q) (am_nl q) (am_rt q) ∈ lw_tbl ∧ Cond.initialized (am_y q).cls ∈ lw_tbl ∧
    ((am_m q).2.2.2 = 99 → Cond.static (am_y q) ∈ lw_tbl ∧ (parseMethodDescriptor (am_y q).desc).map (fun d => d.parameters.length) = some (am_m q).2.1) ∧
    (¬ (am_m q).2.2.2 = 99 → Cond.instanceMethod (am_y q) ∈ lw_tbl ∧ (parseMethodDescriptor (am_y q).desc).map (fun d => d.parameters.length + 1) = some (am_m q).2.1 ∧ (∃ r, vwCl[(am_m q).2.2.2]? = some r ∧ r.1 = (am_y q).cls) ∧
      ((am_y q).name = "<init>" → am_rt q = none) ∧ (¬ (am_y q).name = "<init>" → Cond.selects (am_y q).cls (am_y q) (am_y q) ∈ lw_tbl)) := by
  have h := am_q_ok hq
  simp only [am_ckq, Bool.and_eq_true, decide_eq_true_eq] at h
  obtain ⟨⟨⟨⟨⟨⟨a1, a2⟩, a3⟩, a4⟩, a5⟩, a6⟩, a7⟩ := h
  refine ⟨a1, a2, a3, a4, List.mem_of_getElem? a5, List.mem_of_getElem? a6, fun h9 => ?_, fun h9 => ?_⟩
  · rw [if_pos h9] at a7
    simp only [Bool.and_eq_true, decide_eq_true_eq] at a7
    exact ⟨List.mem_of_getElem? a7.1, a7.2⟩
  · rw [if_neg h9] at a7
    simp only [Bool.and_eq_true, decide_eq_true_eq] at a7
    obtain ⟨⟨⟨b1, b2⟩, b3⟩, b4⟩ := a7
    refine ⟨List.mem_of_getElem? b1, b2, ?_, fun hi => ?_, fun hi => ?_⟩
    · split at b3
      · rename_i r hr
        exact ⟨r, hr, by simpa using b3⟩
      · cases b3
    · rw [if_pos hi] at b4; simpa using b4
    · rw [if_neg hi] at b4; exact List.mem_of_getElem? (by simpa using b4)
section SIM2
variable {tS b base L : Nat} {xs : Nat → Int32} {hp : Nat → Int64} {D : va_G} {cI cJ cS : ClassId}
/-- a method's contract out of its abstract run -/
theorem am_met {n d q : Nat} {as : List Value} {h h' : am_H} {v : Option Value} (IH : am_Sim n) (hq : q < 194) (hl : (am_lay as).length ≤ am_nl q) (hev : am_ev n d (am_ent q as) h = some (v, h')) (l : Launch) :
    Met l (am_y q) (am_wsq q) (am_rm d (h'.1 - h.1) (h'.2.1 - h.2.1)) (am_Pc tS b base L xs hp D cI cJ cS as h) (am_Qc tS b base L xs hp D cI cJ cS v h') (h'.1 - h.1) (h'.2.1 - h.2.1) (am_Ab base) := by
  obtain ⟨a1, a2, a3, a4, a5, a6, -, -⟩ := am_q_at hq
  refine Met.ofW (cc := am_by q) (maxL := am_nl q) (ret := am_rt q) a3 rfl ?_
  intro p e s m args below meth c s₁ B hml hv
  obtain ⟨rfl, hU, hR, hz⟩ := hv
  have hx := B.exec
  have hb := B.bytes
  have hr := B.returns
  have hlocks : meth.locks = false := B.notSynchronized
  have hts := atoms_spec (ws := am_wsq q) B.pre
  have hw : am_Wd ((as.map (am_tr (am_ad tS b base))).toArray) s := fun w hw hg => hts w (List.mem_cons_of_mem _ (List.mem_filter.mpr ⟨hw, hg⟩))
  have hown : s.vm.findClass (am_nm (am_oc q)) = some m.cls := by rw [← a1]; exact findClass_of_methodNamed B.named
  have hnm : (am_y q).name = "<init>" → meth.name = "<init>" := fun hi => (name_of_methodNamed B.named B.method).1.trans hi
  rw [lg_entry_eq]
  refine IH d q 0 [] _ [] h h' v hev tS b base L xs hp D cI cJ cS p l e _ s m _ below meth c s.heap [] 0 0 _ 0 _ hx hb hml (by simp; omega) hown hnm hw hU va_S.rf hR (am_Lo_entry _ hl) (Nat.le_refl _) (Nat.le_refl _) (by omega) (by show 0 + _ ≤ h'.1 - h.1; omega) (by show 0 + _ ≤ h'.2.1 - h.2.1; omega) rfl ?_
  intro H' locs' pc' ls' i hR' hS' hd hk
  rw [Nat.zero_add, Nat.zero_add]
  have hq9 : ∀ t : State, t.heap = H' → s.WarmedH t.vm → am_Qc tS b base L xs hp D cI cJ cS v h' ((as.map (am_tr (am_ad tS b base))).toArray) s (.returned (v.map (am_tr (am_ad tS b base)))) t := by
    intro t ht _
    refine ⟨rfl, by rw [ht]; exact hR', hS'.F ht⟩
  match v, hk, hq9 with
  | none, hk, hq9 =>
    obtain ⟨rfl, hrt⟩ := hk
    exact W.vret hx hb (hr.trans hrt) hq9 hS'.2.2 hd
  | some (.int z), hk, hq9 =>
    obtain ⟨rfl, hrt⟩ := hk
    rcases hrt with hrt | ⟨hrt, hz1⟩
    · exact W.iret hx hb (hr.trans hrt) hq9 hS'.2.2 hd
    · exact W.zret hx hb (hr.trans hrt) (by rcases hz1 with rfl | rfl <;> decide) hq9 hS'.2.2 hd
  | some (.long z), hk, hq9 =>
    obtain ⟨rfl, hrt⟩ := hk
    exact W.lret hx hb (hr.trans hrt) hq9 hS'.2.2 hd
end SIM2
