/-! THE SIMULATION: calls, and all of it -/
section SIM3
variable {tS b base L : Nat} {xs : Nat → Int32} {hp : Nat → Int64} {D : va_G} {cI cJ cS : ClassId}
variable {p : Program} {l : Launch} {e : Env} {R : Room} {s : State} {m : MethodId} {args : Array Value} {below : List Frame} {meth : Method} {c : Code} {H : Heap} {locs : List Loc} {cells slots : Nat} {Q : State → Prop}
variable {y pc len : Nat} {ri i : Instr} {al st r as : List Value} {ls : Array Slot} {h h1 : am_H} {v1 : Option Value}
theorem am_callB {d q idx np mc ms : Nat} (hq : q < 194) (hw : am_Wd args s) (hfr : d + 2 ≤ R.frames) (hlo : 64 * (d + 2) ≤ R.locals) (hl : (Cond.methodLink (am_nm (am_oc y)) idx (am_y q)).before args s = true) (hnp : ∀ sig, parseMethodDescriptor (am_y q).desc = some sig → np = sig.parameters.length) :
    CallB R s args (am_nm (am_oc y)) idx (am_y q) (am_by q) (am_nl q) (am_rt q) (am_wsq q) (am_rm d mc ms) mc ms np := by
  obtain ⟨a1, a2, a3, a4, a5, a6, -, -⟩ := am_q_at hq
  refine ⟨rfl, rfl, hfr, by show 8 + (am_nl q + 11) + 64 * (d + 1) ≤ R.locals; omega, fun w hw1 a' U hW => ?_, List.mem_cons_self, hw _ a5 rfl, hw _ a6 rfl, a4, hnp, hl⟩
  rcases List.mem_cons.mp hw1 with rfl | hw1
  · exact word_at hW (good_of_word rfl) (hw _ a5 rfl)
  · obtain ⟨g1, g2⟩ := List.mem_filter.mp hw1
    exact word_at hW (good_of_word g2) (hw _ g1 g2)
theorem am_ml_lt {oc idx : Nat} {q : Nat × Bool × Nat} (hq : am_ml.lookup (oc, idx) = some q) (h : q.1 < 1000) : q.1 < 194 := by
  have h2 := List.all_eq_true.mp am_ml_ok _ (am_lk hq)
  simp only [am_ckm, Bool.and_eq_true, decide_eq_true_eq] at h2
  have := h2.2
  omega
theorem am_ml_nest {oc idx : Nat} {q : Nat × Bool × Nat} (hq : am_ml.lookup (oc, idx) = some q) (hn : q.2.1 = true) : lw_tbl[q.2.2]? = some (.methodLinkNest (am_nm oc) idx (am_y q.1) "MouthRiddles") := by
  have h2 := List.all_eq_true.mp am_ml_ok _ (am_lk hq)
  simp only [am_ckm, hn, Bool.and_eq_true, decide_eq_true_eq, if_true] at h2
  exact h2.1
theorem am_ml_own {oc idx : Nat} {q : Nat × Bool × Nat} (hq : am_ml.lookup (oc, idx) = some q) (hn : q.2.1 = false) (h : q.1 < 1000) : lw_tbl[q.2.2]? = some (.methodLink (am_nm oc) idx (am_y q.1)) := by
  have h3 := am_ml_at hq hn
  rw [if_neg (by omega), if_neg (by omega), if_neg (by omega), if_neg (by omega), if_neg (by omega)] at h3
  exact h3
theorem am_rcv_inv {rc : Nat} (h9 : am_rcv rc as h = true) : ∃ k as' fs, as = .ref k :: as' ∧ h.2.2 k = .inr (rc, fs) := by
  unfold am_rcv at h9
  split at h9
  · split at h9
    · rename_i ci fs hk
      have : ci = rc := by simpa using h9
      subst this
      exact ⟨_, _, fs, rfl, hk⟩
    · cases h9
  · cases h9
theorem am_split {na : Nat} (st : List Value) : st = ((st.take na).reverse).reverse ++ st.drop na := by
  rw [List.reverse_reverse, List.take_append_drop]
set_option maxHeartbeats 8000000 in
theorem am_call_W {n d q : Nat} (IH : am_Sim n) (hx : p.tables.exec = Jvm.exec) (hb : c.code = am_by y) (hml : c.maxLocals = am_nl y) (hal : al.length = am_nl y) (hL : am_Lo (am_ad tS b base) al ls) (hown : s.vm.findClass (am_nm (am_oc y)) = some m.cls) (hw : am_Wd args s) (hU : am_U tS b base L xs hp D cI cJ cS s) (hS : va_S (am_Ab base) s.heap H locs) (hR : am_R tS b base L xs hp D cI cJ cS h H)
    (hfr : d + 2 ≤ R.frames) (hlo : 64 * (d + 2) ≤ R.locals) (hE : s.heap.size + cells + 2 = base + h.1) (hce : cells + (h1.1 - h.1) ≤ R.cells) (hse : slots + (h1.2.1 - h.2.1) ≤ R.slots) (hd : decode (am_by y) pc = .ok (ri, len)) (hc : am_conv y pc len ri = some i) (hs : am_call i st h = some (q, as, r)) (hla : (am_lay as).length ≤ am_nl q) (hcat : (r.map Value.category).sum ≤ 8) (hev : am_ev n d (am_ent q as) h = some (v1, h1))
    (k : ∀ H' locs', am_R tS b base L xs hp D cI cJ cS h1 H' → va_S (am_Ab base) s.heap H' locs' → W p l e R s m args below meth c H' locs' (cells + (h1.1 - h.1)) (slots + (h1.2.1 - h.2.1)) Q (F0 m (pc + len) ls ((v1.toList ++ r).map (am_tr (am_ad tS b base))))) : W p l e R s m args below meth c H locs cells slots Q (F0 m pc ls (st.map (am_tr (am_ad tS b base)))) := by
  refine am_W_size fun hz0 => ?_
  have hsz := am_size hU hS hR hE hz0
  have hls : ls.size = am_nl y := by rw [hL.1, hal]
  have hroom : ((r.map (am_tr (am_ad tS b base))).map (fun v => v.category)).sum ≤ 8 := by rw [am_map_cat]; exact hcat
  have hpre : ∀ U : State, U.heap = H → s.WarmedH U.vm → am_Pc tS b base L xs hp D cI cJ cS as h (as.map (am_tr (am_ad tS b base))).toArray U := fun U hUH hW => ⟨rfl, am_call_U hU hS hUH hW, by rw [hUH]; exact hR, by rw [hUH]; exact hsz⟩
  have hkk : ∀ H' locs', am_R tS b base L xs hp D cI cJ cS h1 H' → va_S (am_Ab base) s.heap H' locs' → W p l e R s m args below meth c H' locs' (cells + (h1.1 - h.1)) (slots + (h1.2.1 - h.2.1)) Q (F0 m (pc + len) ls ((v1.map (am_tr (am_ad tS b base))).toList ++ r.map (am_tr (am_ad tS b base)))) := by
    intro H' locs' a1 a2
    have := k H' locs' a1 a2
    rw [List.map_append] at this
    cases v1 <;> exact this
  clear k
  cases ri
  case invokevirtual idx =>
    simp only [am_conv] at hc
    split at hc
    · rename_i q0 hq0
      obtain ⟨g1, rfl⟩ := am_if_inv hc
      simp only [Bool.and_eq_true, Bool.not_eq_true', decide_eq_true_eq] at g1
      obtain ⟨⟨⟨gl, g2⟩, g3⟩, g4⟩ := g1
      obtain rfl := am_len_inv gl
      have hq := am_ml_lt hq0 g2
      have hlink := hw _ (List.mem_of_getElem? (am_ml_own hq0 g3 g2)) rfl
      simp only [am_call] at hs
      split at hs
      · cases hs
      · rename_i hcond
        simp only [Option.some.injEq, Prod.mk.injEq] at hs
        obtain ⟨rfl, e2, e3⟩ := hs
        obtain ⟨kk, as', fs, e4, hk⟩ := am_rcv_inv (rc := (am_m q0.1).2.2.2) (as := as) (h := h) (by rw [← e2]; simpa using fun z => hcond (Or.inr z))
        obtain ⟨k2, kl⟩ := am_rng hR hk (by intro z; cases z) (by intro z; cases z) (by intro z; cases z)
        have hat := hR.at k2 kl
        rw [hk] at hat
        obtain ⟨rr, hrr, -⟩ := hR.1 _ _ hat
        dsimp only at hrr
        obtain ⟨-, -, -, -, -, -, -, a8⟩ := am_q_at hq
        have h99 : ¬ (am_m q0.1).2.2.2 = 99 := by
          intro z
          rw [z] at hrr
          cases hrr
        obtain ⟨b1, b2, ⟨r0, hr0, hr1⟩, -, b5⟩ := a8 h99
        have hlen : as.length = (am_m q0.1).2.1 := by
          rw [← e2, List.length_reverse, List.length_take]
          have : ¬ st.length < (am_m q0.1).2.1 := fun z => hcond (Or.inl z)
          omega
        have hst : st = as.reverse ++ r := by rw [← e2, ← e3]; exact am_split st
        subst e4
        have hnp : ∀ sig, parseMethodDescriptor (am_y q0.1).desc = some sig → as'.length = sig.parameters.length := by
          intro sig hsig
          rw [hsig] at b2
          simp only [Option.map_some, Option.some.injEq] at b2
          simp only [List.length_cons] at hlen
          omega
        have hsel := hw _ (b5 (by simpa using g4)) rfl
        subst hst
        refine am_after (va_runV (Ts := []) (C := (am_y q0.1).cls) (b := am_ad tS b base kk) (As := as'.map (am_tr (am_ad tS b base))) (rest := r.map (am_tr (am_ad tS b base))) ⟨hx, hb, hml, hown, fun _ z => by cases z⟩ (am_met IH hq hla hev l) ⟨am_callB hq hw hfr hlo hlink (fun sig hsig => (List.length_map _).trans (hnp sig hsig)), hw _ b1 rfl, hsel⟩ ⟨am_blind, ?_, hpre⟩ rfl rfl hls ?_ (lv_room hroom) hd ⟨hce, hse⟩) hS hkk
        · obtain ⟨cell, c1, c2, c3⟩ := va_recv hU.1 hR.1 hr0 hat
          exact ⟨cell, c1, c2, by rw [← hr1]; exact c3⟩
        · simp [am_tr]
    · cases hc
  case invokespecial idx =>
    simp only [am_conv] at hc
    split at hc
    · rename_i q0 hq0
      split at hc
      · obtain ⟨g1, rfl⟩ := am_if_inv hc
        cases hs
      · obtain ⟨g1, rfl⟩ := am_if_inv hc
        simp only [Bool.and_eq_true, decide_eq_true_eq, beq_iff_eq] at g1
        obtain ⟨⟨gl, g2⟩, g4⟩ := g1
        subst gl
        have hq := am_ml_lt hq0 g2
        simp only [am_call] at hs
        split at hs
        · cases hs
        · rename_i hcond
          simp only [Option.some.injEq, Prod.mk.injEq] at hs
          obtain ⟨rfl, e2, e3⟩ := hs
          obtain ⟨kk, as', fs, e4, hk⟩ := am_rcv_inv (rc := (am_m q0.1).2.2.2) (as := as) (h := h) (by rw [← e2]; simpa using fun z => hcond (Or.inr z))
          obtain ⟨k2, kl⟩ := am_rng hR hk (by intro z; cases z) (by intro z; cases z) (by intro z; cases z)
          have hat := hR.at k2 kl
          rw [hk] at hat
          obtain ⟨rr, hrr, -⟩ := hR.1 _ _ hat
          dsimp only at hrr
          obtain ⟨-, -, -, c4, c5, c6, -, a8⟩ := am_q_at hq
          have h99 : ¬ (am_m q0.1).2.2.2 = 99 := by
            intro z
            rw [z] at hrr
            cases hrr
          obtain ⟨b1, b2, ⟨r0, hr0, hr1⟩, b4, -⟩ := a8 h99
          have hlen : as.length = (am_m q0.1).2.1 := by
            rw [← e2, List.length_reverse, List.length_take]
            have : ¬ st.length < (am_m q0.1).2.1 := fun z => hcond (Or.inl z)
            omega
          have hst : st = as.reverse ++ r := by rw [← e2, ← e3]; exact am_split st
          subst e4
          have hnp : ∀ sig, parseMethodDescriptor (am_y q0.1).desc = some sig → (as'.map (am_tr (am_ad tS b base))).length = sig.parameters.length := by
            intro sig hsig
            rw [hsig] at b2
            simp only [Option.map_some, Option.some.injEq] at b2
            simp only [List.length_cons] at hlen
            rw [List.length_map]
            omega
          subst hst
          have hstk : (((Value.ref kk :: as').reverse ++ r).map (am_tr (am_ad tS b base))) = (as'.map (am_tr (am_ad tS b base))).reverse ++ .ref (am_ad tS b base kk) :: r.map (am_tr (am_ad tS b base)) := by simp [am_tr]
          by_cases hn : q0.2.1 = true
          · have hlink := va_Nw.use (A := args) rfl (hU.2.1 _ (List.mem_of_getElem? (am_ml_nest hq0 hn)) rfl)
            have hcB := am_callB (y := y) (idx := idx) (np := 0) (mc := h1.1 - h.1) (ms := h1.2.1 - h.2.1) hq hw hfr hlo
            refine am_after (va_runIN (Ts := []) (b := am_ad tS b base kk) (bytes := am_by q0.1) (maxL := am_nl q0.1) (As := as'.map (am_tr (am_ad tS b base))) (rest := r.map (am_tr (am_ad tS b base))) ⟨hx, hb, hml, hown, fun _ z => by cases z⟩ (am_met IH hq hla hev l) ⟨⟨⟨rfl, rfl, hfr, by show 8 + (am_nl q0.1 + 11) + 64 * (d + 1) ≤ R.locals; have := (am_q_at hq).2.1; omega, fun w hw1 a' U hW => ?_, ?_⟩, ?_, hw _ c6 rfl, c4, hnp, hlink⟩, g4, hw _ b1 rfl⟩ ⟨am_blind, hpre⟩ rfl rfl hls hstk (lv_room hroom) hd ⟨hce, hse⟩) hS hkk
            · rcases List.mem_cons.mp hw1 with rfl | hw1
              · exact word_at hW (good_of_word rfl) (hw _ c5 rfl)
              · obtain ⟨z1, z2⟩ := List.mem_filter.mp hw1
                exact word_at hW (good_of_word z2) (hw _ z1 z2)
            · rw [← b4 g4]; exact List.mem_cons_self
            · rw [← b4 g4]; exact hw _ c5 rfl
          · have hn : q0.2.1 = false := by simpa using hn
            have hlink := hw _ (List.mem_of_getElem? (am_ml_own hq0 hn g2)) rfl
            have hcB := am_callB (y := y) (idx := idx) (mc := h1.1 - h.1) (ms := h1.2.1 - h.2.1) hq hw hfr hlo hlink hnp
            rw [b4 g4] at hcB
            exact am_after (va_runI (Ts := []) (b := am_ad tS b base kk) (As := as'.map (am_tr (am_ad tS b base))) (rest := r.map (am_tr (am_ad tS b base))) ⟨hx, hb, hml, hown, fun _ z => by cases z⟩ (am_met IH hq hla hev l) ⟨hcB, g4, hw _ b1 rfl⟩ ⟨am_blind, hpre⟩ rfl rfl hls hstk (lv_room hroom) hd ⟨hce, hse⟩) hS hkk
    · cases hc
  case invokestatic idx =>
    simp only [am_conv] at hc
    split at hc
    · rename_i q0 hq0
      repeat' split at hc
      any_goals (obtain ⟨g1, rfl⟩ := am_if_inv hc; cases hs; done)
      obtain ⟨g1, rfl⟩ := am_if_inv hc
      simp only [Bool.and_eq_true, Bool.not_eq_true', decide_eq_true_eq] at g1
      obtain ⟨⟨gl, g2⟩, g3⟩ := g1
      obtain rfl := am_len_inv gl
      have hq := am_ml_lt hq0 g2
      have hlink := hw _ (List.mem_of_getElem? (am_ml_own hq0 g3 g2)) rfl
      simp only [am_call] at hs
      split at hs
      · cases hs
      · rename_i hcond
        simp only [Option.some.injEq, Prod.mk.injEq] at hs
        obtain ⟨rfl, e2, e3⟩ := hs
        obtain ⟨-, -, -, -, -, -, a7, -⟩ := am_q_at hq
        have h99 : (am_m q0.1).2.2.2 = 99 := Classical.byContradiction fun z => hcond (Or.inr z)
        obtain ⟨b1, b2⟩ := a7 h99
        have hlen : as.length = (am_m q0.1).2.1 := by
          rw [← e2, List.length_reverse, List.length_take]
          have : ¬ st.length < (am_m q0.1).2.1 := fun z => hcond (Or.inl z)
          omega
        have hst : st = as.reverse ++ r := by rw [← e2, ← e3]; exact am_split st
        have hnp : ∀ sig, parseMethodDescriptor (am_y q0.1).desc = some sig → (as.map (am_tr (am_ad tS b base))).length = sig.parameters.length := by
          intro sig hsig
          rw [hsig] at b2
          simp only [Option.map_some, Option.some.injEq] at b2
          rw [List.length_map]
          omega
        clear e2 e3
        subst hst
        exact am_after (va_runS (Ts := []) (As := as.map (am_tr (am_ad tS b base))) (rest := r.map (am_tr (am_ad tS b base))) ⟨hx, hb, hml, hown, fun _ z => by cases z⟩ (am_met IH hq hla hev l) ⟨am_callB hq hw hfr hlo hlink hnp, hw _ b1 rfl⟩ ⟨am_blind, hpre⟩ rfl rfl hls (by simp) (lv_room hroom) hd ⟨hce, hse⟩) hS hkk
    · cases hc
  case getfield n => 
    simp only [am_conv] at hc
    split at hc
    · obtain ⟨g1, rfl⟩ := am_if_inv hc; cases hs
    · cases hc
  case putfield n => 
    simp only [am_conv] at hc
    split at hc
    · obtain ⟨g1, rfl⟩ := am_if_inv hc; cases hs
    · cases hc
  case new n => 
    simp only [am_conv] at hc
    split at hc
    · obtain ⟨g1, rfl⟩ := am_if_inv hc; cases hs
    · cases hc
  case anewarray n => 
    simp only [am_conv] at hc
    split at hc
    · obtain ⟨g1, rfl⟩ := am_if_inv hc; cases hs
    · cases hc
  case ldc n => 
    simp only [am_conv] at hc
    split at hc
    · obtain ⟨g1, rfl⟩ := am_if_inv hc; cases hs
    · cases hc
  case ldc_w n => 
    simp only [am_conv] at hc
    split at hc
    · obtain ⟨g1, rfl⟩ := am_if_inv hc; cases hs
    · cases hc
  case ldc2_w n => 
    simp only [am_conv] at hc
    split at hc
    · obtain ⟨g1, rfl⟩ := am_if_inv hc; cases hs
    · cases hc
  case ireturn =>
    simp only [am_conv] at hc
    split at hc
    · obtain ⟨g1, rfl⟩ := am_if_inv hc; cases hs
    · obtain ⟨g1, rfl⟩ := am_if_inv hc; cases hs
  all_goals (obtain ⟨g1, rfl⟩ := am_if_inv hc; first | (cases hs; done) | (simp [am_plain] at g1; done))
end SIM3
