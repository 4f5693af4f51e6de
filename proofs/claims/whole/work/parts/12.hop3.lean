/-! THE HEAP: what is made; all heap instructions -/
theorem am_tr_dflt (ad : Nat → Nat) (t : FieldType) : am_tr ad (defaultValue t) = defaultValue t := by cases t <;> rfl
theorem am_vV (f : Value → Value) (l : List Value) {j : Nat} (h : j < l.length) : vp_V (l.map f) j = f (vp_V l j) := by
  unfold vp_V
  rw [List.getD_eq_getElem?_getD, List.getD_eq_getElem?_getD, List.getElem?_map, List.getElem?_eq_getElem h]
  rfl
section HOP3
variable {p : Program} {l : Launch} {e : Env} {R : Room} {s : State} {m : MethodId} {args : Array Value} {below : List Frame} {meth : Method} {c : Code} {H : Heap} {locs : List Loc} {cells slots : Nat} {Q : State → Prop}
variable {tS b base L : Nat} {xs : Nat → Int32} {hp : Nat → Int64} {D : va_G} {cI cJ cS : ClassId}
variable {y pc len : Nat} {ri i : Instr} {al st st' : List Value} {ls : Array Slot} {h h' : am_H}
theorem am_born {q n : Nat} {H1 : Heap} {ce : am_E} {v : va_E} (hR : am_R tS b base L xs hp D cI cJ cS h H) (hP1 : va_P D vwCl (am_ws (am_ad tS b base) (am_tys cI cJ cS) base h ++ [(q, v)]) H1) (hD1 : va_D (am_Ab base) (am_ws (am_ad tS b base) (am_tys cI cJ cS) base h ++ [(q, v)])) (hE : s.heap.size + cells + 2 = base + h.1) (hz : H1.size ≤ s.heap.size + (cells + 1)) (hv : v = am_trE (am_ad tS b base) (am_tys cI cJ cS) ce) (ht : am_tagF ce = true) :
    q = am_ad tS b base h.1 ∧ am_R tS b base L xs hp D cI cJ cS (am_new h n ce) H1 := by
  have hl : (am_ws (am_ad tS b base) (am_tys cI cJ cS) base h).length = h.1 - 2 := by simp [am_ws]
  have e1 : (am_ws (am_ad tS b base) (am_tys cI cJ cS) base h ++ [(q, v)])[h.1 - 2]? = some (q, v) := by
    rw [List.getElem?_append_right (by omega), hl, Nat.sub_self]; rfl
  have hq : q < H1.size := (hP1 _ _ e1).lt
  have hqe := am_new_q hR.2.1 hD1 hq (by omega)
  subst hqe
  subst hv
  exact ⟨(am_ad_k hR.2.1).symm, hR.new hP1 ht⟩
theorem am_newo_W {idx : Nat} {q : Nat × Nat} (hx : p.tables.exec = Jvm.exec) (hb : c.code = am_by y) (hown : s.vm.findClass (am_nm (am_oc y)) = some m.cls) (hw : am_Wd args s) (hU : am_U tS b base L xs hp D cI cJ cS s) (hS : va_S (am_Ab base) s.heap H locs) (hR : am_R tS b base L xs hp D cI cJ cS h H)
    (hE : s.heap.size + cells + 2 = base + h.1) (hq : am_cl.lookup (am_oc y, idx) = some q) (hce : cells + 1 ≤ R.cells) (hse : slots + (am_df.getD q.1 []).length ≤ R.slots) (hd : decode (am_by y) pc = .ok (.new idx, 3))
    (kk : ∀ H', am_R tS b base L xs hp D cI cJ cS (am_new h (am_df.getD q.1 []).length (.inr (q.1, am_df.getD q.1 []))) H' → va_S (am_Ab base) s.heap H' locs → W p l e R s m args below meth c H' locs (cells + 1) (slots + (am_df.getD q.1 []).length) Q (F0 m (pc + 3) ls ((.ref h.1 :: st).map (am_tr (am_ad tS b base))))) : W p l e R s m args below meth c H locs cells slots Q (F0 m pc ls (st.map (am_tr (am_ad tS b base)))) := by
  have h2 := List.all_eq_true.mp am_cl_ok _ (am_lk hq)
  unfold am_ckl at h2
  split at h2
  · rename_i r hr
    obtain ⟨C, T, N⟩ := r
    simp only [Bool.and_eq_true, decide_eq_true_eq] at h2
    have h1 := am_c_at hr
    dsimp only at hr
    simp only [am_ckc, hr, Bool.and_eq_true, decide_eq_true_eq] at h1
    obtain ⟨⟨⟨⟨c1, c2⟩, -⟩, c4⟩, c5⟩ := h1
    rw [c4] at hse kk
    have hfs : ∀ j, j < N → defaultValue (am_tyf q.1 j) = vp_V ((am_df.getD q.1 []).map (am_tr (am_ad tS b base))) j := by
      intro j hj
      have h5 := List.all_eq_true.mp c5 j (List.mem_range.mpr hj)
      simp only [decide_eq_true_eq] at h5
      have hlt : j < (am_df.getD q.1 []).length := by rw [c4]; exact hj
      rw [am_vV _ _ hlt, ← h5, am_tr_dflt]
    refine va_new hx hb (Ts := u_ws C T N) (am_us_in hr hw) (fun _ z => z) (am_tyf q.1) (am_tyf_ok q.1 _ hr) hown (hw _ (List.mem_of_getElem? h2.1) rfl) (hw _ (List.mem_of_getElem? c1) rfl) (hw _ (List.mem_of_getElem? c2) rfl) hU.1 hR.1 (am_D _ _ h) hS (fun z hz => Nat.le_trans hU.2.2.2.2.2.2.2.2 hz) hr hfs hce hse hd (fun q' H1 hP1 hD1 hS1 => am_W_size fun hz => ?_)
    obtain ⟨rfl, hR1⟩ := am_born (n := N) (ce := .inr (q.1, am_df.getD q.1 [])) hR hP1 hD1 hE hz rfl rfl
    exact kk H1 hR1 hS1
  · cases h2
theorem am_newi_W {n : Int32} (hx : p.tables.exec = Jvm.exec) (hb : c.code = am_by y) (hw : am_Wd args s) (hU : am_U tS b base L xs hp D cI cJ cS s) (hS : va_S (am_Ab base) s.heap H locs) (hR : am_R tS b base L xs hp D cI cJ cS h H)
    (hE : s.heap.size + cells + 2 = base + h.1) (hn : ¬ n < 0) (hn2 : n.toNatClampNeg ≤ 100000) (hce : cells + 1 ≤ R.cells) (hse : slots + n.toNatClampNeg ≤ R.slots) (hd : decode (am_by y) pc = .ok (.newarray .int, 2))
    (kk : ∀ H', am_R tS b base L xs hp D cI cJ cS (am_new h n.toNatClampNeg (.inl (0, n.toNatClampNeg, .inl (fun _ => 0)))) H' → va_S (am_Ab base) s.heap H' locs → W p l e R s m args below meth c H' locs (cells + 1) (slots + n.toNatClampNeg) Q (F0 m (pc + 2) ls ((.ref h.1 :: st).map (am_tr (am_ad tS b base))))) : W p l e R s m args below meth c H locs cells slots Q (F0 m pc ls ((.int n :: st).map (am_tr (am_ad tS b base)))) := by
  refine va_newa hx hb (atype := .int) (hw _ am_w_ci rfl) rfl hU.1 hR.1 (am_D _ _ h) hS (fun z hz => Nat.le_trans hU.2.2.2.2.2.2.2.2 hz) (a0 := (n.toNatClampNeg, .inl (fun _ => 0))) (fun _ => rfl) hn rfl (by simp only [newarray.typeOf, componentBytes]; omega) hce hse hd (fun q' cA H1 hK1 hP1 hD1 hS1 => am_W_size fun hz => ?_)
  have e1 : s.vm.findClass _ = some cA := (hK1.2 3 (cA, .int) rfl).2
  have e2 : s.vm.findClass _ = some cI := (hU.1.2 0 (cI, .int) rfl).2
  obtain rfl : cA = cI := Option.some.inj (e1.symm.trans e2)
  obtain ⟨rfl, hR1⟩ := am_born (n := n.toNatClampNeg) (ce := .inl (0, n.toNatClampNeg, .inl (fun _ => 0))) hR hP1 hD1 hE hz rfl rfl
  exact kk H1 hR1 hS1
theorem am_newl_W {n : Int32} (hx : p.tables.exec = Jvm.exec) (hb : c.code = am_by y) (hw : am_Wd args s) (hU : am_U tS b base L xs hp D cI cJ cS s) (hS : va_S (am_Ab base) s.heap H locs) (hR : am_R tS b base L xs hp D cI cJ cS h H)
    (hE : s.heap.size + cells + 2 = base + h.1) (hn : ¬ n < 0) (hn2 : n.toNatClampNeg ≤ 100000) (hce : cells + 1 ≤ R.cells) (hse : slots + n.toNatClampNeg ≤ R.slots) (hd : decode (am_by y) pc = .ok (.newarray .long, 2))
    (kk : ∀ H', am_R tS b base L xs hp D cI cJ cS (am_new h n.toNatClampNeg (.inl (1, n.toNatClampNeg, .inr (.inl (fun _ => 0))))) H' → va_S (am_Ab base) s.heap H' locs → W p l e R s m args below meth c H' locs (cells + 1) (slots + n.toNatClampNeg) Q (F0 m (pc + 2) ls ((.ref h.1 :: st).map (am_tr (am_ad tS b base))))) : W p l e R s m args below meth c H locs cells slots Q (F0 m pc ls ((.int n :: st).map (am_tr (am_ad tS b base)))) := by
  refine va_newa hx hb (atype := .long) (hw _ am_w_cj rfl) rfl hU.1 hR.1 (am_D _ _ h) hS (fun z hz => Nat.le_trans hU.2.2.2.2.2.2.2.2 hz) (a0 := (n.toNatClampNeg, .inr (.inl (fun _ => 0)))) (fun _ => rfl) hn rfl (by simp only [newarray.typeOf, componentBytes]; omega) hce hse hd (fun q' cA H1 hK1 hP1 hD1 hS1 => am_W_size fun hz => ?_)
  have e1 : s.vm.findClass _ = some cA := (hK1.2 3 (cA, .long) rfl).2
  have e2 : s.vm.findClass _ = some cJ := (hU.1.2 1 (cJ, .long) rfl).2
  obtain rfl : cA = cJ := Option.some.inj (e1.symm.trans e2)
  obtain ⟨rfl, hR1⟩ := am_born (n := n.toNatClampNeg) (ce := .inl (1, n.toNatClampNeg, .inr (.inl (fun _ => 0)))) hR hP1 hD1 hE hz rfl rfl
  exact kk H1 hR1 hS1
theorem am_newa_W {n : Int32} {idx : Nat} (hx : p.tables.exec = Jvm.exec) (hb : c.code = am_by y) (hown : s.vm.findClass (am_nm (am_oc y)) = some m.cls) (hcl : (Cond.classLink (am_nm (am_oc y)) idx "MouthRiddles$Sight").before args s = true) (hU : am_U tS b base L xs hp D cI cJ cS s) (hS : va_S (am_Ab base) s.heap H locs) (hR : am_R tS b base L xs hp D cI cJ cS h H)
    (hE : s.heap.size + cells + 2 = base + h.1) (hn : ¬ n < 0) (hn2 : n.toNatClampNeg ≤ 100000) (hce : cells + 1 ≤ R.cells) (hse : slots + n.toNatClampNeg ≤ R.slots) (hd : decode (am_by y) pc = .ok (.anewarray idx, 3))
    (kk : ∀ H', am_R tS b base L xs hp D cI cJ cS (am_new h n.toNatClampNeg (.inl (2, n.toNatClampNeg, .inr (.inr (.inr (.inr (fun _ => none))))))) H' → va_S (am_Ab base) s.heap H' locs → W p l e R s m args below meth c H' locs (cells + 1) (slots + n.toNatClampNeg) Q (F0 m (pc + 3) ls ((.ref h.1 :: st).map (am_tr (am_ad tS b base))))) : W p l e R s m args below meth c H locs cells slots Q (F0 m pc ls ((.int n :: st).map (am_tr (am_ad tS b base)))) := by
  refine va_newq hx hb hown hcl hU.2.2.1 hU.1 hR.1 (am_D _ _ h) hS (fun z hz => Nat.le_trans hU.2.2.2.2.2.2.2.2 hz) hn rfl (by omega) hce hse hd (fun q' cA H1 hK1 hP1 hD1 hS1 => am_W_size fun hz => ?_)
  obtain ⟨-, -, -, -, -, e1⟩ : va_RA s cA (.object "MouthRiddles$Sight") := (hK1.2 3 (cA, .object "MouthRiddles$Sight") rfl).2
  obtain ⟨-, -, -, -, -, e2⟩ : va_RA s cS (.object "MouthRiddles$Sight") := (hU.1.2 2 (cS, .object "MouthRiddles$Sight") rfl).2
  obtain rfl : cA = cS := Option.some.inj (e1.symm.trans e2)
  obtain ⟨rfl, hR1⟩ := am_born (n := n.toNatClampNeg) (ce := .inl (2, n.toNatClampNeg, .inr (.inr (.inr (.inr (fun _ => none)))))) hR hP1 hD1 hE hz rfl rfl
  exact kk H1 hR1 hS1
theorem am_ml_at {oc idx : Nat} {q : Nat × Bool × Nat} (hq : am_ml.lookup (oc, idx) = some q) (hn : q.2.1 = false) : lw_tbl[q.2.2]? = some (.methodLink (am_nm oc) idx (if q.1 = 1000 then objectInit else if q.1 = 1001 then arraycopyName else if q.1 = 1002 then Lib.Math.min.name else if q.1 = 1003 then Lib.Math.max.name else if q.1 = 1004 then Lib.MathLoose.max_long.x else am_y q.1)) := by
  have h2 := List.all_eq_true.mp am_ml_ok _ (am_lk hq)
  simp only [am_ckm, hn, Bool.and_eq_true, decide_eq_true_eq, Bool.false_eq_true, if_false] at h2
  exact h2.1
set_option maxHeartbeats 8000000 in
theorem am_hop_W (hx : p.tables.exec = Jvm.exec) (hb : c.code = am_by y) (hml : c.maxLocals = am_nl y) (hal : al.length = am_nl y) (hL : am_Lo (am_ad tS b base) al ls) (hown : s.vm.findClass (am_nm (am_oc y)) = some m.cls) (hmi : (am_y y).name = "<init>" → meth.name = "<init>") (hw : am_Wd args s) (hU : am_U tS b base L xs hp D cI cJ cS s) (hS : va_S (am_Ab base) s.heap H locs) (hR : am_R tS b base L xs hp D cI cJ cS h H)
    (hfr : 1 ≤ R.frames) (hlo : 64 ≤ R.locals) (hE : s.heap.size + cells + 2 = base + h.1) (hce : cells + (h'.1 - h.1) ≤ R.cells) (hse : slots + (h'.2.1 - h.2.1) ≤ R.slots) (hd : decode (am_by y) pc = .ok (ri, len)) (hc : am_conv y pc len ri = some i) (hs : am_hop i st h = some (st', h'))
    (k : ∀ H' locs', am_R tS b base L xs hp D cI cJ cS h' H' → va_S (am_Ab base) s.heap H' locs' → W p l e R s m args below meth c H' locs' (cells + (h'.1 - h.1)) (slots + (h'.2.1 - h.2.1)) Q (F0 m (pc + len) ls (st'.map (am_tr (am_ad tS b base))))) : W p l e R s m args below meth c H locs cells slots Q (F0 m pc ls (st.map (am_tr (am_ad tS b base)))) := by
  have hmls : c.maxLocals = ls.size := by rw [hml, ← hal, hL.1]
  cases ri
  case getfield n =>
    simp only [am_conv] at hc
    split at hc
    · rename_i q hq
      obtain ⟨h1, rfl⟩ := am_if_inv hc
      obtain rfl := am_len_inv h1
      simp only [am_hop] at hs
      split at hs
      · rw [Option.map_eq_some_iff] at hs
        obtain ⟨z, hz, e1⟩ := hs
        cases e1
        have k := k H locs hR hS; simp only [Nat.sub_self, Nat.add_zero] at k
        exact am_getf_W hx hb hown hw hU hR hq hz hd k
      · cases hs
    · cases hc
  case putfield n =>
    simp only [am_conv] at hc
    split at hc
    · rename_i q hq
      obtain ⟨h1, rfl⟩ := am_if_inv hc
      rw [Bool.and_eq_true] at h1
      obtain rfl := am_len_inv h1.1
      simp only [am_hop] at hs
      split at hs
      · rw [Option.map_eq_some_iff] at hs
        obtain ⟨z, hz, e1⟩ := hs
        cases e1
        simp only [am_set, Nat.sub_self, Nat.add_zero] at k
        exact am_putf_W hx hb hown hmi hw hU hS hR hq h1.2 hz hd k
      · cases hs
    · cases hc
  case iaload =>
    obtain ⟨h1, rfl⟩ := am_if_inv hc
    obtain rfl := am_len_inv (Bool.and_eq_true_iff.mp h1).1
    simp only [am_hop] at hs
    split at hs
    · rw [Option.map_eq_some_iff] at hs
      obtain ⟨z, hz, e1⟩ := hs
      cases e1
      have k := k H locs hR hS; simp only [Nat.sub_self, Nat.add_zero] at k
      exact am_rd_W hx hb hU hS hR hz hd k
    · cases hs
  case laload =>
    obtain ⟨h1, rfl⟩ := am_if_inv hc
    obtain rfl := am_len_inv (Bool.and_eq_true_iff.mp h1).1
    simp only [am_hop] at hs
    split at hs
    · rw [Option.map_eq_some_iff] at hs
      obtain ⟨z, hz, e1⟩ := hs
      cases e1
      have k := k H locs hR hS; simp only [Nat.sub_self, Nat.add_zero] at k
      exact am_rdl_W hx hb hU hS hR hz hd k
    · cases hs
  case aaload =>
    obtain ⟨h1, rfl⟩ := am_if_inv hc
    obtain rfl := am_len_inv (Bool.and_eq_true_iff.mp h1).1
    simp only [am_hop] at hs
    split at hs
    · rw [Option.map_eq_some_iff] at hs
      obtain ⟨z, hz, e1⟩ := hs
      cases e1
      have k := k H locs hR hS; simp only [Nat.sub_self, Nat.add_zero] at k
      exact am_rda_W hx hb hU hR hz hd k
    · cases hs
  case arraylength =>
    obtain ⟨h1, rfl⟩ := am_if_inv hc
    obtain rfl := am_len_inv (Bool.and_eq_true_iff.mp h1).1
    simp only [am_hop] at hs
    split at hs
    · rw [Option.map_eq_some_iff] at hs
      obtain ⟨z, hz, e1⟩ := hs
      cases e1
      have k := k H locs hR hS; simp only [Nat.sub_self, Nat.add_zero] at k
      exact am_len_W hx hb hU hS hR hz hd k
    · cases hs
  case iastore =>
    obtain ⟨h1, rfl⟩ := am_if_inv hc
    obtain rfl := am_len_inv (Bool.and_eq_true_iff.mp h1).1
    simp only [am_hop] at hs
    split at hs
    · rw [Option.map_eq_some_iff] at hs
      obtain ⟨z, hz, e1⟩ := hs
      cases e1
      simp only [am_set, Nat.sub_self, Nat.add_zero] at k
      exact am_wi_W hx hb hU hS hR hz hd k
    · cases hs
  case lastore =>
    obtain ⟨h1, rfl⟩ := am_if_inv hc
    obtain rfl := am_len_inv (Bool.and_eq_true_iff.mp h1).1
    simp only [am_hop] at hs
    split at hs
    · rw [Option.map_eq_some_iff] at hs
      obtain ⟨z, hz, e1⟩ := hs
      cases e1
      simp only [am_set, Nat.sub_self, Nat.add_zero] at k
      exact am_wl_W hx hb hU hS hR hz hd k
    · cases hs
  case aastore =>
    obtain ⟨h1, rfl⟩ := am_if_inv hc
    obtain rfl := am_len_inv (Bool.and_eq_true_iff.mp h1).1
    simp only [am_hop] at hs
    split at hs
    · split at hs
      · rename_i hv
        rw [Option.map_eq_some_iff] at hs
        obtain ⟨z, hz, e1⟩ := hs
        cases e1
        simp only [am_set, Nat.sub_self, Nat.add_zero] at k
        exact am_wa_W hx hb hU hS hR hv hz hd k
      · cases hs
    · cases hs
  case new n =>
    simp only [am_conv] at hc
    split at hc
    · rename_i q hq
      obtain ⟨h1, rfl⟩ := am_if_inv hc
      obtain rfl := am_len_inv h1
      cases hs
      simp only [am_new, Nat.add_sub_cancel_left] at k hce hse
      exact am_newo_W hx hb hown hw hU hS hR hE hq hce hse hd (fun H1 a1 a2 => k H1 locs a1 a2)
    · cases hc
  case newarray t =>
    obtain ⟨h1, rfl⟩ := am_if_inv hc
    obtain rfl := am_len_inv h1
    cases t
    case int =>
      simp only [am_hop] at hs
      split at hs
      · split at hs
        · rename_i hn
          cases hs
          simp only [am_new, Nat.add_sub_cancel_left] at k hce hse
          exact am_newi_W hx hb hw hU hS hR hE hn.1 hn.2 hce hse hd (fun H1 a1 a2 => k H1 locs a1 a2)
        · cases hs
      · cases hs
    case long =>
      simp only [am_hop] at hs
      split at hs
      · split at hs
        · rename_i hn
          cases hs
          simp only [am_new, Nat.add_sub_cancel_left] at k hce hse
          exact am_newl_W hx hb hw hU hS hR hE hn.1 hn.2 hce hse hd (fun H1 a1 a2 => k H1 locs a1 a2)
        · cases hs
      · cases hs
    all_goals cases hs
  case anewarray n =>
    simp only [am_conv] at hc
    split at hc
    · rename_i q hq
      obtain ⟨h1, rfl⟩ := am_if_inv hc
      rw [Bool.and_eq_true] at h1
      obtain rfl := am_len_inv h1.1
      have h7 := am_len_inv h1.2
      have h2 := List.all_eq_true.mp am_cl_ok _ (am_lk hq)
      obtain ⟨q1, q2⟩ := q
      dsimp only at h7
      subst h7
      have h3 : lw_tbl[q2]? = some (.classLink (am_nm (am_oc y)) n "MouthRiddles$Sight") := by
        have h2 : (decide (lw_tbl[q2]? = some (.classLink (am_nm (am_oc y)) n "MouthRiddles$Sight")) && decide (7 < 13)) = true := h2
        rw [Bool.and_eq_true, decide_eq_true_eq] at h2
        exact h2.1
      simp only [am_hop] at hs
      split at hs
      · split at hs
        · rename_i hn
          cases hs
          simp only [am_new, Nat.add_sub_cancel_left] at k hce hse
          exact am_newa_W hx hb hown (hw _ (List.mem_of_getElem? h3) rfl) hU hS hR hE hn.1 hn.2 hce hse hd (fun H1 a1 a2 => k H1 locs a1 a2)
        · cases hs
      · cases hs
    · cases hc
  case invokestatic n =>
    simp only [am_conv] at hc
    split at hc
    · rename_i q hq
      split at hc
      · rename_i h9
        obtain ⟨h1, rfl⟩ := am_if_inv hc
        simp only [Bool.and_eq_true, Bool.not_eq_true'] at h1
        obtain rfl := am_len_inv h1.1
        have h3 := am_ml_at hq h1.2
        rw [h9] at h3
        simp only [am_hop] at hs
        split at hs
        · split at hs
          · rename_i hcat
            rw [Option.map_eq_some_iff] at hs
            obtain ⟨z, hz, e1⟩ := hs
            cases e1
            simp only [am_set, Nat.sub_self, Nat.add_zero] at k
            exact am_wc_W hx hb hmls hown hw (hw _ (List.mem_of_getElem? h3) rfl) hfr hlo hcat hU hS hR hz hd k
          · cases hs
        · cases hs
      · repeat' split at hc
        all_goals (obtain ⟨h1, rfl⟩ := am_if_inv hc; cases hs)
    · cases hc
  case invokevirtual n =>
    simp only [am_conv] at hc
    split at hc
    · obtain ⟨h1, rfl⟩ := am_if_inv hc
      cases hs
    · cases hc
  case ldc n =>
    simp only [am_conv] at hc
    split at hc
    · obtain ⟨h1, rfl⟩ := am_if_inv hc
      cases hs
    · cases hc
  case ldc_w n =>
    simp only [am_conv] at hc
    split at hc
    · obtain ⟨h1, rfl⟩ := am_if_inv hc
      cases hs
    · cases hc
  case ldc2_w n =>
    simp only [am_conv] at hc
    split at hc
    · obtain ⟨h1, rfl⟩ := am_if_inv hc
      cases hs
    · cases hc
  case ireturn =>
    simp only [am_conv] at hc
    split at hc
    · obtain ⟨h1, rfl⟩ := am_if_inv hc
      cases hs
    · obtain ⟨h1, rfl⟩ := am_if_inv hc
      cases hs
  case invokespecial n =>
    simp only [am_conv] at hc
    repeat' split at hc
    all_goals first | (cases hc; done) | (obtain ⟨h1, rfl⟩ := am_if_inv hc; cases hs; done)
  all_goals (obtain ⟨h1, rfl⟩ := am_if_inv hc; first | (cases hs; done) | (simp [am_plain] at h1; done))
end HOP3
