/-! THE HEAP -/
theorem am_fit_ok {ad : Nat → Nat} {ty : FieldType} {v : Value} (h : am_fit (am_tcd ty) v = true) : narrow ty (am_tr ad v) = am_tr ad v ∧ fits ty (am_tr ad v) = true := by
  cases ty <;> cases v <;> simp only [am_tcd, am_fit] at h <;> first | exact ⟨rfl, rfl⟩ | cases h | skip
  rename_i x
  simp only [Bool.or_eq_true, beq_iff_eq] at h
  rcases h with rfl | rfl
  · exact ⟨(by decide : narrow .boolean (.int 0) = .int 0), (by decide : fits .boolean (.int 0) = true)⟩
  · exact ⟨(by decide : narrow .boolean (.int 1) = .int 1), (by decide : fits .boolean (.int 1) = true)⟩
theorem am_lay_good (C : String) (T : u_T) (k : Nat) : goodWord (u_lay C T k) = true := by
  unfold u_lay
  split <;> rfl
theorem am_c_at {ci : Nat} {r : vw_C} (h : vwCl[ci]? = some r) : am_ckc ci = true := by
  have : ci < 13 := (List.getElem?_eq_some_iff.mp h).1
  exact List.all_eq_true.mp am_c_ok ci (List.mem_range.mpr this)
theorem am_us_in {ci : Nat} {r : vw_C} (h : vwCl[ci]? = some r) {args : Array Value} {s : State} (hw : am_Wd args s) : ∀ w ∈ u_ws r.1 r.2.1 r.2.2, w.before args s = true := by
  intro w hw1
  have h1 := am_c_at h
  simp only [am_ckc, h, Bool.and_eq_true, decide_eq_true_eq] at h1
  have hg : goodWord w = true := by
    obtain ⟨k, -, rfl⟩ := List.mem_map.mp hw1
    exact am_lay_good _ _ _
  rw [h1.1.1.2] at hw1
  obtain ⟨i, -, hi⟩ := List.mem_filterMap.mp hw1
  exact hw w (List.mem_of_getElem? hi) hg
theorem am_on_ok : ∀ ci : Nat, ci < 13 → (vwCl[ci]?.map (fun r => r.1)) = some (am_nm ci) := by decide +kernel
theorem am_W_size {p : Program} {l : Launch} {e : Env} {R : Room} {s : State} {m : MethodId} {args : Array Value} {below : List Frame} {meth : Method} {c : Code} {H : Heap} {locs : List Loc} {cells slots : Nat} {Q : State → Prop} {g : JFrame} (k : H.size ≤ s.heap.size + cells → W p l e R s m args below meth c H locs cells slots Q g) : W p l e R s m args below meth c H locs cells slots Q g := by
  intro T hT X
  refine k ?_ T hT X
  have h := X.same.2.2.1
  rw [← hT]
  exact h
theorem am_new_q {base q n : Nat} {ad : Nat → Nat} {tys : List (ClassId × FieldType)} {h : am_H} {e : va_E} (h2 : 2 ≤ h.1) (hD : va_D (am_Ab base) (am_ws ad tys base h ++ [(q, e)])) (hq : q < n) (hn : n + 2 ≤ base + h.1 + 1) : q = base + (h.1 - 2) := by
  have hl : (am_ws ad tys base h).length = h.1 - 2 := by simp [am_ws]
  have e1 : (am_ws ad tys base h ++ [(q, e)])[h.1 - 2]? = some (q, e) := by
    rw [List.getElem?_append_right (by omega), hl, Nat.sub_self]; rfl
  have hb : base ≤ q := hD.2 _ _ e1
  rcases Nat.lt_or_ge q (base + (h.1 - 2)) with hlt | hge
  · have e2 := am_ws_get (ad := ad) (tys := tys) (base := base) (h := h) (k := q - base + 2) (by omega) (by omega)
    have e3 : (am_ws ad tys base h ++ [(q, e)])[q - base + 2 - 2]? = some (base + (q - base + 2 - 2), am_trE ad tys (h.2.2 (q - base + 2))) := by
      rw [List.getElem?_append_left (by omega)]; exact e2
    have e4 := hD.1 _ _ _ _ e3 e1 (by show base + (q - base + 2 - 2) = q; omega)
    omega
  · omega
theorem am_upq (ad : Nat → Nat) (f : Nat → Option Nat) (j x : Nat) : va_up (fun i => (f i).map ad) j (some (ad x)) = fun i => (va_up f j (some x) i).map ad := by
  funext i
  simp only [va_up]
  by_cases h : i = j
  · rw [if_pos h, if_pos h]; rfl
  · rw [if_neg h, if_neg h]
theorem am_div1 {a k : Nat} (h : k < 64) : (a * 64 + k) / 64 = a ∧ (a * 64 + k) % 64 = k := by omega
theorem am_div2 {t a k : Nat} (h : k < 64) (h2 : a < 64) : ((t * 64 + a) * 64 + k) / 64 % 64 = a ∧ ((t * 64 + a) * 64 + k) % 64 = k ∧ ((t * 64 + a) * 64 + k) / 4096 = t := by omega
section HOP
variable {p : Program} {l : Launch} {e : Env} {R : Room} {s : State} {m : MethodId} {args : Array Value} {below : List Frame} {meth : Method} {c : Code} {H : Heap} {locs : List Loc} {cells slots : Nat} {Q : State → Prop}
variable {tS b base L : Nat} {xs : Nat → Int32} {hp : Nat → Int64} {D : va_G} {cI cJ cS : ClassId}
variable {y pc len : Nat} {ri i : Instr} {al st st' : List Value} {ls : Array Slot} {h h' : am_H}
theorem am_get_inv {ce : am_E} {q : Nat} {r z : List Value} (hs : am_get ce q r = some z) : ∃ (fs : List Value) (v : Value), ce = .inr (q / 64, fs) ∧ fs[q % 64]? = some v ∧ z = v :: r := by
  unfold am_get at hs
  split at hs
  · split at hs
    · rename_i hci
      subst hci
      split at hs
      · rename_i v hv
        split at hs
        · cases hs
        · cases hs; exact ⟨_, v, rfl, hv, rfl⟩
      · cases hs
    · cases hs
  · cases hs
theorem am_wf_inv {ce c2 : am_E} {q : Nat} {v : Value} (hs : am_wf ce q v = some c2) : ∃ fs : List Value, ce = .inr (q / 64 % 64, fs) ∧ q % 64 < fs.length ∧ am_fit (q / 4096) v = true ∧ c2 = .inr (q / 64 % 64, fs.set (q % 64) v) := by
  unfold am_wf at hs
  split at hs
  · split at hs
    · rename_i hh
      obtain ⟨h1, h2, h3⟩ := hh
      subst h1
      cases hs
      exact ⟨_, rfl, h2, h3, rfl⟩
    · cases hs
  · cases hs
theorem am_fl_at {oc idx : Nat} {q : Nat × Nat × Nat × Bool × Nat} (hq : am_fl.lookup (oc, idx) = some q) : ∃ (C : String) (T : u_T) (N : Nat), vwCl[q.1]? = some (C, T, N) ∧ q.2.1 < N ∧ q.2.1 < 64 ∧ q.1 < 64 ∧ (T q.2.1).1 = C ∧ am_tcd (am_tyf q.1 q.2.1) = q.2.2.1 ∧
    lw_tbl[q.2.2.2.2]? = some (if q.2.2.2.1 = true then .fieldLinkNest (am_nm oc) idx C (T q.2.1).2.1 (T q.2.1).2.2.1 "MouthRiddles" else .fieldLink (am_nm oc) idx C (T q.2.1).2.1 (T q.2.1).2.2.1) := by
  have h2 := List.all_eq_true.mp am_fl_ok _ (am_lk hq)
  unfold am_ckf at h2
  split at h2
  · rename_i r hr
    obtain ⟨C, T, N⟩ := r
    simp only [Bool.and_eq_true, decide_eq_true_eq, beq_iff_eq] at h2
    obtain ⟨⟨⟨⟨⟨⟨a1, a2⟩, a3⟩, a4⟩, a5⟩, a6⟩, a7⟩ := h2
    exact ⟨C, T, N, hr, a1, a2, a3, a4, a5, a7⟩
  · cases h2
theorem am_getf_W {idx k : Nat} {r z : List Value} {q : Nat × Nat × Nat × Bool × Nat} (hx : p.tables.exec = Jvm.exec) (hb : c.code = am_by y) (hown : s.vm.findClass (am_nm (am_oc y)) = some m.cls) (hw : am_Wd args s) (hU : am_U tS b base L xs hp D cI cJ cS s) (hR : am_R tS b base L xs hp D cI cJ cS h H)
    (hq : am_fl.lookup (am_oc y, idx) = some q) (hs : am_get (h.2.2 k) (q.1 * 64 + q.2.1) r = some z) (hd : decode (am_by y) pc = .ok (.getfield idx, 3))
    (kk : W p l e R s m args below meth c H locs cells slots Q (F0 m (pc + 3) ls (z.map (am_tr (am_ad tS b base))))) : W p l e R s m args below meth c H locs cells slots Q (F0 m pc ls ((.ref k :: r).map (am_tr (am_ad tS b base)))) := by
  obtain ⟨C, T, N, hr, a1, a2, a3, a4, a5, a7⟩ := am_fl_at hq
  obtain ⟨fs, v, hce, hv, rfl⟩ := am_get_inv hs
  rw [(am_div1 a2).1] at hce
  rw [(am_div1 a2).2] at hv
  obtain ⟨k2, kl⟩ := am_rng hR hce (by intro z; cases z) (by intro z; cases z) (by intro z; cases z)
  have hat := hR.at k2 kl
  rw [hce] at hat
  have hv2 : (fs.map (am_tr (am_ad tS b base)))[q.2.1]? = some (am_tr (am_ad tS b base) v) := by rw [List.getElem?_map, hv]; rfl
  by_cases hn : q.2.2.2.1 = true
  · rw [if_pos hn] at a7
    exact va_getN hx hb (Ts := u_ws C T N) (am_us_in hr hw) (fun _ z => z) hown hU.1 hR.1 (k - 2) hat hr q.2.1 a1 (va_Nw.use rfl (hU.2.1 _ (List.mem_of_getElem? a7) rfl)) (fun x hx => by rw [a4] at hx; exact hx) hv2 hd kk
  · rw [if_neg hn] at a7
    exact va_get hx hb (Ts := u_ws C T N) (am_us_in hr hw) (fun _ z => z) hown hU.1 hR.1 (k - 2) hat hr q.2.1 a1 (hw _ (List.mem_of_getElem? a7) rfl) (fun x hx => by rw [a4] at hx; exact hx) hv2 hd kk
theorem am_putf_W {idx k : Nat} {v : Value} {r : List Value} {c2 : am_E} {q : Nat × Nat × Nat × Bool × Nat} (hx : p.tables.exec = Jvm.exec) (hb : c.code = am_by y) (hown : s.vm.findClass (am_nm (am_oc y)) = some m.cls) (hmi : (am_y y).name = "<init>" → meth.name = "<init>") (hw : am_Wd args s) (hU : am_U tS b base L xs hp D cI cJ cS s) (hS : va_S (am_Ab base) s.heap H locs) (hR : am_R tS b base L xs hp D cI cJ cS h H)
    (hq : am_fl.lookup (am_oc y, idx) = some q) (hf : (match vwCl[q.1]? with
      | some r => !(r.2.1 q.2.1).2.2.2 || ((am_y y).name == "<init>" && am_oc y == q.1 && !q.2.2.2.1)
      | none => false) = true) (hs : am_wf (h.2.2 k) ((q.2.2.1 * 64 + q.1) * 64 + q.2.1) v = some c2) (hd : decode (am_by y) pc = .ok (.putfield idx, 3))
    (kk : ∀ H' locs', am_R tS b base L xs hp D cI cJ cS (am_set h k c2) H' → va_S (am_Ab base) s.heap H' locs' → W p l e R s m args below meth c H' locs' cells slots Q (F0 m (pc + 3) ls (r.map (am_tr (am_ad tS b base))))) : W p l e R s m args below meth c H locs cells slots Q (F0 m pc ls ((v :: .ref k :: r).map (am_tr (am_ad tS b base)))) := by
  obtain ⟨C, T, N, hr, a1, a2, a3, a4, a5, a7⟩ := am_fl_at hq
  obtain ⟨fs, hce, hlen, hfit, rfl⟩ := am_wf_inv hs
  obtain ⟨e1, e2, e3⟩ := am_div2 (t := q.2.2.1) a2 a3
  rw [e1] at hce
  rw [e2] at hlen
  rw [e3, ← a5] at hfit
  rw [e1, e2] at kk
  obtain ⟨hn, hft⟩ := am_fit_ok (ad := am_ad tS b base) hfit
  obtain ⟨k2, kl⟩ := am_rng hR hce (by intro z; cases z) (by intro z; cases z) (by intro z; cases z)
  have hat := hR.at k2 kl
  rw [hce] at hat
  have hD := am_D (base := base) (am_ad tS b base) (am_tys cI cJ cS) h
  have kk2 : ∀ (H1 : Heap) (locs1 : List Loc), va_P D vwCl ((am_ws (am_ad tS b base) (am_tys cI cJ cS) base h).set (k - 2) (am_ad tS b base k, .inr (q.1, (fs.map (am_tr (am_ad tS b base))).set q.2.1 (am_tr (am_ad tS b base) v)))) H1 → va_D (am_Ab base) ((am_ws (am_ad tS b base) (am_tys cI cJ cS) base h).set (k - 2) (am_ad tS b base k, .inr (q.1, (fs.map (am_tr (am_ad tS b base))).set q.2.1 (am_tr (am_ad tS b base) v)))) → va_S (am_Ab base) s.heap H1 locs1 → W p l e R s m args below meth c H1 locs1 cells slots Q (F0 m (pc + 3) ls (r.map (am_tr (am_ad tS b base)))) := by
    intro H1 locs1 hP1 _ hS1
    refine kk H1 locs1 (hR.set k2 kl ?_ rfl) hS1
    rw [← List.map_set] at hP1
    exact hP1
  have hl2 : q.2.1 < (fs.map (am_tr (am_ad tS b base))).length := by rw [List.length_map]; exact hlen
  rw [hr] at hf
  simp only [Bool.or_eq_true, Bool.not_eq_true', Bool.and_eq_true, beq_iff_eq] at hf
  by_cases hfin : (T q.2.1).2.2.2 = true
  · have hf2 := hf.resolve_left (by rw [hfin]; decide)
    rw [if_neg (by rw [hf2.2]; decide)] at a7
    have hdecl : (T q.2.1).1 = am_nm (am_oc y) := by
      have h13 : q.1 < 13 := (List.getElem?_eq_some_iff.mp hr).1
      have := am_on_ok q.1 h13
      rw [hr] at this
      rw [a4, hf2.1.2]
      exact Option.some.inj this
    exact va_putF hx hb (Ts := u_ws C T N) (am_us_in hr hw) (fun _ z => z) (am_tyf q.1) (am_tyf_ok q.1 _ hr) (am_nmf_ok q.1 _ hr) hown hU.1 hR.1 hD hS (k - 2) hat hr q.2.1 a1 (hw _ (List.mem_of_getElem? a7) rfl) (fun x hx => by rw [a4] at hx; exact hx) hfin (hmi hf2.1.1) hdecl (am_tyf_ok q.1 _ hr q.2.1 a1) hn hft hl2 hd kk2
  · have hfin : (T q.2.1).2.2.2 = false := by simpa using hfin
    by_cases hne : q.2.2.2.1 = true
    · rw [if_pos hne] at a7
      exact va_putN hx hb (Ts := u_ws C T N) (am_us_in hr hw) (fun _ z => z) (am_tyf q.1) (am_tyf_ok q.1 _ hr) (am_nmf_ok q.1 _ hr) hown hU.1 hR.1 hD hS (k - 2) hat hr q.2.1 a1 (va_Nw.use rfl (hU.2.1 _ (List.mem_of_getElem? a7) rfl)) (fun x hx => by rw [a4] at hx; exact hx) hfin (am_tyf_ok q.1 _ hr q.2.1 a1) hn hft hl2 hd kk2
    · rw [if_neg hne] at a7
      exact va_put hx hb (Ts := u_ws C T N) (am_us_in hr hw) (fun _ z => z) (am_tyf q.1) (am_tyf_ok q.1 _ hr) (am_nmf_ok q.1 _ hr) hown hU.1 hR.1 hD hS (k - 2) hat hr q.2.1 a1 (hw _ (List.mem_of_getElem? a7) rfl) (fun x hx => by rw [a4] at hx; exact hx) hfin (am_tyf_ok q.1 _ hr q.2.1 a1) hn hft hl2 hd kk2
end HOP
