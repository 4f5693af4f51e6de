/-! THE HEAP: the instructions -/
section HOP2
variable {p : Program} {l : Launch} {e : Env} {R : Room} {s : State} {m : MethodId} {args : Array Value} {below : List Frame} {meth : Method} {c : Code} {H : Heap} {locs : List Loc} {cells slots : Nat} {Q : State → Prop}
variable {tS b base L : Nat} {xs : Nat → Int32} {hp : Nat → Int64} {D : va_G} {cI cJ cS : ClassId}
variable {y pc len : Nat} {ri i : Instr} {al st st' : List Value} {ls : Array Slot} {h h' : am_H}
theorem am_rd_W {j : Int32} {k : Nat} {r z : List Value} (hx : p.tables.exec = Jvm.exec) (hb : c.code = am_by y) (hU : am_U tS b base L xs hp D cI cJ cS s) (hS : va_S (am_Ab base) s.heap H locs) (hR : am_R tS b base L xs hp D cI cJ cS h H)
    (hs : am_rd (h.2.2 k) j r = some z) (hd : decode (am_by y) pc = .ok (.iaload, 1)) (kk : W p l e R s m args below meth c H locs cells slots Q (F0 m (pc + 1) ls (z.map (am_tr (am_ad tS b base))))) : W p l e R s m args below meth c H locs cells slots Q (F0 m pc ls ((.int j :: .ref k :: r).map (am_tr (am_ad tS b base)))) := by
  generalize hce : h.2.2 k = ce at hs
  unfold am_rd at hs
  split at hs
  · split at hs
    · rename_i hi
      cases hs
      obtain ⟨k2, kl⟩ := am_rng hR hce (by intro z; cases z) (by intro z; cases z) (by intro z; cases z)
      have hat := hR.at k2 kl
      rw [hce] at hat
      exact va_iald hx hb hU.1 hR.1 (k - 2) 0 hat rfl (am_inB hi) hd kk
    · cases hs
  · split at hs
    · rename_i hi
      cases hs
      have hk1 : k = 1 := by
        match k, hce with
        | 0, hce => rw [hR.2.2.1] at hce; cases hce
        | 1, _ => rfl
        | k + 2, hce =>
          have := hR.2.2.2.2.2 (k + 2) (by omega)
          rw [hce] at this
          cases this
      subst hk1
      rw [hR.2.2.2.1] at hce
      cases hce
      obtain ⟨-, -, -, -, -, hX, h6, h7, h8⟩ := hU
      exact va_sld hx hb hX (by omega) (by show ¬ base ≤ b; omega) hS (am_inB hi) hd kk
    · cases hs
  · cases hs
theorem am_rdl_W {j : Int32} {k : Nat} {r z : List Value} (hx : p.tables.exec = Jvm.exec) (hb : c.code = am_by y) (hU : am_U tS b base L xs hp D cI cJ cS s) (hS : va_S (am_Ab base) s.heap H locs) (hR : am_R tS b base L xs hp D cI cJ cS h H)
    (hs : am_rdl (h.2.2 k) j r = some z) (hd : decode (am_by y) pc = .ok (.laload, 1)) (kk : W p l e R s m args below meth c H locs cells slots Q (F0 m (pc + 1) ls (z.map (am_tr (am_ad tS b base))))) : W p l e R s m args below meth c H locs cells slots Q (F0 m pc ls ((.int j :: .ref k :: r).map (am_tr (am_ad tS b base)))) := by
  generalize hce : h.2.2 k = ce at hs
  unfold am_rdl at hs
  split at hs
  · split at hs
    · rename_i hi
      cases hs
      obtain ⟨k2, kl⟩ := am_rng hR hce (by intro z; cases z) (by intro z; cases z) (by intro z; cases z)
      have hat := hR.at k2 kl
      rw [hce] at hat
      exact va_lald hx hb hU.1 hR.1 (k - 2) 1 hat rfl (am_inB hi) hd kk
    · cases hs
  · split at hs
    · rename_i hi
      cases hs
      have hk1 : k = 0 := by
        match k, hce with
        | 0, _ => rfl
        | 1, hce => rw [hR.2.2.2.1] at hce; cases hce
        | k + 2, hce =>
          have := hR.2.2.2.2.2 (k + 2) (by omega)
          rw [hce] at this
          cases this
      subst hk1
      rw [hR.2.2.1] at hce
      cases hce
      obtain ⟨-, -, -, -, hY, -, h6, h7, h8⟩ := hU
      obtain ⟨scr, g1, g2, g3, g4, g5⟩ := hY
      have hin := am_inB hi
      have g1' : H[tS]? = some scr := by
        rw [hS.2.1 tS (by omega) (by show ¬ base ≤ tS; omega)]; exact g1
      have hlt : j.toNatClampNeg < 6 := Nat.not_le.mp fun q => hin (Or.inr q)
      exact W.lald hx hb g1' g2 g3 (by rw [g4]; exact hin) (g5 _ hlt) rfl rfl hd kk
    · cases hs
  · cases hs
theorem am_rda_W {j : Int32} {k : Nat} {r z : List Value} (hx : p.tables.exec = Jvm.exec) (hb : c.code = am_by y) (hU : am_U tS b base L xs hp D cI cJ cS s) (hR : am_R tS b base L xs hp D cI cJ cS h H)
    (hs : am_rda (h.2.2 k) j r = some z) (hd : decode (am_by y) pc = .ok (.aaload, 1)) (kk : W p l e R s m args below meth c H locs cells slots Q (F0 m (pc + 1) ls (z.map (am_tr (am_ad tS b base))))) : W p l e R s m args below meth c H locs cells slots Q (F0 m pc ls ((.int j :: .ref k :: r).map (am_tr (am_ad tS b base)))) := by
  generalize hce : h.2.2 k = ce at hs
  unfold am_rda at hs
  split at hs
  · split at hs
    · rename_i hi
      split at hs
      · rename_i a ha
        cases hs
        obtain ⟨k2, kl⟩ := am_rng hR hce (by intro z; cases z) (by intro z; cases z) (by intro z; cases z)
        have hat := hR.at k2 kl
        rw [hce] at hat
        refine va_aldq hx hb hU.1 hR.1 (k - 2) 2 hat rfl (am_inB hi) hd ?_
        rw [ha]
        exact kk
      · cases hs
    · cases hs
  · cases hs
theorem am_len_W {k : Nat} {r z : List Value} (hx : p.tables.exec = Jvm.exec) (hb : c.code = am_by y) (hU : am_U tS b base L xs hp D cI cJ cS s) (hS : va_S (am_Ab base) s.heap H locs) (hR : am_R tS b base L xs hp D cI cJ cS h H)
    (hs : am_len (h.2.2 k) r = some z) (hd : decode (am_by y) pc = .ok (.arraylength, 1)) (kk : W p l e R s m args below meth c H locs cells slots Q (F0 m (pc + 1) ls (z.map (am_tr (am_ad tS b base))))) : W p l e R s m args below meth c H locs cells slots Q (F0 m pc ls ((.ref k :: r).map (am_tr (am_ad tS b base)))) := by
  generalize hce : h.2.2 k = ce at hs
  unfold am_len at hs
  split at hs
  · cases hs
    obtain ⟨k2, kl⟩ := am_rng hR hce (by intro z; cases z) (by intro z; cases z) (by intro z; cases z)
    have hat := hR.at k2 kl
    rw [hce] at hat
    exact va_alen hx hb hU.1 hR.1 (k - 2) 0 hat (ty := .int) rfl rfl hd kk
  · cases hs
    obtain ⟨k2, kl⟩ := am_rng hR hce (by intro z; cases z) (by intro z; cases z) (by intro z; cases z)
    have hat := hR.at k2 kl
    rw [hce] at hat
    exact va_alen hx hb hU.1 hR.1 (k - 2) 1 hat (ty := .long) rfl rfl hd kk
  · cases hs
    have hk1 : k = 1 := by
      match k, hce with
      | 0, hce => rw [hR.2.2.1] at hce; cases hce
      | 1, _ => rfl
      | k + 2, hce =>
        have := hR.2.2.2.2.2 (k + 2) (by omega)
        rw [hce] at this
        cases this
    subst hk1
    rw [hR.2.2.2.1] at hce
    cases hce
    obtain ⟨-, -, -, -, -, hX, h6, h7, h8⟩ := hU
    exact va_slen hx hb (b := b) hX (by omega) (by show ¬ base ≤ b; omega) hS hd kk
  · cases hs
theorem am_wi_W {j x : Int32} {k : Nat} {r : List Value} {c2 : am_E} (hx : p.tables.exec = Jvm.exec) (hb : c.code = am_by y) (hU : am_U tS b base L xs hp D cI cJ cS s) (hS : va_S (am_Ab base) s.heap H locs) (hR : am_R tS b base L xs hp D cI cJ cS h H)
    (hs : am_wi (h.2.2 k) j x = some c2) (hd : decode (am_by y) pc = .ok (.iastore, 1))
    (kk : ∀ H' locs', am_R tS b base L xs hp D cI cJ cS (am_set h k c2) H' → va_S (am_Ab base) s.heap H' locs' → W p l e R s m args below meth c H' locs' cells slots Q (F0 m (pc + 1) ls (r.map (am_tr (am_ad tS b base))))) : W p l e R s m args below meth c H locs cells slots Q (F0 m pc ls ((.int x :: .int j :: .ref k :: r).map (am_tr (am_ad tS b base)))) := by
  generalize hce : h.2.2 k = ce at hs
  unfold am_wi at hs
  split at hs
  · split at hs
    · rename_i hi
      cases hs
      obtain ⟨k2, kl⟩ := am_rng hR hce (by intro z; cases z) (by intro z; cases z) (by intro z; cases z)
      have hat := hR.at k2 kl
      rw [hce] at hat
      exact va_iast hx hb hU.1 hR.1 (am_D _ _ h) hS (k - 2) 0 hat rfl (am_inB hi) hd (fun H1 locs1 hP1 _ hS1 => kk H1 locs1 (hR.set k2 kl hP1 rfl) hS1)
    · cases hs
  · cases hs
theorem am_wl_W {j : Int32} {x : Int64} {k : Nat} {r : List Value} {c2 : am_E} (hx : p.tables.exec = Jvm.exec) (hb : c.code = am_by y) (hU : am_U tS b base L xs hp D cI cJ cS s) (hS : va_S (am_Ab base) s.heap H locs) (hR : am_R tS b base L xs hp D cI cJ cS h H)
    (hs : am_wl (h.2.2 k) j x = some c2) (hd : decode (am_by y) pc = .ok (.lastore, 1))
    (kk : ∀ H' locs', am_R tS b base L xs hp D cI cJ cS (am_set h k c2) H' → va_S (am_Ab base) s.heap H' locs' → W p l e R s m args below meth c H' locs' cells slots Q (F0 m (pc + 1) ls (r.map (am_tr (am_ad tS b base))))) : W p l e R s m args below meth c H locs cells slots Q (F0 m pc ls ((.long x :: .int j :: .ref k :: r).map (am_tr (am_ad tS b base)))) := by
  generalize hce : h.2.2 k = ce at hs
  unfold am_wl at hs
  split at hs
  · split at hs
    · rename_i hi
      cases hs
      obtain ⟨k2, kl⟩ := am_rng hR hce (by intro z; cases z) (by intro z; cases z) (by intro z; cases z)
      have hat := hR.at k2 kl
      rw [hce] at hat
      exact va_last hx hb hU.1 hR.1 (am_D _ _ h) hS (k - 2) 1 hat rfl (am_inB hi) hd (fun H1 locs1 hP1 _ hS1 => kk H1 locs1 (hR.set k2 kl hP1 rfl) hS1)
    · cases hs
  · cases hs
theorem am_isS_inv {ce : am_E} (h : am_isS ce = true) : ∃ fs, ce = .inr (7, fs) := by
  unfold am_isS at h
  split at h
  · exact ⟨_, rfl⟩
  · cases h
theorem am_wa_W {j : Int32} {x : Nat} {k : Nat} {r : List Value} {c2 : am_E} (hx : p.tables.exec = Jvm.exec) (hb : c.code = am_by y) (hU : am_U tS b base L xs hp D cI cJ cS s) (hS : va_S (am_Ab base) s.heap H locs) (hR : am_R tS b base L xs hp D cI cJ cS h H)
    (hv : am_isS (h.2.2 x) = true) (hs : am_wa (h.2.2 k) j x = some c2) (hd : decode (am_by y) pc = .ok (.aastore, 1))
    (kk : ∀ H' locs', am_R tS b base L xs hp D cI cJ cS (am_set h k c2) H' → va_S (am_Ab base) s.heap H' locs' → W p l e R s m args below meth c H' locs' cells slots Q (F0 m (pc + 1) ls (r.map (am_tr (am_ad tS b base))))) : W p l e R s m args below meth c H locs cells slots Q (F0 m pc ls ((.ref x :: .int j :: .ref k :: r).map (am_tr (am_ad tS b base)))) := by
  generalize hce : h.2.2 k = ce at hs
  unfold am_wa at hs
  split at hs
  · split at hs
    · rename_i hi
      cases hs
      obtain ⟨k2, kl⟩ := am_rng hR hce (by intro z; cases z) (by intro z; cases z) (by intro z; cases z)
      have hat := hR.at k2 kl
      rw [hce] at hat
      obtain ⟨fs, hx7⟩ := am_isS_inv hv
      obtain ⟨x2, xl⟩ := am_rng hR hx7 (by intro z; cases z) (by intro z; cases z) (by intro z; cases z)
      have hax := hR.at x2 xl
      rw [hx7] at hax
      refine va_astq hx hb hU.1 hR.1 (am_D _ _ h) hS (k - 2) 2 (x - 2) 7 hat (r := (RX7, TX7, 1)) rfl hax rfl (am_inB hi) hd (fun H1 locs1 hP1 _ hS1 => kk H1 locs1 (hR.set k2 kl ?_ rfl) hS1)
      rw [am_upq] at hP1
      exact hP1
    · cases hs
  · cases hs
theorem am_wc_W {idx : Nat} {n dp sp : Int32} {k0 k1 : Nat} {r : List Value} {c2 : am_E} (hx : p.tables.exec = Jvm.exec) (hb : c.code = am_by y) (hml : c.maxLocals = ls.size) (hown : s.vm.findClass (am_nm (am_oc y)) = some m.cls) (hw : am_Wd args s) (hlink : (Cond.methodLink (am_nm (am_oc y)) idx arraycopyName).before args s = true) (hfr : 1 ≤ R.frames) (hlo : 64 ≤ R.locals) (hcat : (r.map Value.category).sum ≤ 8) (hU : am_U tS b base L xs hp D cI cJ cS s) (hS : va_S (am_Ab base) s.heap H locs) (hR : am_R tS b base L xs hp D cI cJ cS h H)
    (hs : am_wc (h.2.2 k0) (h.2.2 k1) sp dp n = some c2) (hd : decode (am_by y) pc = .ok (.invokestatic idx, 3))
    (kk : ∀ H' locs', am_R tS b base L xs hp D cI cJ cS (am_set h k1 c2) H' → va_S (am_Ab base) s.heap H' locs' → W p l e R s m args below meth c H' locs' cells slots Q (F0 m (pc + 3) ls (r.map (am_tr (am_ad tS b base))))) : W p l e R s m args below meth c H locs cells slots Q (F0 m pc ls ((.int n :: .int dp :: .ref k1 :: .int sp :: .ref k0 :: r).map (am_tr (am_ad tS b base)))) := by
  generalize hce : h.2.2 k0 = ce at hs
  generalize hcf : h.2.2 k1 = cf at hs
  unfold am_wc at hs
  split at hs
  · split at hs
    · rename_i hi
      obtain ⟨h1, h2, h3, h4, h5⟩ := hi
      cases hs
      have hnf : nativeFrameWords "java/lang/System" "arraycopy" 5 ≤ 40 := by decide +kernel
      obtain ⟨k2, kl⟩ := am_rng hR hce (by intro z; cases z) (by intro z; cases z) (by intro z; cases z)
      have hat := hR.at k2 kl
      rw [hce] at hat
      obtain ⟨x2, xl⟩ := am_rng hR hcf (by intro z; cases z) (by intro z; cases z) (by intro z; cases z)
      have hax := hR.at x2 xl
      rw [hcf] at hax
      exact va_copyi hx hb hml hown hlink (hw _ am_w_an rfl) (hw _ am_w_as rfl) (hw _ am_w_ai rfl) hU.1 hR.1 (am_D _ _ h) hS (k0 - 2) (k1 - 2) 0 0 hat hax (ty := .int) rfl rfl rfl h1 h2 h3 h4 h5 (fun _ _ => rfl) hfr (by rw [am_map_cat]; omega) hd (fun H1 locs1 hP1 _ hS1 => kk H1 locs1 (hR.set x2 xl hP1 rfl) hS1)
    · cases hs
  · cases hs
end HOP2
