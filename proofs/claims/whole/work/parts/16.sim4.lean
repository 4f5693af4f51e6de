/-! THE SIMULATION: all steps -/
theorem am_end_sop {i : Instr} {al st st' : List Value} (h : am_sop i al st = some st') : am_end i = false := by
  cases i <;> first | rfl | (simp [am_sop] at h; done)
theorem am_end_lop {i : Instr} {al st : List Value} {z : List Value × List Value} (h : am_lop i al st = some z) : am_end i = false := by
  cases i <;> first | rfl | (simp [am_lop] at h; done)
theorem am_end_hop {i : Instr} {st : List Value} {hh : am_H} {z : List Value × am_H} (h : am_hop i st hh = some z) : am_end i = false := by
  cases i <;> first | rfl | (simp [am_hop] at h; done)
theorem am_end_call {i : Instr} {st : List Value} {hh : am_H} {z : Nat × List Value × List Value} (h : am_call i st hh = some z) : am_end i = false := by
  cases i <;> first | rfl | (simp [am_call] at h; done)
theorem am_ret_conv {y pc len : Nat} {ri i : Instr} {st : List Value} {v : Option Value} (hc : am_conv y pc len ri = some i) (hs : am_ret i st = some v) : len = 1 ∧ am_rk y v ri ∧ st = v.toList := by
  cases ri
  case ireturn =>
    simp only [am_conv] at hc
    split at hc
    · rename_i hb
      obtain ⟨g1, rfl⟩ := am_if_inv hc
      obtain rfl := am_len_inv g1
      simp only [am_ret] at hs
      split at hs
      · split at hs
        · rename_i hz
          cases hs
          exact ⟨rfl, ⟨rfl, Or.inr ⟨hb, hz⟩⟩, rfl⟩
        · cases hs
      · cases hs
    · obtain ⟨g1, rfl⟩ := am_if_inv hc
      simp only [Bool.and_eq_true, decide_eq_true_eq] at g1
      obtain rfl := am_len_inv g1.1
      simp only [am_ret] at hs
      split at hs
      · cases hs
        exact ⟨rfl, ⟨rfl, Or.inl g1.2⟩, rfl⟩
      · cases hs
  case lreturn =>
    obtain ⟨g1, rfl⟩ := am_if_inv hc
    simp only [Bool.and_eq_true, decide_eq_true_eq] at g1
    obtain rfl := am_len_inv g1.1
    simp only [am_ret] at hs
    split at hs
    · cases hs
      exact ⟨rfl, ⟨rfl, g1.2⟩, rfl⟩
    · cases hs
  case return_ =>
    obtain ⟨g1, rfl⟩ := am_if_inv hc
    simp only [Bool.and_eq_true, decide_eq_true_eq] at g1
    obtain rfl := am_len_inv g1.1
    simp only [am_ret] at hs
    split at hs
    · cases hs
      exact ⟨rfl, ⟨rfl, g1.2⟩, rfl⟩
    · cases hs
  case invokespecial n =>
    simp only [am_conv] at hc
    repeat' split at hc
    all_goals first | (cases hc; done) | (obtain ⟨g1, rfl⟩ := am_if_inv hc; cases hs; done)
  case invokestatic n =>
    simp only [am_conv] at hc
    repeat' split at hc
    all_goals first | (cases hc; done) | (obtain ⟨g1, rfl⟩ := am_if_inv hc; cases hs; done)
  all_goals first
    | (obtain ⟨g1, rfl⟩ := am_if_inv hc; first | (cases hs; done) | (simp [am_plain] at g1; done))
    | (simp only [am_conv] at hc; split at hc; (obtain ⟨g1, rfl⟩ := am_if_inv hc; cases hs); (cases hc))
theorem am_okb_cons {y pc nx : Nat} {i : Instr} {is : List Instr} (h : am_okb y pc (i :: is) nx = true) : ∃ ri len, decode (am_by y) pc = .ok (ri, len) ∧ am_conv y pc len ri = some i ∧ (am_end i = false → am_okb y (pc + len) is nx = true) := by
  rw [am_okb] at h
  split at h
  · rename_i ri len hd
    simp only [Bool.and_eq_true, decide_eq_true_eq, Bool.or_eq_true] at h
    refine ⟨ri, len, hd, h.1, fun he => ?_⟩
    rcases h.2 with z | z
    · rw [he] at z; cases z
    · exact z
  · cases h
set_option maxHeartbeats 8000000 in
theorem am_sim : ∀ n, am_Sim n := by
  intro n
  induction n with
  | zero =>
    intro d y nx is al st h h' v hev
    simp [am_ev] at hev
  | succ n IH =>
    intro d y nx is al st h h' v hev tS b base L xs hp D cI cJ cS p l e R s m args below meth c H locs cells slots Q pc ls hx hb hml hal hown hmi hw hU hS hR hL hfr hlo hE hce hse hok hend
    cases is with
    | nil =>
      rw [am_ev] at hev
      split at hev
      · rename_i bb hbb
        obtain ⟨is', nx'⟩ := bb
        have hpc : pc = nx := by rw [am_okb] at hok; simpa using hok
        subst hpc
        exact IH d y nx' is' al st h h' v hev tS b base L xs hp D cI cJ cS p l e R s m args below meth c H locs cells slots Q pc ls hx hb hml hal hown hmi hw hU hS hR hL hfr hlo hE hce hse (am_code_ok hbb).1 hend
      · cases hev
    | cons i is =>
      obtain ⟨ri, len, hd, hc, hrest⟩ := am_okb_cons hok
      rw [am_ev] at hev
      split at hev
      · rename_i v1 hret
        cases hev
        obtain ⟨rfl, hk, rfl⟩ := am_ret_conv hc hret
        have := hend H locs pc ls ri hR hS hd hk
        simp only [Nat.sub_self, Nat.add_zero] at this
        exact this
      · split at hev
        · rename_i q as r hcall
          split at hev
          · rename_i hcond
            split at hev
            · cases hev
            · rename_i d'
              split at hev
              · rename_i v1 h1 hev1
                have m1 := am_ev_mono _ _ _ _ _ _ hev1
                have m2 := am_ev_mono _ _ _ _ _ _ hev
                refine am_call_W IH hx hb hml hal hL hown hw hU hS hR (by omega) (by omega) hE (by omega) (by omega) hd hc hcall hcond.1 hcond.2 hev1 (fun H' locs' hR' hS' => ?_)
                refine IH (d' + 1) y nx is al (v1.toList ++ r) h1 h' v hev tS b base L xs hp D cI cJ cS p l e R s m args below meth c H' locs' _ _ Q (pc + len) ls hx hb hml hal hown hmi hw hU hS' hR' hL hfr hlo (by omega) (by omega) (by omega) (hrest (am_end_call hcall)) (fun H2 locs2 pc2 ls2 i2 a1 a2 a3 a4 => ?_)
                have := hend H2 locs2 pc2 ls2 i2 a1 a2 a3 a4
                rw [show cells + (h1.1 - h.1) + (h'.1 - h1.1) = cells + (h'.1 - h.1) by omega, show slots + (h1.2.1 - h.2.1) + (h'.2.1 - h1.2.1) = slots + (h'.2.1 - h.2.1) by omega]
                exact this
              · cases hev
          · cases hev
        · split at hev
          · rename_i F h1 hstp
            have m1 := am_stp_mono hstp
            have m2 := am_ev_mono _ _ _ _ _ _ hev
            unfold am_stp at hstp
            split at hstp
            · rename_i st' hsop
              cases hstp
              refine am_sop_W hx hb hml hal hown hw hU hS (by omega) (by omega) (by omega) (by omega) hL hd hc hsop ?_
              exact IH d y nx is al st' h h' v hev tS b base L xs hp D cI cJ cS p l e R s m args below meth c H locs cells slots Q (pc + len) ls hx hb hml hal hown hmi hw hU hS hR hL hfr hlo hE hce hse (hrest (am_end_sop hsop)) hend
            · split at hstp
              · rename_i z hlop
                obtain ⟨al', st'⟩ := z
                cases hstp
                refine am_lop_W hx hb hL hd hc hlop (fun ls' hL' => ?_)
                exact IH d y nx is al' st' h h' v hev tS b base L xs hp D cI cJ cS p l e R s m args below meth c H locs cells slots Q (pc + len) ls' hx hb hml (by rw [am_lop_len hlop]; exact hal) hown hmi hw hU hS hR hL' hfr hlo hE hce hse (hrest (am_end_lop hlop)) hend
              · split at hstp
                · rename_i z hhop
                  obtain ⟨st', h2⟩ := z
                  cases hstp
                  refine am_hop_W hx hb hml hal hL hown hmi hw hU hS hR (by omega) (by omega) hE (by dsimp only at m1 m2; omega) (by dsimp only at m1 m2; omega) hd hc hhop (fun H' locs' hR' hS' => ?_)
                  dsimp only at m1 m2
                  refine IH d y nx is al st' h2 h' v hev tS b base L xs hp D cI cJ cS p l e R s m args below meth c H' locs' _ _ Q (pc + len) ls hx hb hml hal hown hmi hw hU hS' hR' hL hfr hlo (by omega) (by omega) (by omega) (hrest (am_end_hop hhop)) (fun H2 locs2 pc2 ls2 i2 a1 a2 a3 a4 => ?_)
                  have := hend H2 locs2 pc2 ls2 i2 a1 a2 a3 a4
                  rw [show cells + (h2.1 - h.1) + (h'.1 - h2.1) = cells + (h'.1 - h.1) by omega, show slots + (h2.2.1 - h.2.1) + (h'.2.1 - h2.2.1) = slots + (h'.2.1 - h.2.1) by omega]
                  exact this
                · split at hstp
                  · rename_i t st' hjop
                    cases hstp
                    refine am_jop_W hx hb hd hc hjop (fun g hg => ?_) (fun hg => by cases hg)
                    cases hg
                    exact IH d y t [] al st' h h' v hev tS b base L xs hp D cI cJ cS p l e R s m args below meth c H locs cells slots Q t ls hx hb hml hal hown hmi hw hU hS hR hL hfr hlo hE hce hse (by rw [am_okb]; simp) hend
                  · rename_i st' hjop
                    cases hstp
                    refine am_jop_W hx hb hd hc hjop (fun g hg => by cases hg) (fun _ hend' => ?_)
                    exact IH d y nx is al st' h h' v hev tS b base L xs hp D cI cJ cS p l e R s m args below meth c H locs cells slots Q (pc + len) ls hx hb hml hal hown hmi hw hU hS hR hL hfr hlo hE hce hse (hrest hend') hend
                  · cases hstp
          · cases hev
