/-! LOCALS AND JUMPS -/
section LOP
variable {p : Program} {l : Launch} {e : Env} {R : Room} {s : State} {m : MethodId} {args : Array Value} {below : List Frame} {meth : Method} {c : Code} {H : Heap} {locs : List Loc} {cells slots : Nat} {Q : State → Prop}
variable {ad : Nat → Nat} {y pc len : Nat} {ri i : Instr} {al al' st st' : List Value} {ls : Array Slot}
theorem am_lop_len (hs : am_lop i al st = some (al', st')) : al'.length = al.length := by
  unfold am_lop at hs
  split at hs
  · split at hs
    · split at hs
      · cases hs; rw [List.length_set]
      · cases hs
    · cases hs
  · split at hs
    · split at hs
      · cases hs; rw [List.length_set]
      · cases hs
    · cases hs
  · split at hs
    · split at hs
      · cases hs; rw [List.length_set, List.length_set]
      · cases hs
    · cases hs
  · split at hs
    · split at hs
      · cases hs; rw [List.length_set]
      · cases hs
    · cases hs
  · cases hs
set_option maxHeartbeats 8000000 in
theorem am_lop_W (hx : p.tables.exec = Jvm.exec) (hb : c.code = am_by y) (hL : am_Lo ad al ls) (hd : decode (am_by y) pc = .ok (ri, len)) (hc : am_conv y pc len ri = some i) (hs : am_lop i al st = some (al', st'))
    (k : ∀ ls', am_Lo ad al' ls' → W p l e R s m args below meth c H locs cells slots Q (F0 m (pc + len) ls' (st'.map (am_tr ad)))) : W p l e R s m args below meth c H locs cells slots Q (F0 m pc ls (st.map (am_tr ad))) := by
  cases ri
  case istore n =>
    obtain ⟨h1, rfl⟩ := am_if_inv hc
    obtain rfl := am_len_inv h1
    simp only [am_lop] at hs
    split at hs
    · rename_i x r
      split at hs
      · rename_i hok
        cases hs
        exact lv_istore hx hb hd hL.has (am_ok_lt hok) rfl (fun ls' h => k ls' (am_Lo.set (v := .int _) hok h))
      · cases hs
    · cases hs
  case istore_n n =>
    obtain ⟨h1, rfl⟩ := am_if_inv hc
    obtain rfl := am_len_inv h1
    simp only [am_lop] at hs
    split at hs
    · rename_i x r
      split at hs
      · rename_i hok
        cases hs
        exact lv_istore_n hx hb hd rfl hL.has (am_ok_lt hok) rfl (fun ls' h => k ls' (am_Lo.set (v := .int _) hok h))
      · cases hs
    · cases hs
  case astore n =>
    obtain ⟨h1, rfl⟩ := am_if_inv hc
    obtain rfl := am_len_inv h1
    simp only [am_lop] at hs
    split at hs
    · rename_i x r
      split at hs
      · rename_i hok
        cases hs
        exact lv_astore hx hb hd hL.has (am_ok_lt hok) rfl (fun ls' h => k ls' (am_Lo.set (v := .ref _) hok h))
      · cases hs
    · cases hs
  case astore_n n =>
    obtain ⟨h1, rfl⟩ := am_if_inv hc
    obtain rfl := am_len_inv h1
    simp only [am_lop] at hs
    split at hs
    · rename_i x r
      split at hs
      · rename_i hok
        cases hs
        exact lv_astore_n hx hb hd rfl hL.has (am_ok_lt hok) rfl (fun ls' h => k ls' (am_Lo.set (v := .ref _) hok h))
      · cases hs
    · cases hs
  case lstore n =>
    obtain ⟨h1, rfl⟩ := am_if_inv hc
    obtain rfl := am_len_inv h1
    simp only [am_lop] at hs
    split at hs
    · rename_i x r
      split at hs
      · rename_i hok
        cases hs
        exact lv_lstore hx hb hd hL.has (by simp only [Bool.and_eq_true, decide_eq_true_eq] at hok; exact hok.2) rfl (fun ls' h => k ls' (am_Lo.setL (v := .long _) (Bool.and_eq_true_iff.mp hok).1 h))
      · cases hs
    · cases hs
  case lstore_n n =>
    obtain ⟨h1, rfl⟩ := am_if_inv hc
    obtain rfl := am_len_inv h1
    simp only [am_lop] at hs
    split at hs
    · rename_i x r
      split at hs
      · rename_i hok
        cases hs
        exact lv_lstore_n hx hb hd rfl hL.has (by simp only [Bool.and_eq_true, decide_eq_true_eq] at hok; exact hok.2) rfl (fun ls' h => k ls' (am_Lo.setL (v := .long _) (Bool.and_eq_true_iff.mp hok).1 h))
      · cases hs
    · cases hs
  case iinc n q =>
    obtain ⟨h1, rfl⟩ := am_if_inv hc
    obtain rfl := am_len_inv h1
    simp only [am_lop] at hs
    split at hs
    · rename_i x hv
      split at hs
      · rename_i hok
        cases hs
        obtain ⟨j, hj⟩ := List.getElem?_of_mem (am_fx_mem (ad := ad) (k := n) (w := .int x) |>.mpr ⟨.int x, hv, (by intro q; cases q), rfl⟩)
        exact lv_iinc hx hb hd hL.has hj rfl (am_ok_lt hok) rfl (fun ls' h => k ls' (am_Lo.set (v := .int _) hok h))
      · cases hs
    · cases hs
  case getfield n =>
    simp only [am_conv] at hc
    split at hc
    · obtain ⟨h1, rfl⟩ := am_if_inv hc
      cases hs
    · cases hc
  case putfield n =>
    simp only [am_conv] at hc
    split at hc
    · obtain ⟨h1, rfl⟩ := am_if_inv hc
      cases hs
    · cases hc
  case invokevirtual n =>
    simp only [am_conv] at hc
    split at hc
    · obtain ⟨h1, rfl⟩ := am_if_inv hc
      cases hs
    · cases hc
  case new n =>
    simp only [am_conv] at hc
    split at hc
    · obtain ⟨h1, rfl⟩ := am_if_inv hc
      cases hs
    · cases hc
  case anewarray n =>
    simp only [am_conv] at hc
    split at hc
    · obtain ⟨h1, rfl⟩ := am_if_inv hc
      cases hs
    · cases hc
  case ldc n =>
    simp only [am_conv] at hc
    split at hc
    · obtain ⟨h1, rfl⟩ := am_if_inv hc
      cases hs
    · cases hc
  case ldc_w n =>
    simp only [am_conv] at hc
    split at hc
    · obtain ⟨h1, rfl⟩ := am_if_inv hc
      cases hs
    · cases hc
  case ldc2_w n =>
    simp only [am_conv] at hc
    split at hc
    · obtain ⟨h1, rfl⟩ := am_if_inv hc
      cases hs
    · cases hc
  case ireturn =>
    simp only [am_conv] at hc
    split at hc
    · obtain ⟨h1, rfl⟩ := am_if_inv hc
      cases hs
    · obtain ⟨h1, rfl⟩ := am_if_inv hc
      cases hs
  case invokespecial n =>
    simp only [am_conv] at hc
    repeat' split at hc
    all_goals first | (cases hc; done) | (obtain ⟨h1, rfl⟩ := am_if_inv hc; cases hs; done)
  case invokestatic n =>
    simp only [am_conv] at hc
    repeat' split at hc
    all_goals first | (cases hc; done) | (obtain ⟨h1, rfl⟩ := am_if_inv hc; cases hs; done)
  all_goals (obtain ⟨h1, rfl⟩ := am_if_inv hc; first | (cases hs; done) | (simp [am_plain] at h1; done))
theorem am_tgt {pc : Nat} {o : Int} (h : 0 ≤ (pc : Int) + o) : (pc : Int) + o = (((pc : Int) + o).toNat : Int) := (Int.toNat_of_nonneg h).symm
set_option maxHeartbeats 8000000 in
theorem am_jop_W {t : Option Nat} (hx : p.tables.exec = Jvm.exec) (hb : c.code = am_by y) (hd : decode (am_by y) pc = .ok (ri, len)) (hc : am_conv y pc len ri = some i) (hs : am_jop i st = some (t, st'))
    (kt : ∀ g, t = some g → W p l e R s m args below meth c H locs cells slots Q (F0 m g ls (st'.map (am_tr ad)))) (kf : t = none → am_end i = false → W p l e R s m args below meth c H locs cells slots Q (F0 m (pc + len) ls (st'.map (am_tr ad)))) : W p l e R s m args below meth c H locs cells slots Q (F0 m pc ls (st.map (am_tr ad))) := by
  cases ri
  case goto q =>
    obtain ⟨h1, rfl⟩ := am_if_inv hc
    simp only [Bool.and_eq_true, decide_eq_true_eq] at h1
    obtain rfl := am_len_inv h1.1
    cases hs
    exact lv_goto hx hb hd (am_tgt h1.2) (kt _ rfl)
  case ifCond cn q =>
    obtain ⟨h1, rfl⟩ := am_if_inv hc
    simp only [Bool.and_eq_true, decide_eq_true_eq] at h1
    obtain rfl := am_len_inv h1.1
    simp only [am_jop] at hs
    split at hs
    · cases hs
      cases cn
      · exact lv_if_eq hx hb hd (am_tgt h1.2) (fun h => kt _ (by simp [am_cb, h])) (fun h => kf (by simp [am_cb, h]) rfl)
      · exact lv_if_ne hx hb hd (am_tgt h1.2) (fun h => kt _ (by simp [am_cb, h])) (fun h => kf (by simp [am_cb, h]) rfl)
      · exact lv_if_lt hx hb hd (am_tgt h1.2) (fun h => kt _ (by simp [am_cb, h])) (fun h => kf (by simp [am_cb, h]) rfl)
      · exact lv_if_ge hx hb hd (am_tgt h1.2) (fun h => kt _ (by simp [am_cb, h])) (fun h => kf (by simp [am_cb, h]) rfl)
      · exact lv_if_gt hx hb hd (am_tgt h1.2) (fun h => kt _ (by simp [am_cb, h])) (fun h => kf (by simp [am_cb, h]) rfl)
      · exact lv_if_le hx hb hd (am_tgt h1.2) (fun h => kt _ (by simp [am_cb, h])) (fun h => kf (by simp [am_cb, h]) rfl)
    · cases hs
  case if_icmp cn q =>
    obtain ⟨h1, rfl⟩ := am_if_inv hc
    simp only [Bool.and_eq_true, decide_eq_true_eq] at h1
    obtain rfl := am_len_inv h1.1
    simp only [am_jop] at hs
    split at hs
    · cases hs
      cases cn
      · exact lv_icmp_eq hx hb hd (am_tgt h1.2) (fun h => kt _ (by simp [am_cb, h])) (fun h => kf (by simp [am_cb, h]) rfl)
      · exact lv_icmp_ne hx hb hd (am_tgt h1.2) (fun h => kt _ (by simp [am_cb, h])) (fun h => kf (by simp [am_cb, h]) rfl)
      · exact lv_icmp_lt hx hb hd (am_tgt h1.2) (fun h => kt _ (by simp [am_cb, h])) (fun h => kf (by simp [am_cb, h]) rfl)
      · exact lv_icmp_ge hx hb hd (am_tgt h1.2) (fun h => kt _ (by simp [am_cb, h])) (fun h => kf (by simp [am_cb, h]) rfl)
      · exact lv_icmp_gt hx hb hd (am_tgt h1.2) (fun h => kt _ (by simp [am_cb, h])) (fun h => kf (by simp [am_cb, h]) rfl)
      · exact lv_icmp_le hx hb hd (am_tgt h1.2) (fun h => kt _ (by simp [am_cb, h])) (fun h => kf (by simp [am_cb, h]) rfl)
    · cases hs
  case tableswitch dd lo hi ts =>
    obtain ⟨h1, rfl⟩ := am_if_inv hc
    simp only [Bool.and_eq_true, decide_eq_true_eq] at h1
    simp only [am_jop] at hs
    split at hs
    · split at hs
      · rename_i hr
        cases hs
        exact lv_tableOut hx hb hd hr (am_tgt h1.1) (kt _ rfl)
      · rename_i hr
        split at hs
        · rename_i q hq
          cases hs
          rw [Array.getElem?_map, Option.map_eq_some_iff] at hq
          obtain ⟨off, ho, rfl⟩ := hq
          have h9 := Array.all_eq_true_iff_forall_mem.mp h1.2 off (Array.mem_of_getElem? ho)
          simp only [decide_eq_true_eq] at h9
          exact lv_tableIn hx hb hd (fun z => hr (Or.inl z)) (fun z => hr (Or.inr z)) ho (am_tgt h9) (kt _ rfl)
        · cases hs
    · cases hs
  case getfield n =>
    simp only [am_conv] at hc
    split at hc
    · obtain ⟨h1, rfl⟩ := am_if_inv hc
      cases hs
    · cases hc
  case putfield n =>
    simp only [am_conv] at hc
    split at hc
    · obtain ⟨h1, rfl⟩ := am_if_inv hc
      cases hs
    · cases hc
  case invokevirtual n =>
    simp only [am_conv] at hc
    split at hc
    · obtain ⟨h1, rfl⟩ := am_if_inv hc
      cases hs
    · cases hc
  case new n =>
    simp only [am_conv] at hc
    split at hc
    · obtain ⟨h1, rfl⟩ := am_if_inv hc
      cases hs
    · cases hc
  case anewarray n =>
    simp only [am_conv] at hc
    split at hc
    · obtain ⟨h1, rfl⟩ := am_if_inv hc
      cases hs
    · cases hc
  case ldc n =>
    simp only [am_conv] at hc
    split at hc
    · obtain ⟨h1, rfl⟩ := am_if_inv hc
      cases hs
    · cases hc
  case ldc_w n =>
    simp only [am_conv] at hc
    split at hc
    · obtain ⟨h1, rfl⟩ := am_if_inv hc
      cases hs
    · cases hc
  case ldc2_w n =>
    simp only [am_conv] at hc
    split at hc
    · obtain ⟨h1, rfl⟩ := am_if_inv hc
      cases hs
    · cases hc
  case ireturn =>
    simp only [am_conv] at hc
    split at hc
    · obtain ⟨h1, rfl⟩ := am_if_inv hc
      cases hs
    · obtain ⟨h1, rfl⟩ := am_if_inv hc
      cases hs
  case invokespecial n =>
    simp only [am_conv] at hc
    repeat' split at hc
    all_goals first | (cases hc; done) | (obtain ⟨h1, rfl⟩ := am_if_inv hc; cases hs; done)
  case invokestatic n =>
    simp only [am_conv] at hc
    repeat' split at hc
    all_goals first | (cases hc; done) | (obtain ⟨h1, rfl⟩ := am_if_inv hc; cases hs; done)
  all_goals (obtain ⟨h1, rfl⟩ := am_if_inv hc; first | (cases hs; done) | (simp [am_plain] at h1; done))
end LOP
