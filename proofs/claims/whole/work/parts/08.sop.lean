/-! STACK INSTRUCTIONS -/
theorem am_i1_inv {f : Int32 → Int32} {st st' : List Value} (h : am_i1 f st = some st') : ∃ a r, st = .int a :: r ∧ st' = .int (f a) :: r := by
  unfold am_i1 at h
  split at h
  · cases h; exact ⟨_, _, rfl, rfl⟩
  · cases h
theorem am_i2_inv {f : Int32 → Int32 → Int32} {st st' : List Value} (h : am_i2 f st = some st') : ∃ a b r, st = .int b :: .int a :: r ∧ st' = .int (f a b) :: r := by
  unfold am_i2 at h
  split at h
  · cases h; exact ⟨_, _, _, rfl, rfl⟩
  · cases h
theorem am_d2_inv {f : Int32 → Int32 → Int32} {st st' : List Value} (h : am_d2 f st = some st') : ∃ a b r, st = .int b :: .int a :: r ∧ st' = .int (f a b) :: r ∧ ¬ b = 0 := by
  unfold am_d2 at h
  split at h
  · rename_i b a r
    by_cases hb : b = 0
    · rw [if_pos hb] at h; cases h
    · rw [if_neg hb] at h; cases h; exact ⟨_, _, _, rfl, rfl, hb⟩
  · cases h
theorem am_l2_inv {f : Int64 → Int64 → Int64} {st st' : List Value} (h : am_l2 f st = some st') : ∃ a b r, st = .long b :: .long a :: r ∧ st' = .long (f a b) :: r := by
  unfold am_l2 at h
  split at h
  · cases h; exact ⟨_, _, _, rfl, rfl⟩
  · cases h
theorem am_e2_inv {f : Int64 → Int64 → Int64} {st st' : List Value} (h : am_e2 f st = some st') : ∃ a b r, st = .long b :: .long a :: r ∧ st' = .long (f a b) :: r ∧ ¬ b = 0 := by
  unfold am_e2 at h
  split at h
  · rename_i b a r
    by_cases hb : b = 0
    · rw [if_pos hb] at h; cases h
    · rw [if_neg hb] at h; cases h; exact ⟨_, _, _, rfl, rfl, hb⟩
  · cases h
theorem am_s2_inv {f : Int64 → Int32 → Int64} {st st' : List Value} (h : am_s2 f st = some st') : ∃ a b r, st = .int b :: .long a :: r ∧ st' = .long (f a b) :: r := by
  unfold am_s2 at h
  split at h
  · cases h; exact ⟨_, _, _, rfl, rfl⟩
  · cases h
theorem am_ld_inv {ls st st' : List Value} {k : Nat} {w : Value → Bool} (h : am_ld ls k w st = some st') : ∃ v, ls[k]? = some v ∧ w v = true ∧ st' = v :: st := by
  unfold am_ld at h
  split at h
  · rename_i v hv
    by_cases hw : w v = true
    · rw [if_pos hw] at h; cases h; exact ⟨v, hv, hw, rfl⟩
    · rw [if_neg hw] at h; cases h
  · cases h
theorem am_isI_inv {v : Value} (h : am_isI v = true) : ∃ x, v = .int x := by
  cases v <;> first | exact ⟨_, rfl⟩ | cases h
theorem am_isL_inv {v : Value} (h : am_isL v = true) : ∃ x, v = .long x := by
  cases v <;> first | exact ⟨_, rfl⟩ | cases h
theorem am_isR_inv {v : Value} (h : am_isR v = true) : ∃ x, v = .ref x := by
  cases v <;> first | exact ⟨_, rfl⟩ | cases h
theorem am_if_inv {b : Bool} {i j : Instr} (h : am_if b i = some j) : b = true ∧ i = j := by
  unfold am_if at h
  by_cases hb : b = true
  · rw [if_pos hb] at h; exact ⟨hb, Option.some.inj h⟩
  · rw [if_neg hb] at h; cases h
theorem am_len_inv {a n : Nat} (h : (a == n) = true) : a = n := by simpa using h
section SOP
variable {p : Program} {l : Launch} {e : Env} {R : Room} {s : State} {m : MethodId} {args : Array Value} {below : List Frame} {meth : Method} {c : Code} {H : Heap} {locs : List Loc} {cells slots : Nat} {Q : State → Prop}
variable {tS b base L : Nat} {xs : Nat → Int32} {hp : Nat → Int64} {D : va_G} {cI cJ cS : ClassId}
variable {y pc len : Nat} {ri i : Instr} {al st st' : List Value} {ls : Array Slot}
set_option maxHeartbeats 8000000 in
theorem am_sop_W (hx : p.tables.exec = Jvm.exec) (hb : c.code = am_by y) (hml : c.maxLocals = am_nl y) (hal : al.length = am_nl y) (hown : s.vm.findClass (am_nm (am_oc y)) = some m.cls) (hw : am_Wd args s) (hU : am_U tS b base L xs hp D cI cJ cS s) (hS : va_S (am_Ab base) s.heap H locs)
    (hfr : 1 ≤ R.frames) (hlo : 64 ≤ R.locals) (hce : cells ≤ R.cells) (hse : slots ≤ R.slots) (hL : am_Lo (am_ad tS b base) al ls) (hd : decode (am_by y) pc = .ok (ri, len)) (hc : am_conv y pc len ri = some i) (hs : am_sop i al st = some st')
    (k : W p l e R s m args below meth c H locs cells slots Q (F0 m (pc + len) ls (st'.map (am_tr (am_ad tS b base))))) : W p l e R s m args below meth c H locs cells slots Q (F0 m pc ls (st.map (am_tr (am_ad tS b base)))) := by
  have hmls : c.maxLocals = ls.size := by rw [hml, ← hal, hL.1]
  cases ri
  case iadd =>
    obtain ⟨h1, rfl⟩ := am_if_inv hc
    obtain rfl := am_len_inv (Bool.and_eq_true_iff.mp h1).1
    obtain ⟨x, z, r, rfl, rfl⟩ := am_i2_inv hs
    exact lv_iadd hx hb hd k
  case isub =>
    obtain ⟨h1, rfl⟩ := am_if_inv hc
    obtain rfl := am_len_inv (Bool.and_eq_true_iff.mp h1).1
    obtain ⟨x, z, r, rfl, rfl⟩ := am_i2_inv hs
    exact lv_isub hx hb hd k
  case imul =>
    obtain ⟨h1, rfl⟩ := am_if_inv hc
    obtain rfl := am_len_inv (Bool.and_eq_true_iff.mp h1).1
    obtain ⟨x, z, r, rfl, rfl⟩ := am_i2_inv hs
    exact lv_imul hx hb hd k
  case iand =>
    obtain ⟨h1, rfl⟩ := am_if_inv hc
    obtain rfl := am_len_inv (Bool.and_eq_true_iff.mp h1).1
    obtain ⟨x, z, r, rfl, rfl⟩ := am_i2_inv hs
    exact lv_iand hx hb hd k
  case ior =>
    obtain ⟨h1, rfl⟩ := am_if_inv hc
    obtain rfl := am_len_inv (Bool.and_eq_true_iff.mp h1).1
    obtain ⟨x, z, r, rfl, rfl⟩ := am_i2_inv hs
    exact lv_ior hx hb hd k
  case ixor =>
    obtain ⟨h1, rfl⟩ := am_if_inv hc
    obtain rfl := am_len_inv (Bool.and_eq_true_iff.mp h1).1
    obtain ⟨x, z, r, rfl, rfl⟩ := am_i2_inv hs
    exact lv_ixor hx hb hd k
  case ishl =>
    obtain ⟨h1, rfl⟩ := am_if_inv hc
    obtain rfl := am_len_inv (Bool.and_eq_true_iff.mp h1).1
    obtain ⟨x, z, r, rfl, rfl⟩ := am_i2_inv hs
    exact lv_ishl hx hb hd k
  case ishr =>
    obtain ⟨h1, rfl⟩ := am_if_inv hc
    obtain rfl := am_len_inv (Bool.and_eq_true_iff.mp h1).1
    obtain ⟨x, z, r, rfl, rfl⟩ := am_i2_inv hs
    exact lv_ishr hx hb hd k
  case iushr =>
    obtain ⟨h1, rfl⟩ := am_if_inv hc
    obtain rfl := am_len_inv (Bool.and_eq_true_iff.mp h1).1
    obtain ⟨x, z, r, rfl, rfl⟩ := am_i2_inv hs
    exact lv_iushr hx hb hd rfl k
  case idiv =>
    obtain ⟨h1, rfl⟩ := am_if_inv hc
    obtain rfl := am_len_inv (Bool.and_eq_true_iff.mp h1).1
    obtain ⟨x, z, r, rfl, rfl, hz⟩ := am_d2_inv hs
    exact lv_idiv hx hb hd hz k
  case irem =>
    obtain ⟨h1, rfl⟩ := am_if_inv hc
    obtain rfl := am_len_inv (Bool.and_eq_true_iff.mp h1).1
    obtain ⟨x, z, r, rfl, rfl, hz⟩ := am_d2_inv hs
    exact lv_irem hx hb hd hz k
  case ineg =>
    obtain ⟨h1, rfl⟩ := am_if_inv hc
    obtain rfl := am_len_inv (Bool.and_eq_true_iff.mp h1).1
    obtain ⟨x, r, rfl, rfl⟩ := am_i1_inv hs
    exact lv_ineg hx hb hd k
  case ladd =>
    obtain ⟨h1, rfl⟩ := am_if_inv hc
    obtain rfl := am_len_inv (Bool.and_eq_true_iff.mp h1).1
    obtain ⟨x, z, r, rfl, rfl⟩ := am_l2_inv hs
    exact lv_ladd hx hb hd k
  case lsub =>
    obtain ⟨h1, rfl⟩ := am_if_inv hc
    obtain rfl := am_len_inv (Bool.and_eq_true_iff.mp h1).1
    obtain ⟨x, z, r, rfl, rfl⟩ := am_l2_inv hs
    exact lv_lsub hx hb hd k
  case lmul =>
    obtain ⟨h1, rfl⟩ := am_if_inv hc
    obtain rfl := am_len_inv (Bool.and_eq_true_iff.mp h1).1
    obtain ⟨x, z, r, rfl, rfl⟩ := am_l2_inv hs
    exact lv_lmul hx hb hd k
  case land =>
    obtain ⟨h1, rfl⟩ := am_if_inv hc
    obtain rfl := am_len_inv (Bool.and_eq_true_iff.mp h1).1
    obtain ⟨x, z, r, rfl, rfl⟩ := am_l2_inv hs
    exact lv_land hx hb hd k
  case lor =>
    obtain ⟨h1, rfl⟩ := am_if_inv hc
    obtain rfl := am_len_inv (Bool.and_eq_true_iff.mp h1).1
    obtain ⟨x, z, r, rfl, rfl⟩ := am_l2_inv hs
    exact lv_lor hx hb hd k
  case ldiv =>
    obtain ⟨h1, rfl⟩ := am_if_inv hc
    obtain rfl := am_len_inv (Bool.and_eq_true_iff.mp h1).1
    obtain ⟨x, z, r, rfl, rfl, hz⟩ := am_e2_inv hs
    exact lv_ldiv hx hb hd hz k
  case lrem =>
    obtain ⟨h1, rfl⟩ := am_if_inv hc
    obtain rfl := am_len_inv (Bool.and_eq_true_iff.mp h1).1
    obtain ⟨x, z, r, rfl, rfl, hz⟩ := am_e2_inv hs
    exact lv_lrem hx hb hd hz k
  case lshl =>
    obtain ⟨h1, rfl⟩ := am_if_inv hc
    obtain rfl := am_len_inv (Bool.and_eq_true_iff.mp h1).1
    obtain ⟨x, z, r, rfl, rfl⟩ := am_s2_inv hs
    exact lv_lshl hx hb hd rfl k
  case lushr =>
    obtain ⟨h1, rfl⟩ := am_if_inv hc
    obtain rfl := am_len_inv (Bool.and_eq_true_iff.mp h1).1
    obtain ⟨x, z, r, rfl, rfl⟩ := am_s2_inv hs
    exact lv_lushr hx hb hd rfl k
  case lcmp =>
    obtain ⟨h1, rfl⟩ := am_if_inv hc
    obtain rfl := am_len_inv (Bool.and_eq_true_iff.mp h1).1
    simp only [am_sop] at hs
    split at hs
    · cases hs; exact W.lcmp hx hb hd k
    · cases hs
  case i2l =>
    obtain ⟨h1, rfl⟩ := am_if_inv hc
    obtain rfl := am_len_inv (Bool.and_eq_true_iff.mp h1).1
    simp only [am_sop] at hs
    split at hs
    · cases hs; exact lv_i2l hx hb hd rfl k
    · cases hs
  case l2i =>
    obtain ⟨h1, rfl⟩ := am_if_inv hc
    obtain rfl := am_len_inv (Bool.and_eq_true_iff.mp h1).1
    simp only [am_sop] at hs
    split at hs
    · cases hs; exact lv_l2i hx hb hd rfl k
    · cases hs
  case dup =>
    obtain ⟨h1, rfl⟩ := am_if_inv hc
    obtain rfl := am_len_inv (Bool.and_eq_true_iff.mp h1).1
    simp only [am_sop] at hs
    split at hs
    · cases hs; exact lv_dup hx hb hd rfl k
    · cases hs; exact lv_dup hx hb hd rfl k
    · cases hs
  case pop =>
    obtain ⟨h1, rfl⟩ := am_if_inv hc
    obtain rfl := am_len_inv (Bool.and_eq_true_iff.mp h1).1
    simp only [am_sop] at hs
    split at hs
    · cases hs; exact lv_pop hx hb hd rfl k
    · cases hs; exact lv_pop hx hb hd rfl k
    · cases hs
  case dup2 =>
    obtain ⟨h1, rfl⟩ := am_if_inv hc
    obtain rfl := am_len_inv (Bool.and_eq_true_iff.mp h1).1
    simp only [am_sop] at hs
    split at hs
    · cases hs; exact lv_dup2_11 hx hb hd rfl rfl k
    · cases hs
  case iconst n =>
    obtain ⟨h1, rfl⟩ := am_if_inv hc
    obtain rfl := am_len_inv h1
    cases hs
    exact lv_iconst hx hb hd rfl k
  case bipush n =>
    obtain ⟨h1, rfl⟩ := am_if_inv hc
    simp only [Bool.and_eq_true, decide_eq_true_eq] at h1
    obtain rfl := am_len_inv h1.1
    cases hs
    exact lv_bipush hx hb hd h1.2 k
  case sipush n =>
    obtain ⟨h1, rfl⟩ := am_if_inv hc
    simp only [Bool.and_eq_true, decide_eq_true_eq] at h1
    obtain rfl := am_len_inv h1.1
    cases hs
    exact lv_sipush hx hb hd h1.2 k
  case lconst n =>
    obtain ⟨h1, rfl⟩ := am_if_inv hc
    obtain rfl := am_len_inv h1
    cases hs
    exact lv_lconst hx hb hd rfl k
  case ldc idx =>
    simp only [am_conv] at hc
    split at hc
    · rename_i q hq
      obtain ⟨h1, rfl⟩ := am_if_inv hc
      obtain rfl := am_len_inv h1
      cases hs
      have h2 := List.all_eq_true.mp am_ki_ok _ (am_lk hq)
      simp only [decide_eq_true_eq] at h2
      exact lv_ldc hx hb hown (hw _ (List.mem_of_getElem? h2) rfl) hd k
    · cases hc
  case ldc_w idx =>
    simp only [am_conv] at hc
    split at hc
    · rename_i q hq
      obtain ⟨h1, rfl⟩ := am_if_inv hc
      obtain rfl := am_len_inv h1
      cases hs
      have h2 := List.all_eq_true.mp am_ki_ok _ (am_lk hq)
      simp only [decide_eq_true_eq] at h2
      exact lv_ldcw hx hb hown (hw _ (List.mem_of_getElem? h2) rfl) hd k
    · cases hc
  case ldc2_w idx =>
    simp only [am_conv] at hc
    split at hc
    · rename_i q hq
      obtain ⟨h1, rfl⟩ := am_if_inv hc
      obtain rfl := am_len_inv h1
      cases hs
      have h2 := List.all_eq_true.mp am_kl_ok _ (am_lk hq)
      simp only [decide_eq_true_eq] at h2
      exact lv_ldc2 hx hb hown (hw _ (List.mem_of_getElem? h2) rfl) hd k
    · cases hc
  case iload n =>
    obtain ⟨h1, rfl⟩ := am_if_inv hc
    obtain rfl := am_len_inv h1
    obtain ⟨v, hv, hw1, rfl⟩ := am_ld_inv hs
    obtain ⟨x, rfl⟩ := am_isI_inv hw1
    exact lv_iload hx hb hd (hL.2.2 _ _ hv (by intro q; cases q)) k
  case iload_n n =>
    obtain ⟨h1, rfl⟩ := am_if_inv hc
    obtain rfl := am_len_inv h1
    obtain ⟨v, hv, hw1, rfl⟩ := am_ld_inv hs
    obtain ⟨x, rfl⟩ := am_isI_inv hw1
    exact lv_iload_n hx hb hd rfl (hL.2.2 _ _ hv (by intro q; cases q)) k
  case lload n =>
    obtain ⟨h1, rfl⟩ := am_if_inv hc
    obtain rfl := am_len_inv h1
    obtain ⟨v, hv, hw1, rfl⟩ := am_ld_inv hs
    obtain ⟨x, rfl⟩ := am_isL_inv hw1
    exact lv_lload hx hb hd (hL.2.2 _ _ hv (by intro q; cases q)) k
  case lload_n n =>
    obtain ⟨h1, rfl⟩ := am_if_inv hc
    obtain rfl := am_len_inv h1
    obtain ⟨v, hv, hw1, rfl⟩ := am_ld_inv hs
    obtain ⟨x, rfl⟩ := am_isL_inv hw1
    exact lv_lload_n hx hb hd rfl (hL.2.2 _ _ hv (by intro q; cases q)) k
  case aload n =>
    obtain ⟨h1, rfl⟩ := am_if_inv hc
    obtain rfl := am_len_inv h1
    obtain ⟨v, hv, hw1, rfl⟩ := am_ld_inv hs
    obtain ⟨x, rfl⟩ := am_isR_inv hw1
    exact lv_aload hx hb hd (hL.2.2 _ _ hv (by intro q; cases q)) k
  case aload_n n =>
    obtain ⟨h1, rfl⟩ := am_if_inv hc
    obtain rfl := am_len_inv h1
    obtain ⟨v, hv, hw1, rfl⟩ := am_ld_inv hs
    obtain ⟨x, rfl⟩ := am_isR_inv hw1
    exact lv_aload_n hx hb hd rfl (hL.2.2 _ _ hv (by intro q; cases q)) k
  case getstatic idx =>
    obtain ⟨h1, rfl⟩ := am_if_inv hc
    simp only [Bool.and_eq_true] at h1
    obtain rfl := am_len_inv h1.1.1
    obtain rfl := am_len_inv h1.2
    have h3 := am_len_inv h1.1.2
    cases hs
    have h2 := hw _ (List.mem_of_getElem? am_sg_ok) rfl
    rw [← h3] at h2
    exact va_gets hx hb hU.2.2.2.1 hS hown h2 (fun _ q => q) hd k
  case invokespecial idx =>
    simp only [am_conv] at hc
    split at hc
    · rename_i q hq
      split at hc
      · rename_i h9
        obtain ⟨h1, rfl⟩ := am_if_inv hc
        simp only [Bool.and_eq_true, Bool.not_eq_true'] at h1
        obtain rfl := am_len_inv h1.1
        simp only [am_sop] at hs
        split at hs
        · split at hs
          · rename_i hcat
            cases hs
            have h2 := List.all_eq_true.mp am_ml_ok _ (am_lk hq)
            simp only [am_ckm, h1.2, h9, Bool.and_eq_true, decide_eq_true_eq, if_true, Bool.false_eq_true, if_false] at h2
            exact W.objInit hx hb hown (hw _ (List.mem_of_getElem? h2.1) rfl) (hw _ am_w_oi rfl) (hw _ am_w_oc rfl) rfl (by rw [hmls]) rfl hd hfr (by show 2 * 0 + _ + 12 ≤ _; rw [am_map_cat]; omega) k
          · cases hs
        · cases hs
      · obtain ⟨h1, rfl⟩ := am_if_inv hc
        cases hs
    · cases hc
  case invokestatic idx =>
    simp only [am_conv] at hc
    split at hc
    · rename_i q hq
      have h2 := List.all_eq_true.mp am_ml_ok _ (am_lk hq)
      split at hc
      · obtain ⟨h1, rfl⟩ := am_if_inv hc
        cases hs
      · split at hc
        · rename_i h9
          obtain ⟨h1, rfl⟩ := am_if_inv hc
          simp only [Bool.and_eq_true, Bool.not_eq_true'] at h1
          obtain rfl := am_len_inv h1.1
          simp only [am_sop] at hs
          split at hs
          · split at hs
            · rename_i hcat
              cases hs
              simp [am_ckm, h1.2, h9] at h2
              exact va_mmin hx hb hmls hown (hw _ (List.mem_of_getElem? h2) rfl) (hw _ am_w_m1 rfl) (hw _ am_w_mi rfl) (hw _ am_w_n1 rfl) hfr (by rw [am_map_cat]; omega) hce hse hd k
            · cases hs
          · cases hs
        · split at hc
          · rename_i h9
            obtain ⟨h1, rfl⟩ := am_if_inv hc
            simp only [Bool.and_eq_true, Bool.not_eq_true'] at h1
            obtain rfl := am_len_inv h1.1
            simp only [am_sop] at hs
            split at hs
            · split at hs
              · rename_i hcat
                cases hs
                simp [am_ckm, h1.2, h9] at h2
                exact va_mmax hx hb hmls hown (hw _ (List.mem_of_getElem? h2) rfl) (hw _ am_w_m2 rfl) (hw _ am_w_mi rfl) (hw _ am_w_n2 rfl) hfr (by rw [am_map_cat]; omega) hce hse hd k
              · cases hs
            · cases hs
          · split at hc
            · rename_i h9
              obtain ⟨h1, rfl⟩ := am_if_inv hc
              simp only [Bool.and_eq_true, Bool.not_eq_true'] at h1
              obtain rfl := am_len_inv h1.1
              simp only [am_sop] at hs
              split at hs
              · split at hs
                · rename_i hcat
                  cases hs
                  simp [am_ckm, h1.2, h9] at h2
                  exact va_mmax_long hx hb hmls hown (hw _ (List.mem_of_getElem? h2) rfl) (hw _ am_w_m3 rfl) (hw _ am_w_mi rfl) (hw _ am_w_n3 rfl) hfr (by rw [am_map_cat]; omega) hce hse hd k
                · cases hs
              · cases hs
            · obtain ⟨h1, rfl⟩ := am_if_inv hc
              cases hs
    · cases hc
  case getfield n =>
    simp only [am_conv] at hc
    split at hc
    · obtain ⟨h1, rfl⟩ := am_if_inv hc
      cases hs
    · cases hc
  case putfield n =>
    simp only [am_conv] at hc
    split at hc
    · obtain ⟨h1, rfl⟩ := am_if_inv hc
      cases hs
    · cases hc
  case invokevirtual n =>
    simp only [am_conv] at hc
    split at hc
    · obtain ⟨h1, rfl⟩ := am_if_inv hc
      cases hs
    · cases hc
  case new n =>
    simp only [am_conv] at hc
    split at hc
    · obtain ⟨h1, rfl⟩ := am_if_inv hc
      cases hs
    · cases hc
  case anewarray n =>
    simp only [am_conv] at hc
    split at hc
    · obtain ⟨h1, rfl⟩ := am_if_inv hc
      cases hs
    · cases hc
  case ireturn =>
    simp only [am_conv] at hc
    split at hc
    · obtain ⟨h1, rfl⟩ := am_if_inv hc
      cases hs
    · obtain ⟨h1, rfl⟩ := am_if_inv hc
      cases hs
  all_goals (obtain ⟨h1, rfl⟩ := am_if_inv hc; first | (cases hs; done) | (simp [am_plain] at h1; done))
end SOP
