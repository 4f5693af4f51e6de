/-! THE CLASS: fault, tree; fields of another kind -/
theorem wt_ref : (List.range WT.length).all (fun j => j == 2 || (WT.getD j (9, 0, [])).2.2.all (fun c => !(c.1 == 2) && !(c.1 == 3))) = true := by decide +kernel
theorem wt_hash : (List.range WT.length).all (fun j => j == 71 || (WT.getD j (9, 0, [])).2.2.all (fun c => decide (c.1 < 4))) = true := by decide +kernel
theorem wfs_t {F : Nat → Nat → Int} {hs : Int64} {t1 t2 t1' t2' o : Nat} : ∀ (l : List (Nat × Nat)) (i : Nat), (∀ c ∈ l, ¬ c.1 = 2 ∧ ¬ c.1 = 3) → wfs F hs t1' t2' o i l = wfs F hs t1 t2 o i l
  | [], _, _ => rfl
  | c :: l, i, h => by
    rw [wfs, wfs, wfs_t l (i + 1) (fun c hc => h c (List.mem_cons_of_mem _ hc))]
    congr 1
    have := h c List.mem_cons_self
    unfold wv
    split <;> first | rfl | (rename_i e; exact absurd e this.1) | (rename_i e; exact absurd e this.2)
theorem wfs_h {F : Nat → Nat → Int} {hs hs' : Int64} {t1 t2 o : Nat} : ∀ (l : List (Nat × Nat)) (i : Nat), (∀ c ∈ l, c.1 < 4) → wfs F hs' t1 t2 o i l = wfs F hs t1 t2 o i l
  | [], _, _ => rfl
  | c :: l, i, h => by
    rw [wfs, wfs, wfs_h l (i + 1) (fun c hc => h c (List.mem_cons_of_mem _ hc))]
    congr 1
    have := h c List.mem_cons_self
    have hc : c.1 = 0 ∨ c.1 = 1 ∨ c.1 = 2 ∨ c.1 = 3 := by omega
    unfold wv
    rcases hc with e | e | e | e <;> rw [e] <;> rfl
section FK
variable {d y nx : Nat} {is : List Instr} {ls st r : List Value} {Q : Option Value → am_H → Prop}
variable {L : Nat} {xs : Nat → Int32} {F A : Nat → Nat → Int} {B : Nat → Int64} {hs : Int64} {t1 t2 : Nat}
theorem wcell_t {j : Nat} {e : Nat × Nat × List (Nat × Nat)} {t1' t2' : Nat} (h : ∀ c ∈ e.2.2, ¬ c.1 = 2 ∧ ¬ c.1 = 3) : wcell L xs F A B hs t1' t2' j e = wcell L xs F A B hs t1 t2 j e := by
  unfold wcell
  split <;> first | rfl | (rw [wfs_t _ _ h])
theorem wcell_h {j : Nat} {e : Nat × Nat × List (Nat × Nat)} {hs' : Int64} (h : ∀ c ∈ e.2.2, c.1 < 4) : wcell L xs F A B hs' t1 t2 j e = wcell L xs F A B hs t1 t2 j e := by
  unfold wcell
  split <;> first | rfl | (rw [wfs_h _ _ h])
theorem wt_r {j : Nat} {e : Nat × Nat × List (Nat × Nat)} (hj : ¬ j = 2) (h : WT[j]? = some e) : ∀ c ∈ e.2.2, ¬ c.1 = 2 ∧ ¬ c.1 = 3 := by
  have hl := (List.getElem?_eq_some_iff.mp h).1
  have := List.all_eq_true.mp wt_ref j (List.mem_range.mpr hl)
  rw [List.getD_eq_getElem?_getD, h] at this
  simp [hj] at this
  intro c hc
  have := this c.1 c.2 hc
  omega
theorem wt_h {j : Nat} {e : Nat × Nat × List (Nat × Nat)} (hj : ¬ j = 71) (h : WT[j]? = some e) : ∀ c ∈ e.2.2, c.1 < 4 := by
  have hl := (List.getElem?_eq_some_iff.mp h).1
  have := List.all_eq_true.mp wt_hash j (List.mem_range.mpr hl)
  rw [List.getD_eq_getElem?_getD, h] at this
  simp [hj] at this
  intro c hc
  exact this c.1 c.2 hc
theorem w_p_told {x : Nat} : rP d y is nx ls r (HW L xs F A B hs t1 t2) 2 Q (am_wf ((HW L xs F A B hs t1 t2).2.2 2) 8906 (.ref x)) = Rn d (y, is, nx, ls, r) (HW L xs F A B hs x t2) Q := by
  have he : WT[2]? = some (2, 11, [(1, 3), (1, 13), (1, 18), (1, 25), (1, 38), (1, 48), (1, 50), (1, 53), (1, 57), (1, 62), (2, 0), (3, 0), (0, 0), (0, 0)]) := rfl
  rw [hw_at he]
  have e1 : am_wf (wcell L xs F A B hs t1 t2 2 (2, 11, [(1, 3), (1, 13), (1, 18), (1, 25), (1, 38), (1, 48), (1, 50), (1, 53), (1, 57), (1, 62), (2, 0), (3, 0), (0, 0), (0, 0)])) 8906 (.ref x) = some (wcell L xs F A B hs x t2 2 (2, 11, [(1, 3), (1, 13), (1, 18), (1, 25), (1, 38), (1, 48), (1, 50), (1, 53), (1, 57), (1, 62), (2, 0), (3, 0), (0, 0), (0, 0)])) := rfl
  rw [e1, rP_s, hw_ext (F' := F) (A' := A) (B' := B) (hs' := hs) (t1' := x) (t2' := t2) he rfl]
  intro j e' hj hje
  exact wcell_t (wt_r hj hje)
theorem w_p_draft {x : Nat} : rP d y is nx ls r (HW L xs F A B hs t1 t2) 2 Q (am_wf ((HW L xs F A B hs t1 t2).2.2 2) 8907 (.ref x)) = Rn d (y, is, nx, ls, r) (HW L xs F A B hs t1 x) Q := by
  have he : WT[2]? = some (2, 11, [(1, 3), (1, 13), (1, 18), (1, 25), (1, 38), (1, 48), (1, 50), (1, 53), (1, 57), (1, 62), (2, 0), (3, 0), (0, 0), (0, 0)]) := rfl
  rw [hw_at he]
  have e1 : am_wf (wcell L xs F A B hs t1 t2 2 (2, 11, [(1, 3), (1, 13), (1, 18), (1, 25), (1, 38), (1, 48), (1, 50), (1, 53), (1, 57), (1, 62), (2, 0), (3, 0), (0, 0), (0, 0)])) 8907 (.ref x) = some (wcell L xs F A B hs t1 x 2 (2, 11, [(1, 3), (1, 13), (1, 18), (1, 25), (1, 38), (1, 48), (1, 50), (1, 53), (1, 57), (1, 62), (2, 0), (3, 0), (0, 0), (0, 0)])) := rfl
  rw [e1, rP_s, hw_ext (F' := F) (A' := A) (B' := B) (hs' := hs) (t1' := t1) (t2' := x) he rfl]
  intro j e' hj hje
  exact wcell_t (wt_r hj hje)
end FK
section TRE3
variable {L : Nat} {xs : Nat → Int32} {F A : Nat → Nat → Int} {B : Nat → Int64} {hs : Int64} {t1 t2 : Nat}
theorem s_Tr_read_22 {t : Nat} (ht : TR t) {P : Nat → Int} (hP : ∀ i, 0 ≤ P i ∧ P i ≤ 255) {m : Int} (hm : 0 ≤ m ∧ m ≤ 40) :
    ∀ (n : Nat) (i : Nat) (F A G C : Nat → Nat → Int), (i : Int) + n = m → RI G C i i → TRel t F A G C → F 48 1 = m → A 49 = P →
      ∃ F' A', TFr t F A F' A' ∧ ((rdM P G C i n).1 = i + n → TRel t F' A' (rdM P G C i n).2.1 (rdM P G C i n).2.2) ∧ ∀ d Q, Rj (d + 4) 71 22 [.ref t, .ref 48, .int (jI i)] [] (HW L xs F A B hs t1 t2) Q = Q (some (.int (jI ((rdM P G C i n).1 : Int)))) (HW L xs F' A' B hs t1 t2)
  | 0, i, F, A, G, C, hn, hR, hT, hF, hA => by
    refine ⟨F, A, ⟨fun _ _ => rfl, fun _ _ _ _ => rfl⟩, fun _ => hT, fun d Q => ?_⟩
    rw [b_Tree_read_22]
    simp (disch := omega) only [b_Tree_read_51, rn_nil, rn_iconst, rn_ldc2, rn_iadd, rn_isub, rn_imul, rn_iand, rn_ior, rn_ixor, rn_ishl, rn_ishr, rn_iushr, rn_ineg, rn_ladd, rn_lsub, rn_lmul, rn_land, rn_lor, rn_lshl, rn_lushr, rn_lcmp, rn_i2l, rn_l2i, rn_dupI, rn_dupR, rn_popI, rn_dup2, rn_idiv, rn_irem, rn_ldiv, rn_lrem, rn_dadd, rn_dsub, rn_dmul, rn_objinit, rn_iload, rn_lload, rn_aload, rn_istore, rn_astore, rn_lstore, rn_iinc, rn_getfield, rn_iaload, rn_laload, rn_aaload, rn_arraylength, rn_putfield, rn_iastore, rn_lastore, rn_goto, rn_ifCond_eq, rn_if_icmp_eq, rn_ifCond_ne, rn_if_icmp_ne, rn_ifCond_lt, rn_if_icmp_lt, rn_ifCond_ge, rn_if_icmp_ge, rn_ifCond_gt, rn_if_icmp_gt, rn_ifCond_le, rn_if_icmp_le, rn_ireturn, rn_lreturn, rn_return, rL_I, rL_L, rL_R, rS_t, rI_t, rG_s, rG_i, rP_s, rP_i, kq_v, kq_s, ok_0, ok_1I, ok_1R, ok_1N, ok_s, rc8_0, rc8_1, rc8_2, rc8_3, rc8_4, List.getElem?_cons_zero, List.getElem?_cons_succ, List.set_cons_zero, List.set_cons_succ, true_and, and_true, if_true, if_false, Int.toNat_natCast, Int.reduceToNat, Int.reduceAdd, Int.reduceSub, Int.reduceMul, Int.reduceNeg, Nat.reduceAdd, Int.reduceLT, Int.reduceLE, Int.reduceEq, reduceIte, w_ck_48, w_g_48_0, w_g_48_1, w_p_48_1, w_r_49, w_l_49, w_w_49, jI_add, jI_sub, jI_mul, jI_neg, jI_eq, jI_le, jI_lt, jI_eq0, jI_eq1, jI_lt0, jI_0lt, jI_le0, jI_0le, jI_clamp, jI_inBT, kL_0, kL_1, kL_2, kL_5, kL_6, kL_7, kL_10, kL_11, kL_15, kL_23, kL_31, kL_39, kL_97, kL_99, kL_104, kL_255, kL_349, kL_999, kL_1771561, kL_16777215, kL_4294967295, kL_18446744073709551615, jI_toL, rn_zB, rn_z0, rn_z1, jIB_eq0, jIB_eq1, jIB_eqJ, jB_def, jB_not, jB_and, jB_or, jB_nand, jB_nor, jB_ite, mrg, Decidable.not_not, ite_not, u2_s, u2_n, Int.add_sub_cancel, Int.sub_add_cancel, hF]
    rw [if_pos (by omega), rdM, show m = (i : Int) by omega]
  | n + 1, i, F, A, G, C, hn, hR, hT, hF, hA => by
    have hp := hP i
    obtain ⟨F1, A1, f1, f2, f3⟩ := s_Tr_take (L := L) (xs := xs) (B := B) (hs := hs) (t1 := t1) (t2 := t2) ht hR (by omega) hT hp
    have hF1 : F1 48 1 = m := by
      rw [f1.1 48 (by rcases ht with rfl | rfl <;> omega)]
      exact hF
    have hA1 : A1 49 = P := by
      rw [f1.2 49 (by rcases ht with rfl | rfl <;> omega) (by rcases ht with rfl | rfl <;> omega) (by rcases ht with rfl | rfl <;> omega)]
      exact hA
    have t0 := TR.eq_def t
    by_cases g : (goM G C (P i)).1 = true
    · have hR1 := RI_go (c := P i) hR (by omega)
      obtain ⟨F', A', g1, g2, g3⟩ := s_Tr_read_22 ht hP hm n (i + 1) F1 A1 (goM G C (P i)).2.1 (goM G C (P i)).2.2 (by omega) (by rw [show ((i + 1 : Nat) : Int) = (i : Int) + 1 by omega]; exact hR1) (f2 g) hF1 hA1
      refine ⟨F', A', f1.trans g1, ?_, fun d Q => ?_⟩
      · rw [rdM, if_pos g]
        intro h
        exact g2 (by rw [h]; omega)
      · rw [b_Tree_read_22, rdM, if_pos g]
        simp (disch := omega) only [b_Tree_read_30, rn_nil, rn_iconst, rn_ldc2, rn_iadd, rn_isub, rn_imul, rn_iand, rn_ior, rn_ixor, rn_ishl, rn_ishr, rn_iushr, rn_ineg, rn_ladd, rn_lsub, rn_lmul, rn_land, rn_lor, rn_lshl, rn_lushr, rn_lcmp, rn_i2l, rn_l2i, rn_dupI, rn_dupR, rn_popI, rn_dup2, rn_idiv, rn_irem, rn_ldiv, rn_lrem, rn_dadd, rn_dsub, rn_dmul, rn_objinit, rn_iload, rn_lload, rn_aload, rn_istore, rn_astore, rn_lstore, rn_iinc, rn_getfield, rn_iaload, rn_laload, rn_aaload, rn_arraylength, rn_putfield, rn_iastore, rn_lastore, rn_goto, rn_ifCond_eq, rn_if_icmp_eq, rn_ifCond_ne, rn_if_icmp_ne, rn_ifCond_lt, rn_if_icmp_lt, rn_ifCond_ge, rn_if_icmp_ge, rn_ifCond_gt, rn_if_icmp_gt, rn_ifCond_le, rn_if_icmp_le, rn_ireturn, rn_lreturn, rn_return, rL_I, rL_L, rL_R, rS_t, rI_t, rG_s, rG_i, rP_s, rP_i, kq_v, kq_s, ok_0, ok_1I, ok_1R, ok_1N, ok_s, rc8_0, rc8_1, rc8_2, rc8_3, rc8_4, List.getElem?_cons_zero, List.getElem?_cons_succ, List.set_cons_zero, List.set_cons_succ, true_and, and_true, if_true, if_false, Int.toNat_natCast, Int.reduceToNat, Int.reduceAdd, Int.reduceSub, Int.reduceMul, Int.reduceNeg, Nat.reduceAdd, Int.reduceLT, Int.reduceLE, Int.reduceEq, reduceIte, w_ck_48, w_g_48_0, w_g_48_1, w_p_48_1, w_r_49, w_l_49, w_w_49, jI_add, jI_sub, jI_mul, jI_neg, jI_eq, jI_le, jI_lt, jI_eq0, jI_eq1, jI_lt0, jI_0lt, jI_le0, jI_0le, jI_clamp, jI_inBT, kL_0, kL_1, kL_2, kL_5, kL_6, kL_7, kL_10, kL_11, kL_15, kL_23, kL_31, kL_39, kL_97, kL_99, kL_104, kL_255, kL_349, kL_999, kL_1771561, kL_16777215, kL_4294967295, kL_18446744073709551615, jI_toL, rn_zB, rn_z0, rn_z1, jIB_eq0, jIB_eq1, jIB_eqJ, jB_def, jB_not, jB_and, jB_or, jB_nand, jB_nor, jB_ite, mrg, Decidable.not_not, ite_not, u2_s, u2_n, Int.add_sub_cancel, Int.sub_add_cancel, hF, hA, w_ck_T ht, c_Tree_take, f3, Int.toNat_natCast]
        rw [if_neg (by omega)]
        simp (disch := omega) only [b_Tree_read_45, rn_nil, rn_iconst, rn_ldc2, rn_iadd, rn_isub, rn_imul, rn_iand, rn_ior, rn_ixor, rn_ishl, rn_ishr, rn_iushr, rn_ineg, rn_ladd, rn_lsub, rn_lmul, rn_land, rn_lor, rn_lshl, rn_lushr, rn_lcmp, rn_i2l, rn_l2i, rn_dupI, rn_dupR, rn_popI, rn_dup2, rn_idiv, rn_irem, rn_ldiv, rn_lrem, rn_dadd, rn_dsub, rn_dmul, rn_objinit, rn_iload, rn_lload, rn_aload, rn_istore, rn_astore, rn_lstore, rn_iinc, rn_getfield, rn_iaload, rn_laload, rn_aaload, rn_arraylength, rn_putfield, rn_iastore, rn_lastore, rn_goto, rn_ifCond_eq, rn_if_icmp_eq, rn_ifCond_ne, rn_if_icmp_ne, rn_ifCond_lt, rn_if_icmp_lt, rn_ifCond_ge, rn_if_icmp_ge, rn_ifCond_gt, rn_if_icmp_gt, rn_ifCond_le, rn_if_icmp_le, rn_ireturn, rn_lreturn, rn_return, rL_I, rL_L, rL_R, rS_t, rI_t, rG_s, rG_i, rP_s, rP_i, kq_v, kq_s, ok_0, ok_1I, ok_1R, ok_1N, ok_s, rc8_0, rc8_1, rc8_2, rc8_3, rc8_4, List.getElem?_cons_zero, List.getElem?_cons_succ, List.set_cons_zero, List.set_cons_succ, true_and, and_true, if_true, if_false, Int.toNat_natCast, Int.reduceToNat, Int.reduceAdd, Int.reduceSub, Int.reduceMul, Int.reduceNeg, Nat.reduceAdd, Int.reduceLT, Int.reduceLE, Int.reduceEq, reduceIte, w_ck_48, w_g_48_0, w_g_48_1, w_p_48_1, w_r_49, w_l_49, w_w_49, jI_add, jI_sub, jI_mul, jI_neg, jI_eq, jI_le, jI_lt, jI_eq0, jI_eq1, jI_lt0, jI_0lt, jI_le0, jI_0le, jI_clamp, jI_inBT, kL_0, kL_1, kL_2, kL_5, kL_6, kL_7, kL_10, kL_11, kL_15, kL_23, kL_31, kL_39, kL_97, kL_99, kL_104, kL_255, kL_349, kL_999, kL_1771561, kL_16777215, kL_4294967295, kL_18446744073709551615, jI_toL, rn_zB, rn_z0, rn_z1, jIB_eq0, jIB_eq1, jIB_eqJ, jB_def, jB_not, jB_and, jB_or, jB_nand, jB_nor, jB_ite, mrg, Decidable.not_not, ite_not, u2_s, u2_n, Int.add_sub_cancel, Int.sub_add_cancel, g]
        rw [show (i : Int) + 1 = ((i + 1 : Nat) : Int) by omega, g3]
    · refine ⟨F1, A1, f1, ?_, fun d Q => ?_⟩
      · rw [rdM, if_neg g]
        dsimp only
        intro h
        omega
      · rw [b_Tree_read_22, rdM, if_neg g]
        simp (disch := omega) only [b_Tree_read_30, rn_nil, rn_iconst, rn_ldc2, rn_iadd, rn_isub, rn_imul, rn_iand, rn_ior, rn_ixor, rn_ishl, rn_ishr, rn_iushr, rn_ineg, rn_ladd, rn_lsub, rn_lmul, rn_land, rn_lor, rn_lshl, rn_lushr, rn_lcmp, rn_i2l, rn_l2i, rn_dupI, rn_dupR, rn_popI, rn_dup2, rn_idiv, rn_irem, rn_ldiv, rn_lrem, rn_dadd, rn_dsub, rn_dmul, rn_objinit, rn_iload, rn_lload, rn_aload, rn_istore, rn_astore, rn_lstore, rn_iinc, rn_getfield, rn_iaload, rn_laload, rn_aaload, rn_arraylength, rn_putfield, rn_iastore, rn_lastore, rn_goto, rn_ifCond_eq, rn_if_icmp_eq, rn_ifCond_ne, rn_if_icmp_ne, rn_ifCond_lt, rn_if_icmp_lt, rn_ifCond_ge, rn_if_icmp_ge, rn_ifCond_gt, rn_if_icmp_gt, rn_ifCond_le, rn_if_icmp_le, rn_ireturn, rn_lreturn, rn_return, rL_I, rL_L, rL_R, rS_t, rI_t, rG_s, rG_i, rP_s, rP_i, kq_v, kq_s, ok_0, ok_1I, ok_1R, ok_1N, ok_s, rc8_0, rc8_1, rc8_2, rc8_3, rc8_4, List.getElem?_cons_zero, List.getElem?_cons_succ, List.set_cons_zero, List.set_cons_succ, true_and, and_true, if_true, if_false, Int.toNat_natCast, Int.reduceToNat, Int.reduceAdd, Int.reduceSub, Int.reduceMul, Int.reduceNeg, Nat.reduceAdd, Int.reduceLT, Int.reduceLE, Int.reduceEq, reduceIte, w_ck_48, w_g_48_0, w_g_48_1, w_p_48_1, w_r_49, w_l_49, w_w_49, jI_add, jI_sub, jI_mul, jI_neg, jI_eq, jI_le, jI_lt, jI_eq0, jI_eq1, jI_lt0, jI_0lt, jI_le0, jI_0le, jI_clamp, jI_inBT, kL_0, kL_1, kL_2, kL_5, kL_6, kL_7, kL_10, kL_11, kL_15, kL_23, kL_31, kL_39, kL_97, kL_99, kL_104, kL_255, kL_349, kL_999, kL_1771561, kL_16777215, kL_4294967295, kL_18446744073709551615, jI_toL, rn_zB, rn_z0, rn_z1, jIB_eq0, jIB_eq1, jIB_eqJ, jB_def, jB_not, jB_and, jB_or, jB_nand, jB_nor, jB_ite, mrg, Decidable.not_not, ite_not, u2_s, u2_n, Int.add_sub_cancel, Int.sub_add_cancel, hF, hA, w_ck_T ht, c_Tree_take, f3, Int.toNat_natCast]
        rw [if_neg (by omega)]
        simp (disch := omega) only [b_Tree_read_43, rn_nil, rn_iconst, rn_ldc2, rn_iadd, rn_isub, rn_imul, rn_iand, rn_ior, rn_ixor, rn_ishl, rn_ishr, rn_iushr, rn_ineg, rn_ladd, rn_lsub, rn_lmul, rn_land, rn_lor, rn_lshl, rn_lushr, rn_lcmp, rn_i2l, rn_l2i, rn_dupI, rn_dupR, rn_popI, rn_dup2, rn_idiv, rn_irem, rn_ldiv, rn_lrem, rn_dadd, rn_dsub, rn_dmul, rn_objinit, rn_iload, rn_lload, rn_aload, rn_istore, rn_astore, rn_lstore, rn_iinc, rn_getfield, rn_iaload, rn_laload, rn_aaload, rn_arraylength, rn_putfield, rn_iastore, rn_lastore, rn_goto, rn_ifCond_eq, rn_if_icmp_eq, rn_ifCond_ne, rn_if_icmp_ne, rn_ifCond_lt, rn_if_icmp_lt, rn_ifCond_ge, rn_if_icmp_ge, rn_ifCond_gt, rn_if_icmp_gt, rn_ifCond_le, rn_if_icmp_le, rn_ireturn, rn_lreturn, rn_return, rL_I, rL_L, rL_R, rS_t, rI_t, rG_s, rG_i, rP_s, rP_i, kq_v, kq_s, ok_0, ok_1I, ok_1R, ok_1N, ok_s, rc8_0, rc8_1, rc8_2, rc8_3, rc8_4, List.getElem?_cons_zero, List.getElem?_cons_succ, List.set_cons_zero, List.set_cons_succ, true_and, and_true, if_true, if_false, Int.toNat_natCast, Int.reduceToNat, Int.reduceAdd, Int.reduceSub, Int.reduceMul, Int.reduceNeg, Nat.reduceAdd, Int.reduceLT, Int.reduceLE, Int.reduceEq, reduceIte, w_ck_48, w_g_48_0, w_g_48_1, w_p_48_1, w_r_49, w_l_49, w_w_49, jI_add, jI_sub, jI_mul, jI_neg, jI_eq, jI_le, jI_lt, jI_eq0, jI_eq1, jI_lt0, jI_0lt, jI_le0, jI_0le, jI_clamp, jI_inBT, kL_0, kL_1, kL_2, kL_5, kL_6, kL_7, kL_10, kL_11, kL_15, kL_23, kL_31, kL_39, kL_97, kL_99, kL_104, kL_255, kL_349, kL_999, kL_1771561, kL_16777215, kL_4294967295, kL_18446744073709551615, jI_toL, rn_zB, rn_z0, rn_z1, jIB_eq0, jIB_eq1, jIB_eqJ, jB_def, jB_not, jB_and, jB_or, jB_nand, jB_nor, jB_ite, mrg, Decidable.not_not, ite_not, u2_s, u2_n, Int.add_sub_cancel, Int.sub_add_cancel, g, Bool.false_eq_true]
/-- the page read into a tree: as the reference reads it -/
theorem s_Tr_read {t : Nat} (ht : TR t) (hP : ∀ i, 0 ≤ A 85 i ∧ A 85 i ≤ 255) (hw : ∀ i, 0 ≤ A 91 i ∧ A 91 i ≤ 40) (hp : ∀ i, -1 ≤ A 89 i ∧ A 89 i ≤ 39) (hm : 0 ≤ F 71 21 ∧ F 71 21 ≤ 40) (hs' : F 48 1 = F 71 21) (hc : A 49 = A 85) :
    ∃ F' A', TFr t F A F' A' ∧ (((fltM F A).1 : Int) = F 71 21 → TRel t F' A' (fltM F A).2.1 (fltM F A).2.2) ∧ ∀ d Q, Rj (d + 4) 71 0 [.ref t, .ref 48, .null] [] (HW L xs F A B hs t1 t2) Q = Q (some (.int (jI ((fltM F A).1 : Int)))) (HW L xs F' A' B hs t1 t2) := by
  have e9 : st0 F 71 29 = 0 := u2_s
  have e8 : st0 F 71 28 = 0 := by unfold st0; rw [u2_n (by omega), u2_s]
  have e7 : st0 F 71 27 = -1 := by unfold st0; rw [u2_n (by omega), u2_n (by omega), u2_s]
  have e6 : st0 F 71 26 = 1 := by unfold st0; rw [u2_n (by omega), u2_n (by omega), u2_n (by omega), u2_s]
  have hT : TRel t (u2 (u2 (u2 (u2 F t 3 0) t 4 0) t 5 (-1)) t 6 1) A (st0 F) A := by
    unfold TRel
    rw [e6, e7, e8, e9]
    refine ⟨⟨by rw [u2_n (by omega), u2_n (by omega), u2_n (by omega), u2_s], by rw [u2_n (by omega), u2_n (by omega), u2_s], by rw [u2_n (by omega), u2_s], u2_s⟩, fun x hx => by omega, ?_⟩
    intro k hk
    rw [itr_m1] at hk
    omega
  have ne : ¬ 48 = t := by rcases ht with rfl | rfl <;> omega
  obtain ⟨F', A', g1, g2, g3⟩ := s_Tr_read_22 (L := L) (xs := xs) (B := B) (hs := hs) (t1 := t1) (t2 := t2) ht hP hm (F 71 21).toNat 0 _ A (st0 F) A (by omega) (RI_st0 hw hp) hT (by rw [u2_n (by omega), u2_n (by omega), u2_n (by omega), u2_n (by omega)]; exact hs') hc
  refine ⟨F', A', ⟨fun o ho => by rw [g1.1 o ho, u2_a ho, u2_a ho, u2_a ho, u2_a ho], g1.2⟩, fun h => g2 (by rw [Nat.zero_add]; exact Int.ofNat.inj (by show ((fltM F A).1 : Int) = (((F 71 21).toNat : Nat) : Int); omega)), fun d Q => ?_⟩
  rw [b_Tree_read_0]
  simp (disch := omega) only [rn_nil, rn_iconst, rn_ldc2, rn_iadd, rn_isub, rn_imul, rn_iand, rn_ior, rn_ixor, rn_ishl, rn_ishr, rn_iushr, rn_ineg, rn_ladd, rn_lsub, rn_lmul, rn_land, rn_lor, rn_lshl, rn_lushr, rn_lcmp, rn_i2l, rn_l2i, rn_dupI, rn_dupR, rn_popI, rn_dup2, rn_idiv, rn_irem, rn_ldiv, rn_lrem, rn_dadd, rn_dsub, rn_dmul, rn_objinit, rn_iload, rn_lload, rn_aload, rn_istore, rn_astore, rn_lstore, rn_iinc, rn_getfield, rn_iaload, rn_laload, rn_aaload, rn_arraylength, rn_putfield, rn_iastore, rn_lastore, rn_goto, rn_ifCond_eq, rn_if_icmp_eq, rn_ifCond_ne, rn_if_icmp_ne, rn_ifCond_lt, rn_if_icmp_lt, rn_ifCond_ge, rn_if_icmp_ge, rn_ifCond_gt, rn_if_icmp_gt, rn_ifCond_le, rn_if_icmp_le, rn_ireturn, rn_lreturn, rn_return, rL_I, rL_L, rL_R, rS_t, rI_t, rG_s, rG_i, rP_s, rP_i, kq_v, kq_s, ok_0, ok_1I, ok_1R, ok_1N, ok_s, rc8_0, rc8_1, rc8_2, rc8_3, rc8_4, List.getElem?_cons_zero, List.getElem?_cons_succ, List.set_cons_zero, List.set_cons_succ, true_and, and_true, if_true, if_false, Int.toNat_natCast, Int.reduceToNat, Int.reduceAdd, Int.reduceSub, Int.reduceMul, Int.reduceNeg, Nat.reduceAdd, Int.reduceLT, Int.reduceLE, Int.reduceEq, reduceIte, jI_add, jI_sub, jI_mul, jI_neg, jI_eq, jI_le, jI_lt, jI_eq0, jI_eq1, jI_lt0, jI_0lt, jI_le0, jI_0le, jI_clamp, jI_inBT, kL_0, kL_1, kL_2, kL_5, kL_6, kL_7, kL_10, kL_11, kL_15, kL_23, kL_31, kL_39, kL_97, kL_99, kL_104, kL_255, kL_349, kL_999, kL_1771561, kL_16777215, kL_4294967295, kL_18446744073709551615, jI_toL, rn_zB, rn_z0, rn_z1, jIB_eq0, jIB_eq1, jIB_eqJ, jB_def, jB_not, jB_and, jB_or, jB_nand, jB_nor, jB_ite, mrg, Decidable.not_not, ite_not, u2_s, u2_n, Int.add_sub_cancel, Int.sub_add_cancel, w_p_T3 ht, w_p_T4 ht, w_p_T5 ht, w_p_T61 ht]
  exact g3 d Q
/-- the lands of the nodes -/
theorem go_90 {F A : Nat → Nat → Int} {c : Int} (h : ∀ i, -1 ≤ A 90 i ∧ A 90 i ≤ 7) : ∀ i, -1 ≤ (goM F A c).2.2 90 i ∧ (goM F A c).2.2 90 i ≤ 7 := by
  have e1 : ∀ (C : Nat → Nat → Int) n i, enA C n 90 i = C 90 i := by
    intro C n i
    unfold enA
    split
    · rfl
    · rw [u2_n (by omega)]
  intro i
  have := h i
  unfold goM
  split
  · split
    · dsimp only
      rw [(nd_89 i).2.1]
      split <;> omega
    · split
      · dsimp only
        rw [e1, (nd_89 i).2.1]
        split <;> omega
      · exact this
  · split
    · exact this
    · split
      · dsimp only
        rw [e1]
        exact this
      · exact this
theorem rd_90 {P : Nat → Int} : ∀ (n i : Nat) (F A : Nat → Nat → Int), (∀ i, -1 ≤ A 90 i ∧ A 90 i ≤ 7) → ∀ j, -1 ≤ (rdM P F A i n).2.2 90 j ∧ (rdM P F A i n).2.2 90 j ≤ 7
  | 0, i, F, A, h => h
  | n + 1, i, F, A, h => by
    rw [rdM]
    split
    · exact rd_90 n (i + 1) _ _ (go_90 h)
    · exact go_90 h
end TRE3
