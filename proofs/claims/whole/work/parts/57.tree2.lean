/-! THE CLASS: a page read -/
theorem nd_89 {G C : Nat → Nat → Int} {l : Int} (x : Nat) : ndA G C l 89 x = (if x = (G 71 29).toNat then G 71 27 else C 89 x) ∧ ndA G C l 90 x = (if x = (G 71 29).toNat then l else C 90 x) ∧ ndA G C l 91 x = (if x = (G 71 29).toNat then 0 else C 91 x) := by
  unfold ndA
  refine ⟨?_, ?_, ?_⟩
  · rw [u2_n (by omega), u2_n (by omega)]
    simp [u2]
  · rw [u2_n (by omega)]
    simp [u2]
  · simp [u2]
theorem en_89 {C : Nat → Nat → Int} {n : Int} (hp : -1 ≤ C 89 n.toNat) (x : Nat) : enA C n 89 x = C 89 x ∧ enA C n 90 x = C 90 x ∧ enA C n 91 x = (if (x : Int) = C 89 n.toNat then C 91 x + 1 else C 91 x) := by
  unfold enA
  by_cases g : C 89 n.toNat = -1
  · rw [if_pos g, if_neg (by omega)]
    exact ⟨rfl, rfl, rfl⟩
  · rw [if_neg g]
    refine ⟨u2_n (by omega), u2_n (by omega), ?_⟩
    by_cases g2 : (x : Int) = C 89 n.toNat
    · rw [if_pos g2, show x = (C 89 n.toNat).toNat by omega, u2_s]
    · rw [if_neg g2]
      rw [u2_n (by omega)]
section TRE2
variable {d : Nat} {Q : Option Value → am_H → Prop}
variable {L : Nat} {xs : Nat → Int32} {F A : Nat → Nat → Int} {B : Nat → Int64} {hs : Int64} {t1 t2 : Nat}
/-- one letter -/
theorem s_Tr_take {t : Nat} (ht : TR t) {G C : Nat → Nat → Int} {k c : Int} (hR : RI G C k k) (hk : 0 ≤ k ∧ k ≤ 39) (hT : TRel t F A G C) (hc : 0 ≤ c ∧ c ≤ 255) :
    ∃ F' A', TFr t F A F' A' ∧ ((goM G C c).1 = true → TRel t F' A' (goM G C c).2.1 (goM G C c).2.2) ∧ ∀ d Q, Rj (d + 3) 72 0 [.ref t, .int (jI c)] [] (HW L xs F A B hs t1 t2) Q = Q (some (.int (jI (jB ((goM G C c).1 = true))))) (HW L xs F' A' B hs t1 t2) := by
  obtain ⟨hw, hp, hl, hm, hi, hu, hd⟩ := hR
  obtain ⟨⟨e3, e4, e5, e6⟩, r1, r2⟩ := hT
  have hpl : ∀ i : Nat, (i : Int) < G 71 29 → -1 ≤ C 89 i ∧ C 89 i < i := fun i h => ⟨(hp i).1, (hl i h).2⟩
  unfold goM
  by_cases h1 : G 71 26 = 0
  · rw [if_neg (by omega)]
    by_cases h2 : G 71 27 = -1
    · rw [if_pos h2]
      refine ⟨F, A, ⟨fun _ _ => rfl, fun _ _ _ _ => rfl⟩, fun h => (by cases h), fun d Q => ?_⟩
      simp (disch := omega) only [b_Tree_take_0, b_Tree_take_29, b_Tree_take_37, rn_nil, rn_iconst, rn_ldc2, rn_iadd, rn_isub, rn_imul, rn_iand, rn_ior, rn_ixor, rn_ishl, rn_ishr, rn_iushr, rn_ineg, rn_ladd, rn_lsub, rn_lmul, rn_land, rn_lor, rn_lshl, rn_lushr, rn_lcmp, rn_i2l, rn_l2i, rn_dupI, rn_dupR, rn_popI, rn_dup2, rn_idiv, rn_irem, rn_ldiv, rn_lrem, rn_dadd, rn_dsub, rn_dmul, rn_objinit, rn_iload, rn_lload, rn_aload, rn_istore, rn_astore, rn_lstore, rn_iinc, rn_getfield, rn_iaload, rn_laload, rn_aaload, rn_arraylength, rn_putfield, rn_iastore, rn_lastore, rn_goto, rn_ifCond_eq, rn_if_icmp_eq, rn_ifCond_ne, rn_if_icmp_ne, rn_ifCond_lt, rn_if_icmp_lt, rn_ifCond_ge, rn_if_icmp_ge, rn_ifCond_gt, rn_if_icmp_gt, rn_ifCond_le, rn_if_icmp_le, rn_ireturn, rn_lreturn, rn_return, rL_I, rL_L, rL_R, rS_t, rI_t, rG_s, rG_i, rP_s, rP_i, kq_v, kq_s, ok_0, ok_1I, ok_1R, ok_1N, ok_s, rc8_0, rc8_1, rc8_2, rc8_3, rc8_4, List.getElem?_cons_zero, List.getElem?_cons_succ, List.set_cons_zero, List.set_cons_succ, true_and, and_true, if_true, if_false, Int.toNat_natCast, Int.reduceToNat, Int.reduceAdd, Int.reduceSub, Int.reduceMul, Int.reduceNeg, Nat.reduceAdd, Int.reduceLT, Int.reduceLE, Int.reduceEq, reduceIte, jI_add, jI_sub, jI_mul, jI_neg, jI_eq, jI_le, jI_lt, jI_eq0, jI_eq1, jI_lt0, jI_0lt, jI_le0, jI_0le, jI_clamp, jI_inBT, kL_0, kL_1, kL_2, kL_5, kL_6, kL_7, kL_10, kL_11, kL_15, kL_23, kL_31, kL_39, kL_97, kL_99, kL_104, kL_255, kL_349, kL_999, kL_1771561, kL_16777215, kL_4294967295, kL_18446744073709551615, jI_toL, rn_zB, rn_z0, rn_z1, jIB_eq0, jIB_eq1, jIB_eqJ, jB_def, jB_not, jB_and, jB_or, jB_nand, jB_nor, jB_ite, mrg, Decidable.not_not, ite_not, u2_s, u2_n, Int.add_sub_cancel, Int.sub_add_cancel, w_g_T6 ht, w_g_T5 ht, e6, e5, h1, h2]
      rfl
    · rw [if_neg h2]
      have hk0 := r2 0 (by show 0 ≤ G 71 27; omega)
      rw [if_pos rfl, Int.add_zero, show itr (C 89) (G 71 27) 0 = G 71 27 from rfl] at hk0
      have hw0 := hw (G 71 27).toNat
      have hp0 := hpl (G 71 27).toNat (by omega)
      have ra := (r1 (G 71 27).toNat (by omega)).1
      by_cases h3 : c = 41 ∧ 1 < C 91 (G 71 27).toNat
      · rw [if_pos h3]
        refine ⟨u2 F t 5 (C 89 (G 71 27).toNat), A, ⟨fun o ho => u2_a ho, fun _ _ _ _ => rfl⟩, fun _ => ?_, fun d Q => ?_⟩
        · dsimp only
          have f27 : enF G C (G 71 27) 71 27 = C 89 (G 71 27).toNat := u2_s
          have f26 : enF G C (G 71 27) 71 26 = 0 := by unfold enF; rw [u2_n (by omega), u2_s]
          have f28 : enF G C (G 71 27) 71 28 = G 71 28 := by unfold enF; rw [u2_n (by omega), u2_n (by omega)]
          have f29 : enF G C (G 71 27) 71 29 = G 71 29 := by unfold enF; rw [u2_n (by omega), u2_n (by omega)]
          have n89 : enA C (G 71 27) 89 = C 89 := funext fun x => (en_89 hp0.1 x).1
          unfold TRel
          rw [f26, f27, f28, f29, n89]
          refine ⟨⟨by rw [u2_n (by omega)]; exact e3, by rw [u2_n (by omega)]; exact e4, u2_s, by rw [u2_n (by omega), e6]; exact h1⟩, fun x hx => ⟨(r1 x hx).1, by rw [(en_89 hp0.1 x).2.1]; exact (r1 x hx).2⟩, ?_⟩
          intro j hj
          have es := itr_s (p := C 89) (x := G 71 27) (by omega) j
          have lt := itr_lt hpl (x := C 89 (G 71 27).toNat) (by omega) j
          rw [← es] at hj ⊢
          have := r2 (j + 1) hj
          rw [if_neg (by omega)] at this
          rw [this, (en_89 hp0.1 _).2.2]
          rw [← es] at lt
          by_cases g : j = 0
          · subst g
            have e0 : itr (C 89) (G 71 27) (0 + 1) = C 89 (G 71 27).toNat := es
            rw [if_pos rfl, if_pos (by omega), Int.add_zero]
          · rw [if_neg g, if_neg (by omega)]
        · simp (disch := omega) only [b_Tree_take_0, b_Tree_take_29, b_Tree_take_39, b_Tree_take_50, b_Tree_take_56, b_Tree_take_63, rn_nil, rn_iconst, rn_ldc2, rn_iadd, rn_isub, rn_imul, rn_iand, rn_ior, rn_ixor, rn_ishl, rn_ishr, rn_iushr, rn_ineg, rn_ladd, rn_lsub, rn_lmul, rn_land, rn_lor, rn_lshl, rn_lushr, rn_lcmp, rn_i2l, rn_l2i, rn_dupI, rn_dupR, rn_popI, rn_dup2, rn_idiv, rn_irem, rn_ldiv, rn_lrem, rn_dadd, rn_dsub, rn_dmul, rn_objinit, rn_iload, rn_lload, rn_aload, rn_istore, rn_astore, rn_lstore, rn_iinc, rn_getfield, rn_iaload, rn_laload, rn_aaload, rn_arraylength, rn_putfield, rn_iastore, rn_lastore, rn_goto, rn_ifCond_eq, rn_if_icmp_eq, rn_ifCond_ne, rn_if_icmp_ne, rn_ifCond_lt, rn_if_icmp_lt, rn_ifCond_ge, rn_if_icmp_ge, rn_ifCond_gt, rn_if_icmp_gt, rn_ifCond_le, rn_if_icmp_le, rn_ireturn, rn_lreturn, rn_return, rL_I, rL_L, rL_R, rS_t, rI_t, rG_s, rG_i, rP_s, rP_i, kq_v, kq_s, ok_0, ok_1I, ok_1R, ok_1N, ok_s, rc8_0, rc8_1, rc8_2, rc8_3, rc8_4, List.getElem?_cons_zero, List.getElem?_cons_succ, List.set_cons_zero, List.set_cons_succ, true_and, and_true, if_true, if_false, Int.toNat_natCast, Int.reduceToNat, Int.reduceAdd, Int.reduceSub, Int.reduceMul, Int.reduceNeg, Nat.reduceAdd, Int.reduceLT, Int.reduceLE, Int.reduceEq, reduceIte, jI_add, jI_sub, jI_mul, jI_neg, jI_eq, jI_le, jI_lt, jI_eq0, jI_eq1, jI_lt0, jI_0lt, jI_le0, jI_0le, jI_clamp, jI_inBT, kL_0, kL_1, kL_2, kL_5, kL_6, kL_7, kL_10, kL_11, kL_15, kL_23, kL_31, kL_39, kL_97, kL_99, kL_104, kL_255, kL_349, kL_999, kL_1771561, kL_16777215, kL_4294967295, kL_18446744073709551615, jI_toL, rn_zB, rn_z0, rn_z1, jIB_eq0, jIB_eq1, jIB_eqJ, jB_def, jB_not, jB_and, jB_or, jB_nand, jB_nor, jB_ite, mrg, Decidable.not_not, ite_not, u2_s, u2_n, Int.add_sub_cancel, Int.sub_add_cancel, w_g_T6 ht, w_g_T5 ht, w_ck_T ht, c_Tree_closeNode, b_Tree_closeNode_0, b_Tree_closeNode_15, w_g_T2 ht, w_r_T3 ht, w_g_T0 ht, w_r_T1 ht, w_p_T5 ht, e6, e5, h1, h2, h3.1, hk0, ra]
          rw [if_pos (by omega)]
          simp (disch := omega) only [b_Tree_take_68, rn_nil, rn_iconst, rn_ldc2, rn_iadd, rn_isub, rn_imul, rn_iand, rn_ior, rn_ixor, rn_ishl, rn_ishr, rn_iushr, rn_ineg, rn_ladd, rn_lsub, rn_lmul, rn_land, rn_lor, rn_lshl, rn_lushr, rn_lcmp, rn_i2l, rn_l2i, rn_dupI, rn_dupR, rn_popI, rn_dup2, rn_idiv, rn_irem, rn_ldiv, rn_lrem, rn_dadd, rn_dsub, rn_dmul, rn_objinit, rn_iload, rn_lload, rn_aload, rn_istore, rn_astore, rn_lstore, rn_iinc, rn_getfield, rn_iaload, rn_laload, rn_aaload, rn_arraylength, rn_putfield, rn_iastore, rn_lastore, rn_goto, rn_ifCond_eq, rn_if_icmp_eq, rn_ifCond_ne, rn_if_icmp_ne, rn_ifCond_lt, rn_if_icmp_lt, rn_ifCond_ge, rn_if_icmp_ge, rn_ifCond_gt, rn_if_icmp_gt, rn_ifCond_le, rn_if_icmp_le, rn_ireturn, rn_lreturn, rn_return, rL_I, rL_L, rL_R, rS_t, rI_t, rG_s, rG_i, rP_s, rP_i, kq_v, kq_s, ok_0, ok_1I, ok_1R, ok_1N, ok_s, rc8_0, rc8_1, rc8_2, rc8_3, rc8_4, List.getElem?_cons_zero, List.getElem?_cons_succ, List.set_cons_zero, List.set_cons_succ, true_and, and_true, if_true, if_false, Int.toNat_natCast, Int.reduceToNat, Int.reduceAdd, Int.reduceSub, Int.reduceMul, Int.reduceNeg, Nat.reduceAdd, Int.reduceLT, Int.reduceLE, Int.reduceEq, reduceIte, jI_add, jI_sub, jI_mul, jI_neg, jI_eq, jI_le, jI_lt, jI_eq0, jI_eq1, jI_lt0, jI_0lt, jI_le0, jI_0le, jI_clamp, jI_inBT, kL_0, kL_1, kL_2, kL_5, kL_6, kL_7, kL_10, kL_11, kL_15, kL_23, kL_31, kL_39, kL_97, kL_99, kL_104, kL_255, kL_349, kL_999, kL_1771561, kL_16777215, kL_4294967295, kL_18446744073709551615, jI_toL, rn_zB, rn_z0, rn_z1, jIB_eq0, jIB_eq1, jIB_eqJ, jB_def, jB_not, jB_and, jB_or, jB_nand, jB_nor, jB_ite, mrg, Decidable.not_not, ite_not, u2_s, u2_n, Int.add_sub_cancel, Int.sub_add_cancel]
          rfl
      · rw [if_neg h3]
        by_cases h4 : c = 44
        · refine ⟨u2 F t 6 (jB (¬ 4 ≤ C 91 (G 71 27).toNat)), A, ⟨fun o ho => u2_a ho, fun _ _ _ _ => rfl⟩, fun hg => ?_, fun d Q => ?_⟩
          · dsimp only at hg ⊢
            have hg2 := of_decide_eq_true hg
            have f27 : u2 G 71 26 1 71 27 = G 71 27 := u2_n (by omega)
            have f26 : u2 G 71 26 1 71 26 = 1 := u2_s
            have f28 : u2 G 71 26 1 71 28 = G 71 28 := u2_n (by omega)
            have f29 : u2 G 71 26 1 71 29 = G 71 29 := u2_n (by omega)
            unfold TRel
            rw [f26, f27, f28, f29]
            refine ⟨⟨by rw [u2_n (by omega)]; exact e3, by rw [u2_n (by omega)]; exact e4, by rw [u2_n (by omega)]; exact e5, ?_⟩, r1, r2⟩
            rw [u2_s]
            unfold jB
            rw [if_pos (by omega)]
          · simp (disch := omega) only [b_Tree_take_0, b_Tree_take_29, b_Tree_take_39, b_Tree_take_45, rn_nil, rn_iconst, rn_ldc2, rn_iadd, rn_isub, rn_imul, rn_iand, rn_ior, rn_ixor, rn_ishl, rn_ishr, rn_iushr, rn_ineg, rn_ladd, rn_lsub, rn_lmul, rn_land, rn_lor, rn_lshl, rn_lushr, rn_lcmp, rn_i2l, rn_l2i, rn_dupI, rn_dupR, rn_popI, rn_dup2, rn_idiv, rn_irem, rn_ldiv, rn_lrem, rn_dadd, rn_dsub, rn_dmul, rn_objinit, rn_iload, rn_lload, rn_aload, rn_istore, rn_astore, rn_lstore, rn_iinc, rn_getfield, rn_iaload, rn_laload, rn_aaload, rn_arraylength, rn_putfield, rn_iastore, rn_lastore, rn_goto, rn_ifCond_eq, rn_if_icmp_eq, rn_ifCond_ne, rn_if_icmp_ne, rn_ifCond_lt, rn_if_icmp_lt, rn_ifCond_ge, rn_if_icmp_ge, rn_ifCond_gt, rn_if_icmp_gt, rn_ifCond_le, rn_if_icmp_le, rn_ireturn, rn_lreturn, rn_return, rL_I, rL_L, rL_R, rS_t, rI_t, rG_s, rG_i, rP_s, rP_i, kq_v, kq_s, ok_0, ok_1I, ok_1R, ok_1N, ok_s, rc8_0, rc8_1, rc8_2, rc8_3, rc8_4, List.getElem?_cons_zero, List.getElem?_cons_succ, List.set_cons_zero, List.set_cons_succ, true_and, and_true, if_true, if_false, Int.toNat_natCast, Int.reduceToNat, Int.reduceAdd, Int.reduceSub, Int.reduceMul, Int.reduceNeg, Nat.reduceAdd, Int.reduceLT, Int.reduceLE, Int.reduceEq, reduceIte, jI_add, jI_sub, jI_mul, jI_neg, jI_eq, jI_le, jI_lt, jI_eq0, jI_eq1, jI_lt0, jI_0lt, jI_le0, jI_0le, jI_clamp, jI_inBT, kL_0, kL_1, kL_2, kL_5, kL_6, kL_7, kL_10, kL_11, kL_15, kL_23, kL_31, kL_39, kL_97, kL_99, kL_104, kL_255, kL_349, kL_999, kL_1771561, kL_16777215, kL_4294967295, kL_18446744073709551615, jI_toL, rn_zB, rn_z0, rn_z1, jIB_eq0, jIB_eq1, jIB_eqJ, jB_def, jB_not, jB_and, jB_or, jB_nand, jB_nor, jB_ite, mrg, Decidable.not_not, ite_not, u2_s, u2_n, Int.add_sub_cancel, Int.sub_add_cancel, w_g_T6 ht, w_g_T5 ht, w_ck_T ht, c_Tree_awaitNext, b_Tree_awaitNext_0, b_Tree_awaitNext_14, b_Tree_awaitNext_18, w_g_T2 ht, w_r_T3 ht, e6, e5, h1, h2, h4, hk0]
            rw [b_Tree_awaitNext_19]
            simp (disch := omega) only [rn_nil, rn_iconst, rn_ldc2, rn_iadd, rn_isub, rn_imul, rn_iand, rn_ior, rn_ixor, rn_ishl, rn_ishr, rn_iushr, rn_ineg, rn_ladd, rn_lsub, rn_lmul, rn_land, rn_lor, rn_lshl, rn_lushr, rn_lcmp, rn_i2l, rn_l2i, rn_dupI, rn_dupR, rn_popI, rn_dup2, rn_idiv, rn_irem, rn_ldiv, rn_lrem, rn_dadd, rn_dsub, rn_dmul, rn_objinit, rn_iload, rn_lload, rn_aload, rn_istore, rn_astore, rn_lstore, rn_iinc, rn_getfield, rn_iaload, rn_laload, rn_aaload, rn_arraylength, rn_putfield, rn_iastore, rn_lastore, rn_goto, rn_ifCond_eq, rn_if_icmp_eq, rn_ifCond_ne, rn_if_icmp_ne, rn_ifCond_lt, rn_if_icmp_lt, rn_ifCond_ge, rn_if_icmp_ge, rn_ifCond_gt, rn_if_icmp_gt, rn_ifCond_le, rn_if_icmp_le, rn_ireturn, rn_lreturn, rn_return, rL_I, rL_L, rL_R, rS_t, rI_t, rG_s, rG_i, rP_s, rP_i, kq_v, kq_s, ok_0, ok_1I, ok_1R, ok_1N, ok_s, rc8_0, rc8_1, rc8_2, rc8_3, rc8_4, List.getElem?_cons_zero, List.getElem?_cons_succ, List.set_cons_zero, List.set_cons_succ, true_and, and_true, if_true, if_false, Int.toNat_natCast, Int.reduceToNat, Int.reduceAdd, Int.reduceSub, Int.reduceMul, Int.reduceNeg, Nat.reduceAdd, Int.reduceLT, Int.reduceLE, Int.reduceEq, reduceIte, jI_add, jI_sub, jI_mul, jI_neg, jI_eq, jI_le, jI_lt, jI_eq0, jI_eq1, jI_lt0, jI_0lt, jI_le0, jI_0le, jI_clamp, jI_inBT, kL_0, kL_1, kL_2, kL_5, kL_6, kL_7, kL_10, kL_11, kL_15, kL_23, kL_31, kL_39, kL_97, kL_99, kL_104, kL_255, kL_349, kL_999, kL_1771561, kL_16777215, kL_4294967295, kL_18446744073709551615, jI_toL, rn_zB, rn_z0, rn_z1, jIB_eq0, jIB_eq1, jIB_eqJ, jB_def, jB_not, jB_and, jB_or, jB_nand, jB_nor, jB_ite, mrg, Decidable.not_not, ite_not, u2_s, u2_n, Int.add_sub_cancel, Int.sub_add_cancel, w_p_T6 ht, w_g_T6 ht]
            rw [jB_congr (show ¬ 4 ≤ C 91 (G 71 27).toNat ↔ decide (C 91 (G 71 27).toNat < 4) = true by simp)]
        · have e7 : decide (c = 44 ∧ C 91 (G 71 27).toNat < 4) = false := by simp [h4]
          refine ⟨F, A, ⟨fun _ _ => rfl, fun _ _ _ _ => rfl⟩, fun h => (by dsimp only at h; rw [e7] at h; cases h), fun d Q => ?_⟩
          by_cases h5 : c = 41
          · simp (disch := omega) only [b_Tree_take_0, b_Tree_take_29, b_Tree_take_39, b_Tree_take_50, b_Tree_take_56, b_Tree_take_67, rn_nil, rn_iconst, rn_ldc2, rn_iadd, rn_isub, rn_imul, rn_iand, rn_ior, rn_ixor, rn_ishl, rn_ishr, rn_iushr, rn_ineg, rn_ladd, rn_lsub, rn_lmul, rn_land, rn_lor, rn_lshl, rn_lushr, rn_lcmp, rn_i2l, rn_l2i, rn_dupI, rn_dupR, rn_popI, rn_dup2, rn_idiv, rn_irem, rn_ldiv, rn_lrem, rn_dadd, rn_dsub, rn_dmul, rn_objinit, rn_iload, rn_lload, rn_aload, rn_istore, rn_astore, rn_lstore, rn_iinc, rn_getfield, rn_iaload, rn_laload, rn_aaload, rn_arraylength, rn_putfield, rn_iastore, rn_lastore, rn_goto, rn_ifCond_eq, rn_if_icmp_eq, rn_ifCond_ne, rn_if_icmp_ne, rn_ifCond_lt, rn_if_icmp_lt, rn_ifCond_ge, rn_if_icmp_ge, rn_ifCond_gt, rn_if_icmp_gt, rn_ifCond_le, rn_if_icmp_le, rn_ireturn, rn_lreturn, rn_return, rL_I, rL_L, rL_R, rS_t, rI_t, rG_s, rG_i, rP_s, rP_i, kq_v, kq_s, ok_0, ok_1I, ok_1R, ok_1N, ok_s, rc8_0, rc8_1, rc8_2, rc8_3, rc8_4, List.getElem?_cons_zero, List.getElem?_cons_succ, List.set_cons_zero, List.set_cons_succ, true_and, and_true, if_true, if_false, Int.toNat_natCast, Int.reduceToNat, Int.reduceAdd, Int.reduceSub, Int.reduceMul, Int.reduceNeg, Nat.reduceAdd, Int.reduceLT, Int.reduceLE, Int.reduceEq, reduceIte, jI_add, jI_sub, jI_mul, jI_neg, jI_eq, jI_le, jI_lt, jI_eq0, jI_eq1, jI_lt0, jI_0lt, jI_le0, jI_0le, jI_clamp, jI_inBT, kL_0, kL_1, kL_2, kL_5, kL_6, kL_7, kL_10, kL_11, kL_15, kL_23, kL_31, kL_39, kL_97, kL_99, kL_104, kL_255, kL_349, kL_999, kL_1771561, kL_16777215, kL_4294967295, kL_18446744073709551615, jI_toL, rn_zB, rn_z0, rn_z1, jIB_eq0, jIB_eq1, jIB_eqJ, jB_def, jB_not, jB_and, jB_or, jB_nand, jB_nor, jB_ite, mrg, Decidable.not_not, ite_not, u2_s, u2_n, Int.add_sub_cancel, Int.sub_add_cancel, w_g_T6 ht, w_g_T5 ht, w_ck_T ht, c_Tree_closeNode, b_Tree_closeNode_0, b_Tree_closeNode_13, w_g_T2 ht, w_r_T3 ht, e6, e5, h1, h2, h5, hk0]
            rw [if_neg (by omega)]
            simp (disch := omega) only [b_Tree_take_68, rn_nil, rn_iconst, rn_ldc2, rn_iadd, rn_isub, rn_imul, rn_iand, rn_ior, rn_ixor, rn_ishl, rn_ishr, rn_iushr, rn_ineg, rn_ladd, rn_lsub, rn_lmul, rn_land, rn_lor, rn_lshl, rn_lushr, rn_lcmp, rn_i2l, rn_l2i, rn_dupI, rn_dupR, rn_popI, rn_dup2, rn_idiv, rn_irem, rn_ldiv, rn_lrem, rn_dadd, rn_dsub, rn_dmul, rn_objinit, rn_iload, rn_lload, rn_aload, rn_istore, rn_astore, rn_lstore, rn_iinc, rn_getfield, rn_iaload, rn_laload, rn_aaload, rn_arraylength, rn_putfield, rn_iastore, rn_lastore, rn_goto, rn_ifCond_eq, rn_if_icmp_eq, rn_ifCond_ne, rn_if_icmp_ne, rn_ifCond_lt, rn_if_icmp_lt, rn_ifCond_ge, rn_if_icmp_ge, rn_ifCond_gt, rn_if_icmp_gt, rn_ifCond_le, rn_if_icmp_le, rn_ireturn, rn_lreturn, rn_return, rL_I, rL_L, rL_R, rS_t, rI_t, rG_s, rG_i, rP_s, rP_i, kq_v, kq_s, ok_0, ok_1I, ok_1R, ok_1N, ok_s, rc8_0, rc8_1, rc8_2, rc8_3, rc8_4, List.getElem?_cons_zero, List.getElem?_cons_succ, List.set_cons_zero, List.set_cons_succ, true_and, and_true, if_true, if_false, Int.toNat_natCast, Int.reduceToNat, Int.reduceAdd, Int.reduceSub, Int.reduceMul, Int.reduceNeg, Nat.reduceAdd, Int.reduceLT, Int.reduceLE, Int.reduceEq, reduceIte, jI_add, jI_sub, jI_mul, jI_neg, jI_eq, jI_le, jI_lt, jI_eq0, jI_eq1, jI_lt0, jI_0lt, jI_le0, jI_0le, jI_clamp, jI_inBT, kL_0, kL_1, kL_2, kL_5, kL_6, kL_7, kL_10, kL_11, kL_15, kL_23, kL_31, kL_39, kL_97, kL_99, kL_104, kL_255, kL_349, kL_999, kL_1771561, kL_16777215, kL_4294967295, kL_18446744073709551615, jI_toL, rn_zB, rn_z0, rn_z1, jIB_eq0, jIB_eq1, jIB_eqJ, jB_def, jB_not, jB_and, jB_or, jB_nand, jB_nor, jB_ite, mrg, Decidable.not_not, ite_not, u2_s, u2_n, Int.add_sub_cancel, Int.sub_add_cancel]
            simp [jB]
          · simp (disch := omega) only [b_Tree_take_0, b_Tree_take_29, b_Tree_take_39, b_Tree_take_50, b_Tree_take_67, b_Tree_take_68, rn_nil, rn_iconst, rn_ldc2, rn_iadd, rn_isub, rn_imul, rn_iand, rn_ior, rn_ixor, rn_ishl, rn_ishr, rn_iushr, rn_ineg, rn_ladd, rn_lsub, rn_lmul, rn_land, rn_lor, rn_lshl, rn_lushr, rn_lcmp, rn_i2l, rn_l2i, rn_dupI, rn_dupR, rn_popI, rn_dup2, rn_idiv, rn_irem, rn_ldiv, rn_lrem, rn_dadd, rn_dsub, rn_dmul, rn_objinit, rn_iload, rn_lload, rn_aload, rn_istore, rn_astore, rn_lstore, rn_iinc, rn_getfield, rn_iaload, rn_laload, rn_aaload, rn_arraylength, rn_putfield, rn_iastore, rn_lastore, rn_goto, rn_ifCond_eq, rn_if_icmp_eq, rn_ifCond_ne, rn_if_icmp_ne, rn_ifCond_lt, rn_if_icmp_lt, rn_ifCond_ge, rn_if_icmp_ge, rn_ifCond_gt, rn_if_icmp_gt, rn_ifCond_le, rn_if_icmp_le, rn_ireturn, rn_lreturn, rn_return, rL_I, rL_L, rL_R, rS_t, rI_t, rG_s, rG_i, rP_s, rP_i, kq_v, kq_s, ok_0, ok_1I, ok_1R, ok_1N, ok_s, rc8_0, rc8_1, rc8_2, rc8_3, rc8_4, List.getElem?_cons_zero, List.getElem?_cons_succ, List.set_cons_zero, List.set_cons_succ, true_and, and_true, if_true, if_false, Int.toNat_natCast, Int.reduceToNat, Int.reduceAdd, Int.reduceSub, Int.reduceMul, Int.reduceNeg, Nat.reduceAdd, Int.reduceLT, Int.reduceLE, Int.reduceEq, reduceIte, jI_add, jI_sub, jI_mul, jI_neg, jI_eq, jI_le, jI_lt, jI_eq0, jI_eq1, jI_lt0, jI_0lt, jI_le0, jI_0le, jI_clamp, jI_inBT, kL_0, kL_1, kL_2, kL_5, kL_6, kL_7, kL_10, kL_11, kL_15, kL_23, kL_31, kL_39, kL_97, kL_99, kL_104, kL_255, kL_349, kL_999, kL_1771561, kL_16777215, kL_4294967295, kL_18446744073709551615, jI_toL, rn_zB, rn_z0, rn_z1, jIB_eq0, jIB_eq1, jIB_eqJ, jB_def, jB_not, jB_and, jB_or, jB_nand, jB_nor, jB_ite, mrg, Decidable.not_not, ite_not, u2_s, u2_n, Int.add_sub_cancel, Int.sub_add_cancel, w_g_T6 ht, w_g_T5 ht, e6, e5, h1, h2, h4, h5]
            simp [jB]
  · rw [if_pos h1]
    by_cases h2 : c = 40
    · rw [if_pos h2]
      refine ⟨u2 (u2 F t 3 (F t 3 + 1)) t 5 (F t 3), bgA t F A (-1), ⟨fun o ho => by rw [u2_a ho, u2_a ho], fun a g1 g2 g3 => bgA_fr a g1 g2 g3⟩, fun _ => ?_, fun d Q => ?_⟩
      · dsimp only
        have f27 : u2 (ndF G) 71 27 (G 71 29) 71 27 = G 71 29 := u2_s
        have f26 : u2 (ndF G) 71 27 (G 71 29) 71 26 = G 71 26 := by unfold ndF; rw [u2_n (by omega), u2_n (by omega)]
        have f28 : u2 (ndF G) 71 27 (G 71 29) 71 28 = G 71 28 := by unfold ndF; rw [u2_n (by omega), u2_n (by omega)]
        have f29 : u2 (ndF G) 71 27 (G 71 29) 71 29 = G 71 29 + 1 := by unfold ndF; rw [u2_n (by omega), u2_s]
        unfold TRel
        rw [f26, f27, f28, f29]
        refine ⟨⟨by rw [u2_n (by omega), u2_s, e3], by rw [u2_n (by omega), u2_n (by omega)]; exact e4, by rw [u2_s, e3], by rw [u2_n (by omega), u2_n (by omega)]; exact e6⟩, ?_, ?_⟩
        · intro x hx
          rw [(bgA_1 x).1, (bgA_1 x).2, (nd_89 x).1, (nd_89 x).2.1, e3, e5]
          by_cases g : x = (G 71 29).toNat
          · rw [if_pos g, if_pos g, if_pos g, if_pos g]
            exact ⟨rfl, rfl⟩
          · rw [if_neg g, if_neg g, if_neg g, if_neg g]
            exact r1 x (by omega)
        · intro j hj
          cases j with
          | zero =>
            show bgA t F A (-1) (t + 3) (G 71 29).toNat = ndA G C (-1) 91 (G 71 29).toNat + (if (0 : Nat) = 0 then 0 else 1)
            rw [bgA_3 (by omega) (by omega), (nd_89 _).2.2, if_pos rfl, if_pos rfl, if_pos (by omega)]
            rfl
          | succ j =>
            have e0 : itr (ndA G C (-1) 89) (G 71 29) (j + 1) = itr (C 89) (G 71 27) j := by
              rw [itr_s (by omega), (nd_89 _).1, if_pos rfl]
              exact itr_cg hpl hi (fun i h => by rw [(nd_89 i).1, if_neg (by omega)]) j
            rw [e0] at hj ⊢
            have lt := itr_lt hpl hi j
            have := r2 j hj
            rw [bgA_3 (by omega) (by omega), (nd_89 _).2.2, if_neg (by omega), if_neg (show ¬ (itr (C 89) (G 71 27) j).toNat = (G 71 29).toNat by omega), if_neg (show ¬ j + 1 = 0 by omega), e5, this]
            by_cases g : j = 0
            · subst g
              have e1 : itr (C 89) (G 71 27) 0 = G 71 27 := rfl
              rw [if_pos (by omega), if_pos rfl, Int.add_zero]
            · rw [if_neg (by omega), if_neg g]
      · simp (disch := omega) only [b_Tree_take_0, b_Tree_take_7, b_Tree_take_13, rn_nil, rn_iconst, rn_ldc2, rn_iadd, rn_isub, rn_imul, rn_iand, rn_ior, rn_ixor, rn_ishl, rn_ishr, rn_iushr, rn_ineg, rn_ladd, rn_lsub, rn_lmul, rn_land, rn_lor, rn_lshl, rn_lushr, rn_lcmp, rn_i2l, rn_l2i, rn_dupI, rn_dupR, rn_popI, rn_dup2, rn_idiv, rn_irem, rn_ldiv, rn_lrem, rn_dadd, rn_dsub, rn_dmul, rn_objinit, rn_iload, rn_lload, rn_aload, rn_istore, rn_astore, rn_lstore, rn_iinc, rn_getfield, rn_iaload, rn_laload, rn_aaload, rn_arraylength, rn_putfield, rn_iastore, rn_lastore, rn_goto, rn_ifCond_eq, rn_if_icmp_eq, rn_ifCond_ne, rn_if_icmp_ne, rn_ifCond_lt, rn_if_icmp_lt, rn_ifCond_ge, rn_if_icmp_ge, rn_ifCond_gt, rn_if_icmp_gt, rn_ifCond_le, rn_if_icmp_le, rn_ireturn, rn_lreturn, rn_return, rL_I, rL_L, rL_R, rS_t, rI_t, rG_s, rG_i, rP_s, rP_i, kq_v, kq_s, ok_0, ok_1I, ok_1R, ok_1N, ok_s, rc8_0, rc8_1, rc8_2, rc8_3, rc8_4, List.getElem?_cons_zero, List.getElem?_cons_succ, List.set_cons_zero, List.set_cons_succ, true_and, and_true, if_true, if_false, Int.toNat_natCast, Int.reduceToNat, Int.reduceAdd, Int.reduceSub, Int.reduceMul, Int.reduceNeg, Nat.reduceAdd, Int.reduceLT, Int.reduceLE, Int.reduceEq, reduceIte, jI_add, jI_sub, jI_mul, jI_neg, jI_eq, jI_le, jI_lt, jI_eq0, jI_eq1, jI_lt0, jI_0lt, jI_le0, jI_0le, jI_clamp, jI_inBT, kL_0, kL_1, kL_2, kL_5, kL_6, kL_7, kL_10, kL_11, kL_15, kL_23, kL_31, kL_39, kL_97, kL_99, kL_104, kL_255, kL_349, kL_999, kL_1771561, kL_16777215, kL_4294967295, kL_18446744073709551615, jI_toL, rn_zB, rn_z0, rn_z1, jIB_eq0, jIB_eq1, jIB_eqJ, jB_def, jB_not, jB_and, jB_or, jB_nand, jB_nor, jB_ite, mrg, Decidable.not_not, ite_not, u2_s, u2_n, Int.add_sub_cancel, Int.sub_add_cancel, w_g_T6 ht, w_ck_T ht, c_Tree_openNode, b_Tree_openNode_0, c_Tree_beginNode, s_Tr_begin ht, w_p_T5 ht, e6, h1, h2]
        rw [b_Tree_take_28]
        simp (disch := omega) only [rn_nil, rn_iconst, rn_ldc2, rn_iadd, rn_isub, rn_imul, rn_iand, rn_ior, rn_ixor, rn_ishl, rn_ishr, rn_iushr, rn_ineg, rn_ladd, rn_lsub, rn_lmul, rn_land, rn_lor, rn_lshl, rn_lushr, rn_lcmp, rn_i2l, rn_l2i, rn_dupI, rn_dupR, rn_popI, rn_dup2, rn_idiv, rn_irem, rn_ldiv, rn_lrem, rn_dadd, rn_dsub, rn_dmul, rn_objinit, rn_iload, rn_lload, rn_aload, rn_istore, rn_astore, rn_lstore, rn_iinc, rn_getfield, rn_iaload, rn_laload, rn_aaload, rn_arraylength, rn_putfield, rn_iastore, rn_lastore, rn_goto, rn_ifCond_eq, rn_if_icmp_eq, rn_ifCond_ne, rn_if_icmp_ne, rn_ifCond_lt, rn_if_icmp_lt, rn_ifCond_ge, rn_if_icmp_ge, rn_ifCond_gt, rn_if_icmp_gt, rn_ifCond_le, rn_if_icmp_le, rn_ireturn, rn_lreturn, rn_return, rL_I, rL_L, rL_R, rS_t, rI_t, rG_s, rG_i, rP_s, rP_i, kq_v, kq_s, ok_0, ok_1I, ok_1R, ok_1N, ok_s, rc8_0, rc8_1, rc8_2, rc8_3, rc8_4, List.getElem?_cons_zero, List.getElem?_cons_succ, List.set_cons_zero, List.set_cons_succ, true_and, and_true, if_true, if_false, Int.toNat_natCast, Int.reduceToNat, Int.reduceAdd, Int.reduceSub, Int.reduceMul, Int.reduceNeg, Nat.reduceAdd, Int.reduceLT, Int.reduceLE, Int.reduceEq, reduceIte, jI_add, jI_sub, jI_mul, jI_neg, jI_eq, jI_le, jI_lt, jI_eq0, jI_eq1, jI_lt0, jI_0lt, jI_le0, jI_0le, jI_clamp, jI_inBT, kL_0, kL_1, kL_2, kL_5, kL_6, kL_7, kL_10, kL_11, kL_15, kL_23, kL_31, kL_39, kL_97, kL_99, kL_104, kL_255, kL_349, kL_999, kL_1771561, kL_16777215, kL_4294967295, kL_18446744073709551615, jI_toL, rn_zB, rn_z0, rn_z1, jIB_eq0, jIB_eq1, jIB_eqJ, jB_def, jB_not, jB_and, jB_or, jB_nand, jB_nor, jB_ite, mrg, Decidable.not_not, ite_not, u2_s, u2_n, Int.add_sub_cancel, Int.sub_add_cancel]
        rfl
    · rw [if_neg h2]
      by_cases h3 : (97 ≤ c ∧ c ≤ 104) ∧ ibit (G 71 28) (c - 97).toNat = 0
      · rw [if_pos h3]
        have o8 := or_8 hu (show 0 ≤ c - 97 ∧ c - 97 < 8 by omega) h3.2
        refine ⟨u2 (u2 (u2 F t 4 (G 71 28 + 2 ^ (c - 97).toNat)) t 3 (F t 3 + 1)) t 6 0, bgA t F A (c - 97), ⟨fun o ho => by rw [u2_a ho, u2_a ho, u2_a ho], fun a g1 g2 g3 => bgA_fr a g1 g2 g3⟩, fun _ => ?_, fun d Q => ?_⟩
        · dsimp only
          have m1 : ndA G C (c - 97) 89 (G 71 29).toNat = G 71 27 := by rw [(nd_89 _).1, if_pos rfl]
          generalize hG' : enF (ndF (u2 G 71 28 (G 71 28 + 2 ^ (c - 97).toNat))) (ndA G C (c - 97)) (G 71 29) = G'
          have f27 : G' 71 27 = G 71 27 := by rw [← hG', ← m1]; exact u2_s
          have f26 : G' 71 26 = 0 := by rw [← hG']; unfold enF; rw [u2_n (by omega), u2_s]
          have f28 : G' 71 28 = G 71 28 + 2 ^ (c - 97).toNat := by rw [← hG']; unfold enF ndF; rw [u2_n (by omega), u2_n (by omega), u2_n (by omega), u2_s]
          have f29 : G' 71 29 = G 71 29 + 1 := by rw [← hG']; unfold enF ndF; rw [u2_n (by omega), u2_n (by omega), u2_s, u2_n (by omega)]
          unfold TRel
          rw [f26, f27, f28, f29]
          refine ⟨⟨by rw [u2_n (by omega), u2_s, e3], by rw [u2_n (by omega), u2_n (by omega), u2_s], by rw [u2_n (by omega), u2_n (by omega), u2_n (by omega)]; exact e5, u2_s⟩, ?_, ?_⟩
          · intro x hx
            rw [(bgA_1 x).1, (bgA_1 x).2, (en_89 (by rw [m1]; omega) x).1, (en_89 (by rw [m1]; omega) x).2.1, (nd_89 x).1, (nd_89 x).2.1, e3, e5]
            by_cases g : x = (G 71 29).toNat
            · rw [if_pos g, if_pos g, if_pos g, if_pos g]
              exact ⟨rfl, rfl⟩
            · rw [if_neg g, if_neg g, if_neg g, if_neg g]
              exact r1 x (by omega)
          · intro j hj
            have e0 : itr (enA (ndA G C (c - 97)) (G 71 29) 89) (G 71 27) j = itr (C 89) (G 71 27) j := itr_cg hpl hi (fun i h => by rw [(en_89 (by rw [m1]; omega) i).1, (nd_89 i).1, if_neg (by omega)]) j
            rw [e0] at hj ⊢
            have lt := itr_lt hpl hi j
            have := r2 j hj
            rw [bgA_3 (by omega) (by omega), (en_89 (by rw [m1]; omega) _).2.2, (nd_89 _).2.2, m1, if_neg (by omega), if_neg (show ¬ (itr (C 89) (G 71 27) j).toNat = (G 71 29).toNat by omega), e5, this]
            by_cases g : j = 0
            · subst g
              have e1 : itr (C 89) (G 71 27) 0 = G 71 27 := rfl
              have hq : (((itr (C 89) (G 71 27) 0).toNat : Nat) : Int) = G 71 27 := by omega
              rw [if_pos hq, if_pos hq, if_pos rfl]
              omega
            · have hq : ¬ (((itr (C 89) (G 71 27) j).toNat : Nat) : Int) = G 71 27 := by omega
              rw [if_neg hq, if_neg hq]
        · have b1 := ibit_01 (G 71 28) (c - 97).toNat
          have p0 := pow_pos2 (c - 97).toNat
          have q3 : u2 F t 4 (G 71 28 + 2 ^ (c - 97).toNat) t 3 = F t 3 := u2_n (by omega)
          have q5 : u2 F t 4 (G 71 28 + 2 ^ (c - 97).toNat) t 5 = F t 5 := u2_n (by omega)
          have q6 : bgA t (u2 F t 4 (G 71 28 + 2 ^ (c - 97).toNat)) A (c - 97) = bgA t F A (c - 97) := by unfold bgA; rw [q3, q5]
          simp (disch := omega) only [b_Tree_take_0, b_Tree_take_7, b_Tree_take_20, rn_nil, rn_iconst, rn_ldc2, rn_iadd, rn_isub, rn_imul, rn_iand, rn_ior, rn_ixor, rn_ishl, rn_ishr, rn_iushr, rn_ineg, rn_ladd, rn_lsub, rn_lmul, rn_land, rn_lor, rn_lshl, rn_lushr, rn_lcmp, rn_i2l, rn_l2i, rn_dupI, rn_dupR, rn_popI, rn_dup2, rn_idiv, rn_irem, rn_ldiv, rn_lrem, rn_dadd, rn_dsub, rn_dmul, rn_objinit, rn_iload, rn_lload, rn_aload, rn_istore, rn_astore, rn_lstore, rn_iinc, rn_getfield, rn_iaload, rn_laload, rn_aaload, rn_arraylength, rn_putfield, rn_iastore, rn_lastore, rn_goto, rn_ifCond_eq, rn_if_icmp_eq, rn_ifCond_ne, rn_if_icmp_ne, rn_ifCond_lt, rn_if_icmp_lt, rn_ifCond_ge, rn_if_icmp_ge, rn_ifCond_gt, rn_if_icmp_gt, rn_ifCond_le, rn_if_icmp_le, rn_ireturn, rn_lreturn, rn_return, rL_I, rL_L, rL_R, rS_t, rI_t, rG_s, rG_i, rP_s, rP_i, kq_v, kq_s, ok_0, ok_1I, ok_1R, ok_1N, ok_s, rc8_0, rc8_1, rc8_2, rc8_3, rc8_4, List.getElem?_cons_zero, List.getElem?_cons_succ, List.set_cons_zero, List.set_cons_succ, true_and, and_true, if_true, if_false, Int.toNat_natCast, Int.reduceToNat, Int.reduceAdd, Int.reduceSub, Int.reduceMul, Int.reduceNeg, Nat.reduceAdd, Int.reduceLT, Int.reduceLE, Int.reduceEq, reduceIte, jI_add, jI_sub, jI_mul, jI_neg, jI_eq, jI_le, jI_lt, jI_eq0, jI_eq1, jI_lt0, jI_0lt, jI_le0, jI_0le, jI_clamp, jI_inBT, kL_0, kL_1, kL_2, kL_5, kL_6, kL_7, kL_10, kL_11, kL_15, kL_23, kL_31, kL_39, kL_97, kL_99, kL_104, kL_255, kL_349, kL_999, kL_1771561, kL_16777215, kL_4294967295, kL_18446744073709551615, jI_toL, rn_zB, rn_z0, rn_z1, jIB_eq0, jIB_eq1, jIB_eqJ, jB_def, jB_not, jB_and, jB_or, jB_nand, jB_nor, jB_ite, mrg, Decidable.not_not, ite_not, u2_s, u2_n, Int.add_sub_cancel, Int.sub_add_cancel, w_g_T6 ht, w_ck_T ht, c_Tree_landNode, e6, h1, h2]
          simp (disch := omega) only [b_Tree_landNode_0, b_Tree_landNode_4, b_Tree_landNode_10, b_Tree_landNode_21, b_Tree_landNode_23, rn_nil, rn_iconst, rn_ldc2, rn_iadd, rn_isub, rn_imul, rn_iand, rn_ior, rn_ixor, rn_ishl, rn_ishr, rn_iushr, rn_ineg, rn_ladd, rn_lsub, rn_lmul, rn_land, rn_lor, rn_lshl, rn_lushr, rn_lcmp, rn_i2l, rn_l2i, rn_dupI, rn_dupR, rn_popI, rn_dup2, rn_idiv, rn_irem, rn_ldiv, rn_lrem, rn_dadd, rn_dsub, rn_dmul, rn_objinit, rn_iload, rn_lload, rn_aload, rn_istore, rn_astore, rn_lstore, rn_iinc, rn_getfield, rn_iaload, rn_laload, rn_aaload, rn_arraylength, rn_putfield, rn_iastore, rn_lastore, rn_goto, rn_ifCond_eq, rn_if_icmp_eq, rn_ifCond_ne, rn_if_icmp_ne, rn_ifCond_lt, rn_if_icmp_lt, rn_ifCond_ge, rn_if_icmp_ge, rn_ifCond_gt, rn_if_icmp_gt, rn_ifCond_le, rn_if_icmp_le, rn_ireturn, rn_lreturn, rn_return, rL_I, rL_L, rL_R, rS_t, rI_t, rG_s, rG_i, rP_s, rP_i, kq_v, kq_s, ok_0, ok_1I, ok_1R, ok_1N, ok_s, rc8_0, rc8_1, rc8_2, rc8_3, rc8_4, List.getElem?_cons_zero, List.getElem?_cons_succ, List.set_cons_zero, List.set_cons_succ, true_and, and_true, if_true, if_false, Int.toNat_natCast, Int.reduceToNat, Int.reduceAdd, Int.reduceSub, Int.reduceMul, Int.reduceNeg, Nat.reduceAdd, Int.reduceLT, Int.reduceLE, Int.reduceEq, reduceIte, jI_add, jI_sub, jI_mul, jI_neg, jI_eq, jI_le, jI_lt, jI_eq0, jI_eq1, jI_lt0, jI_0lt, jI_le0, jI_0le, jI_clamp, jI_inBT, kL_0, kL_1, kL_2, kL_5, kL_6, kL_7, kL_10, kL_11, kL_15, kL_23, kL_31, kL_39, kL_97, kL_99, kL_104, kL_255, kL_349, kL_999, kL_1771561, kL_16777215, kL_4294967295, kL_18446744073709551615, jI_toL, rn_zB, rn_z0, rn_z1, jIB_eq0, jIB_eq1, jIB_eqJ, jB_def, jB_not, jB_and, jB_or, jB_nand, jB_nor, jB_ite, mrg, Decidable.not_not, ite_not, u2_s, u2_n, Int.add_sub_cancel, Int.sub_add_cancel, w_g_T4 ht, e4, jI_bit, jI_shl1, jI_or, o8, h3.2, w_p_T4 ht, w_ck_T ht, c_Tree_beginNode]
          rw [if_neg (by omega), if_neg (by omega), s_Tr_begin ht (by rw [q3]; omega) (by rw [q3, q5]; omega), q3, q6]
          simp (disch := omega) only [b_Tree_take_28, rn_nil, rn_iconst, rn_ldc2, rn_iadd, rn_isub, rn_imul, rn_iand, rn_ior, rn_ixor, rn_ishl, rn_ishr, rn_iushr, rn_ineg, rn_ladd, rn_lsub, rn_lmul, rn_land, rn_lor, rn_lshl, rn_lushr, rn_lcmp, rn_i2l, rn_l2i, rn_dupI, rn_dupR, rn_popI, rn_dup2, rn_idiv, rn_irem, rn_ldiv, rn_lrem, rn_dadd, rn_dsub, rn_dmul, rn_objinit, rn_iload, rn_lload, rn_aload, rn_istore, rn_astore, rn_lstore, rn_iinc, rn_getfield, rn_iaload, rn_laload, rn_aaload, rn_arraylength, rn_putfield, rn_iastore, rn_lastore, rn_goto, rn_ifCond_eq, rn_if_icmp_eq, rn_ifCond_ne, rn_if_icmp_ne, rn_ifCond_lt, rn_if_icmp_lt, rn_ifCond_ge, rn_if_icmp_ge, rn_ifCond_gt, rn_if_icmp_gt, rn_ifCond_le, rn_if_icmp_le, rn_ireturn, rn_lreturn, rn_return, rL_I, rL_L, rL_R, rS_t, rI_t, rG_s, rG_i, rP_s, rP_i, kq_v, kq_s, ok_0, ok_1I, ok_1R, ok_1N, ok_s, rc8_0, rc8_1, rc8_2, rc8_3, rc8_4, List.getElem?_cons_zero, List.getElem?_cons_succ, List.set_cons_zero, List.set_cons_succ, true_and, and_true, if_true, if_false, Int.toNat_natCast, Int.reduceToNat, Int.reduceAdd, Int.reduceSub, Int.reduceMul, Int.reduceNeg, Nat.reduceAdd, Int.reduceLT, Int.reduceLE, Int.reduceEq, reduceIte, jI_add, jI_sub, jI_mul, jI_neg, jI_eq, jI_le, jI_lt, jI_eq0, jI_eq1, jI_lt0, jI_0lt, jI_le0, jI_0le, jI_clamp, jI_inBT, kL_0, kL_1, kL_2, kL_5, kL_6, kL_7, kL_10, kL_11, kL_15, kL_23, kL_31, kL_39, kL_97, kL_99, kL_104, kL_255, kL_349, kL_999, kL_1771561, kL_16777215, kL_4294967295, kL_18446744073709551615, jI_toL, rn_zB, rn_z0, rn_z1, jIB_eq0, jIB_eq1, jIB_eqJ, jB_def, jB_not, jB_and, jB_or, jB_nand, jB_nor, jB_ite, mrg, Decidable.not_not, ite_not, u2_s, u2_n, Int.add_sub_cancel, Int.sub_add_cancel, w_p_T60 ht]
          rfl
      · rw [if_neg h3]
        refine ⟨F, A, ⟨fun _ _ => rfl, fun _ _ _ _ => rfl⟩, fun h => (by cases h), fun d Q => ?_⟩
        have b1 := ibit_01 (G 71 28) (c - 97).toNat
        simp (disch := omega) only [b_Tree_take_0, b_Tree_take_7, b_Tree_take_20, rn_nil, rn_iconst, rn_ldc2, rn_iadd, rn_isub, rn_imul, rn_iand, rn_ior, rn_ixor, rn_ishl, rn_ishr, rn_iushr, rn_ineg, rn_ladd, rn_lsub, rn_lmul, rn_land, rn_lor, rn_lshl, rn_lushr, rn_lcmp, rn_i2l, rn_l2i, rn_dupI, rn_dupR, rn_popI, rn_dup2, rn_idiv, rn_irem, rn_ldiv, rn_lrem, rn_dadd, rn_dsub, rn_dmul, rn_objinit, rn_iload, rn_lload, rn_aload, rn_istore, rn_astore, rn_lstore, rn_iinc, rn_getfield, rn_iaload, rn_laload, rn_aaload, rn_arraylength, rn_putfield, rn_iastore, rn_lastore, rn_goto, rn_ifCond_eq, rn_if_icmp_eq, rn_ifCond_ne, rn_if_icmp_ne, rn_ifCond_lt, rn_if_icmp_lt, rn_ifCond_ge, rn_if_icmp_ge, rn_ifCond_gt, rn_if_icmp_gt, rn_ifCond_le, rn_if_icmp_le, rn_ireturn, rn_lreturn, rn_return, rL_I, rL_L, rL_R, rS_t, rI_t, rG_s, rG_i, rP_s, rP_i, kq_v, kq_s, ok_0, ok_1I, ok_1R, ok_1N, ok_s, rc8_0, rc8_1, rc8_2, rc8_3, rc8_4, List.getElem?_cons_zero, List.getElem?_cons_succ, List.set_cons_zero, List.set_cons_succ, true_and, and_true, if_true, if_false, Int.toNat_natCast, Int.reduceToNat, Int.reduceAdd, Int.reduceSub, Int.reduceMul, Int.reduceNeg, Nat.reduceAdd, Int.reduceLT, Int.reduceLE, Int.reduceEq, reduceIte, jI_add, jI_sub, jI_mul, jI_neg, jI_eq, jI_le, jI_lt, jI_eq0, jI_eq1, jI_lt0, jI_0lt, jI_le0, jI_0le, jI_clamp, jI_inBT, kL_0, kL_1, kL_2, kL_5, kL_6, kL_7, kL_10, kL_11, kL_15, kL_23, kL_31, kL_39, kL_97, kL_99, kL_104, kL_255, kL_349, kL_999, kL_1771561, kL_16777215, kL_4294967295, kL_18446744073709551615, jI_toL, rn_zB, rn_z0, rn_z1, jIB_eq0, jIB_eq1, jIB_eqJ, jB_def, jB_not, jB_and, jB_or, jB_nand, jB_nor, jB_ite, mrg, Decidable.not_not, ite_not, u2_s, u2_n, Int.add_sub_cancel, Int.sub_add_cancel, w_g_T6 ht, w_ck_T ht, c_Tree_landNode, e6, h1, h2]
        simp (disch := omega) only [b_Tree_landNode_0, b_Tree_landNode_4, b_Tree_landNode_10, b_Tree_landNode_21, rn_nil, rn_iconst, rn_ldc2, rn_iadd, rn_isub, rn_imul, rn_iand, rn_ior, rn_ixor, rn_ishl, rn_ishr, rn_iushr, rn_ineg, rn_ladd, rn_lsub, rn_lmul, rn_land, rn_lor, rn_lshl, rn_lushr, rn_lcmp, rn_i2l, rn_l2i, rn_dupI, rn_dupR, rn_popI, rn_dup2, rn_idiv, rn_irem, rn_ldiv, rn_lrem, rn_dadd, rn_dsub, rn_dmul, rn_objinit, rn_iload, rn_lload, rn_aload, rn_istore, rn_astore, rn_lstore, rn_iinc, rn_getfield, rn_iaload, rn_laload, rn_aaload, rn_arraylength, rn_putfield, rn_iastore, rn_lastore, rn_goto, rn_ifCond_eq, rn_if_icmp_eq, rn_ifCond_ne, rn_if_icmp_ne, rn_ifCond_lt, rn_if_icmp_lt, rn_ifCond_ge, rn_if_icmp_ge, rn_ifCond_gt, rn_if_icmp_gt, rn_ifCond_le, rn_if_icmp_le, rn_ireturn, rn_lreturn, rn_return, rL_I, rL_L, rL_R, rS_t, rI_t, rG_s, rG_i, rP_s, rP_i, kq_v, kq_s, ok_0, ok_1I, ok_1R, ok_1N, ok_s, rc8_0, rc8_1, rc8_2, rc8_3, rc8_4, List.getElem?_cons_zero, List.getElem?_cons_succ, List.set_cons_zero, List.set_cons_succ, true_and, and_true, if_true, if_false, Int.toNat_natCast, Int.reduceToNat, Int.reduceAdd, Int.reduceSub, Int.reduceMul, Int.reduceNeg, Nat.reduceAdd, Int.reduceLT, Int.reduceLE, Int.reduceEq, reduceIte, jI_add, jI_sub, jI_mul, jI_neg, jI_eq, jI_le, jI_lt, jI_eq0, jI_eq1, jI_lt0, jI_0lt, jI_le0, jI_0le, jI_clamp, jI_inBT, kL_0, kL_1, kL_2, kL_5, kL_6, kL_7, kL_10, kL_11, kL_15, kL_23, kL_31, kL_39, kL_97, kL_99, kL_104, kL_255, kL_349, kL_999, kL_1771561, kL_16777215, kL_4294967295, kL_18446744073709551615, jI_toL, rn_zB, rn_z0, rn_z1, jIB_eq0, jIB_eq1, jIB_eqJ, jB_def, jB_not, jB_and, jB_or, jB_nand, jB_nor, jB_ite, mrg, Decidable.not_not, ite_not, u2_s, u2_n, Int.add_sub_cancel, Int.sub_add_cancel, w_g_T4 ht, e4, jI_bit]
        rw [b_Tree_take_28]
        simp (disch := omega) only [rn_nil, rn_iconst, rn_ldc2, rn_iadd, rn_isub, rn_imul, rn_iand, rn_ior, rn_ixor, rn_ishl, rn_ishr, rn_iushr, rn_ineg, rn_ladd, rn_lsub, rn_lmul, rn_land, rn_lor, rn_lshl, rn_lushr, rn_lcmp, rn_i2l, rn_l2i, rn_dupI, rn_dupR, rn_popI, rn_dup2, rn_idiv, rn_irem, rn_ldiv, rn_lrem, rn_dadd, rn_dsub, rn_dmul, rn_objinit, rn_iload, rn_lload, rn_aload, rn_istore, rn_astore, rn_lstore, rn_iinc, rn_getfield, rn_iaload, rn_laload, rn_aaload, rn_arraylength, rn_putfield, rn_iastore, rn_lastore, rn_goto, rn_ifCond_eq, rn_if_icmp_eq, rn_ifCond_ne, rn_if_icmp_ne, rn_ifCond_lt, rn_if_icmp_lt, rn_ifCond_ge, rn_if_icmp_ge, rn_ifCond_gt, rn_if_icmp_gt, rn_ifCond_le, rn_if_icmp_le, rn_ireturn, rn_lreturn, rn_return, rL_I, rL_L, rL_R, rS_t, rI_t, rG_s, rG_i, rP_s, rP_i, kq_v, kq_s, ok_0, ok_1I, ok_1R, ok_1N, ok_s, rc8_0, rc8_1, rc8_2, rc8_3, rc8_4, List.getElem?_cons_zero, List.getElem?_cons_succ, List.set_cons_zero, List.set_cons_succ, true_and, and_true, if_true, if_false, Int.toNat_natCast, Int.reduceToNat, Int.reduceAdd, Int.reduceSub, Int.reduceMul, Int.reduceNeg, Nat.reduceAdd, Int.reduceLT, Int.reduceLE, Int.reduceEq, reduceIte, jI_add, jI_sub, jI_mul, jI_neg, jI_eq, jI_le, jI_lt, jI_eq0, jI_eq1, jI_lt0, jI_0lt, jI_le0, jI_0le, jI_clamp, jI_inBT, kL_0, kL_1, kL_2, kL_5, kL_6, kL_7, kL_10, kL_11, kL_15, kL_23, kL_31, kL_39, kL_97, kL_99, kL_104, kL_255, kL_349, kL_999, kL_1771561, kL_16777215, kL_4294967295, kL_18446744073709551615, jI_toL, rn_zB, rn_z0, rn_z1, jIB_eq0, jIB_eq1, jIB_eqJ, jB_def, jB_not, jB_and, jB_or, jB_nand, jB_nor, jB_ite, mrg, Decidable.not_not, ite_not, u2_s, u2_n, Int.add_sub_cancel, Int.sub_add_cancel]
        by_cases g1 : c - 97 < 0
        · rw [if_pos g1]; simp [jB]
        · rw [if_neg g1]
          by_cases g2 : 8 ≤ c - 97
          · rw [if_pos g2]; simp [jB]
          · rw [if_neg g2, if_neg (by omega)]; simp [jB]
end TRE2
