/-! THE CLASS: the page -/
def lzX (z : Int) : Nat → Nat → Nat
  | i, 0 => i
  | i, n + 1 => if byt z i = 0 then i else lzX z (i + 1) n
theorem lzX_rng (z : Int) : ∀ (n i : Nat), i ≤ lzX z i n ∧ lzX z i n ≤ i + n
  | 0, i => by simp [lzX]
  | n + 1, i => by
    have := lzX_rng z n (i + 1)
    rw [lzX]
    split <;> omega
def arP (z : Int) (l j : Nat) : Bool := decide (byt z j ≤ 126 ∧ (j ≤ l ∨ byt z j = 0))
theorem lt2_f (z : Int) : ∀ (n i : Nat) (m : Int), (lt2 z i n m false).2 = false
  | 0, i, m => rfl
  | n + 1, i, m => by
    rw [lt2, Bool.false_and]
    exact lt2_f z n _ _
theorem lt2_b (z : Int) : ∀ (n i : Nat) (m : Int) (c : Bool), m < i → (lt2 z i n m c).2 = (c && allB (fun j => decide (byt z j = 0)) i n) ∧ (allB (fun j => decide (byt z j = 0)) i n = true → (lt2 z i n m c).1 = m)
  | 0, i, m, c, h => by simp [lt2, allB]
  | n + 1, i, m, c, h => by
    have hb := byt_rng z i
    rw [lt2, allB]
    by_cases g : byt z i = 0
    · have ih := lt2_b z n (i + 1) (m + if 0 < byt z i then 1 else 0) (c && decide (byt z i ≤ 126 ∧ (byt z i = 0 ∨ m = i))) (by rw [if_neg (by omega)]; omega)
      rw [if_neg (show ¬ 0 < byt z i by omega), Int.add_zero, show decide (byt z i ≤ 126 ∧ (byt z i = 0 ∨ m = i)) = true by simp; omega, Bool.and_true] at ih ⊢
      rw [show decide (byt z i = 0) = true by simp [g], Bool.true_and]
      exact ih
    · have e : decide (byt z i ≤ 126 ∧ (byt z i = 0 ∨ m = i)) = false := by simp; omega
      rw [e, show decide (byt z i = 0) = false by simp [g], Bool.false_and, Bool.and_false]
      constructor
      · rw [lt2_f z n]
      · intro h; cases h
/-- the reference's letters are the class's -/
theorem lt2_a (z : Int) : ∀ (n i : Nat) (c : Bool), (lt2 z i n i c).2 = (c && allB (arP z (lzX z i n)) i n) ∧ (allB (arP z (lzX z i n)) i n = true → (lt2 z i n i c).1 = lzX z i n)
  | 0, i, c => by simp [lt2, allB, lzX]
  | n + 1, i, c => by
    have hb := byt_rng z i
    rw [lt2, lzX]
    by_cases g : byt z i = 0
    · rw [if_pos g]
      have ih := lt2_b z n (i + 1) ((i : Int) + if 0 < byt z i then 1 else 0) (c && decide (byt z i ≤ 126 ∧ (byt z i = 0 ∨ (i : Int) = i))) (by rw [if_neg (by omega)]; omega)
      rw [if_neg (show ¬ 0 < byt z i by omega), Int.add_zero, show decide (byt z i ≤ 126 ∧ (byt z i = 0 ∨ (i : Int) = i)) = true by simp; omega, Bool.and_true] at ih ⊢
      have e1 : allB (arP z i) i (n + 1) = allB (fun j => decide (byt z j = 0)) (i + 1) n := by
        rw [allB, show arP z i i = true by unfold arP; simp; omega, Bool.true_and]
        apply allB_ext
        intro j h1 h2
        unfold arP
        apply decide_eq_decide.mpr
        omega
      rw [e1]
      exact ih
    · rw [if_neg g]
      have ih := lt2_a z n (i + 1) (c && decide (byt z i ≤ 126 ∧ (byt z i = 0 ∨ (i : Int) = i)))
      have hl := lzX_rng z n (i + 1)
      have e1 : allB (arP z (lzX z (i + 1) n)) i (n + 1) = (decide (byt z i ≤ 126) && allB (arP z (lzX z (i + 1) n)) (i + 1) n) := by
        rw [allB]
        congr 1
        unfold arP
        apply decide_eq_decide.mpr
        omega
      rw [if_pos (show 0 < byt z i by omega), e1]
      rw [show ((i + 1 : Nat) : Int) = (i : Int) + 1 by omega] at ih
      by_cases g2 : byt z i ≤ 126
      · rw [show decide (byt z i ≤ 126 ∧ (byt z i = 0 ∨ (i : Int) = i)) = true by simp [g2], Bool.and_true] at ih ⊢
        rw [show decide (byt z i ≤ 126) = true by simp [g2], Bool.true_and]
        exact ih
      · rw [show decide (byt z i ≤ 126 ∧ (byt z i = 0 ∨ (i : Int) = i)) = false by simp [g2], Bool.and_false] at ih ⊢
        rw [show decide (byt z i ≤ 126) = false by simp [g2], Bool.false_and, Bool.and_false]
        exact ⟨lt2_f z n _ _, fun h => by cases h⟩
theorem ltO_X (z : Int) : ltO z = allB (arP z (lzX z 0 8)) 0 8 := by
  have := (lt2_a z 8 0 true).1
  rw [Bool.true_and] at this
  exact this
theorem ltN_X {z : Int} (h : ltO z = true) : ltN z = lzX z 0 8 := by
  rw [ltO_X] at h
  exact (lt2_a z 8 0 true).2 h
theorem iand_255 {a : Int} (h : 0 ≤ a) : iand a 255 = a % 256 := by
  obtain ⟨n, rfl⟩ := Int.eq_ofNat_of_zero_le h
  rw [show (255 : Int) = ((255 : Nat) : Int) from rfl, iand_N, show (255 : Nat) = 2 ^ 8 - 1 from rfl, Nat.and_two_pow_sub_one_eq_mod]
  rfl
section PG
variable {d : Nat} {h : am_H} {Q : Option Value → am_H → Prop}
theorem s_Pg_codeAt {z i : Int} (hz : 0 ≤ z ∧ z < 18446744073709551616) (hi : 0 ≤ i ∧ i ≤ 7) : Rj d 42 0 [.long (jL z), .null, .int (jI i)] [] h Q = Q (some (.int (jI (byt z i.toNat)))) h := by
  have e := ediv_nn hz.1 (8 * i).toNat
  rw [b_Page_codeAt_0]
  simp (disch := omega) only [rn_nil, rn_iconst, rn_ldc2, rn_iadd, rn_isub, rn_imul, rn_iand, rn_ior, rn_ixor, rn_ishl, rn_ishr, rn_iushr, rn_ineg, rn_ladd, rn_lsub, rn_lmul, rn_land, rn_lor, rn_lshl, rn_lushr, rn_lcmp, rn_i2l, rn_l2i, rn_dupI, rn_dupR, rn_popI, rn_dup2, rn_idiv, rn_irem, rn_ldiv, rn_lrem, rn_dadd, rn_dsub, rn_dmul, rn_objinit, rn_iload, rn_lload, rn_aload, rn_istore, rn_astore, rn_lstore, rn_iinc, rn_getfield, rn_iaload, rn_laload, rn_aaload, rn_arraylength, rn_putfield, rn_iastore, rn_lastore, rn_goto, rn_ifCond_eq, rn_if_icmp_eq, rn_ifCond_ne, rn_if_icmp_ne, rn_ifCond_lt, rn_if_icmp_lt, rn_ifCond_ge, rn_if_icmp_ge, rn_ifCond_gt, rn_if_icmp_gt, rn_ifCond_le, rn_if_icmp_le, rn_ireturn, rn_lreturn, rn_return, rL_I, rL_L, rL_R, rS_t, rI_t, rG_s, rG_i, rP_s, rP_i, kq_v, kq_s, ok_0, ok_1I, ok_1R, ok_1N, ok_s, rc8_0, rc8_1, rc8_2, rc8_3, rc8_4, List.getElem?_cons_zero, List.getElem?_cons_succ, List.set_cons_zero, List.set_cons_succ, true_and, and_true, if_true, if_false, Int.toNat_natCast, Int.reduceToNat, Int.reduceAdd, Int.reduceSub, Int.reduceMul, Int.reduceNeg, Nat.reduceAdd, Int.reduceLT, Int.reduceLE, Int.reduceEq, reduceIte, jI_add, jI_sub, jI_mul, jI_neg, jI_eq, jI_le, jI_lt, jI_eq0, jI_eq1, jI_lt0, jI_0lt, jI_le0, jI_0le, jI_clamp, jI_inBT, kL_0, kL_1, kL_2, kL_5, kL_6, kL_7, kL_10, kL_11, kL_15, kL_23, kL_31, kL_39, kL_97, kL_99, kL_104, kL_255, kL_349, kL_999, kL_1771561, kL_16777215, kL_4294967295, kL_18446744073709551615, jI_toL, rn_zB, rn_z0, rn_z1, jIB_eq0, jIB_eq1, jIB_eqJ, jB_def, jB_not, jB_and, jB_or, jB_nand, jB_nor, jB_ite, mrg, Decidable.not_not, ite_not, u2_s, u2_n, Int.add_sub_cancel, Int.sub_add_cancel, jL_ushrL, jL_toI, jI_and, iand_255]
  unfold byt
  rw [show (8 * i).toNat = 8 * i.toNat by omega]
theorem s_Pg_in_2 {z : Int} (hz : 0 ≤ z ∧ z < 18446744073709551616) :
    ∀ (n : Nat) (i : Int), i + n = 8 → 0 ≤ i → Rj (d + 1) 41 2 [.long (jL z), .null, .int (jI i)] [] h Q = Q (some (.int (jI (lzX z i.toNat n)))) h
  | 0, i, hn, hi => by
    rw [b_Page_lettersIn_2]
    simp (disch := omega) only [b_Page_lettersIn_22, rn_nil, rn_iconst, rn_ldc2, rn_iadd, rn_isub, rn_imul, rn_iand, rn_ior, rn_ixor, rn_ishl, rn_ishr, rn_iushr, rn_ineg, rn_ladd, rn_lsub, rn_lmul, rn_land, rn_lor, rn_lshl, rn_lushr, rn_lcmp, rn_i2l, rn_l2i, rn_dupI, rn_dupR, rn_popI, rn_dup2, rn_idiv, rn_irem, rn_ldiv, rn_lrem, rn_dadd, rn_dsub, rn_dmul, rn_objinit, rn_iload, rn_lload, rn_aload, rn_istore, rn_astore, rn_lstore, rn_iinc, rn_getfield, rn_iaload, rn_laload, rn_aaload, rn_arraylength, rn_putfield, rn_iastore, rn_lastore, rn_goto, rn_ifCond_eq, rn_if_icmp_eq, rn_ifCond_ne, rn_if_icmp_ne, rn_ifCond_lt, rn_if_icmp_lt, rn_ifCond_ge, rn_if_icmp_ge, rn_ifCond_gt, rn_if_icmp_gt, rn_ifCond_le, rn_if_icmp_le, rn_ireturn, rn_lreturn, rn_return, rL_I, rL_L, rL_R, rS_t, rI_t, rG_s, rG_i, rP_s, rP_i, kq_v, kq_s, ok_0, ok_1I, ok_1R, ok_1N, ok_s, rc8_0, rc8_1, rc8_2, rc8_3, rc8_4, List.getElem?_cons_zero, List.getElem?_cons_succ, List.set_cons_zero, List.set_cons_succ, true_and, and_true, if_true, if_false, Int.toNat_natCast, Int.reduceToNat, Int.reduceAdd, Int.reduceSub, Int.reduceMul, Int.reduceNeg, Nat.reduceAdd, Int.reduceLT, Int.reduceLE, Int.reduceEq, reduceIte, jI_add, jI_sub, jI_mul, jI_neg, jI_eq, jI_le, jI_lt, jI_eq0, jI_eq1, jI_lt0, jI_0lt, jI_le0, jI_0le, jI_clamp, jI_inBT, kL_0, kL_1, kL_2, kL_5, kL_6, kL_7, kL_10, kL_11, kL_15, kL_23, kL_31, kL_39, kL_97, kL_99, kL_104, kL_255, kL_349, kL_999, kL_1771561, kL_16777215, kL_4294967295, kL_18446744073709551615, jI_toL, rn_zB, rn_z0, rn_z1, jIB_eq0, jIB_eq1, jIB_eqJ, jB_def, jB_not, jB_and, jB_or, jB_nand, jB_nor, jB_ite, mrg, Decidable.not_not, ite_not, u2_s, u2_n, Int.add_sub_cancel, Int.sub_add_cancel]
    rw [if_pos (by omega), lzX, show ((i.toNat : Nat) : Int) = i by omega]
  | n + 1, i, hn, hi => by
    have hb := byt_rng z i.toNat
    rw [b_Page_lettersIn_2]
    simp (disch := omega) only [b_Page_lettersIn_8, b_Page_lettersIn_16, b_Page_lettersIn_22, rn_nil, rn_iconst, rn_ldc2, rn_iadd, rn_isub, rn_imul, rn_iand, rn_ior, rn_ixor, rn_ishl, rn_ishr, rn_iushr, rn_ineg, rn_ladd, rn_lsub, rn_lmul, rn_land, rn_lor, rn_lshl, rn_lushr, rn_lcmp, rn_i2l, rn_l2i, rn_dupI, rn_dupR, rn_popI, rn_dup2, rn_idiv, rn_irem, rn_ldiv, rn_lrem, rn_dadd, rn_dsub, rn_dmul, rn_objinit, rn_iload, rn_lload, rn_aload, rn_istore, rn_astore, rn_lstore, rn_iinc, rn_getfield, rn_iaload, rn_laload, rn_aaload, rn_arraylength, rn_putfield, rn_iastore, rn_lastore, rn_goto, rn_ifCond_eq, rn_if_icmp_eq, rn_ifCond_ne, rn_if_icmp_ne, rn_ifCond_lt, rn_if_icmp_lt, rn_ifCond_ge, rn_if_icmp_ge, rn_ifCond_gt, rn_if_icmp_gt, rn_ifCond_le, rn_if_icmp_le, rn_ireturn, rn_lreturn, rn_return, rL_I, rL_L, rL_R, rS_t, rI_t, rG_s, rG_i, rP_s, rP_i, kq_v, kq_s, ok_0, ok_1I, ok_1R, ok_1N, ok_s, rc8_0, rc8_1, rc8_2, rc8_3, rc8_4, List.getElem?_cons_zero, List.getElem?_cons_succ, List.set_cons_zero, List.set_cons_succ, true_and, and_true, if_true, if_false, Int.toNat_natCast, Int.reduceToNat, Int.reduceAdd, Int.reduceSub, Int.reduceMul, Int.reduceNeg, Nat.reduceAdd, Int.reduceLT, Int.reduceLE, Int.reduceEq, reduceIte, jI_add, jI_sub, jI_mul, jI_neg, jI_eq, jI_le, jI_lt, jI_eq0, jI_eq1, jI_lt0, jI_0lt, jI_le0, jI_0le, jI_clamp, jI_inBT, kL_0, kL_1, kL_2, kL_5, kL_6, kL_7, kL_10, kL_11, kL_15, kL_23, kL_31, kL_39, kL_97, kL_99, kL_104, kL_255, kL_349, kL_999, kL_1771561, kL_16777215, kL_4294967295, kL_18446744073709551615, jI_toL, rn_zB, rn_z0, rn_z1, jIB_eq0, jIB_eq1, jIB_eqJ, jB_def, jB_not, jB_and, jB_or, jB_nand, jB_nor, jB_ite, mrg, Decidable.not_not, ite_not, u2_s, u2_n, Int.add_sub_cancel, Int.sub_add_cancel, c_Page_codeAt, s_Pg_codeAt hz]
    rw [if_neg (by omega), s_Pg_in_2 hz n (i + 1) (by omega) (by omega), lzX, show (i + 1).toNat = i.toNat + 1 by omega]
    by_cases g : byt z i.toNat = 0
    · rw [if_pos g, if_pos g, show ((i.toNat : Nat) : Int) = i by omega]
    · rw [if_neg g, if_neg g]
theorem s_Pg_in {z : Int} (hz : 0 ≤ z ∧ z < 18446744073709551616) : Rj (d + 1) 41 0 [.long (jL z), .null, .null] [] h Q = Q (some (.int (jI (lzX z 0 8)))) h := by
  rw [b_Page_lettersIn_0]
  simp (disch := omega) only [rn_nil, rn_iconst, rn_ldc2, rn_iadd, rn_isub, rn_imul, rn_iand, rn_ior, rn_ixor, rn_ishl, rn_ishr, rn_iushr, rn_ineg, rn_ladd, rn_lsub, rn_lmul, rn_land, rn_lor, rn_lshl, rn_lushr, rn_lcmp, rn_i2l, rn_l2i, rn_dupI, rn_dupR, rn_popI, rn_dup2, rn_idiv, rn_irem, rn_ldiv, rn_lrem, rn_dadd, rn_dsub, rn_dmul, rn_objinit, rn_iload, rn_lload, rn_aload, rn_istore, rn_astore, rn_lstore, rn_iinc, rn_getfield, rn_iaload, rn_laload, rn_aaload, rn_arraylength, rn_putfield, rn_iastore, rn_lastore, rn_goto, rn_ifCond_eq, rn_if_icmp_eq, rn_ifCond_ne, rn_if_icmp_ne, rn_ifCond_lt, rn_if_icmp_lt, rn_ifCond_ge, rn_if_icmp_ge, rn_ifCond_gt, rn_if_icmp_gt, rn_ifCond_le, rn_if_icmp_le, rn_ireturn, rn_lreturn, rn_return, rL_I, rL_L, rL_R, rS_t, rI_t, rG_s, rG_i, rP_s, rP_i, kq_v, kq_s, ok_0, ok_1I, ok_1R, ok_1N, ok_s, rc8_0, rc8_1, rc8_2, rc8_3, rc8_4, List.getElem?_cons_zero, List.getElem?_cons_succ, List.set_cons_zero, List.set_cons_succ, true_and, and_true, if_true, if_false, Int.toNat_natCast, Int.reduceToNat, Int.reduceAdd, Int.reduceSub, Int.reduceMul, Int.reduceNeg, Nat.reduceAdd, Int.reduceLT, Int.reduceLE, Int.reduceEq, reduceIte, jI_add, jI_sub, jI_mul, jI_neg, jI_eq, jI_le, jI_lt, jI_eq0, jI_eq1, jI_lt0, jI_0lt, jI_le0, jI_0le, jI_clamp, jI_inBT, kL_0, kL_1, kL_2, kL_5, kL_6, kL_7, kL_10, kL_11, kL_15, kL_23, kL_31, kL_39, kL_97, kL_99, kL_104, kL_255, kL_349, kL_999, kL_1771561, kL_16777215, kL_4294967295, kL_18446744073709551615, jI_toL, rn_zB, rn_z0, rn_z1, jIB_eq0, jIB_eq1, jIB_eqJ, jB_def, jB_not, jB_and, jB_or, jB_nand, jB_nor, jB_ite, mrg, Decidable.not_not, ite_not, u2_s, u2_n, Int.add_sub_cancel, Int.sub_add_cancel]
  exact s_Pg_in_2 hz 8 0 (by omega) (by omega)
theorem s_Pg_are_7 {z : Int} (hz : 0 ≤ z ∧ z < 18446744073709551616) {l : Nat} (hl : l ≤ 8) :
    ∀ (n : Nat) (i : Int) (v4 : Value), i + n = 8 → 0 ≤ i → Rj (d + 2) 40 7 [.long (jL z), .null, .int (jI l), .int (jI i), v4] [] h Q = Q (some (.int (jI (jB (allB (arP z l) i.toNat n = true))))) h
  | 0, i, v4, hn, hi => by
    rw [b_Page_areLetters_7]
    simp (disch := omega) only [b_Page_areLetters_45, rn_nil, rn_iconst, rn_ldc2, rn_iadd, rn_isub, rn_imul, rn_iand, rn_ior, rn_ixor, rn_ishl, rn_ishr, rn_iushr, rn_ineg, rn_ladd, rn_lsub, rn_lmul, rn_land, rn_lor, rn_lshl, rn_lushr, rn_lcmp, rn_i2l, rn_l2i, rn_dupI, rn_dupR, rn_popI, rn_dup2, rn_idiv, rn_irem, rn_ldiv, rn_lrem, rn_dadd, rn_dsub, rn_dmul, rn_objinit, rn_iload, rn_lload, rn_aload, rn_istore, rn_astore, rn_lstore, rn_iinc, rn_getfield, rn_iaload, rn_laload, rn_aaload, rn_arraylength, rn_putfield, rn_iastore, rn_lastore, rn_goto, rn_ifCond_eq, rn_if_icmp_eq, rn_ifCond_ne, rn_if_icmp_ne, rn_ifCond_lt, rn_if_icmp_lt, rn_ifCond_ge, rn_if_icmp_ge, rn_ifCond_gt, rn_if_icmp_gt, rn_ifCond_le, rn_if_icmp_le, rn_ireturn, rn_lreturn, rn_return, rL_I, rL_L, rL_R, rS_t, rI_t, rG_s, rG_i, rP_s, rP_i, kq_v, kq_s, ok_0, ok_1I, ok_1R, ok_1N, ok_s, rc8_0, rc8_1, rc8_2, rc8_3, rc8_4, List.getElem?_cons_zero, List.getElem?_cons_succ, List.set_cons_zero, List.set_cons_succ, true_and, and_true, if_true, if_false, Int.toNat_natCast, Int.reduceToNat, Int.reduceAdd, Int.reduceSub, Int.reduceMul, Int.reduceNeg, Nat.reduceAdd, Int.reduceLT, Int.reduceLE, Int.reduceEq, reduceIte, jI_add, jI_sub, jI_mul, jI_neg, jI_eq, jI_le, jI_lt, jI_eq0, jI_eq1, jI_lt0, jI_0lt, jI_le0, jI_0le, jI_clamp, jI_inBT, kL_0, kL_1, kL_2, kL_5, kL_6, kL_7, kL_10, kL_11, kL_15, kL_23, kL_31, kL_39, kL_97, kL_99, kL_104, kL_255, kL_349, kL_999, kL_1771561, kL_16777215, kL_4294967295, kL_18446744073709551615, jI_toL, rn_zB, rn_z0, rn_z1, jIB_eq0, jIB_eq1, jIB_eqJ, jB_def, jB_not, jB_and, jB_or, jB_nand, jB_nor, jB_ite, mrg, Decidable.not_not, ite_not, u2_s, u2_n, Int.add_sub_cancel, Int.sub_add_cancel]
    rw [if_pos (by omega)]
    simp [allB, jB]
  | n + 1, i, v4, hn, hi => by
    have hb := byt_rng z i.toNat
    rw [b_Page_areLetters_7]
    simp (disch := omega) only [b_Page_areLetters_13, b_Page_areLetters_27, b_Page_areLetters_32, b_Page_areLetters_37, b_Page_areLetters_39, rn_nil, rn_iconst, rn_ldc2, rn_iadd, rn_isub, rn_imul, rn_iand, rn_ior, rn_ixor, rn_ishl, rn_ishr, rn_iushr, rn_ineg, rn_ladd, rn_lsub, rn_lmul, rn_land, rn_lor, rn_lshl, rn_lushr, rn_lcmp, rn_i2l, rn_l2i, rn_dupI, rn_dupR, rn_popI, rn_dup2, rn_idiv, rn_irem, rn_ldiv, rn_lrem, rn_dadd, rn_dsub, rn_dmul, rn_objinit, rn_iload, rn_lload, rn_aload, rn_istore, rn_astore, rn_lstore, rn_iinc, rn_getfield, rn_iaload, rn_laload, rn_aaload, rn_arraylength, rn_putfield, rn_iastore, rn_lastore, rn_goto, rn_ifCond_eq, rn_if_icmp_eq, rn_ifCond_ne, rn_if_icmp_ne, rn_ifCond_lt, rn_if_icmp_lt, rn_ifCond_ge, rn_if_icmp_ge, rn_ifCond_gt, rn_if_icmp_gt, rn_ifCond_le, rn_if_icmp_le, rn_ireturn, rn_lreturn, rn_return, rL_I, rL_L, rL_R, rS_t, rI_t, rG_s, rG_i, rP_s, rP_i, kq_v, kq_s, ok_0, ok_1I, ok_1R, ok_1N, ok_s, rc8_0, rc8_1, rc8_2, rc8_3, rc8_4, List.getElem?_cons_zero, List.getElem?_cons_succ, List.set_cons_zero, List.set_cons_succ, true_and, and_true, if_true, if_false, Int.toNat_natCast, Int.reduceToNat, Int.reduceAdd, Int.reduceSub, Int.reduceMul, Int.reduceNeg, Nat.reduceAdd, Int.reduceLT, Int.reduceLE, Int.reduceEq, reduceIte, jI_add, jI_sub, jI_mul, jI_neg, jI_eq, jI_le, jI_lt, jI_eq0, jI_eq1, jI_lt0, jI_0lt, jI_le0, jI_0le, jI_clamp, jI_inBT, kL_0, kL_1, kL_2, kL_5, kL_6, kL_7, kL_10, kL_11, kL_15, kL_23, kL_31, kL_39, kL_97, kL_99, kL_104, kL_255, kL_349, kL_999, kL_1771561, kL_16777215, kL_4294967295, kL_18446744073709551615, jI_toL, rn_zB, rn_z0, rn_z1, jIB_eq0, jIB_eq1, jIB_eqJ, jB_def, jB_not, jB_and, jB_or, jB_nand, jB_nor, jB_ite, mrg, Decidable.not_not, ite_not, u2_s, u2_n, Int.add_sub_cancel, Int.sub_add_cancel, c_Page_codeAt, s_Pg_codeAt hz]
    rw [if_neg (by omega), s_Pg_are_7 hz hl n (i + 1) _ (by omega) (by omega), allB, show (i + 1).toNat = i.toNat + 1 by omega]
    by_cases g : 126 < byt z i.toNat
    · rw [if_pos g, show arP z l i.toNat = false by unfold arP; simp; omega]
      simp [jB]
    · rw [if_neg g]
      by_cases g2 : i ≤ l
      · rw [if_pos g2, show arP z l i.toNat = true by unfold arP; simp; omega]
        simp
      · rw [if_neg g2]
        by_cases g3 : byt z i.toNat = 0
        · rw [if_pos g3, show arP z l i.toNat = true by unfold arP; simp; omega]
          simp
        · rw [if_neg g3, show arP z l i.toNat = false by unfold arP; simp; omega]
          simp [jB]
theorem s_Pg_are {z : Int} (hz : 0 ≤ z ∧ z < 18446744073709551616) : Rj (d + 2) 40 0 [.long (jL z), .null, .null, .null, .null] [] h Q = Q (some (.int (jI (jB (ltO z = true))))) h := by
  have hl := lzX_rng z 8 0
  rw [b_Page_areLetters_0]
  simp (disch := omega) only [rn_nil, rn_iconst, rn_ldc2, rn_iadd, rn_isub, rn_imul, rn_iand, rn_ior, rn_ixor, rn_ishl, rn_ishr, rn_iushr, rn_ineg, rn_ladd, rn_lsub, rn_lmul, rn_land, rn_lor, rn_lshl, rn_lushr, rn_lcmp, rn_i2l, rn_l2i, rn_dupI, rn_dupR, rn_popI, rn_dup2, rn_idiv, rn_irem, rn_ldiv, rn_lrem, rn_dadd, rn_dsub, rn_dmul, rn_objinit, rn_iload, rn_lload, rn_aload, rn_istore, rn_astore, rn_lstore, rn_iinc, rn_getfield, rn_iaload, rn_laload, rn_aaload, rn_arraylength, rn_putfield, rn_iastore, rn_lastore, rn_goto, rn_ifCond_eq, rn_if_icmp_eq, rn_ifCond_ne, rn_if_icmp_ne, rn_ifCond_lt, rn_if_icmp_lt, rn_ifCond_ge, rn_if_icmp_ge, rn_ifCond_gt, rn_if_icmp_gt, rn_ifCond_le, rn_if_icmp_le, rn_ireturn, rn_lreturn, rn_return, rL_I, rL_L, rL_R, rS_t, rI_t, rG_s, rG_i, rP_s, rP_i, kq_v, kq_s, ok_0, ok_1I, ok_1R, ok_1N, ok_s, rc8_0, rc8_1, rc8_2, rc8_3, rc8_4, List.getElem?_cons_zero, List.getElem?_cons_succ, List.set_cons_zero, List.set_cons_succ, true_and, and_true, if_true, if_false, Int.toNat_natCast, Int.reduceToNat, Int.reduceAdd, Int.reduceSub, Int.reduceMul, Int.reduceNeg, Nat.reduceAdd, Int.reduceLT, Int.reduceLE, Int.reduceEq, reduceIte, jI_add, jI_sub, jI_mul, jI_neg, jI_eq, jI_le, jI_lt, jI_eq0, jI_eq1, jI_lt0, jI_0lt, jI_le0, jI_0le, jI_clamp, jI_inBT, kL_0, kL_1, kL_2, kL_5, kL_6, kL_7, kL_10, kL_11, kL_15, kL_23, kL_31, kL_39, kL_97, kL_99, kL_104, kL_255, kL_349, kL_999, kL_1771561, kL_16777215, kL_4294967295, kL_18446744073709551615, jI_toL, rn_zB, rn_z0, rn_z1, jIB_eq0, jIB_eq1, jIB_eqJ, jB_def, jB_not, jB_and, jB_or, jB_nand, jB_nor, jB_ite, mrg, Decidable.not_not, ite_not, u2_s, u2_n, Int.add_sub_cancel, Int.sub_add_cancel, c_Page_lettersIn, s_Pg_in hz]
  rw [s_Pg_are_7 hz (by omega) 8 0 _ (by omega) (by omega), ltO_X]
  rfl
end PG
section PG2
variable {d : Nat} {Q : Option Value → am_H → Prop}
variable {L : Nat} {xs : Nat → Int32} {F : Nat → Nat → Int} {B : Nat → Int64} {hs : Int64} {t1 t2 : Nat}
theorem s_Pg_app_8 {z : Int} (hz : 0 ≤ z ∧ z < 18446744073709551616) {l : Nat} (hl : l ≤ 8) :
    ∀ (n : Nat) (i p : Int) (A : Nat → Nat → Int), i + n = l → 0 ≤ i → 0 ≤ p → p + n ≤ 40 → Rj (d + 1) 43 8 [.ref 48, .long (jL z), .null, .int (jI l), .int (jI i)] [] (HW L xs (u2 F 48 1 p) A B hs t1 t2) Q = Q (some (.int (jI (p + n)))) (HW L xs (u2 F 48 1 (p + n)) (putL z 49 A p.toNat i.toNat n) B hs t1 t2)
  | 0, i, p, A, hn, hi, hp, h40 => by
    rw [b_Page_append_8]
    simp (disch := omega) only [b_Page_append_54, rn_nil, rn_iconst, rn_ldc2, rn_iadd, rn_isub, rn_imul, rn_iand, rn_ior, rn_ixor, rn_ishl, rn_ishr, rn_iushr, rn_ineg, rn_ladd, rn_lsub, rn_lmul, rn_land, rn_lor, rn_lshl, rn_lushr, rn_lcmp, rn_i2l, rn_l2i, rn_dupI, rn_dupR, rn_popI, rn_dup2, rn_idiv, rn_irem, rn_ldiv, rn_lrem, rn_dadd, rn_dsub, rn_dmul, rn_objinit, rn_iload, rn_lload, rn_aload, rn_istore, rn_astore, rn_lstore, rn_iinc, rn_getfield, rn_iaload, rn_laload, rn_aaload, rn_arraylength, rn_putfield, rn_iastore, rn_lastore, rn_goto, rn_ifCond_eq, rn_if_icmp_eq, rn_ifCond_ne, rn_if_icmp_ne, rn_ifCond_lt, rn_if_icmp_lt, rn_ifCond_ge, rn_if_icmp_ge, rn_ifCond_gt, rn_if_icmp_gt, rn_ifCond_le, rn_if_icmp_le, rn_ireturn, rn_lreturn, rn_return, rL_I, rL_L, rL_R, rS_t, rI_t, rG_s, rG_i, rP_s, rP_i, kq_v, kq_s, ok_0, ok_1I, ok_1R, ok_1N, ok_s, rc8_0, rc8_1, rc8_2, rc8_3, rc8_4, List.getElem?_cons_zero, List.getElem?_cons_succ, List.set_cons_zero, List.set_cons_succ, true_and, and_true, if_true, if_false, Int.toNat_natCast, Int.reduceToNat, Int.reduceAdd, Int.reduceSub, Int.reduceMul, Int.reduceNeg, Nat.reduceAdd, Int.reduceLT, Int.reduceLE, Int.reduceEq, reduceIte, w_ck_48, w_g_48_0, w_g_48_1, w_p_48_1, w_r_49, w_l_49, w_w_49, jI_add, jI_sub, jI_mul, jI_neg, jI_eq, jI_le, jI_lt, jI_eq0, jI_eq1, jI_lt0, jI_0lt, jI_le0, jI_0le, jI_clamp, jI_inBT, kL_0, kL_1, kL_2, kL_5, kL_6, kL_7, kL_10, kL_11, kL_15, kL_23, kL_31, kL_39, kL_97, kL_99, kL_104, kL_255, kL_349, kL_999, kL_1771561, kL_16777215, kL_4294967295, kL_18446744073709551615, jI_toL, rn_zB, rn_z0, rn_z1, jIB_eq0, jIB_eq1, jIB_eqJ, jB_def, jB_not, jB_and, jB_or, jB_nand, jB_nor, jB_ite, mrg, Decidable.not_not, ite_not, u2_s, u2_n, Int.add_sub_cancel, Int.sub_add_cancel]
    rw [if_pos (by omega), putL, show p + ((0 : Nat) : Int) = p by omega]
  | n + 1, i, p, A, hn, hi, hp, h40 => by
    have hb := byt_rng z i.toNat
    rw [b_Page_append_8]
    simp (disch := omega) only [b_Page_append_14, b_Page_append_23, rn_nil, rn_iconst, rn_ldc2, rn_iadd, rn_isub, rn_imul, rn_iand, rn_ior, rn_ixor, rn_ishl, rn_ishr, rn_iushr, rn_ineg, rn_ladd, rn_lsub, rn_lmul, rn_land, rn_lor, rn_lshl, rn_lushr, rn_lcmp, rn_i2l, rn_l2i, rn_dupI, rn_dupR, rn_popI, rn_dup2, rn_idiv, rn_irem, rn_ldiv, rn_lrem, rn_dadd, rn_dsub, rn_dmul, rn_objinit, rn_iload, rn_lload, rn_aload, rn_istore, rn_astore, rn_lstore, rn_iinc, rn_getfield, rn_iaload, rn_laload, rn_aaload, rn_arraylength, rn_putfield, rn_iastore, rn_lastore, rn_goto, rn_ifCond_eq, rn_if_icmp_eq, rn_ifCond_ne, rn_if_icmp_ne, rn_ifCond_lt, rn_if_icmp_lt, rn_ifCond_ge, rn_if_icmp_ge, rn_ifCond_gt, rn_if_icmp_gt, rn_ifCond_le, rn_if_icmp_le, rn_ireturn, rn_lreturn, rn_return, rL_I, rL_L, rL_R, rS_t, rI_t, rG_s, rG_i, rP_s, rP_i, kq_v, kq_s, ok_0, ok_1I, ok_1R, ok_1N, ok_s, rc8_0, rc8_1, rc8_2, rc8_3, rc8_4, List.getElem?_cons_zero, List.getElem?_cons_succ, List.set_cons_zero, List.set_cons_succ, true_and, and_true, if_true, if_false, Int.toNat_natCast, Int.reduceToNat, Int.reduceAdd, Int.reduceSub, Int.reduceMul, Int.reduceNeg, Nat.reduceAdd, Int.reduceLT, Int.reduceLE, Int.reduceEq, reduceIte, w_ck_48, w_g_48_0, w_g_48_1, w_p_48_1, w_r_49, w_l_49, w_w_49, jI_add, jI_sub, jI_mul, jI_neg, jI_eq, jI_le, jI_lt, jI_eq0, jI_eq1, jI_lt0, jI_0lt, jI_le0, jI_0le, jI_clamp, jI_inBT, kL_0, kL_1, kL_2, kL_5, kL_6, kL_7, kL_10, kL_11, kL_15, kL_23, kL_31, kL_39, kL_97, kL_99, kL_104, kL_255, kL_349, kL_999, kL_1771561, kL_16777215, kL_4294967295, kL_18446744073709551615, jI_toL, rn_zB, rn_z0, rn_z1, jIB_eq0, jIB_eq1, jIB_eqJ, jB_def, jB_not, jB_and, jB_or, jB_nand, jB_nor, jB_ite, mrg, Decidable.not_not, ite_not, u2_s, u2_n, Int.add_sub_cancel, Int.sub_add_cancel, c_Page_codeAt, s_Pg_codeAt hz, u2_u2]
    rw [if_neg (by omega), if_neg (by omega), s_Pg_app_8 hz hl n (i + 1) (p + 1) _ (by omega) (by omega) (by omega) (by omega), putL, show (i + 1).toNat = i.toNat + 1 by omega, show (p + 1).toNat = p.toNat + 1 by omega, show p + 1 + (n : Int) = p + ((n + 1 : Nat) : Int) by omega]
theorem s_Pg_append {A : Nat → Nat → Int} {z : Int} (hz : 0 ≤ z ∧ z < 18446744073709551616) (h0 : 0 ≤ F 48 1) (h1 : F 48 1 + lzX z 0 8 ≤ 40) :
    Rj (d + 2) 43 0 [.ref 48, .long (jL z), .null, .null, .null] [] (HW L xs F A B hs t1 t2) Q = Q (some (.int (jI (F 48 1 + lzX z 0 8)))) (HW L xs (u2 F 48 1 (F 48 1 + lzX z 0 8)) (putL z 49 A (F 48 1).toNat 0 (lzX z 0 8)) B hs t1 t2) := by
  have hl := lzX_rng z 8 0
  have e := s_Pg_app_8 (d := d + 1) (Q := Q) (L := L) (xs := xs) (F := F) (B := B) (hs := hs) (t1 := t1) (t2 := t2) hz (l := lzX z 0 8) (by omega) (lzX z 0 8) 0 (F 48 1) A (by omega) (by omega) h0 h1
  rw [u2_self rfl] at e
  rw [b_Page_append_0]
  simp (disch := omega) only [rn_nil, rn_iconst, rn_ldc2, rn_iadd, rn_isub, rn_imul, rn_iand, rn_ior, rn_ixor, rn_ishl, rn_ishr, rn_iushr, rn_ineg, rn_ladd, rn_lsub, rn_lmul, rn_land, rn_lor, rn_lshl, rn_lushr, rn_lcmp, rn_i2l, rn_l2i, rn_dupI, rn_dupR, rn_popI, rn_dup2, rn_idiv, rn_irem, rn_ldiv, rn_lrem, rn_dadd, rn_dsub, rn_dmul, rn_objinit, rn_iload, rn_lload, rn_aload, rn_istore, rn_astore, rn_lstore, rn_iinc, rn_getfield, rn_iaload, rn_laload, rn_aaload, rn_arraylength, rn_putfield, rn_iastore, rn_lastore, rn_goto, rn_ifCond_eq, rn_if_icmp_eq, rn_ifCond_ne, rn_if_icmp_ne, rn_ifCond_lt, rn_if_icmp_lt, rn_ifCond_ge, rn_if_icmp_ge, rn_ifCond_gt, rn_if_icmp_gt, rn_ifCond_le, rn_if_icmp_le, rn_ireturn, rn_lreturn, rn_return, rL_I, rL_L, rL_R, rS_t, rI_t, rG_s, rG_i, rP_s, rP_i, kq_v, kq_s, ok_0, ok_1I, ok_1R, ok_1N, ok_s, rc8_0, rc8_1, rc8_2, rc8_3, rc8_4, List.getElem?_cons_zero, List.getElem?_cons_succ, List.set_cons_zero, List.set_cons_succ, true_and, and_true, if_true, if_false, Int.toNat_natCast, Int.reduceToNat, Int.reduceAdd, Int.reduceSub, Int.reduceMul, Int.reduceNeg, Nat.reduceAdd, Int.reduceLT, Int.reduceLE, Int.reduceEq, reduceIte, w_ck_48, w_g_48_0, w_g_48_1, w_p_48_1, w_r_49, w_l_49, w_w_49, jI_add, jI_sub, jI_mul, jI_neg, jI_eq, jI_le, jI_lt, jI_eq0, jI_eq1, jI_lt0, jI_0lt, jI_le0, jI_0le, jI_clamp, jI_inBT, kL_0, kL_1, kL_2, kL_5, kL_6, kL_7, kL_10, kL_11, kL_15, kL_23, kL_31, kL_39, kL_97, kL_99, kL_104, kL_255, kL_349, kL_999, kL_1771561, kL_16777215, kL_4294967295, kL_18446744073709551615, jI_toL, rn_zB, rn_z0, rn_z1, jIB_eq0, jIB_eq1, jIB_eqJ, jB_def, jB_not, jB_and, jB_or, jB_nand, jB_nor, jB_ite, mrg, Decidable.not_not, ite_not, u2_s, u2_n, Int.add_sub_cancel, Int.sub_add_cancel, c_Page_lettersIn, s_Pg_in hz]
  exact e
end PG2
