/-! THE CLASS: sights, riddles -/
def SG (k : Nat) : Prop := k = 14 ∨ k = 23 ∨ k = 30 ∨ k = 32 ∨ k = 34 ∨ k = 36 ∨ k = 40 ∨ k = 42 ∨ k = 44 ∨ k = 46
theorem fst_ext2 {p : Nat → Bool} (h : ∀ j, j < 3 → p j = false) : fstP p 0 3 = -1 := by
  rw [fst_any]
  simp [anyB, h]
section SI
variable {d y nx : Nat} {is : List Instr} {ls st r : List Value} {Q : Option Value → am_H → Prop}
variable {L : Nat} {xs : Nat → Int32} {F A : Nat → Nat → Int} {B : Nat → Int64} {hs : Int64} {t1 t2 : Nat}
theorem w_g_S {k : Nat} (h : SG k) : am_get ((HW L xs F A B hs t1 t2).2.2 k) 448 r = some (.ref (k + 1) :: r) := by
  rcases h with rfl | rfl | rfl | rfl | rfl | rfl | rfl | rfl | rfl | rfl
  · exact w_g_14_0
  · exact w_g_23_0
  · exact w_g_30_0
  · exact w_g_32_0
  · exact w_g_34_0
  · exact w_g_36_0
  · exact w_g_40_0
  · exact w_g_42_0
  · exact w_g_44_0
  · exact w_g_46_0
theorem w_ck_S {k : Nat} (h : SG k) : am_ck ((HW L xs F A B hs t1 t2).2.2 k) 7 = true := by
  rcases h with rfl | rfl | rfl | rfl | rfl | rfl | rfl | rfl | rfl | rfl <;> exact hw_ck (ci := 7) rfl
theorem w_r_S {k : Nat} (h : SG k) {i : Int32} : am_rd ((HW L xs F A B hs t1 t2).2.2 (k + 1)) i r = if vp_inB i 16 = true then some (.int (jI (A (k + 1) i.toNatClampNeg)) :: r) else none := by
  rcases h with rfl | rfl | rfl | rfl | rfl | rfl | rfl | rfl | rfl | rfl <;> exact hw_rd (n := 16) rfl
theorem w_w_S {k : Nat} (h : SG k) {i : Int32} {x : Int} : rP d y is nx ls r (HW L xs F A B hs t1 t2) (k + 1) Q (am_wi ((HW L xs F A B hs t1 t2).2.2 (k + 1)) i (jI x)) = (vp_inB i 16 = true ∧ Rn d (y, is, nx, ls, r) (HW L xs F (u2 A (k + 1) i.toNatClampNeg x) B hs t1 t2) Q) := by
  rcases h with rfl | rfl | rfl | rfl | rfl | rfl | rfl | rfl | rfl | rfl <;> exact hw_wi (n := 16) rfl
theorem w_a_26 {i : Int} (h : 0 ≤ i ∧ i < 4) : am_rda ((HW L xs F A B hs t1 t2).2.2 26) (jI i) r = some (.ref (30 + 2 * i.toNat) :: r) := by
  have : i = 0 ∨ i = 1 ∨ i = 2 ∨ i = 3 := by omega
  rw [hw_at (j := 26) rfl]
  rcases this with rfl | rfl | rfl | rfl <;> rfl
theorem w_a_39 {i : Int} (h : 0 ≤ i ∧ i < 4) : am_rda ((HW L xs F A B hs t1 t2).2.2 39) (jI i) r = some (.ref (40 + 2 * i.toNat) :: r) := by
  have : i = 0 ∨ i = 1 ∨ i = 2 ∨ i = 3 := by omega
  rw [hw_at (j := 39) rfl]
  rcases this with rfl | rfl | rfl | rfl <;> rfl
end SI
section LS
variable {d : Nat} {Q : Option Value → am_H → Prop}
variable {L : Nat} {xs : Nat → Int32} {F A : Nat → Nat → Int} {B : Nat → Int64} {hs : Int64} {t1 t2 : Nat}
theorem s_Lo_leastSense_2 (hI : LI F A) {s t : Int} (hs' : 0 ≤ s ∧ s < F 71 4) (ht : 0 ≤ t ∧ t < F 71 0) :
    ∀ (n : Nat) (i : Int), i + n = 3 → 0 ≤ i → Rj d 30 2 [.ref 3, .int (jI s), .int (jI t), .int (jI i)] [] (HW L xs F A B hs t1 t2) Q = Q (some (.int (jI (fstP (fitB A s.toNat t.toNat) i.toNat n)))) (HW L xs F A B hs t1 t2)
  | 0, i, hn, hi => by
    rw [b_Lore_leastSense_2]
    simp (disch := omega) only [b_Lore_leastSense_32, rn_nil, rn_iconst, rn_ldc2, rn_iadd, rn_isub, rn_imul, rn_iand, rn_ior, rn_ixor, rn_ishl, rn_ishr, rn_iushr, rn_ineg, rn_ladd, rn_lsub, rn_lmul, rn_land, rn_lor, rn_lshl, rn_lushr, rn_lcmp, rn_i2l, rn_l2i, rn_dupI, rn_dupR, rn_popI, rn_dup2, rn_idiv, rn_irem, rn_ldiv, rn_lrem, rn_dadd, rn_dsub, rn_dmul, rn_objinit, rn_iload, rn_lload, rn_aload, rn_istore, rn_astore, rn_lstore, rn_iinc, rn_getfield, rn_iaload, rn_laload, rn_aaload, rn_arraylength, rn_putfield, rn_iastore, rn_lastore, rn_goto, rn_ifCond_eq, rn_if_icmp_eq, rn_ifCond_ne, rn_if_icmp_ne, rn_ifCond_lt, rn_if_icmp_lt, rn_ifCond_ge, rn_if_icmp_ge, rn_ifCond_gt, rn_if_icmp_gt, rn_ifCond_le, rn_if_icmp_le, rn_ireturn, rn_lreturn, rn_return, rL_I, rL_L, rL_R, rS_t, rI_t, rG_s, rG_i, rP_s, rP_i, kq_v, kq_s, ok_0, ok_1I, ok_1R, ok_1N, ok_s, rc8_0, rc8_1, rc8_2, rc8_3, rc8_4, List.getElem?_cons_zero, List.getElem?_cons_succ, List.set_cons_zero, List.set_cons_succ, true_and, and_true, if_true, if_false, Int.toNat_natCast, Int.reduceToNat, Int.reduceAdd, Int.reduceSub, Int.reduceMul, Int.reduceNeg, Nat.reduceAdd, Int.reduceLT, Int.reduceLE, Int.reduceEq, reduceIte, w_ck_3, w_g_3_0, w_p_3_0, w_g_3_1, w_p_3_1, w_g_3_2, w_g_3_3, w_g_3_4, w_g_3_5, w_g_3_6, w_g_3_7, w_g_3_8, w_g_3_9, w_g_3_10, w_r_4, w_l_4, w_w_4, w_r_5, w_l_5, w_w_5, w_r_6, w_l_6, w_w_6, w_r_7, w_l_7, w_w_7, w_r_8, w_l_8, w_w_8, w_r_9, w_l_9, w_w_9, w_r_10, w_l_10, w_w_10, w_r_11, w_l_11, w_w_11, w_r_12, w_l_12, w_w_12, jI_add, jI_sub, jI_mul, jI_neg, jI_eq, jI_le, jI_lt, jI_eq0, jI_eq1, jI_lt0, jI_0lt, jI_le0, jI_0le, jI_clamp, jI_inBT, kL_0, kL_1, kL_2, kL_5, kL_6, kL_7, kL_10, kL_11, kL_15, kL_23, kL_31, kL_39, kL_97, kL_99, kL_104, kL_255, kL_349, kL_999, kL_1771561, kL_16777215, kL_4294967295, kL_18446744073709551615, jI_toL, rn_zB, rn_z0, rn_z1, jIB_eq0, jIB_eq1, jIB_eqJ, jB_def, jB_not, jB_and, jB_or, jB_nand, jB_nor, jB_ite, mrg, Decidable.not_not, ite_not, u2_s, u2_n, Int.add_sub_cancel, Int.sub_add_cancel]
    rw [if_pos (by omega)]
    rfl
  | n + 1, i, hn, hi => by
    have h1 := hI.1.2.1
    have h2 := hI.1.2.2.1
    have e := hI.2 s.toNat i.toNat (by omega) (by omega)
    have r1 := setS_12 (fun t => fitB A s.toNat t i.toNat) (n := (F 71 0).toNat) (by omega)
    have b1 := ibit_01 (setS (fun t => fitB A s.toNat t i.toNat) 0 (F 71 0).toNat) t.toNat
    rw [show 3 * s.toNat + i.toNat = (s * 3 + i).toNat by omega] at e
    rw [b_Lore_leastSense_2]
    simp (disch := omega) only [b_Lore_leastSense_7, b_Lore_leastSense_24, b_Lore_leastSense_26, rn_nil, rn_iconst, rn_ldc2, rn_iadd, rn_isub, rn_imul, rn_iand, rn_ior, rn_ixor, rn_ishl, rn_ishr, rn_iushr, rn_ineg, rn_ladd, rn_lsub, rn_lmul, rn_land, rn_lor, rn_lshl, rn_lushr, rn_lcmp, rn_i2l, rn_l2i, rn_dupI, rn_dupR, rn_popI, rn_dup2, rn_idiv, rn_irem, rn_ldiv, rn_lrem, rn_dadd, rn_dsub, rn_dmul, rn_objinit, rn_iload, rn_lload, rn_aload, rn_istore, rn_astore, rn_lstore, rn_iinc, rn_getfield, rn_iaload, rn_laload, rn_aaload, rn_arraylength, rn_putfield, rn_iastore, rn_lastore, rn_goto, rn_ifCond_eq, rn_if_icmp_eq, rn_ifCond_ne, rn_if_icmp_ne, rn_ifCond_lt, rn_if_icmp_lt, rn_ifCond_ge, rn_if_icmp_ge, rn_ifCond_gt, rn_if_icmp_gt, rn_ifCond_le, rn_if_icmp_le, rn_ireturn, rn_lreturn, rn_return, rL_I, rL_L, rL_R, rS_t, rI_t, rG_s, rG_i, rP_s, rP_i, kq_v, kq_s, ok_0, ok_1I, ok_1R, ok_1N, ok_s, rc8_0, rc8_1, rc8_2, rc8_3, rc8_4, List.getElem?_cons_zero, List.getElem?_cons_succ, List.set_cons_zero, List.set_cons_succ, true_and, and_true, if_true, if_false, Int.toNat_natCast, Int.reduceToNat, Int.reduceAdd, Int.reduceSub, Int.reduceMul, Int.reduceNeg, Nat.reduceAdd, Int.reduceLT, Int.reduceLE, Int.reduceEq, reduceIte, w_ck_3, w_g_3_0, w_p_3_0, w_g_3_1, w_p_3_1, w_g_3_2, w_g_3_3, w_g_3_4, w_g_3_5, w_g_3_6, w_g_3_7, w_g_3_8, w_g_3_9, w_g_3_10, w_r_4, w_l_4, w_w_4, w_r_5, w_l_5, w_w_5, w_r_6, w_l_6, w_w_6, w_r_7, w_l_7, w_w_7, w_r_8, w_l_8, w_w_8, w_r_9, w_l_9, w_w_9, w_r_10, w_l_10, w_w_10, w_r_11, w_l_11, w_w_11, w_r_12, w_l_12, w_w_12, jI_add, jI_sub, jI_mul, jI_neg, jI_eq, jI_le, jI_lt, jI_eq0, jI_eq1, jI_lt0, jI_0lt, jI_le0, jI_0le, jI_clamp, jI_inBT, kL_0, kL_1, kL_2, kL_5, kL_6, kL_7, kL_10, kL_11, kL_15, kL_23, kL_31, kL_39, kL_97, kL_99, kL_104, kL_255, kL_349, kL_999, kL_1771561, kL_16777215, kL_4294967295, kL_18446744073709551615, jI_toL, rn_zB, rn_z0, rn_z1, jIB_eq0, jIB_eq1, jIB_eqJ, jB_def, jB_not, jB_and, jB_or, jB_nand, jB_nor, jB_ite, mrg, Decidable.not_not, ite_not, u2_s, u2_n, Int.add_sub_cancel, Int.sub_add_cancel, jI_bit, e]
    rw [if_neg (by omega), s_Lo_leastSense_2 hI hs' ht n (i + 1) (by omega) (by omega), ibit_S, fstP, show (i + 1).toNat = i.toNat + 1 by omega, show ((i.toNat : Nat) : Int) = i by omega]
    have : t.toNat < (F 71 0).toNat := by omega
    by_cases g : fitB A s.toNat t.toNat i.toNat = true <;> simp [g, this]
theorem bM_7 {A : Nat → Nat → Int} (hI : IMb A) (s t : Nat) : bM A s t 7 = fstP (fitB A s t) 0 3 := by
  rw [bM_fst hI]
  by_cases g : A 75 s = 5
  · rw [if_pos g]
    by_cases g2 : (t : Int) = A 77 s
    · simp [fstP, fitB, g, g2]
    · simp [fstP, fitB, g, g2]
  · rw [if_neg g]
    apply fstP_ext
    intro j h1 h2
    have : j = 0 ∨ j = 1 ∨ j = 2 := by omega
    rcases this with rfl | rfl | rfl <;> simp [ibit]
theorem s_Lo_leastSense (hI : LI F A) {s t : Int} (hs' : 0 ≤ s ∧ s < F 71 4) (ht : 0 ≤ t ∧ t < F 71 0) :
    Rj d 30 0 [.ref 3, .int (jI s), .int (jI t), .null] [] (HW L xs F A B hs t1 t2) Q = Q (some (.int (jI (bM A s.toNat t.toNat 7)))) (HW L xs F A B hs t1 t2) := by
  rw [b_Lore_leastSense_0]
  simp (disch := omega) only [rn_nil, rn_iconst, rn_ldc2, rn_iadd, rn_isub, rn_imul, rn_iand, rn_ior, rn_ixor, rn_ishl, rn_ishr, rn_iushr, rn_ineg, rn_ladd, rn_lsub, rn_lmul, rn_land, rn_lor, rn_lshl, rn_lushr, rn_lcmp, rn_i2l, rn_l2i, rn_dupI, rn_dupR, rn_popI, rn_dup2, rn_idiv, rn_irem, rn_ldiv, rn_lrem, rn_dadd, rn_dsub, rn_dmul, rn_objinit, rn_iload, rn_lload, rn_aload, rn_istore, rn_astore, rn_lstore, rn_iinc, rn_getfield, rn_iaload, rn_laload, rn_aaload, rn_arraylength, rn_putfield, rn_iastore, rn_lastore, rn_goto, rn_ifCond_eq, rn_if_icmp_eq, rn_ifCond_ne, rn_if_icmp_ne, rn_ifCond_lt, rn_if_icmp_lt, rn_ifCond_ge, rn_if_icmp_ge, rn_ifCond_gt, rn_if_icmp_gt, rn_ifCond_le, rn_if_icmp_le, rn_ireturn, rn_lreturn, rn_return, rL_I, rL_L, rL_R, rS_t, rI_t, rG_s, rG_i, rP_s, rP_i, kq_v, kq_s, ok_0, ok_1I, ok_1R, ok_1N, ok_s, rc8_0, rc8_1, rc8_2, rc8_3, rc8_4, List.getElem?_cons_zero, List.getElem?_cons_succ, List.set_cons_zero, List.set_cons_succ, true_and, and_true, if_true, if_false, Int.toNat_natCast, Int.reduceToNat, Int.reduceAdd, Int.reduceSub, Int.reduceMul, Int.reduceNeg, Nat.reduceAdd, Int.reduceLT, Int.reduceLE, Int.reduceEq, reduceIte, w_ck_3, w_g_3_0, w_p_3_0, w_g_3_1, w_p_3_1, w_g_3_2, w_g_3_3, w_g_3_4, w_g_3_5, w_g_3_6, w_g_3_7, w_g_3_8, w_g_3_9, w_g_3_10, w_r_4, w_l_4, w_w_4, w_r_5, w_l_5, w_w_5, w_r_6, w_l_6, w_w_6, w_r_7, w_l_7, w_w_7, w_r_8, w_l_8, w_w_8, w_r_9, w_l_9, w_w_9, w_r_10, w_l_10, w_w_10, w_r_11, w_l_11, w_w_11, w_r_12, w_l_12, w_w_12, jI_add, jI_sub, jI_mul, jI_neg, jI_eq, jI_le, jI_lt, jI_eq0, jI_eq1, jI_lt0, jI_0lt, jI_le0, jI_0le, jI_clamp, jI_inBT, kL_0, kL_1, kL_2, kL_5, kL_6, kL_7, kL_10, kL_11, kL_15, kL_23, kL_31, kL_39, kL_97, kL_99, kL_104, kL_255, kL_349, kL_999, kL_1771561, kL_16777215, kL_4294967295, kL_18446744073709551615, jI_toL, rn_zB, rn_z0, rn_z1, jIB_eq0, jIB_eq1, jIB_eqJ, jB_def, jB_not, jB_and, jB_or, jB_nand, jB_nor, jB_ite, mrg, Decidable.not_not, ite_not, u2_s, u2_n, Int.add_sub_cancel, Int.sub_add_cancel]
  rw [s_Lo_leastSense_2 hI hs' ht 3 0 (by omega) (by omega), bM_7 hI.1.1]
  rfl
/-- fits at all, by what is open -/
theorem bM_any {A : Nat → Nat → Int} (hI : IMb A) (s t : Nat) (o : Int) : (!decide (bM A s t o = -1)) = anyB (fun i => decide (ibit (if A 75 s = 5 then 7 else o) i = 1) && fitB A s t i) 0 3 := by
  rw [bM_fst hI]
  by_cases g : A 75 s = 5
  · rw [if_pos g, if_pos g]
    by_cases g2 : (t : Int) = A 77 s
    · simp [anyB, fitB, g, g2, ibit]
    · simp [anyB, fitB, g, g2]
  · rw [if_neg g, if_neg g]
    cases h : anyB (fun i => decide (ibit o i = 1) && fitB A s t i) 0 3
    · rw [← fst_any] at h
      simp [h]
    · have : ¬ fstP (fun i => decide (ibit o i = 1) && fitB A s t i) 0 3 = -1 := by
        rw [fst_any, h]
        simp
      simp [this]
theorem s_Lo_fbs_33 (hI : LI F A) {s o : Int} {k : Nat} (hs' : 0 ≤ s ∧ s < F 71 4) (ho : 0 ≤ o ∧ o ≤ 7) :
    ∀ (n : Nat) (i : Int) (p : Nat → Bool), i + n = 3 → 0 ≤ i → Rj d 32 33 [.ref 3, .int (jI s), .ref k, .int (jI o), .int (jI (setS p 0 (F 71 0).toNat)), .int (jI i)] [] (HW L xs F A B hs t1 t2) Q = Q (some (.int (jI (setS (fun t => p t || anyB (fun i => decide (ibit o i = 1) && fitB A s.toNat t i) i.toNat n) 0 (F 71 0).toNat)))) (HW L xs F A B hs t1 t2)
  | 0, i, p, hn, hi => by
    rw [b_Lore_fittingBySight_33]
    simp (disch := omega) only [b_Lore_fittingBySight_70, rn_nil, rn_iconst, rn_ldc2, rn_iadd, rn_isub, rn_imul, rn_iand, rn_ior, rn_ixor, rn_ishl, rn_ishr, rn_iushr, rn_ineg, rn_ladd, rn_lsub, rn_lmul, rn_land, rn_lor, rn_lshl, rn_lushr, rn_lcmp, rn_i2l, rn_l2i, rn_dupI, rn_dupR, rn_popI, rn_dup2, rn_idiv, rn_irem, rn_ldiv, rn_lrem, rn_dadd, rn_dsub, rn_dmul, rn_objinit, rn_iload, rn_lload, rn_aload, rn_istore, rn_astore, rn_lstore, rn_iinc, rn_getfield, rn_iaload, rn_laload, rn_aaload, rn_arraylength, rn_putfield, rn_iastore, rn_lastore, rn_goto, rn_ifCond_eq, rn_if_icmp_eq, rn_ifCond_ne, rn_if_icmp_ne, rn_ifCond_lt, rn_if_icmp_lt, rn_ifCond_ge, rn_if_icmp_ge, rn_ifCond_gt, rn_if_icmp_gt, rn_ifCond_le, rn_if_icmp_le, rn_ireturn, rn_lreturn, rn_return, rL_I, rL_L, rL_R, rS_t, rI_t, rG_s, rG_i, rP_s, rP_i, kq_v, kq_s, ok_0, ok_1I, ok_1R, ok_1N, ok_s, rc8_0, rc8_1, rc8_2, rc8_3, rc8_4, List.getElem?_cons_zero, List.getElem?_cons_succ, List.set_cons_zero, List.set_cons_succ, true_and, and_true, if_true, if_false, Int.toNat_natCast, Int.reduceToNat, Int.reduceAdd, Int.reduceSub, Int.reduceMul, Int.reduceNeg, Nat.reduceAdd, Int.reduceLT, Int.reduceLE, Int.reduceEq, reduceIte, w_ck_3, w_g_3_0, w_p_3_0, w_g_3_1, w_p_3_1, w_g_3_2, w_g_3_3, w_g_3_4, w_g_3_5, w_g_3_6, w_g_3_7, w_g_3_8, w_g_3_9, w_g_3_10, w_r_4, w_l_4, w_w_4, w_r_5, w_l_5, w_w_5, w_r_6, w_l_6, w_w_6, w_r_7, w_l_7, w_w_7, w_r_8, w_l_8, w_w_8, w_r_9, w_l_9, w_w_9, w_r_10, w_l_10, w_w_10, w_r_11, w_l_11, w_w_11, w_r_12, w_l_12, w_w_12, jI_add, jI_sub, jI_mul, jI_neg, jI_eq, jI_le, jI_lt, jI_eq0, jI_eq1, jI_lt0, jI_0lt, jI_le0, jI_0le, jI_clamp, jI_inBT, kL_0, kL_1, kL_2, kL_5, kL_6, kL_7, kL_10, kL_11, kL_15, kL_23, kL_31, kL_39, kL_97, kL_99, kL_104, kL_255, kL_349, kL_999, kL_1771561, kL_16777215, kL_4294967295, kL_18446744073709551615, jI_toL, rn_zB, rn_z0, rn_z1, jIB_eq0, jIB_eq1, jIB_eqJ, jB_def, jB_not, jB_and, jB_or, jB_nand, jB_nor, jB_ite, mrg, Decidable.not_not, ite_not, u2_s, u2_n, Int.add_sub_cancel, Int.sub_add_cancel]
    rw [if_pos (by omega)]
    simp only [anyB, Bool.or_false]
  | n + 1, i, p, hn, hi => by
    have h1 := hI.1.2.1
    have h2 := hI.1.2.2.1
    have e := hI.2 s.toNat i.toNat (by omega) (by omega)
    have r1 := setS_nn (fun t => fitB A s.toNat t i.toNat) (F 71 0).toNat
    have r2 := setS_nn p (F 71 0).toNat
    have b1 := ibit_01 o i.toNat
    rw [show 3 * s.toNat + i.toNat = (s * 3 + i).toNat by omega] at e
    rw [b_Lore_fittingBySight_33]
    simp (disch := omega) only [b_Lore_fittingBySight_39, b_Lore_fittingBySight_48, b_Lore_fittingBySight_64, rn_nil, rn_iconst, rn_ldc2, rn_iadd, rn_isub, rn_imul, rn_iand, rn_ior, rn_ixor, rn_ishl, rn_ishr, rn_iushr, rn_ineg, rn_ladd, rn_lsub, rn_lmul, rn_land, rn_lor, rn_lshl, rn_lushr, rn_lcmp, rn_i2l, rn_l2i, rn_dupI, rn_dupR, rn_popI, rn_dup2, rn_idiv, rn_irem, rn_ldiv, rn_lrem, rn_dadd, rn_dsub, rn_dmul, rn_objinit, rn_iload, rn_lload, rn_aload, rn_istore, rn_astore, rn_lstore, rn_iinc, rn_getfield, rn_iaload, rn_laload, rn_aaload, rn_arraylength, rn_putfield, rn_iastore, rn_lastore, rn_goto, rn_ifCond_eq, rn_if_icmp_eq, rn_ifCond_ne, rn_if_icmp_ne, rn_ifCond_lt, rn_if_icmp_lt, rn_ifCond_ge, rn_if_icmp_ge, rn_ifCond_gt, rn_if_icmp_gt, rn_ifCond_le, rn_if_icmp_le, rn_ireturn, rn_lreturn, rn_return, rL_I, rL_L, rL_R, rS_t, rI_t, rG_s, rG_i, rP_s, rP_i, kq_v, kq_s, ok_0, ok_1I, ok_1R, ok_1N, ok_s, rc8_0, rc8_1, rc8_2, rc8_3, rc8_4, List.getElem?_cons_zero, List.getElem?_cons_succ, List.set_cons_zero, List.set_cons_succ, true_and, and_true, if_true, if_false, Int.toNat_natCast, Int.reduceToNat, Int.reduceAdd, Int.reduceSub, Int.reduceMul, Int.reduceNeg, Nat.reduceAdd, Int.reduceLT, Int.reduceLE, Int.reduceEq, reduceIte, w_ck_3, w_g_3_0, w_p_3_0, w_g_3_1, w_p_3_1, w_g_3_2, w_g_3_3, w_g_3_4, w_g_3_5, w_g_3_6, w_g_3_7, w_g_3_8, w_g_3_9, w_g_3_10, w_r_4, w_l_4, w_w_4, w_r_5, w_l_5, w_w_5, w_r_6, w_l_6, w_w_6, w_r_7, w_l_7, w_w_7, w_r_8, w_l_8, w_w_8, w_r_9, w_l_9, w_w_9, w_r_10, w_l_10, w_w_10, w_r_11, w_l_11, w_w_11, w_r_12, w_l_12, w_w_12, jI_add, jI_sub, jI_mul, jI_neg, jI_eq, jI_le, jI_lt, jI_eq0, jI_eq1, jI_lt0, jI_0lt, jI_le0, jI_0le, jI_clamp, jI_inBT, kL_0, kL_1, kL_2, kL_5, kL_6, kL_7, kL_10, kL_11, kL_15, kL_23, kL_31, kL_39, kL_97, kL_99, kL_104, kL_255, kL_349, kL_999, kL_1771561, kL_16777215, kL_4294967295, kL_18446744073709551615, jI_toL, rn_zB, rn_z0, rn_z1, jIB_eq0, jIB_eq1, jIB_eqJ, jB_def, jB_not, jB_and, jB_or, jB_nand, jB_nor, jB_ite, mrg, Decidable.not_not, ite_not, u2_s, u2_n, Int.add_sub_cancel, Int.sub_add_cancel, jI_bit, e, jI_or, or_SS]
    rw [if_neg (by omega), s_Lo_fbs_33 hI hs' ho n (i + 1) _ (by omega) (by omega), s_Lo_fbs_33 hI hs' ho n (i + 1) _ (by omega) (by omega), show (i + 1).toNat = i.toNat + 1 by omega]
    by_cases g : ibit o i.toNat = 0
    · rw [if_pos g]
      have g2 : ¬ ibit o i.toNat = 1 := by omega
      simp only [anyB, g2, decide_false, Bool.false_and, Bool.false_or]
    · rw [if_neg g]
      have g2 : ibit o i.toNat = 1 := by omega
      simp only [anyB, g2, decide_true, Bool.true_and, Bool.or_assoc]
theorem s_Lo_fbs (hI : LI F A) {s : Int} {k : Nat} (hk : SG k) (ho : ∀ w, 0 ≤ A (k + 1) w ∧ A (k + 1) w ≤ 7) (hs' : 0 ≤ s ∧ s < F 71 4) :
    Rj d 32 0 [.ref 3, .int (jI s), .ref k, .null, .null, .null] [] (HW L xs F A B hs t1 t2) Q = Q (some (.int (jI (setS (fun t => !decide (bM A s.toNat t (A (k + 1) (A 76 s.toNat).toNat) = -1)) 0 (F 71 0).toNat)))) (HW L xs F A B hs t1 t2) := by
  have h2 := hI.1.2.2.1
  have i4 := hI.1.1.2.2.2.1 s.toNat
  have i5 := hI.1.1.2.2.2.2.1 s.toNat
  have e9 := hI.1.2.2.2.2.2.2.2.2.1
  have e10 := hI.1.2.2.2.2.2.2.2.2.2.1
  have o1 := ho (A 76 s.toNat).toNat
  rw [b_Lore_fittingBySight_0]
  simp (disch := omega) only [b_Lore_fittingBySight_10, b_Lore_fittingBySight_15, rn_nil, rn_iconst, rn_ldc2, rn_iadd, rn_isub, rn_imul, rn_iand, rn_ior, rn_ixor, rn_ishl, rn_ishr, rn_iushr, rn_ineg, rn_ladd, rn_lsub, rn_lmul, rn_land, rn_lor, rn_lshl, rn_lushr, rn_lcmp, rn_i2l, rn_l2i, rn_dupI, rn_dupR, rn_popI, rn_dup2, rn_idiv, rn_irem, rn_ldiv, rn_lrem, rn_dadd, rn_dsub, rn_dmul, rn_objinit, rn_iload, rn_lload, rn_aload, rn_istore, rn_astore, rn_lstore, rn_iinc, rn_getfield, rn_iaload, rn_laload, rn_aaload, rn_arraylength, rn_putfield, rn_iastore, rn_lastore, rn_goto, rn_ifCond_eq, rn_if_icmp_eq, rn_ifCond_ne, rn_if_icmp_ne, rn_ifCond_lt, rn_if_icmp_lt, rn_ifCond_ge, rn_if_icmp_ge, rn_ifCond_gt, rn_if_icmp_gt, rn_ifCond_le, rn_if_icmp_le, rn_ireturn, rn_lreturn, rn_return, rL_I, rL_L, rL_R, rS_t, rI_t, rG_s, rG_i, rP_s, rP_i, kq_v, kq_s, ok_0, ok_1I, ok_1R, ok_1N, ok_s, rc8_0, rc8_1, rc8_2, rc8_3, rc8_4, List.getElem?_cons_zero, List.getElem?_cons_succ, List.set_cons_zero, List.set_cons_succ, true_and, and_true, if_true, if_false, Int.toNat_natCast, Int.reduceToNat, Int.reduceAdd, Int.reduceSub, Int.reduceMul, Int.reduceNeg, Nat.reduceAdd, Int.reduceLT, Int.reduceLE, Int.reduceEq, reduceIte, w_ck_3, w_g_3_0, w_p_3_0, w_g_3_1, w_p_3_1, w_g_3_2, w_g_3_3, w_g_3_4, w_g_3_5, w_g_3_6, w_g_3_7, w_g_3_8, w_g_3_9, w_g_3_10, w_r_4, w_l_4, w_w_4, w_r_5, w_l_5, w_w_5, w_r_6, w_l_6, w_w_6, w_r_7, w_l_7, w_w_7, w_r_8, w_l_8, w_w_8, w_r_9, w_l_9, w_w_9, w_r_10, w_l_10, w_w_10, w_r_11, w_l_11, w_w_11, w_r_12, w_l_12, w_w_12, jI_add, jI_sub, jI_mul, jI_neg, jI_eq, jI_le, jI_lt, jI_eq0, jI_eq1, jI_lt0, jI_0lt, jI_le0, jI_0le, jI_clamp, jI_inBT, kL_0, kL_1, kL_2, kL_5, kL_6, kL_7, kL_10, kL_11, kL_15, kL_23, kL_31, kL_39, kL_97, kL_99, kL_104, kL_255, kL_349, kL_999, kL_1771561, kL_16777215, kL_4294967295, kL_18446744073709551615, jI_toL, rn_zB, rn_z0, rn_z1, jIB_eq0, jIB_eq1, jIB_eqJ, jB_def, jB_not, jB_and, jB_or, jB_nand, jB_nor, jB_ite, mrg, Decidable.not_not, ite_not, u2_s, u2_n, Int.add_sub_cancel, Int.sub_add_cancel, w_g_S hk, w_r_S hk, e9, e10]
  rw [b_Lore_fittingBySight_26]
  simp (disch := omega) only [rn_nil, rn_iconst, rn_ldc2, rn_iadd, rn_isub, rn_imul, rn_iand, rn_ior, rn_ixor, rn_ishl, rn_ishr, rn_iushr, rn_ineg, rn_ladd, rn_lsub, rn_lmul, rn_land, rn_lor, rn_lshl, rn_lushr, rn_lcmp, rn_i2l, rn_l2i, rn_dupI, rn_dupR, rn_popI, rn_dup2, rn_idiv, rn_irem, rn_ldiv, rn_lrem, rn_dadd, rn_dsub, rn_dmul, rn_objinit, rn_iload, rn_lload, rn_aload, rn_istore, rn_astore, rn_lstore, rn_iinc, rn_getfield, rn_iaload, rn_laload, rn_aaload, rn_arraylength, rn_putfield, rn_iastore, rn_lastore, rn_goto, rn_ifCond_eq, rn_if_icmp_eq, rn_ifCond_ne, rn_if_icmp_ne, rn_ifCond_lt, rn_if_icmp_lt, rn_ifCond_ge, rn_if_icmp_ge, rn_ifCond_gt, rn_if_icmp_gt, rn_ifCond_le, rn_if_icmp_le, rn_ireturn, rn_lreturn, rn_return, rL_I, rL_L, rL_R, rS_t, rI_t, rG_s, rG_i, rP_s, rP_i, kq_v, kq_s, ok_0, ok_1I, ok_1R, ok_1N, ok_s, rc8_0, rc8_1, rc8_2, rc8_3, rc8_4, List.getElem?_cons_zero, List.getElem?_cons_succ, List.set_cons_zero, List.set_cons_succ, true_and, and_true, if_true, if_false, Int.toNat_natCast, Int.reduceToNat, Int.reduceAdd, Int.reduceSub, Int.reduceMul, Int.reduceNeg, Nat.reduceAdd, Int.reduceLT, Int.reduceLE, Int.reduceEq, reduceIte, w_ck_3, w_g_3_0, w_p_3_0, w_g_3_1, w_p_3_1, w_g_3_2, w_g_3_3, w_g_3_4, w_g_3_5, w_g_3_6, w_g_3_7, w_g_3_8, w_g_3_9, w_g_3_10, w_r_4, w_l_4, w_w_4, w_r_5, w_l_5, w_w_5, w_r_6, w_l_6, w_w_6, w_r_7, w_l_7, w_w_7, w_r_8, w_l_8, w_w_8, w_r_9, w_l_9, w_w_9, w_r_10, w_l_10, w_w_10, w_r_11, w_l_11, w_w_11, w_r_12, w_l_12, w_w_12, jI_add, jI_sub, jI_mul, jI_neg, jI_eq, jI_le, jI_lt, jI_eq0, jI_eq1, jI_lt0, jI_0lt, jI_le0, jI_0le, jI_clamp, jI_inBT, kL_0, kL_1, kL_2, kL_5, kL_6, kL_7, kL_10, kL_11, kL_15, kL_23, kL_31, kL_39, kL_97, kL_99, kL_104, kL_255, kL_349, kL_999, kL_1771561, kL_16777215, kL_4294967295, kL_18446744073709551615, jI_toL, rn_zB, rn_z0, rn_z1, jIB_eq0, jIB_eq1, jIB_eqJ, jB_def, jB_not, jB_and, jB_or, jB_nand, jB_nor, jB_ite, mrg, Decidable.not_not, ite_not, u2_s, u2_n, Int.add_sub_cancel, Int.sub_add_cancel]
  have e0 : (0 : Int) = setS (fun _ => false) 0 (F 71 0).toNat := (setS_none0 _).symm
  have e1 := s_Lo_fbs_33 (d := d) (Q := Q) (L := L) (xs := xs) (B := B) (hs := hs) (t1 := t1) (t2 := t2) hI (k := k) hs' (o := if A 75 s.toNat = 5 then 7 else A (k + 1) (A 76 s.toNat).toNat) (by split <;> omega) 3 0 (fun _ => false) (by omega) (by omega)
  rw [setS_none0] at e1
  rw [e1]
  refine congrArg (fun z => Q (some (.int (jI z))) _) ?_
  apply setS_ext
  intro t _ _
  rw [bM_any hI.1.1, Bool.false_or]
  rfl
end LS
