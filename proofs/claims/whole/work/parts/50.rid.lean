/-! THE CLASS: riddles -/
/-- one saying of a riddle lets a thing be, by what is open of each word -/
def okS (A : Nat → Nat → Int) (r t : Nat) (but : Int) (op : Nat → Int) (i : Nat) : Bool := decide ((i : Int) = but) || !decide (bM A (A 79 (6 * r + i)).toNat t (op (A 76 (A 79 (6 * r + i)).toNat).toNat) = -1)
def ansS (A : Nat → Nat → Int) (r : Nat) (but : Int) (op : Nat → Int) (t : Nat) : Bool := allB (okS A r t but op) 0 (A 78 r).toNat
theorem ansS_M (A : Nat → Nat → Int) (r : Nat) (but o : Int) : ansS A r but (fun _ => o) = ansM A r but o := rfl
theorem allB_ext {p q : Nat → Bool} : ∀ (n i : Nat), (∀ j, i ≤ j → j < i + n → p j = q j) → allB p i n = allB q i n
  | 0, i, _ => rfl
  | n + 1, i, h => by rw [allB, allB, h i (Nat.le_refl i) (by omega), allB_ext n (i + 1) (fun j h1 h2 => h j (by omega) (by omega))]
theorem ansS_op {A : Nat → Nat → Int} (hI : IMb A) {r : Nat} {but : Int} {op op' : Nat → Int} (h : ∀ w, w < 16 → op w = op' w) : ansS A r but op = ansS A r but op' := by
  funext t
  unfold ansS
  apply allB_ext
  intro j _ _
  unfold okS
  rw [h _ (by have := hI.2.2.2.2.1 (A 79 (6 * r + j)).toNat; omega)]
/-- riddles: class against reference -/
def RX (F A : Nat → Nat → Int) : Prop := F 13 4 = F 71 8 ∧ (0 ≤ F 71 8 ∧ F 71 8 ≤ 10) ∧ A 16 = A 79 ∧ A 17 = A 78 ∧ (∀ r : Nat, (r : Int) < F 71 8 → 1 ≤ A 78 r) ∧ (∀ r : Nat, F 71 8 ≤ r → A 78 r = 0) ∧ (∀ r i : Nat, (r : Int) < F 71 8 → (i : Int) < A 78 r → A 79 (6 * r + i) < F 71 4)
section RI1
variable {d : Nat} {Q : Option Value → am_H → Prop}
variable {L : Nat} {xs : Nat → Int32} {F A : Nat → Nat → Int} {B : Nat → Int64} {hs : Int64} {t1 t2 : Nat}
theorem s_Ri_fw_12 (hI : LI F A) (hR : RX F A) {r but : Int} {k : Nat} (hk : SG k) (ho : ∀ w, 0 ≤ A (k + 1) w ∧ A (k + 1) w ≤ 7) (hr : 0 ≤ r ∧ r < F 71 8) (hb : -1 ≤ but ∧ but ≤ 6) :
    ∀ (n : Nat) (i : Int) (p : Nat → Bool), i + n = A 78 r.toNat → 0 ≤ i → Rj (d + 1) 50 12 [.ref 13, .int (jI r), .int (jI but), .ref k, .int (jI (setS p 0 (F 71 0).toNat)), .int (jI i)] [] (HW L xs F A B hs t1 t2) Q =
      Q (some (.int (jI (setS (fun t => p t && allB (okS A r.toNat t but (A (k + 1))) i.toNat n) 0 (F 71 0).toNat)))) (HW L xs F A B hs t1 t2)
  | 0, i, p, hn, hi => by
    have h7 := hI.1.1.2.2.2.2.2.2.1 r.toNat
    have r3 := hR.2.1
    have e17 := hR.2.2.2.1
    rw [b_Riddles_fittingWithout_12]
    simp (disch := omega) only [b_Riddles_fittingWithout_55, rn_nil, rn_iconst, rn_ldc2, rn_iadd, rn_isub, rn_imul, rn_iand, rn_ior, rn_ixor, rn_ishl, rn_ishr, rn_iushr, rn_ineg, rn_ladd, rn_lsub, rn_lmul, rn_land, rn_lor, rn_lshl, rn_lushr, rn_lcmp, rn_i2l, rn_l2i, rn_dupI, rn_dupR, rn_popI, rn_dup2, rn_idiv, rn_irem, rn_ldiv, rn_lrem, rn_dadd, rn_dsub, rn_dmul, rn_objinit, rn_iload, rn_lload, rn_aload, rn_istore, rn_astore, rn_lstore, rn_iinc, rn_getfield, rn_iaload, rn_laload, rn_aaload, rn_arraylength, rn_putfield, rn_iastore, rn_lastore, rn_goto, rn_ifCond_eq, rn_if_icmp_eq, rn_ifCond_ne, rn_if_icmp_ne, rn_ifCond_lt, rn_if_icmp_lt, rn_ifCond_ge, rn_if_icmp_ge, rn_ifCond_gt, rn_if_icmp_gt, rn_ifCond_le, rn_if_icmp_le, rn_ireturn, rn_lreturn, rn_return, rL_I, rL_L, rL_R, rS_t, rI_t, rG_s, rG_i, rP_s, rP_i, kq_v, kq_s, ok_0, ok_1I, ok_1R, ok_1N, ok_s, rc8_0, rc8_1, rc8_2, rc8_3, rc8_4, List.getElem?_cons_zero, List.getElem?_cons_succ, List.set_cons_zero, List.set_cons_succ, true_and, and_true, if_true, if_false, Int.toNat_natCast, Int.reduceToNat, Int.reduceAdd, Int.reduceSub, Int.reduceMul, Int.reduceNeg, Nat.reduceAdd, Int.reduceLT, Int.reduceLE, Int.reduceEq, reduceIte, w_ck_13, w_g_13_0, w_g_13_1, w_g_13_2, w_g_13_3, w_g_13_4, w_p_13_4, w_r_16, w_l_16, w_w_16, w_r_17, w_l_17, w_w_17, jI_add, jI_sub, jI_mul, jI_neg, jI_eq, jI_le, jI_lt, jI_eq0, jI_eq1, jI_lt0, jI_0lt, jI_le0, jI_0le, jI_clamp, jI_inBT, kL_0, kL_1, kL_2, kL_5, kL_6, kL_7, kL_10, kL_11, kL_15, kL_23, kL_31, kL_39, kL_97, kL_99, kL_104, kL_255, kL_349, kL_999, kL_1771561, kL_16777215, kL_4294967295, kL_18446744073709551615, jI_toL, rn_zB, rn_z0, rn_z1, jIB_eq0, jIB_eq1, jIB_eqJ, jB_def, jB_not, jB_and, jB_or, jB_nand, jB_nor, jB_ite, mrg, Decidable.not_not, ite_not, u2_s, u2_n, Int.add_sub_cancel, Int.sub_add_cancel, e17]
    rw [if_pos (by omega)]
    simp only [allB, Bool.and_true]
  | n + 1, i, p, hn, hi => by
    have h7 := hI.1.1.2.2.2.2.2.2.1 r.toNat
    have h8 := hI.1.1.2.2.2.2.2.2.2 (r * 6 + i).toNat
    have r3 := hR.2.1
    have e16 := hR.2.2.1
    have e17 := hR.2.2.2.1
    have r6 := hR.2.2.2.2.2.2 r.toNat i.toNat (by omega) (by omega)
    rw [show 6 * r.toNat + i.toNat = (r * 6 + i).toNat by omega] at r6
    have q1 := setS_nn p (F 71 0).toNat
    have q2 := setS_nn (fun t => !decide (bM A (A 79 (r * 6 + i).toNat).toNat t (A (k + 1) (A 76 (A 79 (r * 6 + i).toNat).toNat).toNat) = -1)) (F 71 0).toNat
    rw [b_Riddles_fittingWithout_12]
    simp (disch := omega) only [b_Riddles_fittingWithout_23, b_Riddles_fittingWithout_29, b_Riddles_fittingWithout_49, rn_nil, rn_iconst, rn_ldc2, rn_iadd, rn_isub, rn_imul, rn_iand, rn_ior, rn_ixor, rn_ishl, rn_ishr, rn_iushr, rn_ineg, rn_ladd, rn_lsub, rn_lmul, rn_land, rn_lor, rn_lshl, rn_lushr, rn_lcmp, rn_i2l, rn_l2i, rn_dupI, rn_dupR, rn_popI, rn_dup2, rn_idiv, rn_irem, rn_ldiv, rn_lrem, rn_dadd, rn_dsub, rn_dmul, rn_objinit, rn_iload, rn_lload, rn_aload, rn_istore, rn_astore, rn_lstore, rn_iinc, rn_getfield, rn_iaload, rn_laload, rn_aaload, rn_arraylength, rn_putfield, rn_iastore, rn_lastore, rn_goto, rn_ifCond_eq, rn_if_icmp_eq, rn_ifCond_ne, rn_if_icmp_ne, rn_ifCond_lt, rn_if_icmp_lt, rn_ifCond_ge, rn_if_icmp_ge, rn_ifCond_gt, rn_if_icmp_gt, rn_ifCond_le, rn_if_icmp_le, rn_ireturn, rn_lreturn, rn_return, rL_I, rL_L, rL_R, rS_t, rI_t, rG_s, rG_i, rP_s, rP_i, kq_v, kq_s, ok_0, ok_1I, ok_1R, ok_1N, ok_s, rc8_0, rc8_1, rc8_2, rc8_3, rc8_4, List.getElem?_cons_zero, List.getElem?_cons_succ, List.set_cons_zero, List.set_cons_succ, true_and, and_true, if_true, if_false, Int.toNat_natCast, Int.reduceToNat, Int.reduceAdd, Int.reduceSub, Int.reduceMul, Int.reduceNeg, Nat.reduceAdd, Int.reduceLT, Int.reduceLE, Int.reduceEq, reduceIte, w_ck_13, w_g_13_0, w_g_13_1, w_g_13_2, w_g_13_3, w_g_13_4, w_p_13_4, w_r_16, w_l_16, w_w_16, w_r_17, w_l_17, w_w_17, jI_add, jI_sub, jI_mul, jI_neg, jI_eq, jI_le, jI_lt, jI_eq0, jI_eq1, jI_lt0, jI_0lt, jI_le0, jI_0le, jI_clamp, jI_inBT, kL_0, kL_1, kL_2, kL_5, kL_6, kL_7, kL_10, kL_11, kL_15, kL_23, kL_31, kL_39, kL_97, kL_99, kL_104, kL_255, kL_349, kL_999, kL_1771561, kL_16777215, kL_4294967295, kL_18446744073709551615, jI_toL, rn_zB, rn_z0, rn_z1, jIB_eq0, jIB_eq1, jIB_eqJ, jB_def, jB_not, jB_and, jB_or, jB_nand, jB_nor, jB_ite, mrg, Decidable.not_not, ite_not, u2_s, u2_n, Int.add_sub_cancel, Int.sub_add_cancel, e16, e17, c_Riddles_sayingAt, s_Rid_sayingAt, c_Lore_fittingBySight, w_ck_3, s_Lo_fbs hI hk ho, jI_and, and_SS]
    rw [if_neg (by omega), s_Ri_fw_12 hI hR hk ho hr hb n (i + 1) _ (by omega) (by omega), s_Ri_fw_12 hI hR hk ho hr hb n (i + 1) _ (by omega) (by omega), show (i + 1).toNat = i.toNat + 1 by omega]
    by_cases g : i = but
    · rw [if_pos g]
      refine congrArg (fun z => Q (some (.int (jI z))) _) ?_
      apply setS_ext
      intro t _ _
      rw [allB, okS, show ((i.toNat : Nat) : Int) = i by omega]
      simp only [g, decide_true, Bool.true_or, Bool.true_and]
    · rw [if_neg g]
      refine congrArg (fun z => Q (some (.int (jI z))) _) ?_
      apply setS_ext
      intro t _ _
      rw [allB, okS, show ((i.toNat : Nat) : Int) = i by omega, show 6 * r.toNat + i.toNat = (r * 6 + i).toNat by omega]
      simp only [g, decide_false, Bool.false_or, Bool.and_assoc]
theorem s_Ri_fw (hI : LI F A) (hR : RX F A) {r but : Int} {k : Nat} (hk : SG k) (ho : ∀ w, 0 ≤ A (k + 1) w ∧ A (k + 1) w ≤ 7) (hr : 0 ≤ r ∧ r < F 71 8) (hb : -1 ≤ but ∧ but ≤ 6) :
    Rj (d + 1) 50 0 [.ref 13, .int (jI r), .int (jI but), .ref k, .null, .null] [] (HW L xs F A B hs t1 t2) Q =
      Q (some (.int (jI (setS (ansS A r.toNat but (A (k + 1))) 0 (F 71 0).toNat)))) (HW L xs F A B hs t1 t2) := by
  have h7 := hI.1.1.2.2.2.2.2.2.1 r.toNat
  have h1 := hI.1.2.1
  have e0 := hI.1.2.2.2.1
  rw [b_Riddles_fittingWithout_0]
  simp (disch := omega) only [rn_nil, rn_iconst, rn_ldc2, rn_iadd, rn_isub, rn_imul, rn_iand, rn_ior, rn_ixor, rn_ishl, rn_ishr, rn_iushr, rn_ineg, rn_ladd, rn_lsub, rn_lmul, rn_land, rn_lor, rn_lshl, rn_lushr, rn_lcmp, rn_i2l, rn_l2i, rn_dupI, rn_dupR, rn_popI, rn_dup2, rn_idiv, rn_irem, rn_ldiv, rn_lrem, rn_dadd, rn_dsub, rn_dmul, rn_objinit, rn_iload, rn_lload, rn_aload, rn_istore, rn_astore, rn_lstore, rn_iinc, rn_getfield, rn_iaload, rn_laload, rn_aaload, rn_arraylength, rn_putfield, rn_iastore, rn_lastore, rn_goto, rn_ifCond_eq, rn_if_icmp_eq, rn_ifCond_ne, rn_if_icmp_ne, rn_ifCond_lt, rn_if_icmp_lt, rn_ifCond_ge, rn_if_icmp_ge, rn_ifCond_gt, rn_if_icmp_gt, rn_ifCond_le, rn_if_icmp_le, rn_ireturn, rn_lreturn, rn_return, rL_I, rL_L, rL_R, rS_t, rI_t, rG_s, rG_i, rP_s, rP_i, kq_v, kq_s, ok_0, ok_1I, ok_1R, ok_1N, ok_s, rc8_0, rc8_1, rc8_2, rc8_3, rc8_4, List.getElem?_cons_zero, List.getElem?_cons_succ, List.set_cons_zero, List.set_cons_succ, true_and, and_true, if_true, if_false, Int.toNat_natCast, Int.reduceToNat, Int.reduceAdd, Int.reduceSub, Int.reduceMul, Int.reduceNeg, Nat.reduceAdd, Int.reduceLT, Int.reduceLE, Int.reduceEq, reduceIte, w_ck_13, w_g_13_0, w_g_13_1, w_g_13_2, w_g_13_3, w_g_13_4, w_p_13_4, w_r_16, w_l_16, w_w_16, w_r_17, w_l_17, w_w_17, jI_add, jI_sub, jI_mul, jI_neg, jI_eq, jI_le, jI_lt, jI_eq0, jI_eq1, jI_lt0, jI_0lt, jI_le0, jI_0le, jI_clamp, jI_inBT, kL_0, kL_1, kL_2, kL_5, kL_6, kL_7, kL_10, kL_11, kL_15, kL_23, kL_31, kL_39, kL_97, kL_99, kL_104, kL_255, kL_349, kL_999, kL_1771561, kL_16777215, kL_4294967295, kL_18446744073709551615, jI_toL, rn_zB, rn_z0, rn_z1, jIB_eq0, jIB_eq1, jIB_eqJ, jB_def, jB_not, jB_and, jB_or, jB_nand, jB_nor, jB_ite, mrg, Decidable.not_not, ite_not, u2_s, u2_n, Int.add_sub_cancel, Int.sub_add_cancel, c_Lore_allThings, w_ck_3, s_Lore_allThings, e0]
  rw [setS_all0, s_Ri_fw_12 hI hR hk ho hr hb (A 78 r.toNat).toNat 0 _ (by omega) (by omega)]
  simp only [Bool.true_and]
  rfl
theorem s_Ri_fitting (hI : LI F A) (hR : RX F A) (hS : ∀ w, w < 16 → A 15 w = 7) (ho : ∀ w, 0 ≤ A 15 w ∧ A 15 w ≤ 7) {r : Int} (hr : 0 ≤ r ∧ r < F 71 8) :
    Rj (d + 2) 49 0 [.ref 13, .int (jI r)] [] (HW L xs F A B hs t1 t2) Q = Q (some (.int (jI (setS (ansM A r.toNat (-1) 7) 0 (F 71 0).toNat)))) (HW L xs F A B hs t1 t2) := by
  rw [b_Riddles_fitting_0]
  simp (disch := omega) only [rn_nil, rn_iconst, rn_ldc2, rn_iadd, rn_isub, rn_imul, rn_iand, rn_ior, rn_ixor, rn_ishl, rn_ishr, rn_iushr, rn_ineg, rn_ladd, rn_lsub, rn_lmul, rn_land, rn_lor, rn_lshl, rn_lushr, rn_lcmp, rn_i2l, rn_l2i, rn_dupI, rn_dupR, rn_popI, rn_dup2, rn_idiv, rn_irem, rn_ldiv, rn_lrem, rn_dadd, rn_dsub, rn_dmul, rn_objinit, rn_iload, rn_lload, rn_aload, rn_istore, rn_astore, rn_lstore, rn_iinc, rn_getfield, rn_iaload, rn_laload, rn_aaload, rn_arraylength, rn_putfield, rn_iastore, rn_lastore, rn_goto, rn_ifCond_eq, rn_if_icmp_eq, rn_ifCond_ne, rn_if_icmp_ne, rn_ifCond_lt, rn_if_icmp_lt, rn_ifCond_ge, rn_if_icmp_ge, rn_ifCond_gt, rn_if_icmp_gt, rn_ifCond_le, rn_if_icmp_le, rn_ireturn, rn_lreturn, rn_return, rL_I, rL_L, rL_R, rS_t, rI_t, rG_s, rG_i, rP_s, rP_i, kq_v, kq_s, ok_0, ok_1I, ok_1R, ok_1N, ok_s, rc8_0, rc8_1, rc8_2, rc8_3, rc8_4, List.getElem?_cons_zero, List.getElem?_cons_succ, List.set_cons_zero, List.set_cons_succ, true_and, and_true, if_true, if_false, Int.toNat_natCast, Int.reduceToNat, Int.reduceAdd, Int.reduceSub, Int.reduceMul, Int.reduceNeg, Nat.reduceAdd, Int.reduceLT, Int.reduceLE, Int.reduceEq, reduceIte, w_ck_13, w_g_13_0, w_g_13_1, w_g_13_2, w_g_13_3, w_g_13_4, w_p_13_4, w_r_16, w_l_16, w_w_16, w_r_17, w_l_17, w_w_17, jI_add, jI_sub, jI_mul, jI_neg, jI_eq, jI_le, jI_lt, jI_eq0, jI_eq1, jI_lt0, jI_0lt, jI_le0, jI_0le, jI_clamp, jI_inBT, kL_0, kL_1, kL_2, kL_5, kL_6, kL_7, kL_10, kL_11, kL_15, kL_23, kL_31, kL_39, kL_97, kL_99, kL_104, kL_255, kL_349, kL_999, kL_1771561, kL_16777215, kL_4294967295, kL_18446744073709551615, jI_toL, rn_zB, rn_z0, rn_z1, jIB_eq0, jIB_eq1, jIB_eqJ, jB_def, jB_not, jB_and, jB_or, jB_nand, jB_nor, jB_ite, mrg, Decidable.not_not, ite_not, u2_s, u2_n, Int.add_sub_cancel, Int.sub_add_cancel, c_Riddles_fittingWithout, s_Ri_fw hI hR (k := 14) (Or.inl rfl) ho]
  rw [← ansS_M, ansS_op hI.1.1 (op' := fun _ => 7) hS]
theorem s_Ri_countW (hI : LI F A) (hR : RX F A) (hS : ∀ w, w < 16 → A 15 w = 7) (ho : ∀ w, 0 ≤ A 15 w ∧ A 15 w ≤ 7) {r i : Int} (hr : 0 ≤ r ∧ r < F 71 8) (hi : 0 ≤ i ∧ i ≤ 6) :
    Rj (d + 2) 53 0 [.ref 13, .int (jI r), .int (jI i)] [] (HW L xs F A B hs t1 t2) Q = Q (some (.int (jI (astV A (F 71 0).toNat r.toNat i.toNat)))) (HW L xs F A B hs t1 t2) := by
  have h1 := hI.1.2.1
  have r1 := setS_12 (ansS A r.toNat i (A 15)) (n := (F 71 0).toNat) (by omega)
  rw [b_Riddles_countWithout_0]
  simp (disch := omega) only [rn_nil, rn_iconst, rn_ldc2, rn_iadd, rn_isub, rn_imul, rn_iand, rn_ior, rn_ixor, rn_ishl, rn_ishr, rn_iushr, rn_ineg, rn_ladd, rn_lsub, rn_lmul, rn_land, rn_lor, rn_lshl, rn_lushr, rn_lcmp, rn_i2l, rn_l2i, rn_dupI, rn_dupR, rn_popI, rn_dup2, rn_idiv, rn_irem, rn_ldiv, rn_lrem, rn_dadd, rn_dsub, rn_dmul, rn_objinit, rn_iload, rn_lload, rn_aload, rn_istore, rn_astore, rn_lstore, rn_iinc, rn_getfield, rn_iaload, rn_laload, rn_aaload, rn_arraylength, rn_putfield, rn_iastore, rn_lastore, rn_goto, rn_ifCond_eq, rn_if_icmp_eq, rn_ifCond_ne, rn_if_icmp_ne, rn_ifCond_lt, rn_if_icmp_lt, rn_ifCond_ge, rn_if_icmp_ge, rn_ifCond_gt, rn_if_icmp_gt, rn_ifCond_le, rn_if_icmp_le, rn_ireturn, rn_lreturn, rn_return, rL_I, rL_L, rL_R, rS_t, rI_t, rG_s, rG_i, rP_s, rP_i, kq_v, kq_s, ok_0, ok_1I, ok_1R, ok_1N, ok_s, rc8_0, rc8_1, rc8_2, rc8_3, rc8_4, List.getElem?_cons_zero, List.getElem?_cons_succ, List.set_cons_zero, List.set_cons_succ, true_and, and_true, if_true, if_false, Int.toNat_natCast, Int.reduceToNat, Int.reduceAdd, Int.reduceSub, Int.reduceMul, Int.reduceNeg, Nat.reduceAdd, Int.reduceLT, Int.reduceLE, Int.reduceEq, reduceIte, w_ck_13, w_g_13_0, w_g_13_1, w_g_13_2, w_g_13_3, w_g_13_4, w_p_13_4, w_r_16, w_l_16, w_w_16, w_r_17, w_l_17, w_w_17, jI_add, jI_sub, jI_mul, jI_neg, jI_eq, jI_le, jI_lt, jI_eq0, jI_eq1, jI_lt0, jI_0lt, jI_le0, jI_0le, jI_clamp, jI_inBT, kL_0, kL_1, kL_2, kL_5, kL_6, kL_7, kL_10, kL_11, kL_15, kL_23, kL_31, kL_39, kL_97, kL_99, kL_104, kL_255, kL_349, kL_999, kL_1771561, kL_16777215, kL_4294967295, kL_18446744073709551615, jI_toL, rn_zB, rn_z0, rn_z1, jIB_eq0, jIB_eq1, jIB_eqJ, jB_def, jB_not, jB_and, jB_or, jB_nand, jB_nor, jB_ite, mrg, Decidable.not_not, ite_not, u2_s, u2_n, Int.add_sub_cancel, Int.sub_add_cancel, c_Riddles_fittingWithout, s_Ri_fw hI hR (k := 14) (Or.inl rfl) ho, c_Integer_bitCount, s_bitCount]
  rw [bsum_S _ _ (by omega), ansS_op hI.1.1 (op' := fun _ => 7) hS, ansS_M]
  unfold astV
  rw [show ((i.toNat : Nat) : Int) = i by omega]
theorem s_Ri_mis_7 (hI : LI F A) (hR : RX F A) (hS : ∀ w, w < 16 → A 15 w = 7) (ho : ∀ w, 0 ≤ A 15 w ∧ A 15 w ≤ 7) {r : Int} (hr : 0 ≤ r ∧ r < F 71 8) :
    ∀ (n : Nat) (i b m : Int) (v5 : Value), i + n = A 78 r.toNat → 0 ≤ i → -1 ≤ m ∧ m ≤ 12 → Rj (d + 3) 52 7 [.ref 13, .int (jI r), .int (jI b), .int (jI m), .int (jI i), v5] [] (HW L xs F A B hs t1 t2) Q = Q (some (.int (jI (bstM (astV A (F 71 0).toNat r.toNat) i.toNat n (b, m)).1))) (HW L xs F A B hs t1 t2)
  | 0, i, b, m, v5, hn, hi, hm => by
    have h7 := hI.1.1.2.2.2.2.2.2.1 r.toNat
    have r3 := hR.2.1
    have e17 := hR.2.2.2.1
    rw [b_Riddles_misleadingPlace_7]
    simp (disch := omega) only [b_Riddles_misleadingPlace_45, rn_nil, rn_iconst, rn_ldc2, rn_iadd, rn_isub, rn_imul, rn_iand, rn_ior, rn_ixor, rn_ishl, rn_ishr, rn_iushr, rn_ineg, rn_ladd, rn_lsub, rn_lmul, rn_land, rn_lor, rn_lshl, rn_lushr, rn_lcmp, rn_i2l, rn_l2i, rn_dupI, rn_dupR, rn_popI, rn_dup2, rn_idiv, rn_irem, rn_ldiv, rn_lrem, rn_dadd, rn_dsub, rn_dmul, rn_objinit, rn_iload, rn_lload, rn_aload, rn_istore, rn_astore, rn_lstore, rn_iinc, rn_getfield, rn_iaload, rn_laload, rn_aaload, rn_arraylength, rn_putfield, rn_iastore, rn_lastore, rn_goto, rn_ifCond_eq, rn_if_icmp_eq, rn_ifCond_ne, rn_if_icmp_ne, rn_ifCond_lt, rn_if_icmp_lt, rn_ifCond_ge, rn_if_icmp_ge, rn_ifCond_gt, rn_if_icmp_gt, rn_ifCond_le, rn_if_icmp_le, rn_ireturn, rn_lreturn, rn_return, rL_I, rL_L, rL_R, rS_t, rI_t, rG_s, rG_i, rP_s, rP_i, kq_v, kq_s, ok_0, ok_1I, ok_1R, ok_1N, ok_s, rc8_0, rc8_1, rc8_2, rc8_3, rc8_4, List.getElem?_cons_zero, List.getElem?_cons_succ, List.set_cons_zero, List.set_cons_succ, true_and, and_true, if_true, if_false, Int.toNat_natCast, Int.reduceToNat, Int.reduceAdd, Int.reduceSub, Int.reduceMul, Int.reduceNeg, Nat.reduceAdd, Int.reduceLT, Int.reduceLE, Int.reduceEq, reduceIte, w_ck_13, w_g_13_0, w_g_13_1, w_g_13_2, w_g_13_3, w_g_13_4, w_p_13_4, w_r_16, w_l_16, w_w_16, w_r_17, w_l_17, w_w_17, jI_add, jI_sub, jI_mul, jI_neg, jI_eq, jI_le, jI_lt, jI_eq0, jI_eq1, jI_lt0, jI_0lt, jI_le0, jI_0le, jI_clamp, jI_inBT, kL_0, kL_1, kL_2, kL_5, kL_6, kL_7, kL_10, kL_11, kL_15, kL_23, kL_31, kL_39, kL_97, kL_99, kL_104, kL_255, kL_349, kL_999, kL_1771561, kL_16777215, kL_4294967295, kL_18446744073709551615, jI_toL, rn_zB, rn_z0, rn_z1, jIB_eq0, jIB_eq1, jIB_eqJ, jB_def, jB_not, jB_and, jB_or, jB_nand, jB_nor, jB_ite, mrg, Decidable.not_not, ite_not, u2_s, u2_n, Int.add_sub_cancel, Int.sub_add_cancel, e17]
    rw [if_pos (by omega)]
    rfl
  | n + 1, i, b, m, v5, hn, hi, hm => by
    have h7 := hI.1.1.2.2.2.2.2.2.1 r.toNat
    have h1 := hI.1.2.1
    have r3 := hR.2.1
    have e17 := hR.2.2.2.1
    have c1 := cntS_rng (ansM A r.toNat (i.toNat : Int) 7) (F 71 0).toNat 0
    rw [show cntS (ansM A r.toNat (i.toNat : Int) 7) 0 (F 71 0).toNat = astV A (F 71 0).toNat r.toNat i.toNat from rfl] at c1
    rw [b_Riddles_misleadingPlace_7]
    simp (disch := omega) only [b_Riddles_misleadingPlace_18, b_Riddles_misleadingPlace_33, b_Riddles_misleadingPlace_39, rn_nil, rn_iconst, rn_ldc2, rn_iadd, rn_isub, rn_imul, rn_iand, rn_ior, rn_ixor, rn_ishl, rn_ishr, rn_iushr, rn_ineg, rn_ladd, rn_lsub, rn_lmul, rn_land, rn_lor, rn_lshl, rn_lushr, rn_lcmp, rn_i2l, rn_l2i, rn_dupI, rn_dupR, rn_popI, rn_dup2, rn_idiv, rn_irem, rn_ldiv, rn_lrem, rn_dadd, rn_dsub, rn_dmul, rn_objinit, rn_iload, rn_lload, rn_aload, rn_istore, rn_astore, rn_lstore, rn_iinc, rn_getfield, rn_iaload, rn_laload, rn_aaload, rn_arraylength, rn_putfield, rn_iastore, rn_lastore, rn_goto, rn_ifCond_eq, rn_if_icmp_eq, rn_ifCond_ne, rn_if_icmp_ne, rn_ifCond_lt, rn_if_icmp_lt, rn_ifCond_ge, rn_if_icmp_ge, rn_ifCond_gt, rn_if_icmp_gt, rn_ifCond_le, rn_if_icmp_le, rn_ireturn, rn_lreturn, rn_return, rL_I, rL_L, rL_R, rS_t, rI_t, rG_s, rG_i, rP_s, rP_i, kq_v, kq_s, ok_0, ok_1I, ok_1R, ok_1N, ok_s, rc8_0, rc8_1, rc8_2, rc8_3, rc8_4, List.getElem?_cons_zero, List.getElem?_cons_succ, List.set_cons_zero, List.set_cons_succ, true_and, and_true, if_true, if_false, Int.toNat_natCast, Int.reduceToNat, Int.reduceAdd, Int.reduceSub, Int.reduceMul, Int.reduceNeg, Nat.reduceAdd, Int.reduceLT, Int.reduceLE, Int.reduceEq, reduceIte, w_ck_13, w_g_13_0, w_g_13_1, w_g_13_2, w_g_13_3, w_g_13_4, w_p_13_4, w_r_16, w_l_16, w_w_16, w_r_17, w_l_17, w_w_17, jI_add, jI_sub, jI_mul, jI_neg, jI_eq, jI_le, jI_lt, jI_eq0, jI_eq1, jI_lt0, jI_0lt, jI_le0, jI_0le, jI_clamp, jI_inBT, kL_0, kL_1, kL_2, kL_5, kL_6, kL_7, kL_10, kL_11, kL_15, kL_23, kL_31, kL_39, kL_97, kL_99, kL_104, kL_255, kL_349, kL_999, kL_1771561, kL_16777215, kL_4294967295, kL_18446744073709551615, jI_toL, rn_zB, rn_z0, rn_z1, jIB_eq0, jIB_eq1, jIB_eqJ, jB_def, jB_not, jB_and, jB_or, jB_nand, jB_nor, jB_ite, mrg, Decidable.not_not, ite_not, u2_s, u2_n, Int.add_sub_cancel, Int.sub_add_cancel, e17, c_Riddles_countWithout, s_Ri_countW hI hR hS ho]
    rw [if_neg (by omega), s_Ri_mis_7 hI hR hS ho hr n (i + 1) _ _ _ (by omega) (by omega) (by omega), s_Ri_mis_7 hI hR hS ho hr n (i + 1) _ _ _ (by omega) (by omega) (by omega), bstM, show (i + 1).toNat = i.toNat + 1 by omega, show ((i.toNat : Nat) : Int) = i by omega]
    by_cases g : astV A (F 71 0).toNat r.toNat i.toNat ≤ m
    · rw [if_pos g, if_pos g]
    · rw [if_neg g, if_neg g]
theorem s_Ri_mis (hI : LI F A) (hR : RX F A) (hS : ∀ w, w < 16 → A 15 w = 7) (ho : ∀ w, 0 ≤ A 15 w ∧ A 15 w ≤ 7) {r : Int} (hr : 0 ≤ r ∧ r < F 71 8) :
    Rj (d + 3) 52 0 [.ref 13, .int (jI r), .null, .null, .null, .null] [] (HW L xs F A B hs t1 t2) Q = Q (some (.int (jI (bstM (astV A (F 71 0).toNat r.toNat) 0 (A 78 r.toNat).toNat (-1, -1)).1))) (HW L xs F A B hs t1 t2) := by
  have h7 := hR.2.2.2.2.1 r.toNat (by omega)
  rw [b_Riddles_misleadingPlace_0]
  simp (disch := omega) only [rn_nil, rn_iconst, rn_ldc2, rn_iadd, rn_isub, rn_imul, rn_iand, rn_ior, rn_ixor, rn_ishl, rn_ishr, rn_iushr, rn_ineg, rn_ladd, rn_lsub, rn_lmul, rn_land, rn_lor, rn_lshl, rn_lushr, rn_lcmp, rn_i2l, rn_l2i, rn_dupI, rn_dupR, rn_popI, rn_dup2, rn_idiv, rn_irem, rn_ldiv, rn_lrem, rn_dadd, rn_dsub, rn_dmul, rn_objinit, rn_iload, rn_lload, rn_aload, rn_istore, rn_astore, rn_lstore, rn_iinc, rn_getfield, rn_iaload, rn_laload, rn_aaload, rn_arraylength, rn_putfield, rn_iastore, rn_lastore, rn_goto, rn_ifCond_eq, rn_if_icmp_eq, rn_ifCond_ne, rn_if_icmp_ne, rn_ifCond_lt, rn_if_icmp_lt, rn_ifCond_ge, rn_if_icmp_ge, rn_ifCond_gt, rn_if_icmp_gt, rn_ifCond_le, rn_if_icmp_le, rn_ireturn, rn_lreturn, rn_return, rL_I, rL_L, rL_R, rS_t, rI_t, rG_s, rG_i, rP_s, rP_i, kq_v, kq_s, ok_0, ok_1I, ok_1R, ok_1N, ok_s, rc8_0, rc8_1, rc8_2, rc8_3, rc8_4, List.getElem?_cons_zero, List.getElem?_cons_succ, List.set_cons_zero, List.set_cons_succ, true_and, and_true, if_true, if_false, Int.toNat_natCast, Int.reduceToNat, Int.reduceAdd, Int.reduceSub, Int.reduceMul, Int.reduceNeg, Nat.reduceAdd, Int.reduceLT, Int.reduceLE, Int.reduceEq, reduceIte, w_ck_13, w_g_13_0, w_g_13_1, w_g_13_2, w_g_13_3, w_g_13_4, w_p_13_4, w_r_16, w_l_16, w_w_16, w_r_17, w_l_17, w_w_17, jI_add, jI_sub, jI_mul, jI_neg, jI_eq, jI_le, jI_lt, jI_eq0, jI_eq1, jI_lt0, jI_0lt, jI_le0, jI_0le, jI_clamp, jI_inBT, kL_0, kL_1, kL_2, kL_5, kL_6, kL_7, kL_10, kL_11, kL_15, kL_23, kL_31, kL_39, kL_97, kL_99, kL_104, kL_255, kL_349, kL_999, kL_1771561, kL_16777215, kL_4294967295, kL_18446744073709551615, jI_toL, rn_zB, rn_z0, rn_z1, jIB_eq0, jIB_eq1, jIB_eqJ, jB_def, jB_not, jB_and, jB_or, jB_nand, jB_nor, jB_ite, mrg, Decidable.not_not, ite_not, u2_s, u2_n, Int.add_sub_cancel, Int.sub_add_cancel]
  rw [s_Ri_mis_7 hI hR hS ho hr (A 78 r.toNat).toNat 0 0 (-1) .null (by omega) (by omega) (by omega)]
  obtain ⟨m, hm⟩ : ∃ m, (A 78 r.toNat).toNat = m + 1 := ⟨(A 78 r.toNat).toNat - 1, by omega⟩
  have c1 := cntS_rng (ansM A r.toNat ((0 : Nat) : Int) 7) (F 71 0).toNat 0
  have e : ¬ astV A (F 71 0).toNat r.toNat 0 ≤ -1 := by unfold astV; omega
  rw [hm, show (0 : Int).toNat = 0 from rfl, bstM, bstM, if_neg e, if_neg e]
/-- the most that was found is what the place found has -/
theorem bstM_2 {v : Nat → Int} : ∀ (n i : Nat) (z : Int × Int), (0 ≤ z.1 → z.2 = v z.1.toNat) → 0 ≤ (bstM v i n z).1 → (bstM v i n z).2 = v (bstM v i n z).1.toNat
  | 0, i, z, h, h0 => h h0
  | n + 1, i, z, h, h0 => bstM_2 n (i + 1) _ (by
      split
      · exact h
      · intro _; rfl) h0
theorem bstM_1 {v : Nat → Int} : ∀ (n i : Nat) (z : Int × Int), (bstM v i n z).1 = z.1 ∨ (i ≤ (bstM v i n z).1 ∧ (bstM v i n z).1 < i + n)
  | 0, i, z => Or.inl rfl
  | n + 1, i, z => by
    rw [bstM]
    rcases bstM_1 (v := v) n (i + 1) (if v i ≤ z.2 then z else ((i : Int), v i)) with h | h
    · rw [h]
      split
      · exact Or.inl rfl
      · exact Or.inr ⟨by simp, by simp; omega⟩
    · right; omega
theorem bst_pos (hI : LI F A) (hR : RX F A) {r : Int} (hr : 0 ≤ r ∧ r < F 71 8) : 0 ≤ (bstM (astV A (F 71 0).toNat r.toNat) 0 (A 78 r.toNat).toNat (-1, -1)).1 ∧ (bstM (astV A (F 71 0).toNat r.toNat) 0 (A 78 r.toNat).toNat (-1, -1)).1 ≤ 5 := by
  have h6 := hI.1.1.2.2.2.2.2.2.1 r.toNat
  have h7 := hR.2.2.2.2.1 r.toNat (by omega)
  obtain ⟨m, hm⟩ : ∃ m, (A 78 r.toNat).toNat = m + 1 := ⟨(A 78 r.toNat).toNat - 1, by omega⟩
  have c1 := cntS_rng (ansM A r.toNat ((0 : Nat) : Int) 7) (F 71 0).toNat 0
  have e : ¬ astV A (F 71 0).toNat r.toNat 0 ≤ -1 := by unfold astV; omega
  rw [hm, bstM, if_neg e]
  rcases bstM_1 (v := astV A (F 71 0).toNat r.toNat) m (0 + 1) (((0 : Nat) : Int), astV A (F 71 0).toNat r.toNat 0) with h | h
  · rw [h]; simp
  · omega
theorem s_Ri_tu_5 (hI : LI F A) (hR : RX F A) {r t : Int} (hr : 0 ≤ r ∧ r < F 71 8) (ht : 0 ≤ t ∧ t < F 71 0) :
    ∀ (n : Nat) (i s : Int) (v5 : Value), i + n = A 78 r.toNat → 0 ≤ i → 0 ≤ s ∧ s ≤ i → Rj (d + 1) 51 5 [.ref 13, .int (jI r), .int (jI t), .int (jI s), .int (jI i), v5] [] (HW L xs F A B hs t1 t2) Q =
      Q (some (.int (jI (if allB (okM A r.toNat t.toNat (-1) 7) i.toNat n = true then s + cntS (turnP A r.toNat t.toNat) i.toNat n else -1)))) (HW L xs F A B hs t1 t2)
  | 0, i, s, v5, hn, hi, hs' => by
    have h7 := hI.1.1.2.2.2.2.2.2.1 r.toNat
    have r3 := hR.2.1
    have e17 := hR.2.2.2.1
    rw [b_Riddles_turnedOnes_5]
    simp (disch := omega) only [b_Riddles_turnedOnes_55, rn_nil, rn_iconst, rn_ldc2, rn_iadd, rn_isub, rn_imul, rn_iand, rn_ior, rn_ixor, rn_ishl, rn_ishr, rn_iushr, rn_ineg, rn_ladd, rn_lsub, rn_lmul, rn_land, rn_lor, rn_lshl, rn_lushr, rn_lcmp, rn_i2l, rn_l2i, rn_dupI, rn_dupR, rn_popI, rn_dup2, rn_idiv, rn_irem, rn_ldiv, rn_lrem, rn_dadd, rn_dsub, rn_dmul, rn_objinit, rn_iload, rn_lload, rn_aload, rn_istore, rn_astore, rn_lstore, rn_iinc, rn_getfield, rn_iaload, rn_laload, rn_aaload, rn_arraylength, rn_putfield, rn_iastore, rn_lastore, rn_goto, rn_ifCond_eq, rn_if_icmp_eq, rn_ifCond_ne, rn_if_icmp_ne, rn_ifCond_lt, rn_if_icmp_lt, rn_ifCond_ge, rn_if_icmp_ge, rn_ifCond_gt, rn_if_icmp_gt, rn_ifCond_le, rn_if_icmp_le, rn_ireturn, rn_lreturn, rn_return, rL_I, rL_L, rL_R, rS_t, rI_t, rG_s, rG_i, rP_s, rP_i, kq_v, kq_s, ok_0, ok_1I, ok_1R, ok_1N, ok_s, rc8_0, rc8_1, rc8_2, rc8_3, rc8_4, List.getElem?_cons_zero, List.getElem?_cons_succ, List.set_cons_zero, List.set_cons_succ, true_and, and_true, if_true, if_false, Int.toNat_natCast, Int.reduceToNat, Int.reduceAdd, Int.reduceSub, Int.reduceMul, Int.reduceNeg, Nat.reduceAdd, Int.reduceLT, Int.reduceLE, Int.reduceEq, reduceIte, w_ck_13, w_g_13_0, w_g_13_1, w_g_13_2, w_g_13_3, w_g_13_4, w_p_13_4, w_r_16, w_l_16, w_w_16, w_r_17, w_l_17, w_w_17, jI_add, jI_sub, jI_mul, jI_neg, jI_eq, jI_le, jI_lt, jI_eq0, jI_eq1, jI_lt0, jI_0lt, jI_le0, jI_0le, jI_clamp, jI_inBT, kL_0, kL_1, kL_2, kL_5, kL_6, kL_7, kL_10, kL_11, kL_15, kL_23, kL_31, kL_39, kL_97, kL_99, kL_104, kL_255, kL_349, kL_999, kL_1771561, kL_16777215, kL_4294967295, kL_18446744073709551615, jI_toL, rn_zB, rn_z0, rn_z1, jIB_eq0, jIB_eq1, jIB_eqJ, jB_def, jB_not, jB_and, jB_or, jB_nand, jB_nor, jB_ite, mrg, Decidable.not_not, ite_not, u2_s, u2_n, Int.add_sub_cancel, Int.sub_add_cancel, e17]
    rw [if_pos (by omega)]
    simp [allB, cntS]
  | n + 1, i, s, v5, hn, hi, hs' => by
    have h7 := hI.1.1.2.2.2.2.2.2.1 r.toNat
    have h8 := hI.1.1.2.2.2.2.2.2.2 (r * 6 + i).toNat
    have r3 := hR.2.1
    have e16 := hR.2.2.1
    have e17 := hR.2.2.2.1
    have r6 := hR.2.2.2.2.2.2 r.toNat i.toNat (by omega) (by omega)
    rw [show 6 * r.toNat + i.toNat = (r * 6 + i).toNat by omega] at r6
    have hb9 := bM_rng hI.1.1 (A 79 (r * 6 + i).toNat).toNat t.toNat 7
    rw [b_Riddles_turnedOnes_5]
    simp (disch := omega) only [b_Riddles_turnedOnes_16, b_Riddles_turnedOnes_39, b_Riddles_turnedOnes_41, b_Riddles_turnedOnes_46, b_Riddles_turnedOnes_49, rn_nil, rn_iconst, rn_ldc2, rn_iadd, rn_isub, rn_imul, rn_iand, rn_ior, rn_ixor, rn_ishl, rn_ishr, rn_iushr, rn_ineg, rn_ladd, rn_lsub, rn_lmul, rn_land, rn_lor, rn_lshl, rn_lushr, rn_lcmp, rn_i2l, rn_l2i, rn_dupI, rn_dupR, rn_popI, rn_dup2, rn_idiv, rn_irem, rn_ldiv, rn_lrem, rn_dadd, rn_dsub, rn_dmul, rn_objinit, rn_iload, rn_lload, rn_aload, rn_istore, rn_astore, rn_lstore, rn_iinc, rn_getfield, rn_iaload, rn_laload, rn_aaload, rn_arraylength, rn_putfield, rn_iastore, rn_lastore, rn_goto, rn_ifCond_eq, rn_if_icmp_eq, rn_ifCond_ne, rn_if_icmp_ne, rn_ifCond_lt, rn_if_icmp_lt, rn_ifCond_ge, rn_if_icmp_ge, rn_ifCond_gt, rn_if_icmp_gt, rn_ifCond_le, rn_if_icmp_le, rn_ireturn, rn_lreturn, rn_return, rL_I, rL_L, rL_R, rS_t, rI_t, rG_s, rG_i, rP_s, rP_i, kq_v, kq_s, ok_0, ok_1I, ok_1R, ok_1N, ok_s, rc8_0, rc8_1, rc8_2, rc8_3, rc8_4, List.getElem?_cons_zero, List.getElem?_cons_succ, List.set_cons_zero, List.set_cons_succ, true_and, and_true, if_true, if_false, Int.toNat_natCast, Int.reduceToNat, Int.reduceAdd, Int.reduceSub, Int.reduceMul, Int.reduceNeg, Nat.reduceAdd, Int.reduceLT, Int.reduceLE, Int.reduceEq, reduceIte, w_ck_13, w_g_13_0, w_g_13_1, w_g_13_2, w_g_13_3, w_g_13_4, w_p_13_4, w_r_16, w_l_16, w_w_16, w_r_17, w_l_17, w_w_17, jI_add, jI_sub, jI_mul, jI_neg, jI_eq, jI_le, jI_lt, jI_eq0, jI_eq1, jI_lt0, jI_0lt, jI_le0, jI_0le, jI_clamp, jI_inBT, kL_0, kL_1, kL_2, kL_5, kL_6, kL_7, kL_10, kL_11, kL_15, kL_23, kL_31, kL_39, kL_97, kL_99, kL_104, kL_255, kL_349, kL_999, kL_1771561, kL_16777215, kL_4294967295, kL_18446744073709551615, jI_toL, rn_zB, rn_z0, rn_z1, jIB_eq0, jIB_eq1, jIB_eqJ, jB_def, jB_not, jB_and, jB_or, jB_nand, jB_nor, jB_ite, mrg, Decidable.not_not, ite_not, u2_s, u2_n, Int.add_sub_cancel, Int.sub_add_cancel, e16, e17, c_Riddles_sayingAt, s_Rid_sayingAt, c_Lore_leastSense, w_ck_3, s_Lo_leastSense hI]
    rw [if_neg (by omega), s_Ri_tu_5 hI hR hr ht n (i + 1) _ _ (by omega) (by omega) (by omega), s_Ri_tu_5 hI hR hr ht n (i + 1) _ _ (by omega) (by omega) (by omega), allB, cntS, okM, turnP, show 6 * r.toNat + i.toNat = (r * 6 + i).toNat by omega, show (i + 1).toNat = i.toNat + 1 by omega]
    have g0 : ¬ ((i.toNat : Nat) : Int) = -1 := by omega
    by_cases g : bM A (A 79 (r * 6 + i).toNat).toNat t.toNat 7 = -1
    · rw [if_pos g]
      simp only [g, g0, decide_false, decide_true, Bool.false_or, Bool.not_true, Bool.false_and, Bool.false_eq_true, if_false]
    · rw [if_neg g]
      simp only [g, g0, decide_false, Bool.false_or, Bool.not_false, Bool.true_and, decide_eq_true_eq]
      by_cases g2 : bM A (A 79 (r * 6 + i).toNat).toNat t.toNat 7 ≤ 0
      · rw [if_pos g2, if_neg (show ¬ 0 < bM A (A 79 (r * 6 + i).toNat).toNat t.toNat 7 by omega), Int.zero_add]
      · rw [if_neg g2, if_pos (show 0 < bM A (A 79 (r * 6 + i).toNat).toNat t.toNat 7 by omega), Int.add_assoc]
theorem s_Ri_turned (hI : LI F A) (hR : RX F A) {r t : Int} (hr : 0 ≤ r ∧ r < F 71 8) (ht : 0 ≤ t ∧ t < F 71 0) :
    Rj (d + 1) 51 0 [.ref 13, .int (jI r), .int (jI t), .null, .null, .null] [] (HW L xs F A B hs t1 t2) Q = Q (some (.int (jI (turnsM A r.toNat t.toNat)))) (HW L xs F A B hs t1 t2) := by
  have h7 := hI.1.1.2.2.2.2.2.2.1 r.toNat
  rw [b_Riddles_turnedOnes_0]
  simp (disch := omega) only [rn_nil, rn_iconst, rn_ldc2, rn_iadd, rn_isub, rn_imul, rn_iand, rn_ior, rn_ixor, rn_ishl, rn_ishr, rn_iushr, rn_ineg, rn_ladd, rn_lsub, rn_lmul, rn_land, rn_lor, rn_lshl, rn_lushr, rn_lcmp, rn_i2l, rn_l2i, rn_dupI, rn_dupR, rn_popI, rn_dup2, rn_idiv, rn_irem, rn_ldiv, rn_lrem, rn_dadd, rn_dsub, rn_dmul, rn_objinit, rn_iload, rn_lload, rn_aload, rn_istore, rn_astore, rn_lstore, rn_iinc, rn_getfield, rn_iaload, rn_laload, rn_aaload, rn_arraylength, rn_putfield, rn_iastore, rn_lastore, rn_goto, rn_ifCond_eq, rn_if_icmp_eq, rn_ifCond_ne, rn_if_icmp_ne, rn_ifCond_lt, rn_if_icmp_lt, rn_ifCond_ge, rn_if_icmp_ge, rn_ifCond_gt, rn_if_icmp_gt, rn_ifCond_le, rn_if_icmp_le, rn_ireturn, rn_lreturn, rn_return, rL_I, rL_L, rL_R, rS_t, rI_t, rG_s, rG_i, rP_s, rP_i, kq_v, kq_s, ok_0, ok_1I, ok_1R, ok_1N, ok_s, rc8_0, rc8_1, rc8_2, rc8_3, rc8_4, List.getElem?_cons_zero, List.getElem?_cons_succ, List.set_cons_zero, List.set_cons_succ, true_and, and_true, if_true, if_false, Int.toNat_natCast, Int.reduceToNat, Int.reduceAdd, Int.reduceSub, Int.reduceMul, Int.reduceNeg, Nat.reduceAdd, Int.reduceLT, Int.reduceLE, Int.reduceEq, reduceIte, w_ck_13, w_g_13_0, w_g_13_1, w_g_13_2, w_g_13_3, w_g_13_4, w_p_13_4, w_r_16, w_l_16, w_w_16, w_r_17, w_l_17, w_w_17, jI_add, jI_sub, jI_mul, jI_neg, jI_eq, jI_le, jI_lt, jI_eq0, jI_eq1, jI_lt0, jI_0lt, jI_le0, jI_0le, jI_clamp, jI_inBT, kL_0, kL_1, kL_2, kL_5, kL_6, kL_7, kL_10, kL_11, kL_15, kL_23, kL_31, kL_39, kL_97, kL_99, kL_104, kL_255, kL_349, kL_999, kL_1771561, kL_16777215, kL_4294967295, kL_18446744073709551615, jI_toL, rn_zB, rn_z0, rn_z1, jIB_eq0, jIB_eq1, jIB_eqJ, jB_def, jB_not, jB_and, jB_or, jB_nand, jB_nor, jB_ite, mrg, Decidable.not_not, ite_not, u2_s, u2_n, Int.add_sub_cancel, Int.sub_add_cancel]
  rw [s_Ri_tu_5 hI hR hr ht (A 78 r.toNat).toNat 0 0 _ (by omega) (by omega) (by omega), Int.zero_add]
  rfl
theorem s_Ri_un_6 (hI : LI F A) (hR : RX F A) {r t : Int} {k : Nat} (hk : SG k) (ho : ∀ w, 0 ≤ A (k + 1) w ∧ A (k + 1) w ≤ 7) (hr : 0 ≤ r ∧ r < F 71 8) (ht : 0 ≤ t ∧ t < F 71 0) :
    ∀ (n : Nat) (i s : Int), i + n = A 78 r.toNat → 0 ≤ i → 0 ≤ s ∧ s ≤ i → Rj (d + 1) 54 6 [.ref 13, .int (jI r), .int (jI t), .ref k, .int (jI s), .int (jI i)] [] (HW L xs F A B hs t1 t2) Q =
      Q (some (.int (jI (s + cntS (fun i => !okS A r.toNat t.toNat (-1) (A (k + 1)) i) i.toNat n)))) (HW L xs F A B hs t1 t2)
  | 0, i, s, hn, hi, hs' => by
    have h7 := hI.1.1.2.2.2.2.2.2.1 r.toNat
    have r3 := hR.2.1
    have e17 := hR.2.2.2.1
    rw [b_Riddles_unfitCount_6]
    simp (disch := omega) only [b_Riddles_unfitCount_48, rn_nil, rn_iconst, rn_ldc2, rn_iadd, rn_isub, rn_imul, rn_iand, rn_ior, rn_ixor, rn_ishl, rn_ishr, rn_iushr, rn_ineg, rn_ladd, rn_lsub, rn_lmul, rn_land, rn_lor, rn_lshl, rn_lushr, rn_lcmp, rn_i2l, rn_l2i, rn_dupI, rn_dupR, rn_popI, rn_dup2, rn_idiv, rn_irem, rn_ldiv, rn_lrem, rn_dadd, rn_dsub, rn_dmul, rn_objinit, rn_iload, rn_lload, rn_aload, rn_istore, rn_astore, rn_lstore, rn_iinc, rn_getfield, rn_iaload, rn_laload, rn_aaload, rn_arraylength, rn_putfield, rn_iastore, rn_lastore, rn_goto, rn_ifCond_eq, rn_if_icmp_eq, rn_ifCond_ne, rn_if_icmp_ne, rn_ifCond_lt, rn_if_icmp_lt, rn_ifCond_ge, rn_if_icmp_ge, rn_ifCond_gt, rn_if_icmp_gt, rn_ifCond_le, rn_if_icmp_le, rn_ireturn, rn_lreturn, rn_return, rL_I, rL_L, rL_R, rS_t, rI_t, rG_s, rG_i, rP_s, rP_i, kq_v, kq_s, ok_0, ok_1I, ok_1R, ok_1N, ok_s, rc8_0, rc8_1, rc8_2, rc8_3, rc8_4, List.getElem?_cons_zero, List.getElem?_cons_succ, List.set_cons_zero, List.set_cons_succ, true_and, and_true, if_true, if_false, Int.toNat_natCast, Int.reduceToNat, Int.reduceAdd, Int.reduceSub, Int.reduceMul, Int.reduceNeg, Nat.reduceAdd, Int.reduceLT, Int.reduceLE, Int.reduceEq, reduceIte, w_ck_13, w_g_13_0, w_g_13_1, w_g_13_2, w_g_13_3, w_g_13_4, w_p_13_4, w_r_16, w_l_16, w_w_16, w_r_17, w_l_17, w_w_17, jI_add, jI_sub, jI_mul, jI_neg, jI_eq, jI_le, jI_lt, jI_eq0, jI_eq1, jI_lt0, jI_0lt, jI_le0, jI_0le, jI_clamp, jI_inBT, kL_0, kL_1, kL_2, kL_5, kL_6, kL_7, kL_10, kL_11, kL_15, kL_23, kL_31, kL_39, kL_97, kL_99, kL_104, kL_255, kL_349, kL_999, kL_1771561, kL_16777215, kL_4294967295, kL_18446744073709551615, jI_toL, rn_zB, rn_z0, rn_z1, jIB_eq0, jIB_eq1, jIB_eqJ, jB_def, jB_not, jB_and, jB_or, jB_nand, jB_nor, jB_ite, mrg, Decidable.not_not, ite_not, u2_s, u2_n, Int.add_sub_cancel, Int.sub_add_cancel, e17]
    rw [if_pos (by omega), cntS, Int.add_zero]
  | n + 1, i, s, hn, hi, hs' => by
    have h1 := hI.1.2.1
    have h7 := hI.1.1.2.2.2.2.2.2.1 r.toNat
    have h8 := hI.1.1.2.2.2.2.2.2.2 (r * 6 + i).toNat
    have r3 := hR.2.1
    have e16 := hR.2.2.1
    have e17 := hR.2.2.2.1
    have r6 := hR.2.2.2.2.2.2 r.toNat i.toNat (by omega) (by omega)
    rw [show 6 * r.toNat + i.toNat = (r * 6 + i).toNat by omega] at r6
    have q2 := setS_12 (fun t => !decide (bM A (A 79 (r * 6 + i).toNat).toNat t (A (k + 1) (A 76 (A 79 (r * 6 + i).toNat).toNat).toNat) = -1)) (n := (F 71 0).toNat) (by omega)
    have q3 := ibit_01 (setS (fun t => !decide (bM A (A 79 (r * 6 + i).toNat).toNat t (A (k + 1) (A 76 (A 79 (r * 6 + i).toNat).toNat).toNat) = -1)) 0 (F 71 0).toNat) t.toNat
    rw [b_Riddles_unfitCount_6]
    simp (disch := omega) only [b_Riddles_unfitCount_17, b_Riddles_unfitCount_39, b_Riddles_unfitCount_42, rn_nil, rn_iconst, rn_ldc2, rn_iadd, rn_isub, rn_imul, rn_iand, rn_ior, rn_ixor, rn_ishl, rn_ishr, rn_iushr, rn_ineg, rn_ladd, rn_lsub, rn_lmul, rn_land, rn_lor, rn_lshl, rn_lushr, rn_lcmp, rn_i2l, rn_l2i, rn_dupI, rn_dupR, rn_popI, rn_dup2, rn_idiv, rn_irem, rn_ldiv, rn_lrem, rn_dadd, rn_dsub, rn_dmul, rn_objinit, rn_iload, rn_lload, rn_aload, rn_istore, rn_astore, rn_lstore, rn_iinc, rn_getfield, rn_iaload, rn_laload, rn_aaload, rn_arraylength, rn_putfield, rn_iastore, rn_lastore, rn_goto, rn_ifCond_eq, rn_if_icmp_eq, rn_ifCond_ne, rn_if_icmp_ne, rn_ifCond_lt, rn_if_icmp_lt, rn_ifCond_ge, rn_if_icmp_ge, rn_ifCond_gt, rn_if_icmp_gt, rn_ifCond_le, rn_if_icmp_le, rn_ireturn, rn_lreturn, rn_return, rL_I, rL_L, rL_R, rS_t, rI_t, rG_s, rG_i, rP_s, rP_i, kq_v, kq_s, ok_0, ok_1I, ok_1R, ok_1N, ok_s, rc8_0, rc8_1, rc8_2, rc8_3, rc8_4, List.getElem?_cons_zero, List.getElem?_cons_succ, List.set_cons_zero, List.set_cons_succ, true_and, and_true, if_true, if_false, Int.toNat_natCast, Int.reduceToNat, Int.reduceAdd, Int.reduceSub, Int.reduceMul, Int.reduceNeg, Nat.reduceAdd, Int.reduceLT, Int.reduceLE, Int.reduceEq, reduceIte, w_ck_13, w_g_13_0, w_g_13_1, w_g_13_2, w_g_13_3, w_g_13_4, w_p_13_4, w_r_16, w_l_16, w_w_16, w_r_17, w_l_17, w_w_17, jI_add, jI_sub, jI_mul, jI_neg, jI_eq, jI_le, jI_lt, jI_eq0, jI_eq1, jI_lt0, jI_0lt, jI_le0, jI_0le, jI_clamp, jI_inBT, kL_0, kL_1, kL_2, kL_5, kL_6, kL_7, kL_10, kL_11, kL_15, kL_23, kL_31, kL_39, kL_97, kL_99, kL_104, kL_255, kL_349, kL_999, kL_1771561, kL_16777215, kL_4294967295, kL_18446744073709551615, jI_toL, rn_zB, rn_z0, rn_z1, jIB_eq0, jIB_eq1, jIB_eqJ, jB_def, jB_not, jB_and, jB_or, jB_nand, jB_nor, jB_ite, mrg, Decidable.not_not, ite_not, u2_s, u2_n, Int.add_sub_cancel, Int.sub_add_cancel, e16, e17, c_Riddles_sayingAt, s_Rid_sayingAt, c_Lore_fittingBySight, w_ck_3, s_Lo_fbs hI hk ho, jI_bit]
    rw [if_neg (by omega), s_Ri_un_6 hI hR hk ho hr ht n (i + 1) _ (by omega) (by omega) (by omega), s_Ri_un_6 hI hR hk ho hr ht n (i + 1) _ (by omega) (by omega) (by omega), cntS, okS, show 6 * r.toNat + i.toNat = (r * 6 + i).toNat by omega, show (i + 1).toNat = i.toNat + 1 by omega, ibit_S]
    have g0 : ¬ ((i.toNat : Nat) : Int) = -1 := by omega
    have g1 : t.toNat < (F 71 0).toNat := by omega
    by_cases g : bM A (A 79 (r * 6 + i).toNat).toNat t.toNat (A (k + 1) (A 76 (A 79 (r * 6 + i).toNat).toNat).toNat) = -1
    · simp only [g, g0, decide_false, decide_true, Bool.false_or, Bool.not_true, Bool.not_false, Bool.false_eq_true, and_false, if_false, if_true, Int.add_assoc]
    · simp only [g, g0, g1, decide_false, Bool.false_or, Bool.not_false, Bool.not_true, Bool.false_eq_true, and_true, if_false, if_true, Int.zero_add, show ¬ (1 : Int) = 0 by decide]
theorem s_Ri_unfit (hI : LI F A) (hR : RX F A) {r t : Int} {k : Nat} (hk : SG k) (ho : ∀ w, 0 ≤ A (k + 1) w ∧ A (k + 1) w ≤ 7) (hr : 0 ≤ r ∧ r < F 71 8) (ht : 0 ≤ t ∧ t < F 71 0) :
    Rj (d + 1) 54 0 [.ref 13, .int (jI r), .int (jI t), .ref k, .null, .null] [] (HW L xs F A B hs t1 t2) Q = Q (some (.int (jI (cntS (fun i => !okS A r.toNat t.toNat (-1) (A (k + 1)) i) 0 (A 78 r.toNat).toNat)))) (HW L xs F A B hs t1 t2) := by
  have h7 := hI.1.1.2.2.2.2.2.2.1 r.toNat
  rw [b_Riddles_unfitCount_0]
  simp (disch := omega) only [rn_nil, rn_iconst, rn_ldc2, rn_iadd, rn_isub, rn_imul, rn_iand, rn_ior, rn_ixor, rn_ishl, rn_ishr, rn_iushr, rn_ineg, rn_ladd, rn_lsub, rn_lmul, rn_land, rn_lor, rn_lshl, rn_lushr, rn_lcmp, rn_i2l, rn_l2i, rn_dupI, rn_dupR, rn_popI, rn_dup2, rn_idiv, rn_irem, rn_ldiv, rn_lrem, rn_dadd, rn_dsub, rn_dmul, rn_objinit, rn_iload, rn_lload, rn_aload, rn_istore, rn_astore, rn_lstore, rn_iinc, rn_getfield, rn_iaload, rn_laload, rn_aaload, rn_arraylength, rn_putfield, rn_iastore, rn_lastore, rn_goto, rn_ifCond_eq, rn_if_icmp_eq, rn_ifCond_ne, rn_if_icmp_ne, rn_ifCond_lt, rn_if_icmp_lt, rn_ifCond_ge, rn_if_icmp_ge, rn_ifCond_gt, rn_if_icmp_gt, rn_ifCond_le, rn_if_icmp_le, rn_ireturn, rn_lreturn, rn_return, rL_I, rL_L, rL_R, rS_t, rI_t, rG_s, rG_i, rP_s, rP_i, kq_v, kq_s, ok_0, ok_1I, ok_1R, ok_1N, ok_s, rc8_0, rc8_1, rc8_2, rc8_3, rc8_4, List.getElem?_cons_zero, List.getElem?_cons_succ, List.set_cons_zero, List.set_cons_succ, true_and, and_true, if_true, if_false, Int.toNat_natCast, Int.reduceToNat, Int.reduceAdd, Int.reduceSub, Int.reduceMul, Int.reduceNeg, Nat.reduceAdd, Int.reduceLT, Int.reduceLE, Int.reduceEq, reduceIte, w_ck_13, w_g_13_0, w_g_13_1, w_g_13_2, w_g_13_3, w_g_13_4, w_p_13_4, w_r_16, w_l_16, w_w_16, w_r_17, w_l_17, w_w_17, jI_add, jI_sub, jI_mul, jI_neg, jI_eq, jI_le, jI_lt, jI_eq0, jI_eq1, jI_lt0, jI_0lt, jI_le0, jI_0le, jI_clamp, jI_inBT, kL_0, kL_1, kL_2, kL_5, kL_6, kL_7, kL_10, kL_11, kL_15, kL_23, kL_31, kL_39, kL_97, kL_99, kL_104, kL_255, kL_349, kL_999, kL_1771561, kL_16777215, kL_4294967295, kL_18446744073709551615, jI_toL, rn_zB, rn_z0, rn_z1, jIB_eq0, jIB_eq1, jIB_eqJ, jB_def, jB_not, jB_and, jB_or, jB_nand, jB_nor, jB_ite, mrg, Decidable.not_not, ite_not, u2_s, u2_n, Int.add_sub_cancel, Int.sub_add_cancel]
  rw [s_Ri_un_6 hI hR hk ho hr ht (A 78 r.toNat).toNat 0 0 (by omega) (by omega) (by omega), Int.zero_add]
  rfl
end RI1
