section CALC
variable {L : Nat} {xs : Nat → Int32} {F A F' A' : Nat → Nat → Int} {B B1 B2 : Nat → Int64} {hs hs1 hs2 : Int64} {t1 t2 t : Nat} {qx qm : Nat} {ax am : List Value} {H : am_H} {d : Nat} {Q : Option Value → am_H → Prop}
theorem cal_sense (hI : INV F A t1 t2) {w k : Int} (hw' : -2147483648 ≤ w ∧ w < 2147483648) (hk' : -2147483648 ≤ k ∧ k < 2147483648) : Cal L xs 81 128 [.ref 2, .int (jI w), .int (jI k)] [.ref 71, .int (jI w), .int (jI k), .null, .null] (HW L xs F A B hs t1 t2) := by
  obtain ⟨⟨hL, hR, hH, hT, hS, hP, hV, hK, hN⟩, hTT, h2, hC⟩ := id hI
  obtain ⟨⟨i1, i2, i3, i4, i5, i6, i7, i8⟩, h0, h1, e0, e1, e4, e8, e7, e9, e10, e11, h5, h6, h7⟩ := id hL.1
  have m := fun (A : Nat → Nat → Int) (i2 : ∀ i, 0 ≤ A 74 i ∧ A 74 i ≤ 23) (i3 : ∀ i, 0 ≤ A 73 i ∧ A 73 i ≤ 3) d Q => s_M_sense (d := d + 28) (Q := Q) (L := L) (xs := xs) (F := F) (A := A) (B := B) (hs := hs) (t1 := t1) (t2 := t2) i2 i3 hw' hk'
  have a3 := i3 w.toNat
  have lo := hL.1.lo
  by_cases c1 : 0 ≤ w ∧ w ≤ 15
  · have hsn := fun d Q => s_Lo_hasSense (d := d) (Q := Q) (L := L) (xs := xs) (F := F) (A := A) (B := B) (hs := hs) (t1 := t1) (t2 := t2) lo c1 hk'
    rw [e7, e8] at hsn
    have en : (fun j => !decide (A 74 (3 * w.toNat + j) = k)) = newP A w.toNat k := rfl
    rw [en] at hsn
    by_cases c2 : (0 ≤ k ∧ k ≤ 23) ∧ allB (newP A w.toNat k) 0 (A 73 w.toNat).toNat = true
    · have c2' : ¬ allB (newP A w.toNat k) 0 (A 73 w.toNat).toNat = false := by rw [c2.2]; decide
      by_cases c3 : A 73 w.toNat = 3
      · refine Cal_ob hI (-104) (fun d Q => ?_) (fun d Q => by rw [m A i2 i3, if_pos c1, if_pos c2, if_pos c3])
        have q6 : ¬ A 73 w.toNat < 3 := by omega
        simp (disch := omega) only [b_X_sense_0, b_X_sense_7, b_X_sense_10, b_X_sense_14, b_X_sense_20, b_X_sense_32, b_X_sense_35, b_X_sense_48, b_X_sense_51, rn_nil, rn_iconst, rn_ldc2, rn_iadd, rn_isub, rn_imul, rn_iand, rn_ior, rn_ixor, rn_ishl, rn_ishr, rn_iushr, rn_ineg, rn_ladd, rn_lsub, rn_lmul, rn_land, rn_lor, rn_lshl, rn_lushr, rn_lcmp, rn_i2l, rn_l2i, rn_dupI, rn_dupR, rn_popI, rn_dup2, rn_idiv, rn_irem, rn_ldiv, rn_lrem, rn_dadd, rn_dsub, rn_dmul, rn_objinit, rn_iload, rn_lload, rn_aload, rn_istore, rn_astore, rn_lstore, rn_iinc, rn_getfield, rn_iaload, rn_laload, rn_aaload, rn_arraylength, rn_putfield, rn_iastore, rn_lastore, rn_goto, rn_ifCond_eq, rn_if_icmp_eq, rn_ifCond_ne, rn_if_icmp_ne, rn_ifCond_lt, rn_if_icmp_lt, rn_ifCond_ge, rn_if_icmp_ge, rn_ifCond_gt, rn_if_icmp_gt, rn_ifCond_le, rn_if_icmp_le, rn_ireturn, rn_lreturn, rn_return, rL_I, rL_L, rL_R, rS_t, rI_t, rG_s, rG_i, rP_s, rP_i, kq_v, kq_s, ok_0, ok_1I, ok_1R, ok_1N, ok_s, rc8_0, rc8_1, rc8_2, rc8_3, rc8_4, List.getElem?_cons_zero, List.getElem?_cons_succ, List.set_cons_zero, List.set_cons_succ, true_and, and_true, if_true, if_false, Int.toNat_natCast, Int.reduceToNat, Int.reduceAdd, Int.reduceSub, Int.reduceMul, Int.reduceNeg, Nat.reduceAdd, Int.reduceLT, Int.reduceLE, Int.reduceEq, reduceIte, w_ck_2, w_g_2_0, w_g_2_1, w_g_2_2, w_g_2_3, w_g_2_4, w_g_2_5, w_g_2_6, w_g_2_7, w_g_2_8, w_g_2_9, w_g_2_10, w_g_2_11, w_g_2_12, w_p_2_12, w_g_2_13, w_p_2_13, w_r_62, w_l_62, w_w_62, w_ck_3, w_g_3_0, w_p_3_0, w_g_3_1, w_p_3_1, w_g_3_2, w_g_3_3, w_g_3_4, w_g_3_5, w_g_3_6, w_g_3_7, w_g_3_8, w_g_3_9, w_g_3_10, w_r_4, w_l_4, w_w_4, w_r_5, w_l_5, w_w_5, w_r_6, w_l_6, w_w_6, w_r_7, w_l_7, w_w_7, w_r_8, w_l_8, w_w_8, w_r_9, w_l_9, w_w_9, w_r_10, w_l_10, w_w_10, w_r_11, w_l_11, w_w_11, w_r_12, w_l_12, w_w_12, jI_add, jI_sub, jI_mul, jI_neg, jI_eq, jI_le, jI_lt, jI_eq0, jI_eq1, jI_lt0, jI_0lt, jI_le0, jI_0le, jI_clamp, jI_inBT, kL_0, kL_1, kL_2, kL_5, kL_6, kL_7, kL_10, kL_11, kL_15, kL_23, kL_31, kL_39, kL_97, kL_99, kL_104, kL_255, kL_349, kL_999, kL_1771561, kL_16777215, kL_4294967295, kL_18446744073709551615, jI_toL, rn_zB, rn_z0, rn_z1, jIB_eq0, jIB_eq1, jIB_eqJ, jB_def, jB_not, jB_and, jB_or, jB_nand, jB_nor, jB_ite, mrg, Decidable.not_not, ite_not, u2_s, u2_n, Int.add_sub_cancel, Int.sub_add_cancel, c_X_isWord, s_X_isWord, c1, c_Lore_hasSense, hsn, c2.2, Bool.true_eq_false, e8, q6]
        (repeat' split) <;> first | rfl | (exfalso; omega)
      · have y7 : addS A w.toNat k 7 = uq (A 74) (3 * w + A 73 w.toNat).toNat k := by
          unfold addS
          rw [e8, show 3 * w.toNat + (A 73 w.toNat).toNat = (3 * w + A 73 w.toNat).toNat by omega]
          simp (disch := omega) only [u2_b, u2_a, e7]
        have y8 : addS A w.toNat k 8 = uq (A 73) w.toNat (A 73 w.toNat + 1) := by
          unfold addS
          rw [e8]
          simp (disch := omega) only [u2_b, u2_a, e8]
        have yo : ∀ a, ¬ (7 ≤ a ∧ a ≤ 8) → addS A w.toNat k a = A a := fun a h => by
          unfold addS
          rw [u2_a (by omega), u2_a (by omega)]
        have z7 : ∀ i, 0 ≤ uq (A 74) (3 * w + A 73 w.toNat).toNat k i ∧ uq (A 74) (3 * w + A 73 w.toNat).toNat k i ≤ 23 := uq_all (P := fun x => 0 ≤ x ∧ x ≤ 23) i2 c2.1
        have z8 : ∀ i, 0 ≤ uq (A 73) w.toNat (A 73 w.toNat + 1) i ∧ uq (A 73) w.toNat (A 73 w.toNat + 1) i ≤ 3 := uq_all (P := fun x => 0 ≤ x ∧ x ≤ 3) i3 (by omega)
        have lo' : ILo (addS A w.toNat k) := by
          unfold ILo
          rw [y7, y8, yo 4 (by omega), yo 5 (by omega), yo 6 (by omega), yo 9 (by omega), yo 10 (by omega), yo 11 (by omega)]
          exact ⟨lo.1, lo.2.1, lo.2.2.1, z7, z8, lo.2.2.2.2.2⟩
        have sp := fun d Q => s_Lo_addSense (d := d) (Q := Q) (L := L) (xs := xs) (F := F) (A := A) (B := B) (hs := hs) (t1 := t1) (t2 := t2) (w := w) (x := k) (by omega) (by omega) c1 (by rw [e8]; omega) lo'
        rw [e8, e1] at sp
        generalize hG : addS A w.toNat k = G at sp y7 y8 yo
        have fo : ∀ a, ¬ a = 12 → fitN F G (3 * (F 71 4).toNat) a = G a := fun a h => fitN_o h
        have f12 : ∀ j : Nat, (j : Int) < 3 * F 71 4 → fitN F G (3 * (F 71 4).toNat) 12 j = tryX F G (j / 3) (j % 3) := fun j hj => by
          unfold fitN
          rw [if_pos ⟨rfl, by omega⟩]
        generalize fitN F G (3 * (F 71 4).toNat) = A1 at sp fo f12
        have g73 : A1 73 = A 73 := by rw [fo 73 (by omega), yo 73 (by omega)]
        have g74 : A1 74 = A 74 := by rw [fo 74 (by omega), yo 74 (by omega)]
        have en2 : newP A1 w.toNat k = newP A w.toNat k := by unfold newP; rw [g74]
        refine Cal_mk (A 73 w.toNat + 1) (fun d Q => ?_) (fun d Q => by rw [m A1 (by rw [g74]; exact i2) (by rw [g73]; exact i3), en2, g73, if_pos c1, if_pos c2, if_neg c3]) ?_
        · have q6 : A 73 w.toNat < 3 := by omega
          simp (disch := omega) only [b_X_sense_0, b_X_sense_7, b_X_sense_10, b_X_sense_14, b_X_sense_20, b_X_sense_32, b_X_sense_35, b_X_sense_48, b_X_sense_51, rn_nil, rn_iconst, rn_ldc2, rn_iadd, rn_isub, rn_imul, rn_iand, rn_ior, rn_ixor, rn_ishl, rn_ishr, rn_iushr, rn_ineg, rn_ladd, rn_lsub, rn_lmul, rn_land, rn_lor, rn_lshl, rn_lushr, rn_lcmp, rn_i2l, rn_l2i, rn_dupI, rn_dupR, rn_popI, rn_dup2, rn_idiv, rn_irem, rn_ldiv, rn_lrem, rn_dadd, rn_dsub, rn_dmul, rn_objinit, rn_iload, rn_lload, rn_aload, rn_istore, rn_astore, rn_lstore, rn_iinc, rn_getfield, rn_iaload, rn_laload, rn_aaload, rn_arraylength, rn_putfield, rn_iastore, rn_lastore, rn_goto, rn_ifCond_eq, rn_if_icmp_eq, rn_ifCond_ne, rn_if_icmp_ne, rn_ifCond_lt, rn_if_icmp_lt, rn_ifCond_ge, rn_if_icmp_ge, rn_ifCond_gt, rn_if_icmp_gt, rn_ifCond_le, rn_if_icmp_le, rn_ireturn, rn_lreturn, rn_return, rL_I, rL_L, rL_R, rS_t, rI_t, rG_s, rG_i, rP_s, rP_i, kq_v, kq_s, ok_0, ok_1I, ok_1R, ok_1N, ok_s, rc8_0, rc8_1, rc8_2, rc8_3, rc8_4, List.getElem?_cons_zero, List.getElem?_cons_succ, List.set_cons_zero, List.set_cons_succ, true_and, and_true, if_true, if_false, Int.toNat_natCast, Int.reduceToNat, Int.reduceAdd, Int.reduceSub, Int.reduceMul, Int.reduceNeg, Nat.reduceAdd, Int.reduceLT, Int.reduceLE, Int.reduceEq, reduceIte, w_ck_2, w_g_2_0, w_g_2_1, w_g_2_2, w_g_2_3, w_g_2_4, w_g_2_5, w_g_2_6, w_g_2_7, w_g_2_8, w_g_2_9, w_g_2_10, w_g_2_11, w_g_2_12, w_p_2_12, w_g_2_13, w_p_2_13, w_r_62, w_l_62, w_w_62, w_ck_3, w_g_3_0, w_p_3_0, w_g_3_1, w_p_3_1, w_g_3_2, w_g_3_3, w_g_3_4, w_g_3_5, w_g_3_6, w_g_3_7, w_g_3_8, w_g_3_9, w_g_3_10, w_r_4, w_l_4, w_w_4, w_r_5, w_l_5, w_w_5, w_r_6, w_l_6, w_w_6, w_r_7, w_l_7, w_w_7, w_r_8, w_l_8, w_w_8, w_r_9, w_l_9, w_w_9, w_r_10, w_l_10, w_w_10, w_r_11, w_l_11, w_w_11, w_r_12, w_l_12, w_w_12, jI_add, jI_sub, jI_mul, jI_neg, jI_eq, jI_le, jI_lt, jI_eq0, jI_eq1, jI_lt0, jI_0lt, jI_le0, jI_0le, jI_clamp, jI_inBT, kL_0, kL_1, kL_2, kL_5, kL_6, kL_7, kL_10, kL_11, kL_15, kL_23, kL_31, kL_39, kL_97, kL_99, kL_104, kL_255, kL_349, kL_999, kL_1771561, kL_16777215, kL_4294967295, kL_18446744073709551615, jI_toL, rn_zB, rn_z0, rn_z1, jIB_eq0, jIB_eq1, jIB_eqJ, jB_def, jB_not, jB_and, jB_or, jB_nand, jB_nor, jB_ite, mrg, Decidable.not_not, ite_not, u2_s, u2_n, Int.add_sub_cancel, Int.sub_add_cancel, c_X_isWord, s_X_isWord, c1, c_Lore_hasSense, hsn, c2.2, Bool.true_eq_false, e8, q6, c_Lore_addSense, sp]
          (repeat' split) <;> first | rfl | (exfalso; omega)
        · unfold T2 at h2
          have kf : ∀ o k : Nat, ¬ (o = 1000 ∧ k = 1000) → F o k = F o k := fun o k h => rfl
          have ka1 : ∀ a, ¬ (73 ≤ a ∧ a ≤ 74) → (u2 (u2 A1 74 (3 * w + A 73 w.toNat).toNat k) 73 w.toNat (A 73 w.toNat + 1)) a = A1 a := fun a h => by rw [u2_a (by omega), u2_a (by omega)]
          have k73 : (u2 (u2 A1 74 (3 * w + A 73 w.toNat).toNat k) 73 w.toNat (A 73 w.toNat + 1)) 73 = uq (A 73) w.toNat (A 73 w.toNat + 1) := by
            rw [u2_b, u2_a (by omega), g73]
          have k74 : (u2 (u2 A1 74 (3 * w + A 73 w.toNat).toNat k) 73 w.toNat (A 73 w.toNat + 1)) 74 = uq (A 74) (3 * w + A 73 w.toNat).toNat k := by
            rw [u2_a (by omega), u2_b, g74]
          generalize u2 (u2 A1 74 (3 * w + A 73 w.toNat).toNat k) 73 w.toNat (A 73 w.toNat + 1) = A2 at ka1 k73 k74
          have ka : ∀ a, ¬ ((7 ≤ a ∧ a ≤ 8) ∨ a = 12 ∨ (73 ≤ a ∧ a ≤ 74)) → A2 a = A a := fun a h => by rw [ka1 a (by omega), fo a (by omega), yo a (by omega)]
          refine ⟨⟨?_, RX_p (fun o k h => kf o k (by omega)) (fun a h => ka a (by omega)) hR, HX_p (fun o k h => kf o k (by omega)) (fun a h => ka a (by omega)) hH, TX_p (fun o k h => kf o k (by omega)) (fun a h => ka a (by omega)) hT, SF_p (fun a h => ka a (by omega)) hS, PX_p (fun o k h => kf o k (by omega)) (fun a h => ka a (by omega)) hP, VX_p (fun a h => ka a (by omega)) hV, KX_p (fun a h => ka a (by omega)) hK, NX_p (fun o k h => kf o k (by omega)) hN⟩, TT_p (fun o k h => kf o k (by omega)) (fun a h => ka a (by omega)) hTT, h2, SC_p (fun a h => ka a (by omega)) hC⟩
          refine LC.li ⟨⟨?_, ?_, ?_, ?_, ?_, ?_, ?_, ?_⟩, h0, h1, e0, e1, ?_, ?_, ?_, ?_, ?_, ?_, ?_, ?_, ?_⟩ ?_
          · rw [ka 72 (by omega)]; exact i1
          · rw [k74]; exact z7
          · rw [k73]; exact z8
          · rw [ka 75 (by omega)]; exact i4
          · rw [ka 76 (by omega)]; exact i5
          · rw [ka 77 (by omega)]; exact i6
          · rw [ka 78 (by omega)]; exact i7
          · rw [ka 79 (by omega)]; exact i8
          · rw [ka 4 (by omega), ka 72 (by omega)]; exact e4
          · rw [k73, ka1 8 (by omega), fo 8 (by omega), y8]
          · rw [k74, ka1 7 (by omega), fo 7 (by omega), y7]
          · rw [ka 9 (by omega), ka 75 (by omega)]; exact e9
          · rw [ka 10 (by omega), ka 76 (by omega)]; exact e10
          · rw [ka 11 (by omega), ka 77 (by omega)]; exact e11
          · rw [ka 5 (by omega), ka 72 (by omega)]; exact h5
          · rw [ka 6 (by omega), ka 72 (by omega)]; exact h6
          · rw [ka 5 (by omega), ka 6 (by omega)]; exact h7
          · intro j hj
            rw [ka1 12 (by omega), f12 j hj]
            exact tryX_congr rfl (fun a g1 g2 => by rw [ka1 a (by omega), fo a (by omega)]) _ _
    · refine Cal_ob hI (-102) (fun d Q => ?_) (fun d Q => by rw [m A i2 i3, if_pos c1, if_neg c2])
      by_cases c3 : 0 ≤ k ∧ k ≤ 23
      · have c4 : allB (newP A w.toNat k) 0 (A 73 w.toNat).toNat = false := by
          cases hb : allB (newP A w.toNat k) 0 (A 73 w.toNat).toNat with
          | false => rfl
          | true => exact absurd ⟨c3, hb⟩ c2
        simp (disch := omega) only [b_X_sense_0, b_X_sense_7, b_X_sense_10, b_X_sense_14, b_X_sense_20, b_X_sense_32, rn_nil, rn_iconst, rn_ldc2, rn_iadd, rn_isub, rn_imul, rn_iand, rn_ior, rn_ixor, rn_ishl, rn_ishr, rn_iushr, rn_ineg, rn_ladd, rn_lsub, rn_lmul, rn_land, rn_lor, rn_lshl, rn_lushr, rn_lcmp, rn_i2l, rn_l2i, rn_dupI, rn_dupR, rn_popI, rn_dup2, rn_idiv, rn_irem, rn_ldiv, rn_lrem, rn_dadd, rn_dsub, rn_dmul, rn_objinit, rn_iload, rn_lload, rn_aload, rn_istore, rn_astore, rn_lstore, rn_iinc, rn_getfield, rn_iaload, rn_laload, rn_aaload, rn_arraylength, rn_putfield, rn_iastore, rn_lastore, rn_goto, rn_ifCond_eq, rn_if_icmp_eq, rn_ifCond_ne, rn_if_icmp_ne, rn_ifCond_lt, rn_if_icmp_lt, rn_ifCond_ge, rn_if_icmp_ge, rn_ifCond_gt, rn_if_icmp_gt, rn_ifCond_le, rn_if_icmp_le, rn_ireturn, rn_lreturn, rn_return, rL_I, rL_L, rL_R, rS_t, rI_t, rG_s, rG_i, rP_s, rP_i, kq_v, kq_s, ok_0, ok_1I, ok_1R, ok_1N, ok_s, rc8_0, rc8_1, rc8_2, rc8_3, rc8_4, List.getElem?_cons_zero, List.getElem?_cons_succ, List.set_cons_zero, List.set_cons_succ, true_and, and_true, if_true, if_false, Int.toNat_natCast, Int.reduceToNat, Int.reduceAdd, Int.reduceSub, Int.reduceMul, Int.reduceNeg, Nat.reduceAdd, Int.reduceLT, Int.reduceLE, Int.reduceEq, reduceIte, w_ck_2, w_g_2_0, w_g_2_1, w_g_2_2, w_g_2_3, w_g_2_4, w_g_2_5, w_g_2_6, w_g_2_7, w_g_2_8, w_g_2_9, w_g_2_10, w_g_2_11, w_g_2_12, w_p_2_12, w_g_2_13, w_p_2_13, w_r_62, w_l_62, w_w_62, w_ck_3, w_g_3_0, w_p_3_0, w_g_3_1, w_p_3_1, w_g_3_2, w_g_3_3, w_g_3_4, w_g_3_5, w_g_3_6, w_g_3_7, w_g_3_8, w_g_3_9, w_g_3_10, w_r_4, w_l_4, w_w_4, w_r_5, w_l_5, w_w_5, w_r_6, w_l_6, w_w_6, w_r_7, w_l_7, w_w_7, w_r_8, w_l_8, w_w_8, w_r_9, w_l_9, w_w_9, w_r_10, w_l_10, w_w_10, w_r_11, w_l_11, w_w_11, w_r_12, w_l_12, w_w_12, jI_add, jI_sub, jI_mul, jI_neg, jI_eq, jI_le, jI_lt, jI_eq0, jI_eq1, jI_lt0, jI_0lt, jI_le0, jI_0le, jI_clamp, jI_inBT, kL_0, kL_1, kL_2, kL_5, kL_6, kL_7, kL_10, kL_11, kL_15, kL_23, kL_31, kL_39, kL_97, kL_99, kL_104, kL_255, kL_349, kL_999, kL_1771561, kL_16777215, kL_4294967295, kL_18446744073709551615, jI_toL, rn_zB, rn_z0, rn_z1, jIB_eq0, jIB_eq1, jIB_eqJ, jB_def, jB_not, jB_and, jB_or, jB_nand, jB_nor, jB_ite, mrg, Decidable.not_not, ite_not, u2_s, u2_n, Int.add_sub_cancel, Int.sub_add_cancel, c_X_isWord, s_X_isWord, c1, c_Lore_hasSense, hsn, c4]
        (repeat' split) <;> first | rfl | (exfalso; omega)
      · simp (disch := omega) only [b_X_sense_0, b_X_sense_7, b_X_sense_10, b_X_sense_14, b_X_sense_32, rn_nil, rn_iconst, rn_ldc2, rn_iadd, rn_isub, rn_imul, rn_iand, rn_ior, rn_ixor, rn_ishl, rn_ishr, rn_iushr, rn_ineg, rn_ladd, rn_lsub, rn_lmul, rn_land, rn_lor, rn_lshl, rn_lushr, rn_lcmp, rn_i2l, rn_l2i, rn_dupI, rn_dupR, rn_popI, rn_dup2, rn_idiv, rn_irem, rn_ldiv, rn_lrem, rn_dadd, rn_dsub, rn_dmul, rn_objinit, rn_iload, rn_lload, rn_aload, rn_istore, rn_astore, rn_lstore, rn_iinc, rn_getfield, rn_iaload, rn_laload, rn_aaload, rn_arraylength, rn_putfield, rn_iastore, rn_lastore, rn_goto, rn_ifCond_eq, rn_if_icmp_eq, rn_ifCond_ne, rn_if_icmp_ne, rn_ifCond_lt, rn_if_icmp_lt, rn_ifCond_ge, rn_if_icmp_ge, rn_ifCond_gt, rn_if_icmp_gt, rn_ifCond_le, rn_if_icmp_le, rn_ireturn, rn_lreturn, rn_return, rL_I, rL_L, rL_R, rS_t, rI_t, rG_s, rG_i, rP_s, rP_i, kq_v, kq_s, ok_0, ok_1I, ok_1R, ok_1N, ok_s, rc8_0, rc8_1, rc8_2, rc8_3, rc8_4, List.getElem?_cons_zero, List.getElem?_cons_succ, List.set_cons_zero, List.set_cons_succ, true_and, and_true, if_true, if_false, Int.toNat_natCast, Int.reduceToNat, Int.reduceAdd, Int.reduceSub, Int.reduceMul, Int.reduceNeg, Nat.reduceAdd, Int.reduceLT, Int.reduceLE, Int.reduceEq, reduceIte, w_ck_2, w_g_2_0, w_g_2_1, w_g_2_2, w_g_2_3, w_g_2_4, w_g_2_5, w_g_2_6, w_g_2_7, w_g_2_8, w_g_2_9, w_g_2_10, w_g_2_11, w_g_2_12, w_p_2_12, w_g_2_13, w_p_2_13, w_r_62, w_l_62, w_w_62, w_ck_3, w_g_3_0, w_p_3_0, w_g_3_1, w_p_3_1, w_g_3_2, w_g_3_3, w_g_3_4, w_g_3_5, w_g_3_6, w_g_3_7, w_g_3_8, w_g_3_9, w_g_3_10, w_r_4, w_l_4, w_w_4, w_r_5, w_l_5, w_w_5, w_r_6, w_l_6, w_w_6, w_r_7, w_l_7, w_w_7, w_r_8, w_l_8, w_w_8, w_r_9, w_l_9, w_w_9, w_r_10, w_l_10, w_w_10, w_r_11, w_l_11, w_w_11, w_r_12, w_l_12, w_w_12, jI_add, jI_sub, jI_mul, jI_neg, jI_eq, jI_le, jI_lt, jI_eq0, jI_eq1, jI_lt0, jI_0lt, jI_le0, jI_0le, jI_clamp, jI_inBT, kL_0, kL_1, kL_2, kL_5, kL_6, kL_7, kL_10, kL_11, kL_15, kL_23, kL_31, kL_39, kL_97, kL_99, kL_104, kL_255, kL_349, kL_999, kL_1771561, kL_16777215, kL_4294967295, kL_18446744073709551615, jI_toL, rn_zB, rn_z0, rn_z1, jIB_eq0, jIB_eq1, jIB_eqJ, jB_def, jB_not, jB_and, jB_or, jB_nand, jB_nor, jB_ite, mrg, Decidable.not_not, ite_not, u2_s, u2_n, Int.add_sub_cancel, Int.sub_add_cancel, c_X_isWord, s_X_isWord, c1]
        (repeat' split) <;> first | rfl | (exfalso; omega)
  · refine Cal_ob hI (-101) (fun d Q => ?_) (fun d Q => by rw [m A i2 i3, if_neg c1])
    simp (disch := omega) only [b_X_sense_0, b_X_sense_7, rn_nil, rn_iconst, rn_ldc2, rn_iadd, rn_isub, rn_imul, rn_iand, rn_ior, rn_ixor, rn_ishl, rn_ishr, rn_iushr, rn_ineg, rn_ladd, rn_lsub, rn_lmul, rn_land, rn_lor, rn_lshl, rn_lushr, rn_lcmp, rn_i2l, rn_l2i, rn_dupI, rn_dupR, rn_popI, rn_dup2, rn_idiv, rn_irem, rn_ldiv, rn_lrem, rn_dadd, rn_dsub, rn_dmul, rn_objinit, rn_iload, rn_lload, rn_aload, rn_istore, rn_astore, rn_lstore, rn_iinc, rn_getfield, rn_iaload, rn_laload, rn_aaload, rn_arraylength, rn_putfield, rn_iastore, rn_lastore, rn_goto, rn_ifCond_eq, rn_if_icmp_eq, rn_ifCond_ne, rn_if_icmp_ne, rn_ifCond_lt, rn_if_icmp_lt, rn_ifCond_ge, rn_if_icmp_ge, rn_ifCond_gt, rn_if_icmp_gt, rn_ifCond_le, rn_if_icmp_le, rn_ireturn, rn_lreturn, rn_return, rL_I, rL_L, rL_R, rS_t, rI_t, rG_s, rG_i, rP_s, rP_i, kq_v, kq_s, ok_0, ok_1I, ok_1R, ok_1N, ok_s, rc8_0, rc8_1, rc8_2, rc8_3, rc8_4, List.getElem?_cons_zero, List.getElem?_cons_succ, List.set_cons_zero, List.set_cons_succ, true_and, and_true, if_true, if_false, Int.toNat_natCast, Int.reduceToNat, Int.reduceAdd, Int.reduceSub, Int.reduceMul, Int.reduceNeg, Nat.reduceAdd, Int.reduceLT, Int.reduceLE, Int.reduceEq, reduceIte, w_ck_2, w_g_2_0, w_g_2_1, w_g_2_2, w_g_2_3, w_g_2_4, w_g_2_5, w_g_2_6, w_g_2_7, w_g_2_8, w_g_2_9, w_g_2_10, w_g_2_11, w_g_2_12, w_p_2_12, w_g_2_13, w_p_2_13, w_r_62, w_l_62, w_w_62, w_ck_3, w_g_3_0, w_p_3_0, w_g_3_1, w_p_3_1, w_g_3_2, w_g_3_3, w_g_3_4, w_g_3_5, w_g_3_6, w_g_3_7, w_g_3_8, w_g_3_9, w_g_3_10, w_r_4, w_l_4, w_w_4, w_r_5, w_l_5, w_w_5, w_r_6, w_l_6, w_w_6, w_r_7, w_l_7, w_w_7, w_r_8, w_l_8, w_w_8, w_r_9, w_l_9, w_w_9, w_r_10, w_l_10, w_w_10, w_r_11, w_l_11, w_w_11, w_r_12, w_l_12, w_w_12, jI_add, jI_sub, jI_mul, jI_neg, jI_eq, jI_le, jI_lt, jI_eq0, jI_eq1, jI_lt0, jI_0lt, jI_le0, jI_0le, jI_clamp, jI_inBT, kL_0, kL_1, kL_2, kL_5, kL_6, kL_7, kL_10, kL_11, kL_15, kL_23, kL_31, kL_39, kL_97, kL_99, kL_104, kL_255, kL_349, kL_999, kL_1771561, kL_16777215, kL_4294967295, kL_18446744073709551615, jI_toL, rn_zB, rn_z0, rn_z1, jIB_eq0, jIB_eq1, jIB_eqJ, jB_def, jB_not, jB_and, jB_or, jB_nand, jB_nor, jB_ite, mrg, Decidable.not_not, ite_not, u2_s, u2_n, Int.add_sub_cancel, Int.sub_add_cancel, c_X_isWord, s_X_isWord, c1]
end CALC
