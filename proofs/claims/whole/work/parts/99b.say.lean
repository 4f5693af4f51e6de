section CALB
variable {L : Nat} {xs : Nat → Int32} {F A F' A' : Nat → Nat → Int} {B B1 B2 : Nat → Int64} {hs hs1 hs2 : Int64} {t1 t2 t : Nat} {qx qm : Nat} {ax am : List Value} {H : am_H} {d : Nat} {Q : Option Value → am_H → Prop}
theorem cal_saying (hI : INV F A t1 t2) {kd w n : Int} (hk' : -2147483648 ≤ kd ∧ kd < 2147483648) (hw' : -2147483648 ≤ w ∧ w < 2147483648) (hn' : -2147483648 ≤ n ∧ n < 2147483648) : Cal L xs 84 131 [.ref 2, .int (jI kd), .int (jI w), .int (jI n)] [.ref 71, .int (jI kd), .int (jI w), .int (jI n)] (HW L xs F A B hs t1 t2) := by
  obtain ⟨⟨hL, hR, hH, hT, hS, hP, hV, hK, hN⟩, hTT, h2, hC⟩ := id hI
  obtain ⟨⟨i1, i2, i3, i4, i5, i6, i7, i8⟩, h0, h1, e0, e1, e4, e8, e7, e9, e10, e11, h5, h6, h7⟩ := id hL.1
  have m := fun (F A : Nat → Nat → Int) (h1 : 0 ≤ F 71 4 ∧ F 71 4 ≤ 20) d Q => s_M_saying (d := d + 28) (Q := Q) (L := L) (xs := xs) (F := F) (A := A) (B := B) (hs := hs) (t1 := t1) (t2 := t2) h1 hk' hw' hn'
  by_cases c1 : 0 ≤ kd ∧ kd ≤ 5
  · by_cases c2 : 0 ≤ n ∧ n ≤ 23
    · by_cases c3 : 0 ≤ w ∧ w ≤ 15
      · by_cases c4 : F 71 4 = 20
        · refine Cal_ob hI (-104) (fun d Q => ?_) (fun d Q => by rw [m F A h1, if_pos c1, if_pos c2, if_pos c3, if_pos c4])
          simp (disch := omega) only [b_X_saying_0, b_X_saying_7, b_X_saying_11, b_X_saying_17, b_X_saying_20, b_X_saying_27, b_X_saying_30, b_X_saying_42, b_X_saying_45, rn_nil, rn_iconst, rn_ldc2, rn_iadd, rn_isub, rn_imul, rn_iand, rn_ior, rn_ixor, rn_ishl, rn_ishr, rn_iushr, rn_ineg, rn_ladd, rn_lsub, rn_lmul, rn_land, rn_lor, rn_lshl, rn_lushr, rn_lcmp, rn_i2l, rn_l2i, rn_dupI, rn_dupR, rn_popI, rn_dup2, rn_idiv, rn_irem, rn_ldiv, rn_lrem, rn_dadd, rn_dsub, rn_dmul, rn_objinit, rn_iload, rn_lload, rn_aload, rn_istore, rn_astore, rn_lstore, rn_iinc, rn_getfield, rn_iaload, rn_laload, rn_aaload, rn_arraylength, rn_putfield, rn_iastore, rn_lastore, rn_goto, rn_ifCond_eq, rn_if_icmp_eq, rn_ifCond_ne, rn_if_icmp_ne, rn_ifCond_lt, rn_if_icmp_lt, rn_ifCond_ge, rn_if_icmp_ge, rn_ifCond_gt, rn_if_icmp_gt, rn_ifCond_le, rn_if_icmp_le, rn_ireturn, rn_lreturn, rn_return, rL_I, rL_L, rL_R, rS_t, rI_t, rG_s, rG_i, rP_s, rP_i, kq_v, kq_s, ok_0, ok_1I, ok_1R, ok_1N, ok_s, rc8_0, rc8_1, rc8_2, rc8_3, rc8_4, List.getElem?_cons_zero, List.getElem?_cons_succ, List.set_cons_zero, List.set_cons_succ, true_and, and_true, if_true, if_false, Int.toNat_natCast, Int.reduceToNat, Int.reduceAdd, Int.reduceSub, Int.reduceMul, Int.reduceNeg, Nat.reduceAdd, Int.reduceLT, Int.reduceLE, Int.reduceEq, reduceIte, w_ck_2, w_g_2_0, w_g_2_1, w_g_2_2, w_g_2_3, w_g_2_4, w_g_2_5, w_g_2_6, w_g_2_7, w_g_2_8, w_g_2_9, w_g_2_10, w_g_2_11, w_g_2_12, w_p_2_12, w_g_2_13, w_p_2_13, w_r_62, w_l_62, w_w_62, w_ck_3, w_g_3_0, w_p_3_0, w_g_3_1, w_p_3_1, w_g_3_2, w_g_3_3, w_g_3_4, w_g_3_5, w_g_3_6, w_g_3_7, w_g_3_8, w_g_3_9, w_g_3_10, w_r_4, w_l_4, w_w_4, w_r_5, w_l_5, w_w_5, w_r_6, w_l_6, w_w_6, w_r_7, w_l_7, w_w_7, w_r_8, w_l_8, w_w_8, w_r_9, w_l_9, w_w_9, w_r_10, w_l_10, w_w_10, w_r_11, w_l_11, w_w_11, w_r_12, w_l_12, w_w_12, jI_add, jI_sub, jI_mul, jI_neg, jI_eq, jI_le, jI_lt, jI_eq0, jI_eq1, jI_lt0, jI_0lt, jI_le0, jI_0le, jI_clamp, jI_inBT, kL_0, kL_1, kL_2, kL_5, kL_6, kL_7, kL_10, kL_11, kL_15, kL_23, kL_31, kL_39, kL_97, kL_99, kL_104, kL_255, kL_349, kL_999, kL_1771561, kL_16777215, kL_4294967295, kL_18446744073709551615, jI_toL, rn_zB, rn_z0, rn_z1, jIB_eq0, jIB_eq1, jIB_eqJ, jB_def, jB_not, jB_and, jB_or, jB_nand, jB_nor, jB_ite, mrg, Decidable.not_not, ite_not, u2_s, u2_n, Int.add_sub_cancel, Int.sub_add_cancel, c_X_isKind, s_X_isKind, c_X_isWord, s_X_isWord, c1, c3, e1, c4]
          (repeat' split) <;> first | rfl | (exfalso; omega)
        · have y9 : addY F A kd w n 9 = uq (A 75) (F 71 4).toNat kd := by
            unfold addY
            rw [e1]
            simp (disch := omega) only [u2_b, u2_a, e9]
          have y10 : addY F A kd w n 10 = uq (A 76) (F 71 4).toNat w := by
            unfold addY
            rw [e1]
            simp (disch := omega) only [u2_b, u2_a, e10]
          have y11 : addY F A kd w n 11 = uq (A 77) (F 71 4).toNat n := by
            unfold addY
            rw [e1]
            simp (disch := omega) only [u2_b, u2_a, e11]
          have yo : ∀ a, ¬ (9 ≤ a ∧ a ≤ 11) → addY F A kd w n a = A a := fun a h => by
            unfold addY
            rw [u2_a (by omega), u2_a (by omega), u2_a (by omega)]
          have z9 : ∀ i, 0 ≤ uq (A 75) (F 71 4).toNat kd i ∧ uq (A 75) (F 71 4).toNat kd i ≤ 5 := uq_all (P := fun x => 0 ≤ x ∧ x ≤ 5) i4 c1
          have z10 : ∀ i, 0 ≤ uq (A 76) (F 71 4).toNat w i ∧ uq (A 76) (F 71 4).toNat w i ≤ 15 := uq_all (P := fun x => 0 ≤ x ∧ x ≤ 15) i5 c3
          have z11 : ∀ i, 0 ≤ uq (A 77) (F 71 4).toNat n i ∧ uq (A 77) (F 71 4).toNat n i ≤ 23 := uq_all (P := fun x => 0 ≤ x ∧ x ≤ 23) i6 c2
          have lo := hL.1.lo
          have lo' : ILo (addY F A kd w n) := by
            unfold ILo
            rw [y9, y10, y11, yo 4 (by omega), yo 5 (by omega), yo 6 (by omega), yo 7 (by omega), yo 8 (by omega)]
            exact ⟨lo.1, lo.2.1, lo.2.2.1, lo.2.2.2.1, lo.2.2.2.2.1, z9, z10, z11⟩
          have sp := fun d Q => s_Lo_addSaying (d := d) (Q := Q) (L := L) (xs := xs) (F := F) (A := A) (B := B) (hs := hs) (t1 := t1) (t2 := t2) (kd := kd) (w := w) (n := n) (by omega) (by omega) lo'
          rw [e1] at sp
          generalize hG : addY F A kd w n = G at sp y9 y10 y11 yo
          have f4 : u2 F 3 1 (F 71 4 + 1) 71 4 = F 71 4 := u2_n (by omega)
          have fo : ∀ a, ¬ a = 12 → fitN (u2 F 3 1 (F 71 4 + 1)) G (3 * (F 71 4 + 1).toNat) a = G a := fun a h => fitN_o h
          have f12 : ∀ j : Nat, (j : Int) < 3 * (F 71 4 + 1) → fitN (u2 F 3 1 (F 71 4 + 1)) G (3 * (F 71 4 + 1).toNat) 12 j = tryX (u2 F 3 1 (F 71 4 + 1)) G (j / 3) (j % 3) := fun j hj => by
            unfold fitN
            rw [if_pos ⟨rfl, by omega⟩]
          generalize fitN (u2 F 3 1 (F 71 4 + 1)) G (3 * (F 71 4 + 1).toNat) = A1 at sp fo f12
          refine Cal_mk (F 71 4) (fun d Q => ?_) (fun d Q => by rw [m (u2 F 3 1 (F 71 4 + 1)) A1 (by omega), f4, if_pos c1, if_pos c2, if_pos c3, if_neg c4]) ?_
          · have q6 : F 71 4 < 20 := by omega
            simp (disch := omega) only [b_X_saying_0, b_X_saying_7, b_X_saying_11, b_X_saying_17, b_X_saying_20, b_X_saying_27, b_X_saying_30, b_X_saying_42, b_X_saying_45, rn_nil, rn_iconst, rn_ldc2, rn_iadd, rn_isub, rn_imul, rn_iand, rn_ior, rn_ixor, rn_ishl, rn_ishr, rn_iushr, rn_ineg, rn_ladd, rn_lsub, rn_lmul, rn_land, rn_lor, rn_lshl, rn_lushr, rn_lcmp, rn_i2l, rn_l2i, rn_dupI, rn_dupR, rn_popI, rn_dup2, rn_idiv, rn_irem, rn_ldiv, rn_lrem, rn_dadd, rn_dsub, rn_dmul, rn_objinit, rn_iload, rn_lload, rn_aload, rn_istore, rn_astore, rn_lstore, rn_iinc, rn_getfield, rn_iaload, rn_laload, rn_aaload, rn_arraylength, rn_putfield, rn_iastore, rn_lastore, rn_goto, rn_ifCond_eq, rn_if_icmp_eq, rn_ifCond_ne, rn_if_icmp_ne, rn_ifCond_lt, rn_if_icmp_lt, rn_ifCond_ge, rn_if_icmp_ge, rn_ifCond_gt, rn_if_icmp_gt, rn_ifCond_le, rn_if_icmp_le, rn_ireturn, rn_lreturn, rn_return, rL_I, rL_L, rL_R, rS_t, rI_t, rG_s, rG_i, rP_s, rP_i, kq_v, kq_s, ok_0, ok_1I, ok_1R, ok_1N, ok_s, rc8_0, rc8_1, rc8_2, rc8_3, rc8_4, List.getElem?_cons_zero, List.getElem?_cons_succ, List.set_cons_zero, List.set_cons_succ, true_and, and_true, if_true, if_false, Int.toNat_natCast, Int.reduceToNat, Int.reduceAdd, Int.reduceSub, Int.reduceMul, Int.reduceNeg, Nat.reduceAdd, Int.reduceLT, Int.reduceLE, Int.reduceEq, reduceIte, w_ck_2, w_g_2_0, w_g_2_1, w_g_2_2, w_g_2_3, w_g_2_4, w_g_2_5, w_g_2_6, w_g_2_7, w_g_2_8, w_g_2_9, w_g_2_10, w_g_2_11, w_g_2_12, w_p_2_12, w_g_2_13, w_p_2_13, w_r_62, w_l_62, w_w_62, w_ck_3, w_g_3_0, w_p_3_0, w_g_3_1, w_p_3_1, w_g_3_2, w_g_3_3, w_g_3_4, w_g_3_5, w_g_3_6, w_g_3_7, w_g_3_8, w_g_3_9, w_g_3_10, w_r_4, w_l_4, w_w_4, w_r_5, w_l_5, w_w_5, w_r_6, w_l_6, w_w_6, w_r_7, w_l_7, w_w_7, w_r_8, w_l_8, w_w_8, w_r_9, w_l_9, w_w_9, w_r_10, w_l_10, w_w_10, w_r_11, w_l_11, w_w_11, w_r_12, w_l_12, w_w_12, jI_add, jI_sub, jI_mul, jI_neg, jI_eq, jI_le, jI_lt, jI_eq0, jI_eq1, jI_lt0, jI_0lt, jI_le0, jI_0le, jI_clamp, jI_inBT, kL_0, kL_1, kL_2, kL_5, kL_6, kL_7, kL_10, kL_11, kL_15, kL_23, kL_31, kL_39, kL_97, kL_99, kL_104, kL_255, kL_349, kL_999, kL_1771561, kL_16777215, kL_4294967295, kL_18446744073709551615, jI_toL, rn_zB, rn_z0, rn_z1, jIB_eq0, jIB_eq1, jIB_eqJ, jB_def, jB_not, jB_and, jB_or, jB_nand, jB_nor, jB_ite, mrg, Decidable.not_not, ite_not, u2_s, u2_n, Int.add_sub_cancel, Int.sub_add_cancel, c_X_isKind, s_X_isKind, c_X_isWord, s_X_isWord, c1, c3, e1, q6, c_Lore_addSaying, sp]
            (repeat' split) <;> first | rfl | (exfalso; omega)
          · unfold T2 at h2
            have kf : ∀ o k, ¬ ((o = 3 ∧ k = 1) ∨ (o = 71 ∧ k = 4)) → u2 (u2 F 3 1 (F 71 4 + 1)) 71 4 (F 71 4 + 1) o k = F o k := fun o k h => by rw [u2_n (by omega), u2_n (by omega)]
            have ka1 : ∀ a, ¬ (75 ≤ a ∧ a ≤ 77) → (u2 (u2 (u2 A1 75 (F 71 4).toNat kd) 76 (F 71 4).toNat w) 77 (F 71 4).toNat n) a = A1 a := fun a h => by rw [u2_a (by omega), u2_a (by omega), u2_a (by omega)]
            have k75 : (u2 (u2 (u2 A1 75 (F 71 4).toNat kd) 76 (F 71 4).toNat w) 77 (F 71 4).toNat n) 75 = uq (A 75) (F 71 4).toNat kd := by
              rw [u2_a (by omega), u2_a (by omega), u2_b, fo 75 (by omega), yo 75 (by omega)]
            have k76 : (u2 (u2 (u2 A1 75 (F 71 4).toNat kd) 76 (F 71 4).toNat w) 77 (F 71 4).toNat n) 76 = uq (A 76) (F 71 4).toNat w := by
              rw [u2_a (by omega), u2_b, u2_a (by omega), fo 76 (by omega), yo 76 (by omega)]
            have k77 : (u2 (u2 (u2 A1 75 (F 71 4).toNat kd) 76 (F 71 4).toNat w) 77 (F 71 4).toNat n) 77 = uq (A 77) (F 71 4).toNat n := by
              rw [u2_b, u2_a (by omega), u2_a (by omega), fo 77 (by omega), yo 77 (by omega)]
            have ff : u2 (u2 F 3 1 (F 71 4 + 1)) 71 4 (F 71 4 + 1) 71 4 = F 71 4 + 1 := u2_s
            have ff1 : u2 (u2 F 3 1 (F 71 4 + 1)) 71 4 (F 71 4 + 1) 3 1 = F 71 4 + 1 := by rw [u2_n (by omega), u2_s]
            generalize u2 (u2 (u2 A1 75 (F 71 4).toNat kd) 76 (F 71 4).toNat w) 77 (F 71 4).toNat n = A2 at ka1 k75 k76 k77
            have fz : u2 F 3 1 (F 71 4 + 1) 3 0 = u2 (u2 F 3 1 (F 71 4 + 1)) 71 4 (F 71 4 + 1) 3 0 := by rw [kf 3 0 (by omega), u2_n (by omega)]
            generalize u2 (u2 F 3 1 (F 71 4 + 1)) 71 4 (F 71 4 + 1) = F2 at kf ff ff1 fz
            have ka : ∀ a, ¬ ((9 ≤ a ∧ a ≤ 12) ∨ (75 ≤ a ∧ a ≤ 77)) → A2 a = A a := fun a h => by rw [ka1 a (by omega), fo a (by omega), yo a (by omega)]
            refine ⟨⟨?_, ?_, HX_p (fun o k h => kf o k (by omega)) (fun a h => ka a (by omega)) hH, TX_p (fun o k h => kf o k (by omega)) (fun a h => ka a (by omega)) hT, SF_p (fun a h => ka a (by omega)) hS, PX_p (fun o k h => kf o k (by omega)) (fun a h => ka a (by omega)) hP, VX_p (fun a h => ka a (by omega)) hV, KX_p (fun a h => ka a (by omega)) hK, NX_p (fun o k h => kf o k (by omega)) hN⟩, TT_p (fun o k h => kf o k (by omega)) (fun a h => ka a (by omega)) hTT, h2, SC_p (fun a h => ka a (by omega)) hC⟩
            · refine LC.li ⟨⟨?_, ?_, ?_, ?_, ?_, ?_, ?_, ?_⟩, ?_, ?_, ?_, ?_, ?_, ?_, ?_, ?_, ?_, ?_, ?_, ?_, ?_⟩ ?_
              · rw [ka 72 (by omega)]; exact i1
              · rw [ka 74 (by omega)]; exact i2
              · rw [ka 73 (by omega)]; exact i3
              · rw [k75]; exact z9
              · rw [k76]; exact z10
              · rw [k77]; exact z11
              · rw [ka 78 (by omega)]; exact i7
              · rw [ka 79 (by omega)]; exact i8
              · rw [kf 71 0 (by omega)]; exact h0
              · rw [ff]; omega
              · rw [kf 71 0 (by omega), kf 3 0 (by omega)]; exact e0
              · rw [ff, ff1]
              · rw [ka 4 (by omega), ka 72 (by omega)]; exact e4
              · rw [ka 8 (by omega), ka 73 (by omega)]; exact e8
              · rw [ka 7 (by omega), ka 74 (by omega)]; exact e7
              · rw [k75, ka1 9 (by omega), fo 9 (by omega), y9]
              · rw [k76, ka1 10 (by omega), fo 10 (by omega), y10]
              · rw [k77, ka1 11 (by omega), fo 11 (by omega), y11]
              · rw [ka 5 (by omega), ka 72 (by omega), kf 71 0 (by omega)]; exact h5
              · rw [ka 6 (by omega), ka 72 (by omega), kf 71 0 (by omega)]; exact h6
              · rw [ka 5 (by omega), ka 6 (by omega)]; exact h7
              · intro j hj
                rw [ff] at hj
                rw [ka1 12 (by omega), f12 j hj]
                exact tryX_congr fz (fun a g1 g2 => by rw [ka1 a (by omega), fo a (by omega)]) _ _
            · obtain ⟨r0, r1, r2, r3, r4, r5, r6⟩ := hR
              unfold RX
              rw [ff, kf 13 4 (by omega), kf 71 8 (by omega), ka 16 (by omega), ka 17 (by omega), ka 78 (by omega), ka 79 (by omega)]
              exact ⟨r0, r1, r2, r3, r4, r5, fun r i g1 g2 => by have := r6 r i g1 g2; omega⟩
      · refine Cal_ob hI (-101) (fun d Q => ?_) (fun d Q => by rw [m F A h1, if_pos c1, if_pos c2, if_neg c3])
        simp (disch := omega) only [b_X_saying_0, b_X_saying_7, b_X_saying_11, b_X_saying_17, b_X_saying_20, b_X_saying_27, rn_nil, rn_iconst, rn_ldc2, rn_iadd, rn_isub, rn_imul, rn_iand, rn_ior, rn_ixor, rn_ishl, rn_ishr, rn_iushr, rn_ineg, rn_ladd, rn_lsub, rn_lmul, rn_land, rn_lor, rn_lshl, rn_lushr, rn_lcmp, rn_i2l, rn_l2i, rn_dupI, rn_dupR, rn_popI, rn_dup2, rn_idiv, rn_irem, rn_ldiv, rn_lrem, rn_dadd, rn_dsub, rn_dmul, rn_objinit, rn_iload, rn_lload, rn_aload, rn_istore, rn_astore, rn_lstore, rn_iinc, rn_getfield, rn_iaload, rn_laload, rn_aaload, rn_arraylength, rn_putfield, rn_iastore, rn_lastore, rn_goto, rn_ifCond_eq, rn_if_icmp_eq, rn_ifCond_ne, rn_if_icmp_ne, rn_ifCond_lt, rn_if_icmp_lt, rn_ifCond_ge, rn_if_icmp_ge, rn_ifCond_gt, rn_if_icmp_gt, rn_ifCond_le, rn_if_icmp_le, rn_ireturn, rn_lreturn, rn_return, rL_I, rL_L, rL_R, rS_t, rI_t, rG_s, rG_i, rP_s, rP_i, kq_v, kq_s, ok_0, ok_1I, ok_1R, ok_1N, ok_s, rc8_0, rc8_1, rc8_2, rc8_3, rc8_4, List.getElem?_cons_zero, List.getElem?_cons_succ, List.set_cons_zero, List.set_cons_succ, true_and, and_true, if_true, if_false, Int.toNat_natCast, Int.reduceToNat, Int.reduceAdd, Int.reduceSub, Int.reduceMul, Int.reduceNeg, Nat.reduceAdd, Int.reduceLT, Int.reduceLE, Int.reduceEq, reduceIte, w_ck_2, w_g_2_0, w_g_2_1, w_g_2_2, w_g_2_3, w_g_2_4, w_g_2_5, w_g_2_6, w_g_2_7, w_g_2_8, w_g_2_9, w_g_2_10, w_g_2_11, w_g_2_12, w_p_2_12, w_g_2_13, w_p_2_13, w_r_62, w_l_62, w_w_62, w_ck_3, w_g_3_0, w_p_3_0, w_g_3_1, w_p_3_1, w_g_3_2, w_g_3_3, w_g_3_4, w_g_3_5, w_g_3_6, w_g_3_7, w_g_3_8, w_g_3_9, w_g_3_10, w_r_4, w_l_4, w_w_4, w_r_5, w_l_5, w_w_5, w_r_6, w_l_6, w_w_6, w_r_7, w_l_7, w_w_7, w_r_8, w_l_8, w_w_8, w_r_9, w_l_9, w_w_9, w_r_10, w_l_10, w_w_10, w_r_11, w_l_11, w_w_11, w_r_12, w_l_12, w_w_12, jI_add, jI_sub, jI_mul, jI_neg, jI_eq, jI_le, jI_lt, jI_eq0, jI_eq1, jI_lt0, jI_0lt, jI_le0, jI_0le, jI_clamp, jI_inBT, kL_0, kL_1, kL_2, kL_5, kL_6, kL_7, kL_10, kL_11, kL_15, kL_23, kL_31, kL_39, kL_97, kL_99, kL_104, kL_255, kL_349, kL_999, kL_1771561, kL_16777215, kL_4294967295, kL_18446744073709551615, jI_toL, rn_zB, rn_z0, rn_z1, jIB_eq0, jIB_eq1, jIB_eqJ, jB_def, jB_not, jB_and, jB_or, jB_nand, jB_nor, jB_ite, mrg, Decidable.not_not, ite_not, u2_s, u2_n, Int.add_sub_cancel, Int.sub_add_cancel, c_X_isKind, s_X_isKind, c_X_isWord, s_X_isWord, c1, c3]
        (repeat' split) <;> first | rfl | (exfalso; omega)
    · refine Cal_ob hI (-102) (fun d Q => ?_) (fun d Q => by rw [m F A h1, if_pos c1, if_neg c2])
      simp (disch := omega) only [b_X_saying_0, b_X_saying_7, b_X_saying_11, b_X_saying_17, rn_nil, rn_iconst, rn_ldc2, rn_iadd, rn_isub, rn_imul, rn_iand, rn_ior, rn_ixor, rn_ishl, rn_ishr, rn_iushr, rn_ineg, rn_ladd, rn_lsub, rn_lmul, rn_land, rn_lor, rn_lshl, rn_lushr, rn_lcmp, rn_i2l, rn_l2i, rn_dupI, rn_dupR, rn_popI, rn_dup2, rn_idiv, rn_irem, rn_ldiv, rn_lrem, rn_dadd, rn_dsub, rn_dmul, rn_objinit, rn_iload, rn_lload, rn_aload, rn_istore, rn_astore, rn_lstore, rn_iinc, rn_getfield, rn_iaload, rn_laload, rn_aaload, rn_arraylength, rn_putfield, rn_iastore, rn_lastore, rn_goto, rn_ifCond_eq, rn_if_icmp_eq, rn_ifCond_ne, rn_if_icmp_ne, rn_ifCond_lt, rn_if_icmp_lt, rn_ifCond_ge, rn_if_icmp_ge, rn_ifCond_gt, rn_if_icmp_gt, rn_ifCond_le, rn_if_icmp_le, rn_ireturn, rn_lreturn, rn_return, rL_I, rL_L, rL_R, rS_t, rI_t, rG_s, rG_i, rP_s, rP_i, kq_v, kq_s, ok_0, ok_1I, ok_1R, ok_1N, ok_s, rc8_0, rc8_1, rc8_2, rc8_3, rc8_4, List.getElem?_cons_zero, List.getElem?_cons_succ, List.set_cons_zero, List.set_cons_succ, true_and, and_true, if_true, if_false, Int.toNat_natCast, Int.reduceToNat, Int.reduceAdd, Int.reduceSub, Int.reduceMul, Int.reduceNeg, Nat.reduceAdd, Int.reduceLT, Int.reduceLE, Int.reduceEq, reduceIte, w_ck_2, w_g_2_0, w_g_2_1, w_g_2_2, w_g_2_3, w_g_2_4, w_g_2_5, w_g_2_6, w_g_2_7, w_g_2_8, w_g_2_9, w_g_2_10, w_g_2_11, w_g_2_12, w_p_2_12, w_g_2_13, w_p_2_13, w_r_62, w_l_62, w_w_62, w_ck_3, w_g_3_0, w_p_3_0, w_g_3_1, w_p_3_1, w_g_3_2, w_g_3_3, w_g_3_4, w_g_3_5, w_g_3_6, w_g_3_7, w_g_3_8, w_g_3_9, w_g_3_10, w_r_4, w_l_4, w_w_4, w_r_5, w_l_5, w_w_5, w_r_6, w_l_6, w_w_6, w_r_7, w_l_7, w_w_7, w_r_8, w_l_8, w_w_8, w_r_9, w_l_9, w_w_9, w_r_10, w_l_10, w_w_10, w_r_11, w_l_11, w_w_11, w_r_12, w_l_12, w_w_12, jI_add, jI_sub, jI_mul, jI_neg, jI_eq, jI_le, jI_lt, jI_eq0, jI_eq1, jI_lt0, jI_0lt, jI_le0, jI_0le, jI_clamp, jI_inBT, kL_0, kL_1, kL_2, kL_5, kL_6, kL_7, kL_10, kL_11, kL_15, kL_23, kL_31, kL_39, kL_97, kL_99, kL_104, kL_255, kL_349, kL_999, kL_1771561, kL_16777215, kL_4294967295, kL_18446744073709551615, jI_toL, rn_zB, rn_z0, rn_z1, jIB_eq0, jIB_eq1, jIB_eqJ, jB_def, jB_not, jB_and, jB_or, jB_nand, jB_nor, jB_ite, mrg, Decidable.not_not, ite_not, u2_s, u2_n, Int.add_sub_cancel, Int.sub_add_cancel, c_X_isKind, s_X_isKind, c1]
      (repeat' split) <;> first | rfl | (exfalso; omega)
  · refine Cal_ob hI (-102) (fun d Q => ?_) (fun d Q => by rw [m F A h1, if_neg c1])
    simp (disch := omega) only [b_X_saying_0, b_X_saying_17, rn_nil, rn_iconst, rn_ldc2, rn_iadd, rn_isub, rn_imul, rn_iand, rn_ior, rn_ixor, rn_ishl, rn_ishr, rn_iushr, rn_ineg, rn_ladd, rn_lsub, rn_lmul, rn_land, rn_lor, rn_lshl, rn_lushr, rn_lcmp, rn_i2l, rn_l2i, rn_dupI, rn_dupR, rn_popI, rn_dup2, rn_idiv, rn_irem, rn_ldiv, rn_lrem, rn_dadd, rn_dsub, rn_dmul, rn_objinit, rn_iload, rn_lload, rn_aload, rn_istore, rn_astore, rn_lstore, rn_iinc, rn_getfield, rn_iaload, rn_laload, rn_aaload, rn_arraylength, rn_putfield, rn_iastore, rn_lastore, rn_goto, rn_ifCond_eq, rn_if_icmp_eq, rn_ifCond_ne, rn_if_icmp_ne, rn_ifCond_lt, rn_if_icmp_lt, rn_ifCond_ge, rn_if_icmp_ge, rn_ifCond_gt, rn_if_icmp_gt, rn_ifCond_le, rn_if_icmp_le, rn_ireturn, rn_lreturn, rn_return, rL_I, rL_L, rL_R, rS_t, rI_t, rG_s, rG_i, rP_s, rP_i, kq_v, kq_s, ok_0, ok_1I, ok_1R, ok_1N, ok_s, rc8_0, rc8_1, rc8_2, rc8_3, rc8_4, List.getElem?_cons_zero, List.getElem?_cons_succ, List.set_cons_zero, List.set_cons_succ, true_and, and_true, if_true, if_false, Int.toNat_natCast, Int.reduceToNat, Int.reduceAdd, Int.reduceSub, Int.reduceMul, Int.reduceNeg, Nat.reduceAdd, Int.reduceLT, Int.reduceLE, Int.reduceEq, reduceIte, w_ck_2, w_g_2_0, w_g_2_1, w_g_2_2, w_g_2_3, w_g_2_4, w_g_2_5, w_g_2_6, w_g_2_7, w_g_2_8, w_g_2_9, w_g_2_10, w_g_2_11, w_g_2_12, w_p_2_12, w_g_2_13, w_p_2_13, w_r_62, w_l_62, w_w_62, w_ck_3, w_g_3_0, w_p_3_0, w_g_3_1, w_p_3_1, w_g_3_2, w_g_3_3, w_g_3_4, w_g_3_5, w_g_3_6, w_g_3_7, w_g_3_8, w_g_3_9, w_g_3_10, w_r_4, w_l_4, w_w_4, w_r_5, w_l_5, w_w_5, w_r_6, w_l_6, w_w_6, w_r_7, w_l_7, w_w_7, w_r_8, w_l_8, w_w_8, w_r_9, w_l_9, w_w_9, w_r_10, w_l_10, w_w_10, w_r_11, w_l_11, w_w_11, w_r_12, w_l_12, w_w_12, jI_add, jI_sub, jI_mul, jI_neg, jI_eq, jI_le, jI_lt, jI_eq0, jI_eq1, jI_lt0, jI_0lt, jI_le0, jI_0le, jI_clamp, jI_inBT, kL_0, kL_1, kL_2, kL_5, kL_6, kL_7, kL_10, kL_11, kL_15, kL_23, kL_31, kL_39, kL_97, kL_99, kL_104, kL_255, kL_349, kL_999, kL_1771561, kL_16777215, kL_4294967295, kL_18446744073709551615, jI_toL, rn_zB, rn_z0, rn_z1, jIB_eq0, jIB_eq1, jIB_eqJ, jB_def, jB_not, jB_and, jB_or, jB_nand, jB_nor, jB_ite, mrg, Decidable.not_not, ite_not, u2_s, u2_n, Int.add_sub_cancel, Int.sub_add_cancel, c_X_isKind, s_X_isKind, c1]
end CALB
