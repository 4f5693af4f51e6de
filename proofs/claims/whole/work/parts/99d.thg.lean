theorem setS_add {p q : Nat → Bool} {n : Nat} (h : ∀ i, i < n → q i = p i) : (if q n = true then ior (setS p 0 n) (2 ^ n) else setS p 0 n) = setS q 0 (n + 1) := by
  have p0 : (0 : Int) ≤ 2 ^ n := Int.le_of_lt (pow_pos2 n)
  refine set_S ?_ (fun k => ?_)
  · split
    · exact ior_nn _ _
    · exact setS_nn _ _
  · by_cases g : q n = true
    · rw [if_pos g, ← setS_one (Nat.lt_succ_self n), ibit_or (setS_nn _ _) (setS_nn _ _), ibit_S, ibit_S]
      by_cases k1 : k < n
      · have := h k k1
        have k2 : k < n + 1 := by omega
        have k3 : ¬ k = n := by omega
        simp [k1, k2, k3, this]
      · by_cases k2 : k = n
        · subst k2
          simp [g]
        · have k3 : ¬ k < n + 1 := by omega
          simp [k1, k2, k3]
    · rw [if_neg g, ibit_S]
      by_cases k1 : k < n
      · have := h k k1
        have k2 : k < n + 1 := by omega
        simp [k1, k2, this]
      · by_cases k2 : k = n
        · subst k2
          simp [g]
        · have k3 : ¬ k < n + 1 := by omega
          simp [k1, k3]
section CALD
variable {L : Nat} {xs : Nat → Int32} {F A F' A' : Nat → Nat → Int} {B B1 B2 : Nat → Int64} {hs hs1 hs2 : Int64} {t1 t2 t : Nat} {qx qm : Nat} {ax am : List Value} {H : am_H} {d : Nat} {Q : Option Value → am_H → Prop}
theorem cal_thing (hI : INV F A t1 t2) {z : Int} (hz' : -2147483648 ≤ z ∧ z < 2147483648) : Cal L xs 80 126 [.ref 2, .int (jI z)] [.ref 71, .int (jI z)] (HW L xs F A B hs t1 t2) := by
  obtain ⟨⟨hL, hR, hH, hT, hS, hP, hV, hK, hN⟩, hTT, h2, hC⟩ := id hI
  obtain ⟨⟨i1, i2, i3, i4, i5, i6, i7, i8⟩, h0, h1, e0, e1, e4, e8, e7, e9, e10, e11, h5, h6, h7⟩ := id hL.1
  have m := fun (F A : Nat → Nat → Int) (h0 : 0 ≤ F 71 0 ∧ F 71 0 ≤ 12) d Q => s_M_thing (d := d + 28) (Q := Q) (L := L) (xs := xs) (F := F) (A := A) (B := B) (hs := hs) (t1 := t1) (t2 := t2) h0 hz'
  have lo := hL.1.lo
  by_cases c1 : 0 ≤ z ∧ z ≤ 16777215
  · by_cases c2 : F 71 0 = 12
    · refine Cal_ob hI (-104) (fun d Q => ?_) (fun d Q => by rw [m F A h0, if_pos c1, if_pos c2])
      simp (disch := omega) only [b_X_thing_0, b_X_thing_4, b_X_thing_10, b_X_thing_13, b_X_thing_25, b_X_thing_28, rn_nil, rn_iconst, rn_ldc2, rn_iadd, rn_isub, rn_imul, rn_iand, rn_ior, rn_ixor, rn_ishl, rn_ishr, rn_iushr, rn_ineg, rn_ladd, rn_lsub, rn_lmul, rn_land, rn_lor, rn_lshl, rn_lushr, rn_lcmp, rn_i2l, rn_l2i, rn_dupI, rn_dupR, rn_popI, rn_dup2, rn_idiv, rn_irem, rn_ldiv, rn_lrem, rn_dadd, rn_dsub, rn_dmul, rn_objinit, rn_iload, rn_lload, rn_aload, rn_istore, rn_astore, rn_lstore, rn_iinc, rn_getfield, rn_iaload, rn_laload, rn_aaload, rn_arraylength, rn_putfield, rn_iastore, rn_lastore, rn_goto, rn_ifCond_eq, rn_if_icmp_eq, rn_ifCond_ne, rn_if_icmp_ne, rn_ifCond_lt, rn_if_icmp_lt, rn_ifCond_ge, rn_if_icmp_ge, rn_ifCond_gt, rn_if_icmp_gt, rn_ifCond_le, rn_if_icmp_le, rn_ireturn, rn_lreturn, rn_return, rL_I, rL_L, rL_R, rS_t, rI_t, rG_s, rG_i, rP_s, rP_i, kq_v, kq_s, ok_0, ok_1I, ok_1R, ok_1N, ok_s, rc8_0, rc8_1, rc8_2, rc8_3, rc8_4, List.getElem?_cons_zero, List.getElem?_cons_succ, List.set_cons_zero, List.set_cons_succ, true_and, and_true, if_true, if_false, Int.toNat_natCast, Int.reduceToNat, Int.reduceAdd, Int.reduceSub, Int.reduceMul, Int.reduceNeg, Nat.reduceAdd, Int.reduceLT, Int.reduceLE, Int.reduceEq, reduceIte, w_ck_2, w_g_2_0, w_g_2_1, w_g_2_2, w_g_2_3, w_g_2_4, w_g_2_5, w_g_2_6, w_g_2_7, w_g_2_8, w_g_2_9, w_g_2_10, w_g_2_11, w_g_2_12, w_p_2_12, w_g_2_13, w_p_2_13, w_r_62, w_l_62, w_w_62, w_ck_3, w_g_3_0, w_p_3_0, w_g_3_1, w_p_3_1, w_g_3_2, w_g_3_3, w_g_3_4, w_g_3_5, w_g_3_6, w_g_3_7, w_g_3_8, w_g_3_9, w_g_3_10, w_r_4, w_l_4, w_w_4, w_r_5, w_l_5, w_w_5, w_r_6, w_l_6, w_w_6, w_r_7, w_l_7, w_w_7, w_r_8, w_l_8, w_w_8, w_r_9, w_l_9, w_w_9, w_r_10, w_l_10, w_w_10, w_r_11, w_l_11, w_w_11, w_r_12, w_l_12, w_w_12, jI_add, jI_sub, jI_mul, jI_neg, jI_eq, jI_le, jI_lt, jI_eq0, jI_eq1, jI_lt0, jI_0lt, jI_le0, jI_0le, jI_clamp, jI_inBT, kL_0, kL_1, kL_2, kL_5, kL_6, kL_7, kL_10, kL_11, kL_15, kL_23, kL_31, kL_39, kL_97, kL_99, kL_104, kL_255, kL_349, kL_999, kL_1771561, kL_16777215, kL_4294967295, kL_18446744073709551615, jI_toL, rn_zB, rn_z0, rn_z1, jIB_eq0, jIB_eq1, jIB_eqJ, jB_def, jB_not, jB_and, jB_or, jB_nand, jB_nor, jB_ite, mrg, Decidable.not_not, ite_not, u2_s, u2_n, Int.add_sub_cancel, Int.sub_add_cancel, e0, c2]
      (repeat' split) <;> first | rfl | (exfalso; omega)
    · have bs := bsum_rng z 24 0
      have t5 : ∀ j, j < 24 → addT F A z 5 j = setS (fun t => decide (ibit (uq (A 72) (F 71 0).toNat z t) j = 1)) 0 (F 71 0 + 1).toNat := fun j hj => by
        rw [show (F 71 0 + 1).toNat = (F 71 0).toNat + 1 by omega, ← setS_add (p := fun t => decide (ibit (A 72 t) j = 1)) (fun i hi => by rw [uq_n (by omega)]), uq_s, ← h5 j hj]
        unfold addT
        rw [u2_n (by omega), e0, alN_o (by omega)]
        unfold hvN
        by_cases g : ibit z j = 1
        · rw [if_pos ⟨rfl, hj, g⟩, if_pos (decide_eq_true g)]
        · rw [if_neg (fun e => g e.2.2), if_neg (by simp [g])]
      have t6 : ∀ j, j < 24 → addT F A z 6 j = setS (fun t => decide ((j : Int) ≤ bsum (uq (A 72) (F 71 0).toNat z t) 0 24)) 0 (F 71 0 + 1).toNat := fun j hj => by
        rw [show (F 71 0 + 1).toNat = (F 71 0).toNat + 1 by omega, ← setS_add (p := fun t => decide ((j : Int) ≤ bsum (A 72 t) 0 24)) (fun i hi => by rw [uq_n (by omega)]), uq_s, ← h6 j hj]
        unfold addT
        rw [u2_n (by omega), e0]
        unfold alN
        by_cases g : (j : Int) ≤ bsum z 0 24
        · rw [if_pos ⟨rfl, by split <;> omega⟩, if_pos (decide_eq_true g), hvN_o (by omega)]
        · rw [if_neg (fun e => g (by have := e.2; split at this <;> omega)), if_neg (by simp [g]), hvN_o (by omega)]
      have t7 : ∀ j, 24 ≤ j → addT F A z 5 j = 0 ∧ addT F A z 6 j = 0 := fun j hj => by
        unfold addT
        rw [u2_n (by omega), u2_n (by omega), alN_o (by omega), hvN_at hj, alN_at (by split <;> omega), hvN_o (by omega)]
        exact h7 j hj
      have t4 : addT F A z 4 = uq (A 72) (F 71 0).toNat z := by
        unfold addT
        rw [u2_b, alN_o (by omega), hvN_o (by omega), e0, e4]
      have yo : ∀ a, ¬ (4 ≤ a ∧ a ≤ 6) → addT F A z a = A a := fun a h => by
        unfold addT
        rw [u2_a (by omega), alN_o (by omega), hvN_o (by omega)]
      have z4 : ∀ i, 0 ≤ uq (A 72) (F 71 0).toNat z i ∧ uq (A 72) (F 71 0).toNat z i < 16777216 := uq_all (P := fun x => 0 ≤ x ∧ x < 16777216) i1 (by omega)
      have lo' : ILo (addT F A z) := by
        unfold ILo
        rw [t4, yo 7 (by omega), yo 8 (by omega), yo 9 (by omega), yo 10 (by omega), yo 11 (by omega)]
        refine ⟨z4, fun j => ?_, fun j => ?_, lo.2.2.2⟩
        · by_cases g : j < 24
          · rw [t5 j g]; exact setS_12 _ (by omega)
          · rw [(t7 j (by omega)).1]; omega
        · by_cases g : j < 24
          · rw [t6 j g]; exact setS_12 _ (by omega)
          · rw [(t7 j (by omega)).2]; omega
      have sp := fun d Q => s_Lo_addThing (d := d) (Q := Q) (L := L) (xs := xs) (F := F) (A := A) (B := B) (hs := hs) (t1 := t1) (t2 := t2) lo (by omega) (by omega) (z := z) (by omega) lo'
      rw [e0, e1] at sp
      generalize addT F A z = G at sp t4 t5 t6 t7 yo lo'
      have f0 : u2 F 3 0 (F 71 0 + 1) 71 0 = F 71 0 := u2_n (by omega)
      have fo : ∀ a, ¬ a = 12 → fitN (u2 F 3 0 (F 71 0 + 1)) G (3 * (F 71 4).toNat) a = G a := fun a h => fitN_o h
      have f12 : ∀ j : Nat, (j : Int) < 3 * F 71 4 → fitN (u2 F 3 0 (F 71 0 + 1)) G (3 * (F 71 4).toNat) 12 j = tryX (u2 F 3 0 (F 71 0 + 1)) G (j / 3) (j % 3) := fun j hj => by
        unfold fitN
        rw [if_pos ⟨rfl, by omega⟩]
      generalize fitN (u2 F 3 0 (F 71 0 + 1)) G (3 * (F 71 4).toNat) = A1 at sp fo f12
      refine Cal_mk (F 71 0) (fun d Q => ?_) (fun d Q => by rw [m (u2 F 3 0 (F 71 0 + 1)) A1 (by omega), f0, if_pos c1, if_neg c2]) ?_
      · have q6 : F 71 0 < 12 := by omega
        simp (disch := omega) only [b_X_thing_0, b_X_thing_4, b_X_thing_10, b_X_thing_13, b_X_thing_25, b_X_thing_28, rn_nil, rn_iconst, rn_ldc2, rn_iadd, rn_isub, rn_imul, rn_iand, rn_ior, rn_ixor, rn_ishl, rn_ishr, rn_iushr, rn_ineg, rn_ladd, rn_lsub, rn_lmul, rn_land, rn_lor, rn_lshl, rn_lushr, rn_lcmp, rn_i2l, rn_l2i, rn_dupI, rn_dupR, rn_popI, rn_dup2, rn_idiv, rn_irem, rn_ldiv, rn_lrem, rn_dadd, rn_dsub, rn_dmul, rn_objinit, rn_iload, rn_lload, rn_aload, rn_istore, rn_astore, rn_lstore, rn_iinc, rn_getfield, rn_iaload, rn_laload, rn_aaload, rn_arraylength, rn_putfield, rn_iastore, rn_lastore, rn_goto, rn_ifCond_eq, rn_if_icmp_eq, rn_ifCond_ne, rn_if_icmp_ne, rn_ifCond_lt, rn_if_icmp_lt, rn_ifCond_ge, rn_if_icmp_ge, rn_ifCond_gt, rn_if_icmp_gt, rn_ifCond_le, rn_if_icmp_le, rn_ireturn, rn_lreturn, rn_return, rL_I, rL_L, rL_R, rS_t, rI_t, rG_s, rG_i, rP_s, rP_i, kq_v, kq_s, ok_0, ok_1I, ok_1R, ok_1N, ok_s, rc8_0, rc8_1, rc8_2, rc8_3, rc8_4, List.getElem?_cons_zero, List.getElem?_cons_succ, List.set_cons_zero, List.set_cons_succ, true_and, and_true, if_true, if_false, Int.toNat_natCast, Int.reduceToNat, Int.reduceAdd, Int.reduceSub, Int.reduceMul, Int.reduceNeg, Nat.reduceAdd, Int.reduceLT, Int.reduceLE, Int.reduceEq, reduceIte, w_ck_2, w_g_2_0, w_g_2_1, w_g_2_2, w_g_2_3, w_g_2_4, w_g_2_5, w_g_2_6, w_g_2_7, w_g_2_8, w_g_2_9, w_g_2_10, w_g_2_11, w_g_2_12, w_p_2_12, w_g_2_13, w_p_2_13, w_r_62, w_l_62, w_w_62, w_ck_3, w_g_3_0, w_p_3_0, w_g_3_1, w_p_3_1, w_g_3_2, w_g_3_3, w_g_3_4, w_g_3_5, w_g_3_6, w_g_3_7, w_g_3_8, w_g_3_9, w_g_3_10, w_r_4, w_l_4, w_w_4, w_r_5, w_l_5, w_w_5, w_r_6, w_l_6, w_w_6, w_r_7, w_l_7, w_w_7, w_r_8, w_l_8, w_w_8, w_r_9, w_l_9, w_w_9, w_r_10, w_l_10, w_w_10, w_r_11, w_l_11, w_w_11, w_r_12, w_l_12, w_w_12, jI_add, jI_sub, jI_mul, jI_neg, jI_eq, jI_le, jI_lt, jI_eq0, jI_eq1, jI_lt0, jI_0lt, jI_le0, jI_0le, jI_clamp, jI_inBT, kL_0, kL_1, kL_2, kL_5, kL_6, kL_7, kL_10, kL_11, kL_15, kL_23, kL_31, kL_39, kL_97, kL_99, kL_104, kL_255, kL_349, kL_999, kL_1771561, kL_16777215, kL_4294967295, kL_18446744073709551615, jI_toL, rn_zB, rn_z0, rn_z1, jIB_eq0, jIB_eq1, jIB_eqJ, jB_def, jB_not, jB_and, jB_or, jB_nand, jB_nor, jB_ite, mrg, Decidable.not_not, ite_not, u2_s, u2_n, Int.add_sub_cancel, Int.sub_add_cancel, e0, q6, c_Lore_addThing, sp]
        (repeat' split) <;> first | rfl | (exfalso; omega)
      · unfold T2 at h2
        have kf : ∀ o k, ¬ ((o = 3 ∧ k = 0) ∨ (o = 71 ∧ k = 0)) → u2 (u2 F 3 0 (F 71 0 + 1)) 71 0 (F 71 0 + 1) o k = F o k := fun o k h => by rw [u2_n (by omega), u2_n (by omega)]
        have ff : u2 (u2 F 3 0 (F 71 0 + 1)) 71 0 (F 71 0 + 1) 71 0 = F 71 0 + 1 := u2_s
        have ff1 : u2 (u2 F 3 0 (F 71 0 + 1)) 71 0 (F 71 0 + 1) 3 0 = F 71 0 + 1 := by rw [u2_n (by omega), u2_s]
        have fz : u2 F 3 0 (F 71 0 + 1) 3 0 = u2 (u2 F 3 0 (F 71 0 + 1)) 71 0 (F 71 0 + 1) 3 0 := by rw [ff1, u2_s]
        have ka1 : ∀ a, ¬ a = 72 → u2 A1 72 (F 71 0).toNat z a = A1 a := fun a h => by rw [u2_a h]
        have k72 : u2 A1 72 (F 71 0).toNat z 72 = uq (A 72) (F 71 0).toNat z := by rw [u2_b, fo 72 (by omega), yo 72 (by omega)]
        generalize u2 A1 72 (F 71 0).toNat z = A2 at ka1 k72
        generalize u2 (u2 F 3 0 (F 71 0 + 1)) 71 0 (F 71 0 + 1) = F2 at kf ff ff1 fz
        have ka : ∀ a, ¬ ((4 ≤ a ∧ a ≤ 6) ∨ a = 12 ∨ a = 72) → A2 a = A a := fun a h => by rw [ka1 a (by omega), fo a (by omega), yo a (by omega)]
        refine ⟨⟨?_, RX_p (fun o k h => kf o k (by omega)) (fun a h => ka a (by omega)) hR, HX_p (fun o k h => kf o k (by omega)) (fun a h => ka a (by omega)) hH, TX_p (fun o k h => kf o k (by omega)) (fun a h => ka a (by omega)) hT, SF_p (fun a h => ka a (by omega)) hS, PX_p (fun o k h => kf o k (by omega)) (fun a h => ka a (by omega)) hP, VX_p (fun a h => ka a (by omega)) hV, KX_p (fun a h => ka a (by omega)) hK, NX_p (fun o k h => kf o k (by omega)) hN⟩, TT_p (fun o k h => kf o k (by omega)) (fun a h => ka a (by omega)) hTT, h2, SC_p (fun a h => ka a (by omega)) hC⟩
        refine LC.li ⟨⟨?_, ?_, ?_, ?_, ?_, ?_, ?_, ?_⟩, ?_, ?_, ?_, ?_, ?_, ?_, ?_, ?_, ?_, ?_, ?_, ?_, ?_⟩ ?_
        · rw [k72]; exact z4
        · rw [ka 74 (by omega)]; exact i2
        · rw [ka 73 (by omega)]; exact i3
        · rw [ka 75 (by omega)]; exact i4
        · rw [ka 76 (by omega)]; exact i5
        · rw [ka 77 (by omega)]; exact i6
        · rw [ka 78 (by omega)]; exact i7
        · rw [ka 79 (by omega)]; exact i8
        · rw [ff]; omega
        · rw [kf 71 4 (by omega)]; exact h1
        · rw [ff, ff1]
        · rw [kf 71 4 (by omega), kf 3 1 (by omega)]; exact e1
        · rw [k72, ka1 4 (by omega), fo 4 (by omega), t4]
        · rw [ka 8 (by omega), ka 73 (by omega)]; exact e8
        · rw [ka 7 (by omega), ka 74 (by omega)]; exact e7
        · rw [ka 9 (by omega), ka 75 (by omega)]; exact e9
        · rw [ka 10 (by omega), ka 76 (by omega)]; exact e10
        · rw [ka 11 (by omega), ka 77 (by omega)]; exact e11
        · rw [k72, ka1 5 (by omega), fo 5 (by omega), ff]; exact t5
        · rw [k72, ka1 6 (by omega), fo 6 (by omega), ff]; exact t6
        · rw [ka1 5 (by omega), fo 5 (by omega), ka1 6 (by omega), fo 6 (by omega)]; exact t7
        · intro j hj
          rw [kf 71 4 (by omega)] at hj
          rw [ka1 12 (by omega), f12 j hj]
          exact tryX_congr fz (fun a g1 g2 => by rw [ka1 a (by omega), fo a (by omega)]) _ _
  · refine Cal_ob hI (-102) (fun d Q => ?_) (fun d Q => by rw [m F A h0, if_neg c1])
    simp (disch := omega) only [b_X_thing_0, b_X_thing_4, b_X_thing_10, rn_nil, rn_iconst, rn_ldc2, rn_iadd, rn_isub, rn_imul, rn_iand, rn_ior, rn_ixor, rn_ishl, rn_ishr, rn_iushr, rn_ineg, rn_ladd, rn_lsub, rn_lmul, rn_land, rn_lor, rn_lshl, rn_lushr, rn_lcmp, rn_i2l, rn_l2i, rn_dupI, rn_dupR, rn_popI, rn_dup2, rn_idiv, rn_irem, rn_ldiv, rn_lrem, rn_dadd, rn_dsub, rn_dmul, rn_objinit, rn_iload, rn_lload, rn_aload, rn_istore, rn_astore, rn_lstore, rn_iinc, rn_getfield, rn_iaload, rn_laload, rn_aaload, rn_arraylength, rn_putfield, rn_iastore, rn_lastore, rn_goto, rn_ifCond_eq, rn_if_icmp_eq, rn_ifCond_ne, rn_if_icmp_ne, rn_ifCond_lt, rn_if_icmp_lt, rn_ifCond_ge, rn_if_icmp_ge, rn_ifCond_gt, rn_if_icmp_gt, rn_ifCond_le, rn_if_icmp_le, rn_ireturn, rn_lreturn, rn_return, rL_I, rL_L, rL_R, rS_t, rI_t, rG_s, rG_i, rP_s, rP_i, kq_v, kq_s, ok_0, ok_1I, ok_1R, ok_1N, ok_s, rc8_0, rc8_1, rc8_2, rc8_3, rc8_4, List.getElem?_cons_zero, List.getElem?_cons_succ, List.set_cons_zero, List.set_cons_succ, true_and, and_true, if_true, if_false, Int.toNat_natCast, Int.reduceToNat, Int.reduceAdd, Int.reduceSub, Int.reduceMul, Int.reduceNeg, Nat.reduceAdd, Int.reduceLT, Int.reduceLE, Int.reduceEq, reduceIte, w_ck_2, w_g_2_0, w_g_2_1, w_g_2_2, w_g_2_3, w_g_2_4, w_g_2_5, w_g_2_6, w_g_2_7, w_g_2_8, w_g_2_9, w_g_2_10, w_g_2_11, w_g_2_12, w_p_2_12, w_g_2_13, w_p_2_13, w_r_62, w_l_62, w_w_62, w_ck_3, w_g_3_0, w_p_3_0, w_g_3_1, w_p_3_1, w_g_3_2, w_g_3_3, w_g_3_4, w_g_3_5, w_g_3_6, w_g_3_7, w_g_3_8, w_g_3_9, w_g_3_10, w_r_4, w_l_4, w_w_4, w_r_5, w_l_5, w_w_5, w_r_6, w_l_6, w_w_6, w_r_7, w_l_7, w_w_7, w_r_8, w_l_8, w_w_8, w_r_9, w_l_9, w_w_9, w_r_10, w_l_10, w_w_10, w_r_11, w_l_11, w_w_11, w_r_12, w_l_12, w_w_12, jI_add, jI_sub, jI_mul, jI_neg, jI_eq, jI_le, jI_lt, jI_eq0, jI_eq1, jI_lt0, jI_0lt, jI_le0, jI_0le, jI_clamp, jI_inBT, kL_0, kL_1, kL_2, kL_5, kL_6, kL_7, kL_10, kL_11, kL_15, kL_23, kL_31, kL_39, kL_97, kL_99, kL_104, kL_255, kL_349, kL_999, kL_1771561, kL_16777215, kL_4294967295, kL_18446744073709551615, jI_toL, rn_zB, rn_z0, rn_z1, jIB_eq0, jIB_eq1, jIB_eqJ, jB_def, jB_not, jB_and, jB_or, jB_nand, jB_nor, jB_ite, mrg, Decidable.not_not, ite_not, u2_s, u2_n, Int.add_sub_cancel, Int.sub_add_cancel]
    (repeat' split) <;> first | rfl | (exfalso; omega)
end CALD
