/-! THE CLASS: countWays -/
section CW2
variable {L : Nat} {xs : Nat → Int32} {B : Nat → Int64} {hs : Int64} {t1 t2 : Nat}
theorem getD_app {l : List Nat} {s i : Nat} (h : i ≤ l.length) : (l ++ [s]).getD i 0 = if i = l.length then s else l.getD i 0 := by
  rw [List.getD_eq_getElem?_getD, List.getD_eq_getElem?_getD]
  by_cases g : i = l.length
  · rw [if_pos g, g, List.getElem?_append_right (Nat.le_refl _), Nat.sub_self]
    rfl
  · rw [if_neg g, List.getElem?_append_left (by omega)]
/-- what has been gathered of the lands before j -/
def CS (F A : Nat → Nat → Int) (p : Nat → Bool) (vars : Nat → Int) (j : Nat) : Prop := F 57 4 = (seL p j).length ∧ (∀ l, l < j → A 58 l = vars l) ∧ (∀ i, i < (seL p j).length → A 59 i = (((seL p j).getD i 0 : Nat) : Int)) ∧ (∀ x, x < 8 → A 60 x = hdN p vars j x) ∧ (∀ i, -1 ≤ A 58 i ∧ A 58 i ≤ 7)
theorem s_De_cw_16 {F0 A0 : Nat → Nat → Int} {t vr : Nat} (ht : TR t) (hvr : vr = 62) {vars : Nat → Int} (hvar : ∀ l, l < 8 → A0 vr l = vars l) (hV : ∀ i, -1 ≤ vars i ∧ vars i ≤ 7) (hl : 0 ≤ F0 t 4 ∧ F0 t 4 < 256) {p : Nat → Bool} (hp : ∀ l, p l = decide (ibit (F0 t 4) l = 1 ∧ ¬ vars l = -1)) :
    ∀ (c j : Nat) (F A : Nat → Nat → Int), j + c = 8 → (∀ o, ¬ o = 57 → F o = F0 o) → (∀ a, ¬ (58 ≤ a ∧ a ≤ 60) → A a = A0 a) → CS F A p vars j →
      ∃ F' A', (∀ o, ¬ o = 57 → F' o = F0 o) ∧ (∀ a, ¬ (58 ≤ a ∧ a ≤ 60) → A' a = A0 a) ∧ CS F' A' p vars 8 ∧ ∀ d Q, Rj d 9 16 [.ref 57, .ref t, .ref vr, .ref 53, .int (jI j)] [] (HW L xs F A B hs t1 t2) Q = Rj d 9 94 [.ref 57, .ref t, .ref vr, .ref 53, .int (jI 8)] [] (HW L xs F' A' B hs t1 t2) Q
  | 0, j, F, A, hc, hF, hA, hS => by
    refine ⟨F, A, hF, hA, by rw [show 8 = j by omega]; exact hS, fun d Q => ?_⟩
    rw [b_Deal_countWays_16]
    simp (disch := omega) only [rn_nil, rn_iconst, rn_ldc2, rn_iadd, rn_isub, rn_imul, rn_iand, rn_ior, rn_ixor, rn_ishl, rn_ishr, rn_iushr, rn_ineg, rn_ladd, rn_lsub, rn_lmul, rn_land, rn_lor, rn_lshl, rn_lushr, rn_lcmp, rn_i2l, rn_l2i, rn_dupI, rn_dupR, rn_popI, rn_dup2, rn_idiv, rn_irem, rn_ldiv, rn_lrem, rn_dadd, rn_dsub, rn_dmul, rn_objinit, rn_iload, rn_lload, rn_aload, rn_istore, rn_astore, rn_lstore, rn_iinc, rn_getfield, rn_iaload, rn_laload, rn_aaload, rn_arraylength, rn_putfield, rn_iastore, rn_lastore, rn_goto, rn_ifCond_eq, rn_if_icmp_eq, rn_ifCond_ne, rn_if_icmp_ne, rn_ifCond_lt, rn_if_icmp_lt, rn_ifCond_ge, rn_if_icmp_ge, rn_ifCond_gt, rn_if_icmp_gt, rn_ifCond_le, rn_if_icmp_le, rn_ireturn, rn_lreturn, rn_return, rL_I, rL_L, rL_R, rS_t, rI_t, rG_s, rG_i, rP_s, rP_i, kq_v, kq_s, ok_0, ok_1I, ok_1R, ok_1N, ok_s, rc8_0, rc8_1, rc8_2, rc8_3, rc8_4, List.getElem?_cons_zero, List.getElem?_cons_succ, List.set_cons_zero, List.set_cons_succ, true_and, and_true, if_true, if_false, Int.toNat_natCast, Int.reduceToNat, Int.reduceAdd, Int.reduceSub, Int.reduceMul, Int.reduceNeg, Nat.reduceAdd, Int.reduceLT, Int.reduceLE, Int.reduceEq, reduceIte, w_ck_57, w_g_57_0, w_g_57_1, w_g_57_2, w_g_57_3, w_g_57_4, w_p_57_4, w_g_57_5, w_p_57_5, w_g_57_6, w_p_57_6, w_g_57_7, w_p_57_7, w_r_58, w_l_58, w_w_58, w_r_59, w_l_59, w_w_59, w_r_60, w_l_60, w_w_60, w_r_61, w_l_61, w_w_61, jI_add, jI_sub, jI_mul, jI_neg, jI_eq, jI_le, jI_lt, jI_eq0, jI_eq1, jI_lt0, jI_0lt, jI_le0, jI_0le, jI_clamp, jI_inBT, kL_0, kL_1, kL_2, kL_5, kL_6, kL_7, kL_10, kL_11, kL_15, kL_23, kL_31, kL_39, kL_97, kL_99, kL_104, kL_255, kL_349, kL_999, kL_1771561, kL_16777215, kL_4294967295, kL_18446744073709551615, jI_toL, rn_zB, rn_z0, rn_z1, jIB_eq0, jIB_eq1, jIB_eqJ, jB_def, jB_not, jB_and, jB_or, jB_nand, jB_nor, jB_ite, mrg, Decidable.not_not, ite_not, u2_s, u2_n, Int.add_sub_cancel, Int.sub_add_cancel]
    rw [if_pos (by omega), show j = 8 by omega]
    rfl
  | c + 1, j, F, A, hc, hF, hA, hS => by
    have t0 : t = 63 ∨ t = 67 := ht
    have hw : WT[vr]? = some (0, 8, []) := by rw [hvr]; rfl
    obtain ⟨q1, q2, q3, q4, q5⟩ := hS
    have av : A vr j = vars j := by rw [hA vr (by omega)]; exact hvar j (by omega)
    have f4 : F t 4 = F0 t 4 := by rw [hF t (by omega)]
    have v0 := hV j
    have b0 := ibit_01 (F0 t 4) j
    have len := seL_len (p := p) j
    have av2 : u2 A 58 j (vars j) vr j = vars j := by rw [u2_n (by omega)]; exact av
    have dr : ∀ i, -1 ≤ u2 A 58 j (vars j) 58 i ∧ u2 A 58 j (vars j) 58 i ≤ 7 := by
      intro i
      by_cases e : i = j
      · rw [e, u2_s]; exact v0
      · rw [u2_n (by omega)]; exact q5 i
    by_cases g : p j = true
    · have gp := g
      rw [hp j] at gp
      have gp2 := of_decide_eq_true gp
      have hle := hdN_le (p := p) (vars := vars) (x := (vars j).toNat) j
      have a60 := q4 (vars j).toNat (by omega)
      have sS : seL p (j + 1) = seL p j ++ [j] := by rw [seL, if_pos g]
      obtain ⟨F', A', r1, r2, r3, r4⟩ := s_De_cw_16 ht hvr hvar hV hl hp c (j + 1) (u2 F 57 4 ((seL p j).length + 1)) (u2 (u2 (u2 A 58 j (vars j)) 59 (seL p j).length j) 60 (vars j).toNat ((hdN p vars j (vars j).toNat : Int) + 1)) (by omega) (fun o ho => by rw [u2_a ho]; exact hF o ho) (fun a ha => by rw [u2_a (by omega), u2_a (by omega), u2_a (by omega)]; exact hA a ha) ⟨by rw [u2_s, sS, List.length_append, List.length_singleton]; omega, fun l hl2 => by
        rw [u2_n (by omega), u2_n (by omega)]
        by_cases e : l = j
        · rw [e, u2_s]
        · rw [u2_n (by omega)]; exact q2 l (by omega), fun i hi => by
        rw [sS, List.length_append, List.length_singleton] at hi
        rw [sS, getD_app (by omega), u2_n (by omega)]
        by_cases e : i = (seL p j).length
        · rw [e, u2_s, if_pos rfl]
        · rw [u2_n (by omega), u2_n (by omega), if_neg e]; exact q3 i (by omega), fun x hx => by
        have eh : hdN p vars (j + 1) x = hdN p vars j x + (if p j = true ∧ vars j = (x : Int) then 1 else 0) := rfl
        rw [eh]
        by_cases e : x = (vars j).toNat
        · rw [if_pos ⟨g, by omega⟩, e, u2_s]; omega
        · rw [if_neg (by omega), u2_n (by omega), u2_n (by omega), u2_n (by omega), Nat.add_zero]; exact q4 x hx, fun i => by
        rw [u2_n (by omega), u2_n (by omega)]; exact dr i⟩
      refine ⟨F', A', r1, r2, r3, fun d Q => ?_⟩
      have n1 : ¬ vars j = -1 := gp2.2
      have e60 : A 60 (vars j).toNat = hdN p vars j (vars j).toNat := a60
      rw [b_Deal_countWays_16]
      simp (disch := omega) only [b_Deal_countWays_23, b_Deal_countWays_46, b_Deal_countWays_54, rn_nil, rn_iconst, rn_ldc2, rn_iadd, rn_isub, rn_imul, rn_iand, rn_ior, rn_ixor, rn_ishl, rn_ishr, rn_iushr, rn_ineg, rn_ladd, rn_lsub, rn_lmul, rn_land, rn_lor, rn_lshl, rn_lushr, rn_lcmp, rn_i2l, rn_l2i, rn_dupI, rn_dupR, rn_popI, rn_dup2, rn_idiv, rn_irem, rn_ldiv, rn_lrem, rn_dadd, rn_dsub, rn_dmul, rn_objinit, rn_iload, rn_lload, rn_aload, rn_istore, rn_astore, rn_lstore, rn_iinc, rn_getfield, rn_iaload, rn_laload, rn_aaload, rn_arraylength, rn_putfield, rn_iastore, rn_lastore, rn_goto, rn_ifCond_eq, rn_if_icmp_eq, rn_ifCond_ne, rn_if_icmp_ne, rn_ifCond_lt, rn_if_icmp_lt, rn_ifCond_ge, rn_if_icmp_ge, rn_ifCond_gt, rn_if_icmp_gt, rn_ifCond_le, rn_if_icmp_le, rn_ireturn, rn_lreturn, rn_return, rL_I, rL_L, rL_R, rS_t, rI_t, rG_s, rG_i, rP_s, rP_i, kq_v, kq_s, ok_0, ok_1I, ok_1R, ok_1N, ok_s, rc8_0, rc8_1, rc8_2, rc8_3, rc8_4, List.getElem?_cons_zero, List.getElem?_cons_succ, List.set_cons_zero, List.set_cons_succ, true_and, and_true, if_true, if_false, Int.toNat_natCast, Int.reduceToNat, Int.reduceAdd, Int.reduceSub, Int.reduceMul, Int.reduceNeg, Nat.reduceAdd, Int.reduceLT, Int.reduceLE, Int.reduceEq, reduceIte, w_ck_57, w_g_57_0, w_g_57_1, w_g_57_2, w_g_57_3, w_g_57_4, w_p_57_4, w_g_57_5, w_p_57_5, w_g_57_6, w_p_57_6, w_g_57_7, w_p_57_7, w_r_58, w_l_58, w_w_58, w_r_59, w_l_59, w_w_59, w_r_60, w_l_60, w_w_60, w_r_61, w_l_61, w_w_61, jI_add, jI_sub, jI_mul, jI_neg, jI_eq, jI_le, jI_lt, jI_eq0, jI_eq1, jI_lt0, jI_0lt, jI_le0, jI_0le, jI_clamp, jI_inBT, kL_0, kL_1, kL_2, kL_5, kL_6, kL_7, kL_10, kL_11, kL_15, kL_23, kL_31, kL_39, kL_97, kL_99, kL_104, kL_255, kL_349, kL_999, kL_1771561, kL_16777215, kL_4294967295, kL_18446744073709551615, jI_toL, rn_zB, rn_z0, rn_z1, jIB_eq0, jIB_eq1, jIB_eqJ, jB_def, jB_not, jB_and, jB_or, jB_nand, jB_nor, jB_ite, mrg, Decidable.not_not, ite_not, u2_s, u2_n, Int.add_sub_cancel, Int.sub_add_cancel, hw_rd hw, av, w_g_T4 ht, f4, jI_bit, gp2.1, n1, q1, e60, Int.toNat_natCast]
      rw [if_neg (by omega), b_Deal_countWays_88]
      simp (disch := omega) only [rn_nil, rn_iconst, rn_ldc2, rn_iadd, rn_isub, rn_imul, rn_iand, rn_ior, rn_ixor, rn_ishl, rn_ishr, rn_iushr, rn_ineg, rn_ladd, rn_lsub, rn_lmul, rn_land, rn_lor, rn_lshl, rn_lushr, rn_lcmp, rn_i2l, rn_l2i, rn_dupI, rn_dupR, rn_popI, rn_dup2, rn_idiv, rn_irem, rn_ldiv, rn_lrem, rn_dadd, rn_dsub, rn_dmul, rn_objinit, rn_iload, rn_lload, rn_aload, rn_istore, rn_astore, rn_lstore, rn_iinc, rn_getfield, rn_iaload, rn_laload, rn_aaload, rn_arraylength, rn_putfield, rn_iastore, rn_lastore, rn_goto, rn_ifCond_eq, rn_if_icmp_eq, rn_ifCond_ne, rn_if_icmp_ne, rn_ifCond_lt, rn_if_icmp_lt, rn_ifCond_ge, rn_if_icmp_ge, rn_ifCond_gt, rn_if_icmp_gt, rn_ifCond_le, rn_if_icmp_le, rn_ireturn, rn_lreturn, rn_return, rL_I, rL_L, rL_R, rS_t, rI_t, rG_s, rG_i, rP_s, rP_i, kq_v, kq_s, ok_0, ok_1I, ok_1R, ok_1N, ok_s, rc8_0, rc8_1, rc8_2, rc8_3, rc8_4, List.getElem?_cons_zero, List.getElem?_cons_succ, List.set_cons_zero, List.set_cons_succ, true_and, and_true, if_true, if_false, Int.toNat_natCast, Int.reduceToNat, Int.reduceAdd, Int.reduceSub, Int.reduceMul, Int.reduceNeg, Nat.reduceAdd, Int.reduceLT, Int.reduceLE, Int.reduceEq, reduceIte, w_ck_57, w_g_57_0, w_g_57_1, w_g_57_2, w_g_57_3, w_g_57_4, w_p_57_4, w_g_57_5, w_p_57_5, w_g_57_6, w_p_57_6, w_g_57_7, w_p_57_7, w_r_58, w_l_58, w_w_58, w_r_59, w_l_59, w_w_59, w_r_60, w_l_60, w_w_60, w_r_61, w_l_61, w_w_61, jI_add, jI_sub, jI_mul, jI_neg, jI_eq, jI_le, jI_lt, jI_eq0, jI_eq1, jI_lt0, jI_0lt, jI_le0, jI_0le, jI_clamp, jI_inBT, kL_0, kL_1, kL_2, kL_5, kL_6, kL_7, kL_10, kL_11, kL_15, kL_23, kL_31, kL_39, kL_97, kL_99, kL_104, kL_255, kL_349, kL_999, kL_1771561, kL_16777215, kL_4294967295, kL_18446744073709551615, jI_toL, rn_zB, rn_z0, rn_z1, jIB_eq0, jIB_eq1, jIB_eqJ, jB_def, jB_not, jB_and, jB_or, jB_nand, jB_nor, jB_ite, mrg, Decidable.not_not, ite_not, u2_s, u2_n, Int.add_sub_cancel, Int.sub_add_cancel]
      rw [show (j : Int) + 1 = ((j + 1 : Nat) : Int) by omega]
      exact r4 d Q
    · have sS : seL p (j + 1) = seL p j := by rw [seL, if_neg g]
      obtain ⟨F', A', r1, r2, r3, r4⟩ := s_De_cw_16 ht hvr hvar hV hl hp c (j + 1) F (u2 A 58 j (vars j)) (by omega) hF (fun a ha => by rw [u2_a (by omega)]; exact hA a ha) ⟨by rw [sS]; exact q1, fun l hl2 => by
        by_cases e : l = j
        · rw [e, u2_s]
        · rw [u2_n (by omega)]; exact q2 l (by omega), fun i hi => by
        rw [sS] at hi ⊢
        rw [u2_n (by omega)]; exact q3 i hi, fun x hx => by
        have eh : hdN p vars (j + 1) x = hdN p vars j x + (if p j = true ∧ vars j = (x : Int) then 1 else 0) := rfl
        rw [eh, if_neg (fun e => g e.1), Nat.add_zero, u2_n (by omega)]; exact q4 x hx, dr⟩
      refine ⟨F', A', r1, r2, r3, fun d Q => ?_⟩
      rw [hp j] at g
      rw [b_Deal_countWays_16]
      by_cases g0 : ibit (F0 t 4) j = 0
      · simp (disch := omega) only [b_Deal_countWays_23, rn_nil, rn_iconst, rn_ldc2, rn_iadd, rn_isub, rn_imul, rn_iand, rn_ior, rn_ixor, rn_ishl, rn_ishr, rn_iushr, rn_ineg, rn_ladd, rn_lsub, rn_lmul, rn_land, rn_lor, rn_lshl, rn_lushr, rn_lcmp, rn_i2l, rn_l2i, rn_dupI, rn_dupR, rn_popI, rn_dup2, rn_idiv, rn_irem, rn_ldiv, rn_lrem, rn_dadd, rn_dsub, rn_dmul, rn_objinit, rn_iload, rn_lload, rn_aload, rn_istore, rn_astore, rn_lstore, rn_iinc, rn_getfield, rn_iaload, rn_laload, rn_aaload, rn_arraylength, rn_putfield, rn_iastore, rn_lastore, rn_goto, rn_ifCond_eq, rn_if_icmp_eq, rn_ifCond_ne, rn_if_icmp_ne, rn_ifCond_lt, rn_if_icmp_lt, rn_ifCond_ge, rn_if_icmp_ge, rn_ifCond_gt, rn_if_icmp_gt, rn_ifCond_le, rn_if_icmp_le, rn_ireturn, rn_lreturn, rn_return, rL_I, rL_L, rL_R, rS_t, rI_t, rG_s, rG_i, rP_s, rP_i, kq_v, kq_s, ok_0, ok_1I, ok_1R, ok_1N, ok_s, rc8_0, rc8_1, rc8_2, rc8_3, rc8_4, List.getElem?_cons_zero, List.getElem?_cons_succ, List.set_cons_zero, List.set_cons_succ, true_and, and_true, if_true, if_false, Int.toNat_natCast, Int.reduceToNat, Int.reduceAdd, Int.reduceSub, Int.reduceMul, Int.reduceNeg, Nat.reduceAdd, Int.reduceLT, Int.reduceLE, Int.reduceEq, reduceIte, w_ck_57, w_g_57_0, w_g_57_1, w_g_57_2, w_g_57_3, w_g_57_4, w_p_57_4, w_g_57_5, w_p_57_5, w_g_57_6, w_p_57_6, w_g_57_7, w_p_57_7, w_r_58, w_l_58, w_w_58, w_r_59, w_l_59, w_w_59, w_r_60, w_l_60, w_w_60, w_r_61, w_l_61, w_w_61, jI_add, jI_sub, jI_mul, jI_neg, jI_eq, jI_le, jI_lt, jI_eq0, jI_eq1, jI_lt0, jI_0lt, jI_le0, jI_0le, jI_clamp, jI_inBT, kL_0, kL_1, kL_2, kL_5, kL_6, kL_7, kL_10, kL_11, kL_15, kL_23, kL_31, kL_39, kL_97, kL_99, kL_104, kL_255, kL_349, kL_999, kL_1771561, kL_16777215, kL_4294967295, kL_18446744073709551615, jI_toL, rn_zB, rn_z0, rn_z1, jIB_eq0, jIB_eq1, jIB_eqJ, jB_def, jB_not, jB_and, jB_or, jB_nand, jB_nor, jB_ite, mrg, Decidable.not_not, ite_not, u2_s, u2_n, Int.add_sub_cancel, Int.sub_add_cancel, hw_rd hw, av, w_g_T4 ht, f4, jI_bit, g0, Int.toNat_natCast]
        rw [if_neg (by omega), b_Deal_countWays_88]
        simp (disch := omega) only [rn_nil, rn_iconst, rn_ldc2, rn_iadd, rn_isub, rn_imul, rn_iand, rn_ior, rn_ixor, rn_ishl, rn_ishr, rn_iushr, rn_ineg, rn_ladd, rn_lsub, rn_lmul, rn_land, rn_lor, rn_lshl, rn_lushr, rn_lcmp, rn_i2l, rn_l2i, rn_dupI, rn_dupR, rn_popI, rn_dup2, rn_idiv, rn_irem, rn_ldiv, rn_lrem, rn_dadd, rn_dsub, rn_dmul, rn_objinit, rn_iload, rn_lload, rn_aload, rn_istore, rn_astore, rn_lstore, rn_iinc, rn_getfield, rn_iaload, rn_laload, rn_aaload, rn_arraylength, rn_putfield, rn_iastore, rn_lastore, rn_goto, rn_ifCond_eq, rn_if_icmp_eq, rn_ifCond_ne, rn_if_icmp_ne, rn_ifCond_lt, rn_if_icmp_lt, rn_ifCond_ge, rn_if_icmp_ge, rn_ifCond_gt, rn_if_icmp_gt, rn_ifCond_le, rn_if_icmp_le, rn_ireturn, rn_lreturn, rn_return, rL_I, rL_L, rL_R, rS_t, rI_t, rG_s, rG_i, rP_s, rP_i, kq_v, kq_s, ok_0, ok_1I, ok_1R, ok_1N, ok_s, rc8_0, rc8_1, rc8_2, rc8_3, rc8_4, List.getElem?_cons_zero, List.getElem?_cons_succ, List.set_cons_zero, List.set_cons_succ, true_and, and_true, if_true, if_false, Int.toNat_natCast, Int.reduceToNat, Int.reduceAdd, Int.reduceSub, Int.reduceMul, Int.reduceNeg, Nat.reduceAdd, Int.reduceLT, Int.reduceLE, Int.reduceEq, reduceIte, w_ck_57, w_g_57_0, w_g_57_1, w_g_57_2, w_g_57_3, w_g_57_4, w_p_57_4, w_g_57_5, w_p_57_5, w_g_57_6, w_p_57_6, w_g_57_7, w_p_57_7, w_r_58, w_l_58, w_w_58, w_r_59, w_l_59, w_w_59, w_r_60, w_l_60, w_w_60, w_r_61, w_l_61, w_w_61, jI_add, jI_sub, jI_mul, jI_neg, jI_eq, jI_le, jI_lt, jI_eq0, jI_eq1, jI_lt0, jI_0lt, jI_le0, jI_0le, jI_clamp, jI_inBT, kL_0, kL_1, kL_2, kL_5, kL_6, kL_7, kL_10, kL_11, kL_15, kL_23, kL_31, kL_39, kL_97, kL_99, kL_104, kL_255, kL_349, kL_999, kL_1771561, kL_16777215, kL_4294967295, kL_18446744073709551615, jI_toL, rn_zB, rn_z0, rn_z1, jIB_eq0, jIB_eq1, jIB_eqJ, jB_def, jB_not, jB_and, jB_or, jB_nand, jB_nor, jB_ite, mrg, Decidable.not_not, ite_not, u2_s, u2_n, Int.add_sub_cancel, Int.sub_add_cancel]
        rw [show (j : Int) + 1 = ((j + 1 : Nat) : Int) by omega]
        exact r4 d Q
      · have g1 : ibit (F0 t 4) j = 1 := by omega
        have n1 : vars j = -1 := by
          by_cases e : vars j = -1
          · exact e
          · exact absurd (decide_eq_true ⟨g1, e⟩) g
        have av' : A vr j = -1 := by rw [av, n1]
        rw [n1] at r4
        simp (disch := omega) only [b_Deal_countWays_23, b_Deal_countWays_46, rn_nil, rn_iconst, rn_ldc2, rn_iadd, rn_isub, rn_imul, rn_iand, rn_ior, rn_ixor, rn_ishl, rn_ishr, rn_iushr, rn_ineg, rn_ladd, rn_lsub, rn_lmul, rn_land, rn_lor, rn_lshl, rn_lushr, rn_lcmp, rn_i2l, rn_l2i, rn_dupI, rn_dupR, rn_popI, rn_dup2, rn_idiv, rn_irem, rn_ldiv, rn_lrem, rn_dadd, rn_dsub, rn_dmul, rn_objinit, rn_iload, rn_lload, rn_aload, rn_istore, rn_astore, rn_lstore, rn_iinc, rn_getfield, rn_iaload, rn_laload, rn_aaload, rn_arraylength, rn_putfield, rn_iastore, rn_lastore, rn_goto, rn_ifCond_eq, rn_if_icmp_eq, rn_ifCond_ne, rn_if_icmp_ne, rn_ifCond_lt, rn_if_icmp_lt, rn_ifCond_ge, rn_if_icmp_ge, rn_ifCond_gt, rn_if_icmp_gt, rn_ifCond_le, rn_if_icmp_le, rn_ireturn, rn_lreturn, rn_return, rL_I, rL_L, rL_R, rS_t, rI_t, rG_s, rG_i, rP_s, rP_i, kq_v, kq_s, ok_0, ok_1I, ok_1R, ok_1N, ok_s, rc8_0, rc8_1, rc8_2, rc8_3, rc8_4, List.getElem?_cons_zero, List.getElem?_cons_succ, List.set_cons_zero, List.set_cons_succ, true_and, and_true, if_true, if_false, Int.toNat_natCast, Int.reduceToNat, Int.reduceAdd, Int.reduceSub, Int.reduceMul, Int.reduceNeg, Nat.reduceAdd, Int.reduceLT, Int.reduceLE, Int.reduceEq, reduceIte, w_ck_57, w_g_57_0, w_g_57_1, w_g_57_2, w_g_57_3, w_g_57_4, w_p_57_4, w_g_57_5, w_p_57_5, w_g_57_6, w_p_57_6, w_g_57_7, w_p_57_7, w_r_58, w_l_58, w_w_58, w_r_59, w_l_59, w_w_59, w_r_60, w_l_60, w_w_60, w_r_61, w_l_61, w_w_61, jI_add, jI_sub, jI_mul, jI_neg, jI_eq, jI_le, jI_lt, jI_eq0, jI_eq1, jI_lt0, jI_0lt, jI_le0, jI_0le, jI_clamp, jI_inBT, kL_0, kL_1, kL_2, kL_5, kL_6, kL_7, kL_10, kL_11, kL_15, kL_23, kL_31, kL_39, kL_97, kL_99, kL_104, kL_255, kL_349, kL_999, kL_1771561, kL_16777215, kL_4294967295, kL_18446744073709551615, jI_toL, rn_zB, rn_z0, rn_z1, jIB_eq0, jIB_eq1, jIB_eqJ, jB_def, jB_not, jB_and, jB_or, jB_nand, jB_nor, jB_ite, mrg, Decidable.not_not, ite_not, u2_s, u2_n, Int.add_sub_cancel, Int.sub_add_cancel, hw_rd hw, av', w_g_T4 ht, f4, jI_bit, g1, Int.toNat_natCast]
        rw [if_neg (by omega), b_Deal_countWays_88]
        simp (disch := omega) only [rn_nil, rn_iconst, rn_ldc2, rn_iadd, rn_isub, rn_imul, rn_iand, rn_ior, rn_ixor, rn_ishl, rn_ishr, rn_iushr, rn_ineg, rn_ladd, rn_lsub, rn_lmul, rn_land, rn_lor, rn_lshl, rn_lushr, rn_lcmp, rn_i2l, rn_l2i, rn_dupI, rn_dupR, rn_popI, rn_dup2, rn_idiv, rn_irem, rn_ldiv, rn_lrem, rn_dadd, rn_dsub, rn_dmul, rn_objinit, rn_iload, rn_lload, rn_aload, rn_istore, rn_astore, rn_lstore, rn_iinc, rn_getfield, rn_iaload, rn_laload, rn_aaload, rn_arraylength, rn_putfield, rn_iastore, rn_lastore, rn_goto, rn_ifCond_eq, rn_if_icmp_eq, rn_ifCond_ne, rn_if_icmp_ne, rn_ifCond_lt, rn_if_icmp_lt, rn_ifCond_ge, rn_if_icmp_ge, rn_ifCond_gt, rn_if_icmp_gt, rn_ifCond_le, rn_if_icmp_le, rn_ireturn, rn_lreturn, rn_return, rL_I, rL_L, rL_R, rS_t, rI_t, rG_s, rG_i, rP_s, rP_i, kq_v, kq_s, ok_0, ok_1I, ok_1R, ok_1N, ok_s, rc8_0, rc8_1, rc8_2, rc8_3, rc8_4, List.getElem?_cons_zero, List.getElem?_cons_succ, List.set_cons_zero, List.set_cons_succ, true_and, and_true, if_true, if_false, Int.toNat_natCast, Int.reduceToNat, Int.reduceAdd, Int.reduceSub, Int.reduceMul, Int.reduceNeg, Nat.reduceAdd, Int.reduceLT, Int.reduceLE, Int.reduceEq, reduceIte, w_ck_57, w_g_57_0, w_g_57_1, w_g_57_2, w_g_57_3, w_g_57_4, w_p_57_4, w_g_57_5, w_p_57_5, w_g_57_6, w_p_57_6, w_g_57_7, w_p_57_7, w_r_58, w_l_58, w_w_58, w_r_59, w_l_59, w_w_59, w_r_60, w_l_60, w_w_60, w_r_61, w_l_61, w_w_61, jI_add, jI_sub, jI_mul, jI_neg, jI_eq, jI_le, jI_lt, jI_eq0, jI_eq1, jI_lt0, jI_0lt, jI_le0, jI_0le, jI_clamp, jI_inBT, kL_0, kL_1, kL_2, kL_5, kL_6, kL_7, kL_10, kL_11, kL_15, kL_23, kL_31, kL_39, kL_97, kL_99, kL_104, kL_255, kL_349, kL_999, kL_1771561, kL_16777215, kL_4294967295, kL_18446744073709551615, jI_toL, rn_zB, rn_z0, rn_z1, jIB_eq0, jIB_eq1, jIB_eqJ, jB_def, jB_not, jB_and, jB_or, jB_nand, jB_nor, jB_ite, mrg, Decidable.not_not, ite_not, u2_s, u2_n, Int.add_sub_cancel, Int.sub_add_cancel]
        rw [show (j : Int) + 1 = ((j + 1 : Nat) : Int) by omega]
        exact r4 d Q
theorem s_De_cw {F A : Nat → Nat → Int} {t m : Nat} {par land vars : Nat → Int} (hC : CT t 62 F A par land vars m) (hA54 : ∀ i, 0 ≤ A 54 i ∧ A 54 i ≤ 100000) (hA58 : ∀ i, -1 ≤ A 58 i ∧ A 58 i ≤ 7) (hl : 0 ≤ F t 4 ∧ F t 4 < 256) {p : Nat → Bool} (hp : ∀ l, p l = decide (ibit (F t 4) l = 1 ∧ ¬ vars l = -1)) :
    ∃ (F' A' : Nat → Nat → Int) (v : Nat → Int), (∀ o, ¬ o = 57 → F' o = F o) ∧ (∀ a, ¬ a = 54 → ¬ (58 ≤ a ∧ a ≤ 61) → A' a = A a) ∧ (∀ i, 0 ≤ A' 54 i ∧ A' 54 i ≤ 100000) ∧ (∀ i, -1 ≤ A' 58 i ∧ A' 58 i ≤ 7) ∧ (∀ i, -1 ≤ v i ∧ v i ≤ 7) ∧ (∀ l, l < 8 → v l = vars l) ∧ F' 57 6 = ((KK (fun _ => true) (hdN p vars 8) (seL p 8) (hdN p vars 8) v : Nat) : Int) ∧ F' 57 7 = ((KK (fun v => decide (lcV par land v m ≤ lcV par land vars m)) (hdN p vars 8) (seL p 8) (hdN p vars 8) v : Nat) : Int) ∧ ∀ d Q, Rj (d + 13) 9 0 [.ref 57, .ref t, .ref 62, .ref 53, .null] [] (HW L xs F A B hs t1 t2) Q = Q none (HW L xs F' A' B hs t1 t2) := by
  have t0 : t = 63 ∨ t = 67 := hC.1
  have h3 := hC.2.2.2.1
  have hL := hC.2.2.2.2.2.2.1
  have hV := hC.2.2.2.2.2.2.2.1
  have h0 := hC.2.2.2.2.2.2.2.2.1
  have K := Tab_ok (par := par) h3.2 hL hV
  have lc := lcV_mn h3 hL hV h0
  obtain ⟨F1, A1, r1, r2, r3, r4⟩ := s_De_cw_16 (L := L) (xs := xs) (B := B) (hs := hs) (t1 := t1) (t2 := t2) hC.1 rfl (vr := 62) (F0 := F) (A0 := A) hC.2.2.2.2.2.1 hV hl hp 8 0 (u2 F 57 4 0) (flI A 60 0 8) (by omega) (fun o ho => u2_a ho) (fun a ha => flI_o (by omega)) ⟨u2_s, fun l hl => by omega, fun i hi => by simp [seL] at hi, fun x hx => by
    unfold flI
    rw [if_pos ⟨rfl, hx⟩]
    rfl, by rw [flI_o (by omega)]; exact hA58⟩
  obtain ⟨q1, q2, q3, q4, q5⟩ := r3
  have hC1 : CT t 62 F1 (cp8 A1 60 61) par land vars m := by
    obtain ⟨c1, c2, c3, c4, c5, c6, c7⟩ := hC
    have cpo : ∀ a, ¬ a = 61 → cp8 A1 60 61 a = A1 a := by
      intro a ha
      funext i
      unfold cp8
      rw [if_neg (by omega)]
    refine ⟨c1, c2, by rw [r1 t (by omega)]; exact c3, c4, ?_, ?_, c7⟩
    · rw [cpo (t + 1) (by omega), cpo (t + 2) (by omega), r2 (t + 1) (by omega), r2 (t + 2) (by omega)]; exact c5
    · rw [cpo 62 (by omega), r2 62 (by omega)]; exact c6
  have cpo : ∀ a, ¬ a = 61 → cp8 A1 60 61 a = A1 a := by
    intro a ha
    funext i
    unfold cp8
    rw [if_neg (by omega)]
  have a54 : ∀ i, 0 ≤ cp8 A1 60 61 54 i ∧ cp8 A1 60 61 54 i ≤ 100000 := by rw [cpo 54 (by omega), r2 54 (by omega)]; exact hA54
  -- the tables as the deals begin
  generalize hA3 : wbA (Tab par land vars m) m (cp8 A1 60 61) = A3
  have o3 : ∀ a, ¬ a = 54 → ¬ a = 61 → A3 a = A1 a := by
    intro a a1 a2
    rw [← hA3, wbA_o a1, cpo a a2]
  have x61 : ∀ z, z < 8 → A3 61 z = hdN p vars 8 z := by
    intro z hz
    rw [← hA3, wbA_o (by omega)]
    unfold cp8
    rw [if_pos ⟨rfl, hz⟩]
    exact q4 z hz
  have hD : DS (u2 F1 57 5 (lcV par land vars m)) A3 t par land m (lcV par land vars m) (hdN p vars 8) (seL p 8) := by
    refine ⟨hC.1, by rw [u2_n (by omega), r1 t (by omega)]; exact hC.2.2.1, h3, ?_, hL, h0, hC.2.2.2.2.2.2.2.2.2, by rw [u2_n (by omega)]; exact q1, u2_s, by omega, ?_, ?_, fun z => hdN_le 8, seL_len 8⟩
    · rw [o3 (t + 1) (by omega) (by omega), o3 (t + 2) (by omega) (by omega), r2 (t + 1) (by omega), r2 (t + 2) (by omega)]
      exact hC.2.2.2.2.1
    · intro i hi
      refine ⟨by rw [o3 59 (by omega) (by omega)]; exact q3 i hi, ?_⟩
      have : (seL p 8).getD i 0 ∈ seL p 8 := by
        rw [List.getD_eq_getElem?_getD, List.getElem?_eq_getElem hi]
        exact List.getElem_mem hi
      exact ((seL_mem 8 _).mp this).1
    · rw [o3 60 (by omega) (by omega)]; exact q4
  have len8 := seL_len (p := p) 8
  have p8 : 8 ^ (seL p 8).length ≤ 16777216 := by
    have : 8 ^ (seL p 8).length ≤ 8 ^ 8 := Nat.pow_le_pow_right (by omega) len8
    have c : (8 : Nat) ^ 8 = 16777216 := by decide
    omega
  have r54 : ∀ i, 0 ≤ A3 54 i ∧ A3 54 i ≤ 100000 := by rw [← hA3]; exact wbA_rng K.2.2.2 a54
  have r58 : ∀ i, -1 ≤ A3 58 i ∧ A3 58 i ≤ 7 := by rw [o3 58 (by omega) (by omega)]; exact q5
  obtain ⟨A4, s1, s2, s3, s4, s5, s6⟩ := s_De_from (L := L) (xs := xs) (B := B) (hs := hs) (t1 := t1) (t2 := t2) hD (seL p 8) 0 (hdN p vars 8) A3 0 0 rfl (by omega) (fun _ _ _ _ => rfl) r54 r58 x61 (fun _ => Nat.le_refl _) (by omega) (by omega)
  refine ⟨FD (u2 F1 57 5 (lcV par land vars m)) ((KK (fun _ => true) (hdN p vars 8) (seL p 8) (hdN p vars 8) (A3 58) : Nat) : Int) ((KK (fun v => decide (lcV par land v m ≤ lcV par land vars m)) (hdN p vars 8) (seL p 8) (hdN p vars 8) (A3 58) : Nat) : Int), A4, A3 58, ?_, ?_, s2, s3, r58, fun l hl => by rw [o3 58 (by omega) (by omega)]; exact q2 l hl, FD_6, FD_7, fun d Q => ?_⟩
  · intro o ho
    unfold FD
    rw [u2_a ho, u2_a ho, u2_a ho]
    exact r1 o ho
  · intro a a1 a2
    rw [s1 a a1 (by omega) (by omega), o3 a a1 (by omega), r2 a (by omega)]
  · have s7 := s6 (d + (8 - (seL p 8).length)) (KQ (d + 12) 9 [.return_] 0 [.ref 57, .ref t, .ref 62, .ref 53, .int (jI 8)] [] Q)
    rw [show d + (8 - (seL p 8).length) + (seL p 8).length + 4 = d + 12 by omega, Nat.zero_add, Nat.zero_add] at s7
    have r5 := r4 (d + 13) Q
    rw [show ((0 : Nat) : Int) = 0 from rfl] at r5 s7
    have eF : FD (u2 F1 57 5 (lcV par land vars m)) 0 0 = u2 (u2 (u2 F1 57 5 (lcV par land vars m)) 57 6 0) 57 7 0 := rfl
    rw [eF] at s7
    rw [b_Deal_countWays_0]
    simp (disch := omega) only [rn_nil, rn_iconst, rn_ldc2, rn_iadd, rn_isub, rn_imul, rn_iand, rn_ior, rn_ixor, rn_ishl, rn_ishr, rn_iushr, rn_ineg, rn_ladd, rn_lsub, rn_lmul, rn_land, rn_lor, rn_lshl, rn_lushr, rn_lcmp, rn_i2l, rn_l2i, rn_dupI, rn_dupR, rn_popI, rn_dup2, rn_idiv, rn_irem, rn_ldiv, rn_lrem, rn_dadd, rn_dsub, rn_dmul, rn_objinit, rn_iload, rn_lload, rn_aload, rn_istore, rn_astore, rn_lstore, rn_iinc, rn_getfield, rn_iaload, rn_laload, rn_aaload, rn_arraylength, rn_putfield, rn_iastore, rn_lastore, rn_goto, rn_ifCond_eq, rn_if_icmp_eq, rn_ifCond_ne, rn_if_icmp_ne, rn_ifCond_lt, rn_if_icmp_lt, rn_ifCond_ge, rn_if_icmp_ge, rn_ifCond_gt, rn_if_icmp_gt, rn_ifCond_le, rn_if_icmp_le, rn_ireturn, rn_lreturn, rn_return, rL_I, rL_L, rL_R, rS_t, rI_t, rG_s, rG_i, rP_s, rP_i, kq_v, kq_s, ok_0, ok_1I, ok_1R, ok_1N, ok_s, rc8_0, rc8_1, rc8_2, rc8_3, rc8_4, List.getElem?_cons_zero, List.getElem?_cons_succ, List.set_cons_zero, List.set_cons_succ, true_and, and_true, if_true, if_false, Int.toNat_natCast, Int.reduceToNat, Int.reduceAdd, Int.reduceSub, Int.reduceMul, Int.reduceNeg, Nat.reduceAdd, Int.reduceLT, Int.reduceLE, Int.reduceEq, reduceIte, w_ck_57, w_g_57_0, w_g_57_1, w_g_57_2, w_g_57_3, w_g_57_4, w_p_57_4, w_g_57_5, w_p_57_5, w_g_57_6, w_p_57_6, w_g_57_7, w_p_57_7, w_r_58, w_l_58, w_w_58, w_r_59, w_l_59, w_w_59, w_r_60, w_l_60, w_w_60, w_r_61, w_l_61, w_w_61, jI_add, jI_sub, jI_mul, jI_neg, jI_eq, jI_le, jI_lt, jI_eq0, jI_eq1, jI_lt0, jI_0lt, jI_le0, jI_0le, jI_clamp, jI_inBT, kL_0, kL_1, kL_2, kL_5, kL_6, kL_7, kL_10, kL_11, kL_15, kL_23, kL_31, kL_39, kL_97, kL_99, kL_104, kL_255, kL_349, kL_999, kL_1771561, kL_16777215, kL_4294967295, kL_18446744073709551615, jI_toL, rn_zB, rn_z0, rn_z1, jIB_eq0, jIB_eq1, jIB_eqJ, jB_def, jB_not, jB_and, jB_or, jB_nand, jB_nor, jB_ite, mrg, Decidable.not_not, ite_not, u2_s, u2_n, Int.add_sub_cancel, Int.sub_add_cancel, c_Arrays_fill, s_fill (a := 60) (n := 8) rfl (show 8 ≤ 100000 by omega)]
    rw [r5, b_Deal_countWays_94]
    simp (disch := omega) only [rn_nil, rn_iconst, rn_ldc2, rn_iadd, rn_isub, rn_imul, rn_iand, rn_ior, rn_ixor, rn_ishl, rn_ishr, rn_iushr, rn_ineg, rn_ladd, rn_lsub, rn_lmul, rn_land, rn_lor, rn_lshl, rn_lushr, rn_lcmp, rn_i2l, rn_l2i, rn_dupI, rn_dupR, rn_popI, rn_dup2, rn_idiv, rn_irem, rn_ldiv, rn_lrem, rn_dadd, rn_dsub, rn_dmul, rn_objinit, rn_iload, rn_lload, rn_aload, rn_istore, rn_astore, rn_lstore, rn_iinc, rn_getfield, rn_iaload, rn_laload, rn_aaload, rn_arraylength, rn_putfield, rn_iastore, rn_lastore, rn_goto, rn_ifCond_eq, rn_if_icmp_eq, rn_ifCond_ne, rn_if_icmp_ne, rn_ifCond_lt, rn_if_icmp_lt, rn_ifCond_ge, rn_if_icmp_ge, rn_ifCond_gt, rn_if_icmp_gt, rn_ifCond_le, rn_if_icmp_le, rn_ireturn, rn_lreturn, rn_return, rL_I, rL_L, rL_R, rS_t, rI_t, rG_s, rG_i, rP_s, rP_i, kq_v, kq_s, ok_0, ok_1I, ok_1R, ok_1N, ok_s, rc8_0, rc8_1, rc8_2, rc8_3, rc8_4, List.getElem?_cons_zero, List.getElem?_cons_succ, List.set_cons_zero, List.set_cons_succ, true_and, and_true, if_true, if_false, Int.toNat_natCast, Int.reduceToNat, Int.reduceAdd, Int.reduceSub, Int.reduceMul, Int.reduceNeg, Nat.reduceAdd, Int.reduceLT, Int.reduceLE, Int.reduceEq, reduceIte, w_ck_57, w_g_57_0, w_g_57_1, w_g_57_2, w_g_57_3, w_g_57_4, w_p_57_4, w_g_57_5, w_p_57_5, w_g_57_6, w_p_57_6, w_g_57_7, w_p_57_7, w_r_58, w_l_58, w_w_58, w_r_59, w_l_59, w_w_59, w_r_60, w_l_60, w_w_60, w_r_61, w_l_61, w_w_61, jI_add, jI_sub, jI_mul, jI_neg, jI_eq, jI_le, jI_lt, jI_eq0, jI_eq1, jI_lt0, jI_0lt, jI_le0, jI_0le, jI_clamp, jI_inBT, kL_0, kL_1, kL_2, kL_5, kL_6, kL_7, kL_10, kL_11, kL_15, kL_23, kL_31, kL_39, kL_97, kL_99, kL_104, kL_255, kL_349, kL_999, kL_1771561, kL_16777215, kL_4294967295, kL_18446744073709551615, jI_toL, rn_zB, rn_z0, rn_z1, jIB_eq0, jIB_eq1, jIB_eqJ, jB_def, jB_not, jB_and, jB_or, jB_nand, jB_nor, jB_ite, mrg, Decidable.not_not, ite_not, u2_s, u2_n, Int.add_sub_cancel, Int.sub_add_cancel]
    rw [rn_copy (by rw [rc8_0]; trivial), hw_cp8 (a := 60) (b := 61) (n0 := 8) (n1 := 8) rfl rfl (by omega) (by omega)]
    simp (disch := omega) only [rn_nil, rn_iconst, rn_ldc2, rn_iadd, rn_isub, rn_imul, rn_iand, rn_ior, rn_ixor, rn_ishl, rn_ishr, rn_iushr, rn_ineg, rn_ladd, rn_lsub, rn_lmul, rn_land, rn_lor, rn_lshl, rn_lushr, rn_lcmp, rn_i2l, rn_l2i, rn_dupI, rn_dupR, rn_popI, rn_dup2, rn_idiv, rn_irem, rn_ldiv, rn_lrem, rn_dadd, rn_dsub, rn_dmul, rn_objinit, rn_iload, rn_lload, rn_aload, rn_istore, rn_astore, rn_lstore, rn_iinc, rn_getfield, rn_iaload, rn_laload, rn_aaload, rn_arraylength, rn_putfield, rn_iastore, rn_lastore, rn_goto, rn_ifCond_eq, rn_if_icmp_eq, rn_ifCond_ne, rn_if_icmp_ne, rn_ifCond_lt, rn_if_icmp_lt, rn_ifCond_ge, rn_if_icmp_ge, rn_ifCond_gt, rn_if_icmp_gt, rn_ifCond_le, rn_if_icmp_le, rn_ireturn, rn_lreturn, rn_return, rL_I, rL_L, rL_R, rS_t, rI_t, rG_s, rG_i, rP_s, rP_i, kq_v, kq_s, ok_0, ok_1I, ok_1R, ok_1N, ok_s, rc8_0, rc8_1, rc8_2, rc8_3, rc8_4, List.getElem?_cons_zero, List.getElem?_cons_succ, List.set_cons_zero, List.set_cons_succ, true_and, and_true, if_true, if_false, Int.toNat_natCast, Int.reduceToNat, Int.reduceAdd, Int.reduceSub, Int.reduceMul, Int.reduceNeg, Nat.reduceAdd, Int.reduceLT, Int.reduceLE, Int.reduceEq, reduceIte, w_ck_57, w_g_57_0, w_g_57_1, w_g_57_2, w_g_57_3, w_g_57_4, w_p_57_4, w_g_57_5, w_p_57_5, w_g_57_6, w_p_57_6, w_g_57_7, w_p_57_7, w_r_58, w_l_58, w_w_58, w_r_59, w_l_59, w_w_59, w_r_60, w_l_60, w_w_60, w_r_61, w_l_61, w_w_61, jI_add, jI_sub, jI_mul, jI_neg, jI_eq, jI_le, jI_lt, jI_eq0, jI_eq1, jI_lt0, jI_0lt, jI_le0, jI_0le, jI_clamp, jI_inBT, kL_0, kL_1, kL_2, kL_5, kL_6, kL_7, kL_10, kL_11, kL_15, kL_23, kL_31, kL_39, kL_97, kL_99, kL_104, kL_255, kL_349, kL_999, kL_1771561, kL_16777215, kL_4294967295, kL_18446744073709551615, jI_toL, rn_zB, rn_z0, rn_z1, jIB_eq0, jIB_eq1, jIB_eqJ, jB_def, jB_not, jB_and, jB_or, jB_nand, jB_nor, jB_ite, mrg, Decidable.not_not, ite_not, u2_s, u2_n, Int.add_sub_cancel, Int.sub_add_cancel, c_Changes_least, w_ck_53, s_Ch_least hC1 a54, hA3, c_Deal_dealFrom]
    rw [s7]
    simp (disch := omega) only [rn_nil, rn_iconst, rn_ldc2, rn_iadd, rn_isub, rn_imul, rn_iand, rn_ior, rn_ixor, rn_ishl, rn_ishr, rn_iushr, rn_ineg, rn_ladd, rn_lsub, rn_lmul, rn_land, rn_lor, rn_lshl, rn_lushr, rn_lcmp, rn_i2l, rn_l2i, rn_dupI, rn_dupR, rn_popI, rn_dup2, rn_idiv, rn_irem, rn_ldiv, rn_lrem, rn_dadd, rn_dsub, rn_dmul, rn_objinit, rn_iload, rn_lload, rn_aload, rn_istore, rn_astore, rn_lstore, rn_iinc, rn_getfield, rn_iaload, rn_laload, rn_aaload, rn_arraylength, rn_putfield, rn_iastore, rn_lastore, rn_goto, rn_ifCond_eq, rn_if_icmp_eq, rn_ifCond_ne, rn_if_icmp_ne, rn_ifCond_lt, rn_if_icmp_lt, rn_ifCond_ge, rn_if_icmp_ge, rn_ifCond_gt, rn_if_icmp_gt, rn_ifCond_le, rn_if_icmp_le, rn_ireturn, rn_lreturn, rn_return, rL_I, rL_L, rL_R, rS_t, rI_t, rG_s, rG_i, rP_s, rP_i, kq_v, kq_s, ok_0, ok_1I, ok_1R, ok_1N, ok_s, rc8_0, rc8_1, rc8_2, rc8_3, rc8_4, List.getElem?_cons_zero, List.getElem?_cons_succ, List.set_cons_zero, List.set_cons_succ, true_and, and_true, if_true, if_false, Int.toNat_natCast, Int.reduceToNat, Int.reduceAdd, Int.reduceSub, Int.reduceMul, Int.reduceNeg, Nat.reduceAdd, Int.reduceLT, Int.reduceLE, Int.reduceEq, reduceIte, w_ck_57, w_g_57_0, w_g_57_1, w_g_57_2, w_g_57_3, w_g_57_4, w_p_57_4, w_g_57_5, w_p_57_5, w_g_57_6, w_p_57_6, w_g_57_7, w_p_57_7, w_r_58, w_l_58, w_w_58, w_r_59, w_l_59, w_w_59, w_r_60, w_l_60, w_w_60, w_r_61, w_l_61, w_w_61, jI_add, jI_sub, jI_mul, jI_neg, jI_eq, jI_le, jI_lt, jI_eq0, jI_eq1, jI_lt0, jI_0lt, jI_le0, jI_0le, jI_clamp, jI_inBT, kL_0, kL_1, kL_2, kL_5, kL_6, kL_7, kL_10, kL_11, kL_15, kL_23, kL_31, kL_39, kL_97, kL_99, kL_104, kL_255, kL_349, kL_999, kL_1771561, kL_16777215, kL_4294967295, kL_18446744073709551615, jI_toL, rn_zB, rn_z0, rn_z1, jIB_eq0, jIB_eq1, jIB_eqJ, jB_def, jB_not, jB_and, jB_or, jB_nand, jB_nor, jB_ite, mrg, Decidable.not_not, ite_not, u2_s, u2_n, Int.add_sub_cancel, Int.sub_add_cancel]
end CW2
