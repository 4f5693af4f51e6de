/-! THE REFERENCE: tree -/
theorem goM_fF {F A : Nat → Nat → Int} {c : Int} {a j : Nat} (h : ¬ (a = 71 ∧ 26 ≤ j ∧ j ≤ 29)) : (goM F A c).2.1 a j = F a j := by
  have n1 : ∀ F : Nat → Nat → Int, ndF F a j = F a j := fun F => u2_n (by omega)
  have n3 : ∀ (F A : Nat → Nat → Int) n, enF F A n a j = F a j := fun F A n => by
    unfold enF
    rw [u2_n (by omega), u2_n (by omega)]
  unfold goM
  repeat' split
  all_goals dsimp only
  · rw [u2_n (by omega), n1]
  · rw [n3, n1, u2_n (by omega)]
  · rw [n3]
  · rw [u2_n (by omega)]
theorem goM_fA {F A : Nat → Nat → Int} {c : Int} {a : Nat} (h : ¬ (89 ≤ a ∧ a ≤ 91)) : (goM F A c).2.2 a = A a := by
  have n2 : ∀ (F A : Nat → Nat → Int) l, ndA F A l a = A a := fun F A l => by
    unfold ndA
    rw [u2_a (by omega), u2_a (by omega), u2_a (by omega)]
  have n4 : ∀ (A : Nat → Nat → Int) n, enA A n a = A a := fun A n => by
    unfold enA
    by_cases g : A 89 n.toNat = -1
    · rw [if_pos g]
    · rw [if_neg g, u2_a (by omega)]
  unfold goM
  repeat' split
  all_goals dsimp only
  · rw [n2]
  · rw [n4, n2]
  · rw [n4]
theorem rdM_fF {P : Nat → Int} {a j : Nat} (h : ¬ (a = 71 ∧ 26 ≤ j ∧ j ≤ 29)) : ∀ (n i : Nat) (F A : Nat → Nat → Int), (rdM P F A i n).2.1 a j = F a j
  | 0, i, F, A => rfl
  | n + 1, i, F, A => by
    rw [rdM]
    split
    · rw [rdM_fF h n, goM_fF h]
    · exact goM_fF h
theorem rdM_fA {P : Nat → Int} {a : Nat} (h : ¬ (89 ≤ a ∧ a ≤ 91)) : ∀ (n i : Nat) (F A : Nat → Nat → Int), (rdM P F A i n).2.2 a = A a
  | 0, i, F, A => rfl
  | n + 1, i, F, A => by
    rw [rdM]
    split
    · rw [rdM_fA h n, goM_fA h]
    · exact goM_fA h
theorem rdM_RI {P : Nat → Int} : ∀ (n i : Nat) (F A : Nat → Nat → Int), i + n ≤ 40 → RI F A i i → RI (rdM P F A i n).2.1 (rdM P F A i n).2.2 40 40
  | 0, i, F, A, hn, h => RI_mono h (by omega) (by omega)
  | n + 1, i, F, A, hn, h => by
    have g := RI_go (c := P i) h (by omega)
    rw [rdM]
    split
    · exact rdM_RI n (i + 1) _ _ (by omega) g
    · exact RI_mono g (by omega) (by omega)
theorem rdM_le {P : Nat → Int} : ∀ (n i : Nat) (F A : Nat → Nat → Int), i ≤ (rdM P F A i n).1 ∧ (rdM P F A i n).1 ≤ i + n
  | 0, i, F, A => by simp [rdM]
  | n + 1, i, F, A => by
    rw [rdM]
    split
    · have := rdM_le (P := P) n (i + 1) (goM F A (P i)).2.1 (goM F A (P i)).2.2
      omega
    · dsimp only
      omega
theorem flt_RI {F A : Nat → Nat → Int} (hw : ∀ i, 0 ≤ A 91 i ∧ A 91 i ≤ 40) (hp : ∀ i, -1 ≤ A 89 i ∧ A 89 i ≤ 39) (hm : 0 ≤ F 71 21 ∧ F 71 21 ≤ 40) : RI (fltM F A).2.1 (fltM F A).2.2 40 40 :=
  rdM_RI (F 71 21).toNat 0 (st0 F) A (by omega) (RI_st0 hw hp)
theorem flt_le {F A : Nat → Nat → Int} (hm : 0 ≤ F 71 21 ∧ F 71 21 ≤ 40) : ((fltM F A).1 : Int) ≤ F 71 21 := by
  have := (rdM_le (P := A 85) (F 71 21).toNat 0 (st0 F) A).2
  unfold fltM
  omega
theorem flt_fF {F A : Nat → Nat → Int} {a j : Nat} (h : ¬ (a = 71 ∧ 26 ≤ j ∧ j ≤ 29)) : (fltM F A).2.1 a j = F a j := by
  unfold fltM
  rw [rdM_fF h]
  unfold st0
  rw [u2_n (by omega), u2_n (by omega), u2_n (by omega), u2_n (by omega)]
theorem flt_fA {F A : Nat → Nat → Int} {a : Nat} (h : ¬ (89 ≤ a ∧ a ≤ 91)) : (fltM F A).2.2 a = A a := by
  unfold fltM
  rw [rdM_fA h]
section M16
variable {d : Nat} {Q : Option Value → am_H → Prop}
variable {L : Nat} {xs : Nat → Int32} {F A : Nat → Nat → Int} {B : Nat → Int64} {hs : Int64} {t1 t2 : Nat}
/-- a whole tree stands on the page -/
def whlM (F A : Nat → Nat → Int) : Bool := decide (¬ ((fltM F A).1 : Int) < F 71 21 ∧ (fltM F A).2.1 71 26 = 0 ∧ (fltM F A).2.1 71 27 = -1)
theorem s_M_tree (hP : ∀ i, 0 ≤ A 85 i ∧ A 85 i ≤ 255) (hw : ∀ i, 0 ≤ A 91 i ∧ A 91 i ≤ 40) (hp : ∀ i, -1 ≤ A 89 i ∧ A 89 i ≤ 39) (hm : 0 ≤ F 71 21 ∧ F 71 21 ≤ 40) :
    Rj (d + 4) 173 0 [.ref 71, .null] [] (HW L xs F A B hs t1 t2) Q =
      if whlM F A = true then Q (some (.int (jI ((fltM F A).2.1 71 29)))) (HW L xs (u2 (u2 (fltM F A).2.1 71 22 ((fltM F A).2.1 71 29)) 71 21 0) (cpT (fltM F A).2.2 0 ((fltM F A).2.1 71 29).toNat) B hs t1 t2)
      else Q (some (.int (jI (-103)))) (HW L xs (fltM F A).2.1 (fltM F A).2.2 B hs t1 t2) := by
  have hR := flt_RI hw hp hm
  have hl := flt_le (A := A) hm
  have e1 : (fltM F A).2.1 71 21 = F 71 21 := flt_fF (by omega)
  obtain ⟨hw', hp', hl', hm', hi', hu', hd'⟩ := hR
  rw [b_M_tree_0]
  simp (disch := omega) only [rn_nil, rn_iconst, rn_ldc2, rn_iadd, rn_isub, rn_imul, rn_iand, rn_ior, rn_ixor, rn_ishl, rn_ishr, rn_iushr, rn_ineg, rn_ladd, rn_lsub, rn_lmul, rn_land, rn_lor, rn_lshl, rn_lushr, rn_lcmp, rn_i2l, rn_l2i, rn_dupI, rn_dupR, rn_popI, rn_dup2, rn_idiv, rn_irem, rn_ldiv, rn_lrem, rn_dadd, rn_dsub, rn_dmul, rn_objinit, rn_iload, rn_lload, rn_aload, rn_istore, rn_astore, rn_lstore, rn_iinc, rn_getfield, rn_iaload, rn_laload, rn_aaload, rn_arraylength, rn_putfield, rn_iastore, rn_lastore, rn_goto, rn_ifCond_eq, rn_if_icmp_eq, rn_ifCond_ne, rn_if_icmp_ne, rn_ifCond_lt, rn_if_icmp_lt, rn_ifCond_ge, rn_if_icmp_ge, rn_ifCond_gt, rn_if_icmp_gt, rn_ifCond_le, rn_if_icmp_le, rn_ireturn, rn_lreturn, rn_return, rL_I, rL_L, rL_R, rS_t, rI_t, rG_s, rG_i, rP_s, rP_i, kq_v, kq_s, ok_0, ok_1I, ok_1R, ok_1N, ok_s, rc8_0, rc8_1, rc8_2, rc8_3, rc8_4, List.getElem?_cons_zero, List.getElem?_cons_succ, List.set_cons_zero, List.set_cons_succ, true_and, and_true, if_true, if_false, Int.toNat_natCast, Int.reduceToNat, Int.reduceAdd, Int.reduceSub, Int.reduceMul, Int.reduceNeg, Nat.reduceAdd, Int.reduceLT, Int.reduceLE, Int.reduceEq, reduceIte, w_ck_71, w_g_71_0, w_p_71_0, w_g_71_1, w_g_71_2, w_g_71_3, w_g_71_4, w_p_71_4, w_g_71_5, w_g_71_6, w_g_71_7, w_g_71_8, w_p_71_8, w_g_71_9, w_g_71_10, w_g_71_11, w_p_71_11, w_g_71_12, w_g_71_13, w_g_71_14, w_p_71_14, w_g_71_15, w_g_71_16, w_g_71_17, w_p_71_17, w_g_71_18, w_p_71_18, w_g_71_19, w_g_71_20, w_g_71_21, w_p_71_21, w_g_71_22, w_p_71_22, w_g_71_23, w_g_71_24, w_g_71_25, w_g_71_26, w_p_71_26_0, w_p_71_26_1, w_g_71_27, w_p_71_27, w_g_71_28, w_p_71_28, w_g_71_29, w_p_71_29, w_g_71_30, w_g_71_31, w_g_71_32, w_g_71_33, w_g_71_34, w_g_71_35, w_g_71_36, w_p_71_36, w_g_71_37, w_g_71_38, w_g_71_39, w_g_71_40, w_g_71_41, w_r_72, w_l_72, w_w_72, w_r_73, w_l_73, w_w_73, w_r_74, w_l_74, w_w_74, w_r_75, w_l_75, w_w_75, w_r_76, w_l_76, w_w_76, w_r_77, w_l_77, w_w_77, w_r_78, w_l_78, w_w_78, w_r_79, w_l_79, w_w_79, w_r_80, w_l_80, w_w_80, w_r_81, w_l_81, w_w_81, w_r_82, w_l_82, w_w_82, w_r_83, w_l_83, w_w_83, w_r_84, w_l_84, w_w_84, w_r_85, w_l_85, w_w_85, w_r_86, w_l_86, w_w_86, w_r_87, w_l_87, w_w_87, w_r_88, w_l_88, w_w_88, w_r_89, w_l_89, w_w_89, w_r_90, w_l_90, w_w_90, w_r_91, w_l_91, w_w_91, w_r_92, w_l_92, w_w_92, w_r_93, w_l_93, w_w_93, w_r_94, w_l_94, w_w_94, w_r_95, w_l_95, w_w_95, w_r_96, w_l_96, w_w_96, w_r_97, w_l_97, w_w_97, w_r_98, w_l_98, w_w_98, jI_add, jI_sub, jI_mul, jI_neg, jI_eq, jI_le, jI_lt, jI_eq0, jI_eq1, jI_lt0, jI_0lt, jI_le0, jI_0le, jI_clamp, jI_inBT, kL_0, kL_1, kL_2, kL_5, kL_6, kL_7, kL_10, kL_11, kL_15, kL_23, kL_31, kL_39, kL_97, kL_99, kL_104, kL_255, kL_349, kL_999, kL_1771561, kL_16777215, kL_4294967295, kL_18446744073709551615, jI_toL, rn_zB, rn_z0, rn_z1, jIB_eq0, jIB_eq1, jIB_eqJ, jB_def, jB_not, jB_and, jB_or, jB_nand, jB_nor, jB_ite, mrg, Decidable.not_not, ite_not, u2_s, u2_n, Int.add_sub_cancel, Int.sub_add_cancel, c_M_faultOf, s_M_faultOf hP hw hp]
  simp (disch := omega) only [b_M_tree_11, b_M_tree_18, b_M_tree_26, b_M_tree_29, rn_nil, rn_iconst, rn_ldc2, rn_iadd, rn_isub, rn_imul, rn_iand, rn_ior, rn_ixor, rn_ishl, rn_ishr, rn_iushr, rn_ineg, rn_ladd, rn_lsub, rn_lmul, rn_land, rn_lor, rn_lshl, rn_lushr, rn_lcmp, rn_i2l, rn_l2i, rn_dupI, rn_dupR, rn_popI, rn_dup2, rn_idiv, rn_irem, rn_ldiv, rn_lrem, rn_dadd, rn_dsub, rn_dmul, rn_objinit, rn_iload, rn_lload, rn_aload, rn_istore, rn_astore, rn_lstore, rn_iinc, rn_getfield, rn_iaload, rn_laload, rn_aaload, rn_arraylength, rn_putfield, rn_iastore, rn_lastore, rn_goto, rn_ifCond_eq, rn_if_icmp_eq, rn_ifCond_ne, rn_if_icmp_ne, rn_ifCond_lt, rn_if_icmp_lt, rn_ifCond_ge, rn_if_icmp_ge, rn_ifCond_gt, rn_if_icmp_gt, rn_ifCond_le, rn_if_icmp_le, rn_ireturn, rn_lreturn, rn_return, rL_I, rL_L, rL_R, rS_t, rI_t, rG_s, rG_i, rP_s, rP_i, kq_v, kq_s, ok_0, ok_1I, ok_1R, ok_1N, ok_s, rc8_0, rc8_1, rc8_2, rc8_3, rc8_4, List.getElem?_cons_zero, List.getElem?_cons_succ, List.set_cons_zero, List.set_cons_succ, true_and, and_true, if_true, if_false, Int.toNat_natCast, Int.reduceToNat, Int.reduceAdd, Int.reduceSub, Int.reduceMul, Int.reduceNeg, Nat.reduceAdd, Int.reduceLT, Int.reduceLE, Int.reduceEq, reduceIte, w_ck_71, w_g_71_0, w_p_71_0, w_g_71_1, w_g_71_2, w_g_71_3, w_g_71_4, w_p_71_4, w_g_71_5, w_g_71_6, w_g_71_7, w_g_71_8, w_p_71_8, w_g_71_9, w_g_71_10, w_g_71_11, w_p_71_11, w_g_71_12, w_g_71_13, w_g_71_14, w_p_71_14, w_g_71_15, w_g_71_16, w_g_71_17, w_p_71_17, w_g_71_18, w_p_71_18, w_g_71_19, w_g_71_20, w_g_71_21, w_p_71_21, w_g_71_22, w_p_71_22, w_g_71_23, w_g_71_24, w_g_71_25, w_g_71_26, w_p_71_26_0, w_p_71_26_1, w_g_71_27, w_p_71_27, w_g_71_28, w_p_71_28, w_g_71_29, w_p_71_29, w_g_71_30, w_g_71_31, w_g_71_32, w_g_71_33, w_g_71_34, w_g_71_35, w_g_71_36, w_p_71_36, w_g_71_37, w_g_71_38, w_g_71_39, w_g_71_40, w_g_71_41, w_r_72, w_l_72, w_w_72, w_r_73, w_l_73, w_w_73, w_r_74, w_l_74, w_w_74, w_r_75, w_l_75, w_w_75, w_r_76, w_l_76, w_w_76, w_r_77, w_l_77, w_w_77, w_r_78, w_l_78, w_w_78, w_r_79, w_l_79, w_w_79, w_r_80, w_l_80, w_w_80, w_r_81, w_l_81, w_w_81, w_r_82, w_l_82, w_w_82, w_r_83, w_l_83, w_w_83, w_r_84, w_l_84, w_w_84, w_r_85, w_l_85, w_w_85, w_r_86, w_l_86, w_w_86, w_r_87, w_l_87, w_w_87, w_r_88, w_l_88, w_w_88, w_r_89, w_l_89, w_w_89, w_r_90, w_l_90, w_w_90, w_r_91, w_l_91, w_w_91, w_r_92, w_l_92, w_w_92, w_r_93, w_l_93, w_w_93, w_r_94, w_l_94, w_w_94, w_r_95, w_l_95, w_w_95, w_r_96, w_l_96, w_w_96, w_r_97, w_l_97, w_w_97, w_r_98, w_l_98, w_w_98, jI_add, jI_sub, jI_mul, jI_neg, jI_eq, jI_le, jI_lt, jI_eq0, jI_eq1, jI_lt0, jI_0lt, jI_le0, jI_0le, jI_clamp, jI_inBT, kL_0, kL_1, kL_2, kL_5, kL_6, kL_7, kL_10, kL_11, kL_15, kL_23, kL_31, kL_39, kL_97, kL_99, kL_104, kL_255, kL_349, kL_999, kL_1771561, kL_16777215, kL_4294967295, kL_18446744073709551615, jI_toL, rn_zB, rn_z0, rn_z1, jIB_eq0, jIB_eq1, jIB_eqJ, jB_def, jB_not, jB_and, jB_or, jB_nand, jB_nor, jB_ite, mrg, Decidable.not_not, ite_not, u2_s, u2_n, Int.add_sub_cancel, Int.sub_add_cancel, e1]
  rw [s_M_tree_39 (m := (fltM F A).2.1 71 29) (by omega) ((fltM F A).2.1 71 29).toNat 0 _ (by omega) (by omega) u2_s]
  have e2 : (whlM F A = true) = (¬ ((fltM F A).1 : Int) < F 71 21 ∧ (fltM F A).2.1 71 26 = 0 ∧ (fltM F A).2.1 71 27 = -1) := by
    unfold whlM
    rw [decide_eq_true_eq]
  by_cases g1 : ((fltM F A).1 : Int) < F 71 21
  · rw [if_pos g1, if_neg (by rw [e2]; omega)]
  · rw [if_neg g1]
    by_cases g2 : (fltM F A).2.1 71 26 = 0
    · rw [if_pos g2]
      by_cases g3 : (fltM F A).2.1 71 27 = -1
      · rw [if_pos g3, if_pos (by rw [e2]; exact ⟨g1, g2, g3⟩)]
        rfl
      · rw [if_neg g3, if_neg (by rw [e2]; omega)]
    · rw [if_neg g2, if_neg (by rw [e2]; omega)]
end M16
