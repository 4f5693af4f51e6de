/-! THE REFERENCE: deal -/
/-- the variants that are free, in order -/
def frF (fm : Nat) (D : Nat → Nat) : Nat → Nat → List Nat
  | _, 0 => []
  | i, n + 1 => if fm.testBit i = true then D i :: frF fm D (i + 1) n else frF fm D (i + 1) n
theorem fr_len {fm : Nat} {D : Nat → Nat} : ∀ (n i : Nat), ((frF fm D i n).length : Int) = cntS (fun s => fm.testBit s) i n
  | 0, i => rfl
  | n + 1, i => by
    rw [frF, cntS]
    by_cases g : fm.testBit i = true
    · rw [if_pos g, if_pos g, List.length_cons, ← fr_len (D := D) n (i + 1)]; omega
    · rw [if_neg g, if_neg g, fr_len n (i + 1), Int.zero_add]
theorem fr_cg {fm fm' : Nat} {D : Nat → Nat} : ∀ (n i : Nat), (∀ s, i ≤ s → s < i + n → fm.testBit s = fm'.testBit s) → frF fm D i n = frF fm' D i n
  | 0, i, _ => rfl
  | n + 1, i, h => by rw [frF, frF, h i (Nat.le_refl i) (by omega), fr_cg n (i + 1) (fun s h1 h2 => h s (by omega) (by omega))]
theorem nth_of {p : Nat → Bool} : ∀ (n i k : Nat), (k : Int) < cntS p i n → ∃ j, i ≤ j ∧ j < i + n ∧ p j = true ∧ cntS p i (j - i) = k
  | 0, i, k, h => by
    have : cntS p i 0 = 0 := rfl
    omega
  | n + 1, i, k, h => by
    rw [cntS] at h
    by_cases g : p i = true
    · rw [if_pos g] at h
      cases k with
      | zero => exact ⟨i, Nat.le_refl i, by omega, g, by rw [Nat.sub_self]; rfl⟩
      | succ k =>
        obtain ⟨j, h1, h2, h3, h4⟩ := nth_of (p := p) n (i + 1) k (by omega)
        refine ⟨j, by omega, by omega, h3, ?_⟩
        rw [show j - i = (j - (i + 1)) + 1 by omega, cntS, if_pos g, h4]
        omega
    · rw [if_neg g] at h
      obtain ⟨j, h1, h2, h3, h4⟩ := nth_of (p := p) n (i + 1) k (by omega)
      refine ⟨j, by omega, by omega, h3, ?_⟩
      rw [show j - i = (j - (i + 1)) + 1 by omega, cntS, if_neg g, h4]
      omega
theorem fr_get {fm : Nat} {D : Nat → Nat} {j : Nat} (hj : fm.testBit j = true) : ∀ (n i k : Nat), i ≤ j → j < i + n → cntS (fun s => fm.testBit s) i (j - i) = k → (frF fm D i n).getD k 0 = D j ∧ (frF fm D i n).eraseIdx k = frF (fm ^^^ 2 ^ j) D i n
  | 0, i, k, h1, h2, _ => by omega
  | n + 1, i, k, h1, h2, h3 => by
    have cg : ∀ m x, j < x → frF fm D x m = frF (fm ^^^ 2 ^ j) D x m := fun m x hx => fr_cg m x (fun s s1 s2 => by
      rw [tb_xor, show decide (j = s) = false by simp; omega]; simp)
    by_cases e : i = j
    · subst e
      rw [Nat.sub_self] at h3
      have k0 : k = 0 := by
        have : cntS (fun s => fm.testBit s) i 0 = 0 := rfl
        omega
      subst k0
      rw [frF, if_pos hj, frF, tb_xor, hj]
      simp only [decide_true, Bool.xor_self, Bool.true_bne, Bool.not_true, Bool.false_eq_true, if_false]
      exact ⟨rfl, by rw [← cg n (i + 1) (by omega)]; simp⟩
    · have tb : (fm ^^^ 2 ^ j).testBit i = fm.testBit i := by rw [tb_xor, show decide (j = i) = false by simp; omega]; simp
      rw [show j - i = (j - (i + 1)) + 1 by omega, cntS] at h3
      rw [frF, frF, tb]
      by_cases g : fm.testBit i = true
      · rw [if_pos g] at h3 ⊢
        obtain ⟨k', rfl⟩ : ∃ k', k = k' + 1 := ⟨k - 1, by have := (cntS_rng (fun s => fm.testBit s) (j - (i + 1)) (i + 1)).1; omega⟩
        have ih := fr_get (D := D) hj n (i + 1) k' (by omega) (by omega) (by omega)
        rw [if_pos g, List.getD_cons_succ, List.eraseIdx_cons_succ, ih.2]
        exact ⟨ih.1, rfl⟩
      · rw [if_neg g] at h3 ⊢
        rw [if_neg g]
        exact fr_get hj n (i + 1) k (by omega) (by omega) (by omega)
theorem x256 : ∀ fm, fm < 256 → ∀ j, j < 8 → fm.testBit j = true → (fm ^^^ 2 ^ j) + 2 ^ j = fm := by decide +kernel
def whL (W : Nat → Nat) : Nat → Nat → List Nat
  | _, 0 => []
  | a, n + 1 => W a :: whL W (a + 1) n
section MDL
variable {L : Nat} {xs : Nat → Int32} {F : Nat → Nat → Int} {B : Nat → Int64} {hs : Int64} {t1 t2 : Nat}
theorem s_M_de_36 {A : Nat → Nat → Int} {d : Nat} {Q : Option Value → am_H → Prop} {fm j : Nat} (hf : fm < 256) (hj : j < 8) (hb : fm.testBit j = true) {v1 v2 v3 v5 : Int32} :
    ∀ (n w : Nat) (k : Int), w + n = j → k = cntS (fun s => fm.testBit s) w n → Rj d 180 36 [.ref 71, .int v1, .int v2, .int v3, .int (jI fm), .int v5, .int (jI k), .int (jI w)] [] (HW L xs F A B hs t1 t2) Q = Rj d 180 69 [.ref 71, .int v1, .int v2, .int v3, .int (jI fm), .int v5, .int (jI 0), .int (jI j)] [] (HW L xs F A B hs t1 t2) Q
  | 0, w, k, hw, hk => by
    have b1 := ibit_tb fm w
    rw [show w = j by omega, if_pos hb] at b1
    have k0 : k = 0 := hk
    rw [b_M_deal_36, show w = j by omega, k0]
    simp (disch := omega) only [b_M_deal_46, rn_nil, rn_iconst, rn_ldc2, rn_iadd, rn_isub, rn_imul, rn_iand, rn_ior, rn_ixor, rn_ishl, rn_ishr, rn_iushr, rn_ineg, rn_ladd, rn_lsub, rn_lmul, rn_land, rn_lor, rn_lshl, rn_lushr, rn_lcmp, rn_i2l, rn_l2i, rn_dupI, rn_dupR, rn_popI, rn_dup2, rn_idiv, rn_irem, rn_ldiv, rn_lrem, rn_dadd, rn_dsub, rn_dmul, rn_objinit, rn_iload, rn_lload, rn_aload, rn_istore, rn_astore, rn_lstore, rn_iinc, rn_getfield, rn_iaload, rn_laload, rn_aaload, rn_arraylength, rn_putfield, rn_iastore, rn_lastore, rn_goto, rn_ifCond_eq, rn_if_icmp_eq, rn_ifCond_ne, rn_if_icmp_ne, rn_ifCond_lt, rn_if_icmp_lt, rn_ifCond_ge, rn_if_icmp_ge, rn_ifCond_gt, rn_if_icmp_gt, rn_ifCond_le, rn_if_icmp_le, rn_ireturn, rn_lreturn, rn_return, rL_I, rL_L, rL_R, rS_t, rI_t, rG_s, rG_i, rP_s, rP_i, kq_v, kq_s, ok_0, ok_1I, ok_1R, ok_1N, ok_s, rc8_0, rc8_1, rc8_2, rc8_3, rc8_4, List.getElem?_cons_zero, List.getElem?_cons_succ, List.set_cons_zero, List.set_cons_succ, true_and, and_true, if_true, if_false, Int.toNat_natCast, Int.reduceToNat, Int.reduceAdd, Int.reduceSub, Int.reduceMul, Int.reduceNeg, Nat.reduceAdd, Int.reduceLT, Int.reduceLE, Int.reduceEq, reduceIte, w_ck_71, w_g_71_0, w_p_71_0, w_g_71_1, w_g_71_2, w_g_71_3, w_g_71_4, w_p_71_4, w_g_71_5, w_g_71_6, w_g_71_7, w_g_71_8, w_p_71_8, w_g_71_9, w_g_71_10, w_g_71_11, w_p_71_11, w_g_71_12, w_g_71_13, w_g_71_14, w_p_71_14, w_g_71_15, w_g_71_16, w_g_71_17, w_p_71_17, w_g_71_18, w_p_71_18, w_g_71_19, w_g_71_20, w_g_71_21, w_p_71_21, w_g_71_22, w_p_71_22, w_g_71_23, w_g_71_24, w_g_71_25, w_g_71_26, w_p_71_26_0, w_p_71_26_1, w_g_71_27, w_p_71_27, w_g_71_28, w_p_71_28, w_g_71_29, w_p_71_29, w_g_71_30, w_g_71_31, w_g_71_32, w_g_71_33, w_g_71_34, w_g_71_35, w_g_71_36, w_p_71_36, w_g_71_37, w_g_71_38, w_g_71_39, w_g_71_40, w_g_71_41, w_r_72, w_l_72, w_w_72, w_r_73, w_l_73, w_w_73, w_r_74, w_l_74, w_w_74, w_r_75, w_l_75, w_w_75, w_r_76, w_l_76, w_w_76, w_r_77, w_l_77, w_w_77, w_r_78, w_l_78, w_w_78, w_r_79, w_l_79, w_w_79, w_r_80, w_l_80, w_w_80, w_r_81, w_l_81, w_w_81, w_r_82, w_l_82, w_w_82, w_r_83, w_l_83, w_w_83, w_r_84, w_l_84, w_w_84, w_r_85, w_l_85, w_w_85, w_r_86, w_l_86, w_w_86, w_r_87, w_l_87, w_w_87, w_r_88, w_l_88, w_w_88, w_r_89, w_l_89, w_w_89, w_r_90, w_l_90, w_w_90, w_r_91, w_l_91, w_w_91, w_r_92, w_l_92, w_w_92, w_r_93, w_l_93, w_w_93, w_r_94, w_l_94, w_w_94, w_r_95, w_l_95, w_w_95, w_r_96, w_l_96, w_w_96, w_r_97, w_l_97, w_w_97, w_r_98, w_l_98, w_w_98, jI_add, jI_sub, jI_mul, jI_neg, jI_eq, jI_le, jI_lt, jI_eq0, jI_eq1, jI_lt0, jI_0lt, jI_le0, jI_0le, jI_clamp, jI_inBT, kL_0, kL_1, kL_2, kL_5, kL_6, kL_7, kL_10, kL_11, kL_15, kL_23, kL_31, kL_39, kL_97, kL_99, kL_104, kL_255, kL_349, kL_999, kL_1771561, kL_16777215, kL_4294967295, kL_18446744073709551615, jI_toL, rn_zB, rn_z0, rn_z1, jIB_eq0, jIB_eq1, jIB_eqJ, jB_def, jB_not, jB_and, jB_or, jB_nand, jB_nor, jB_ite, mrg, Decidable.not_not, ite_not, u2_s, u2_n, Int.add_sub_cancel, Int.sub_add_cancel, jI_bit, b1, Int.toNat_natCast]
  | n + 1, w, k, hw, hk => by
    have b1 := ibit_tb fm w
    have cr := cntS_rng (fun s => fm.testBit s) n (w + 1)
    rw [cntS] at hk
    rw [b_M_deal_36]
    by_cases g : fm.testBit w = true
    · rw [if_pos g] at b1 hk
      have kp : ¬ k ≤ 0 := by omega
      simp (disch := omega) only [b_M_deal_46, b_M_deal_51, rn_nil, rn_iconst, rn_ldc2, rn_iadd, rn_isub, rn_imul, rn_iand, rn_ior, rn_ixor, rn_ishl, rn_ishr, rn_iushr, rn_ineg, rn_ladd, rn_lsub, rn_lmul, rn_land, rn_lor, rn_lshl, rn_lushr, rn_lcmp, rn_i2l, rn_l2i, rn_dupI, rn_dupR, rn_popI, rn_dup2, rn_idiv, rn_irem, rn_ldiv, rn_lrem, rn_dadd, rn_dsub, rn_dmul, rn_objinit, rn_iload, rn_lload, rn_aload, rn_istore, rn_astore, rn_lstore, rn_iinc, rn_getfield, rn_iaload, rn_laload, rn_aaload, rn_arraylength, rn_putfield, rn_iastore, rn_lastore, rn_goto, rn_ifCond_eq, rn_if_icmp_eq, rn_ifCond_ne, rn_if_icmp_ne, rn_ifCond_lt, rn_if_icmp_lt, rn_ifCond_ge, rn_if_icmp_ge, rn_ifCond_gt, rn_if_icmp_gt, rn_ifCond_le, rn_if_icmp_le, rn_ireturn, rn_lreturn, rn_return, rL_I, rL_L, rL_R, rS_t, rI_t, rG_s, rG_i, rP_s, rP_i, kq_v, kq_s, ok_0, ok_1I, ok_1R, ok_1N, ok_s, rc8_0, rc8_1, rc8_2, rc8_3, rc8_4, List.getElem?_cons_zero, List.getElem?_cons_succ, List.set_cons_zero, List.set_cons_succ, true_and, and_true, if_true, if_false, Int.toNat_natCast, Int.reduceToNat, Int.reduceAdd, Int.reduceSub, Int.reduceMul, Int.reduceNeg, Nat.reduceAdd, Int.reduceLT, Int.reduceLE, Int.reduceEq, reduceIte, w_ck_71, w_g_71_0, w_p_71_0, w_g_71_1, w_g_71_2, w_g_71_3, w_g_71_4, w_p_71_4, w_g_71_5, w_g_71_6, w_g_71_7, w_g_71_8, w_p_71_8, w_g_71_9, w_g_71_10, w_g_71_11, w_p_71_11, w_g_71_12, w_g_71_13, w_g_71_14, w_p_71_14, w_g_71_15, w_g_71_16, w_g_71_17, w_p_71_17, w_g_71_18, w_p_71_18, w_g_71_19, w_g_71_20, w_g_71_21, w_p_71_21, w_g_71_22, w_p_71_22, w_g_71_23, w_g_71_24, w_g_71_25, w_g_71_26, w_p_71_26_0, w_p_71_26_1, w_g_71_27, w_p_71_27, w_g_71_28, w_p_71_28, w_g_71_29, w_p_71_29, w_g_71_30, w_g_71_31, w_g_71_32, w_g_71_33, w_g_71_34, w_g_71_35, w_g_71_36, w_p_71_36, w_g_71_37, w_g_71_38, w_g_71_39, w_g_71_40, w_g_71_41, w_r_72, w_l_72, w_w_72, w_r_73, w_l_73, w_w_73, w_r_74, w_l_74, w_w_74, w_r_75, w_l_75, w_w_75, w_r_76, w_l_76, w_w_76, w_r_77, w_l_77, w_w_77, w_r_78, w_l_78, w_w_78, w_r_79, w_l_79, w_w_79, w_r_80, w_l_80, w_w_80, w_r_81, w_l_81, w_w_81, w_r_82, w_l_82, w_w_82, w_r_83, w_l_83, w_w_83, w_r_84, w_l_84, w_w_84, w_r_85, w_l_85, w_w_85, w_r_86, w_l_86, w_w_86, w_r_87, w_l_87, w_w_87, w_r_88, w_l_88, w_w_88, w_r_89, w_l_89, w_w_89, w_r_90, w_l_90, w_w_90, w_r_91, w_l_91, w_w_91, w_r_92, w_l_92, w_w_92, w_r_93, w_l_93, w_w_93, w_r_94, w_l_94, w_w_94, w_r_95, w_l_95, w_w_95, w_r_96, w_l_96, w_w_96, w_r_97, w_l_97, w_w_97, w_r_98, w_l_98, w_w_98, jI_add, jI_sub, jI_mul, jI_neg, jI_eq, jI_le, jI_lt, jI_eq0, jI_eq1, jI_lt0, jI_0lt, jI_le0, jI_0le, jI_clamp, jI_inBT, kL_0, kL_1, kL_2, kL_5, kL_6, kL_7, kL_10, kL_11, kL_15, kL_23, kL_31, kL_39, kL_97, kL_99, kL_104, kL_255, kL_349, kL_999, kL_1771561, kL_16777215, kL_4294967295, kL_18446744073709551615, jI_toL, rn_zB, rn_z0, rn_z1, jIB_eq0, jIB_eq1, jIB_eqJ, jB_def, jB_not, jB_and, jB_or, jB_nand, jB_nor, jB_ite, mrg, Decidable.not_not, ite_not, u2_s, u2_n, Int.add_sub_cancel, Int.sub_add_cancel, jI_bit, b1, kp, Int.toNat_natCast]
      rw [show (w : Int) + 1 = ((w + 1 : Nat) : Int) by omega]
      exact s_M_de_36 hf hj hb n (w + 1) (k - 1) (by omega) (by omega)
    · rw [if_neg g] at b1 hk
      simp (disch := omega) only [b_M_deal_51, rn_nil, rn_iconst, rn_ldc2, rn_iadd, rn_isub, rn_imul, rn_iand, rn_ior, rn_ixor, rn_ishl, rn_ishr, rn_iushr, rn_ineg, rn_ladd, rn_lsub, rn_lmul, rn_land, rn_lor, rn_lshl, rn_lushr, rn_lcmp, rn_i2l, rn_l2i, rn_dupI, rn_dupR, rn_popI, rn_dup2, rn_idiv, rn_irem, rn_ldiv, rn_lrem, rn_dadd, rn_dsub, rn_dmul, rn_objinit, rn_iload, rn_lload, rn_aload, rn_istore, rn_astore, rn_lstore, rn_iinc, rn_getfield, rn_iaload, rn_laload, rn_aaload, rn_arraylength, rn_putfield, rn_iastore, rn_lastore, rn_goto, rn_ifCond_eq, rn_if_icmp_eq, rn_ifCond_ne, rn_if_icmp_ne, rn_ifCond_lt, rn_if_icmp_lt, rn_ifCond_ge, rn_if_icmp_ge, rn_ifCond_gt, rn_if_icmp_gt, rn_ifCond_le, rn_if_icmp_le, rn_ireturn, rn_lreturn, rn_return, rL_I, rL_L, rL_R, rS_t, rI_t, rG_s, rG_i, rP_s, rP_i, kq_v, kq_s, ok_0, ok_1I, ok_1R, ok_1N, ok_s, rc8_0, rc8_1, rc8_2, rc8_3, rc8_4, List.getElem?_cons_zero, List.getElem?_cons_succ, List.set_cons_zero, List.set_cons_succ, true_and, and_true, if_true, if_false, Int.toNat_natCast, Int.reduceToNat, Int.reduceAdd, Int.reduceSub, Int.reduceMul, Int.reduceNeg, Nat.reduceAdd, Int.reduceLT, Int.reduceLE, Int.reduceEq, reduceIte, w_ck_71, w_g_71_0, w_p_71_0, w_g_71_1, w_g_71_2, w_g_71_3, w_g_71_4, w_p_71_4, w_g_71_5, w_g_71_6, w_g_71_7, w_g_71_8, w_p_71_8, w_g_71_9, w_g_71_10, w_g_71_11, w_p_71_11, w_g_71_12, w_g_71_13, w_g_71_14, w_p_71_14, w_g_71_15, w_g_71_16, w_g_71_17, w_p_71_17, w_g_71_18, w_p_71_18, w_g_71_19, w_g_71_20, w_g_71_21, w_p_71_21, w_g_71_22, w_p_71_22, w_g_71_23, w_g_71_24, w_g_71_25, w_g_71_26, w_p_71_26_0, w_p_71_26_1, w_g_71_27, w_p_71_27, w_g_71_28, w_p_71_28, w_g_71_29, w_p_71_29, w_g_71_30, w_g_71_31, w_g_71_32, w_g_71_33, w_g_71_34, w_g_71_35, w_g_71_36, w_p_71_36, w_g_71_37, w_g_71_38, w_g_71_39, w_g_71_40, w_g_71_41, w_r_72, w_l_72, w_w_72, w_r_73, w_l_73, w_w_73, w_r_74, w_l_74, w_w_74, w_r_75, w_l_75, w_w_75, w_r_76, w_l_76, w_w_76, w_r_77, w_l_77, w_w_77, w_r_78, w_l_78, w_w_78, w_r_79, w_l_79, w_w_79, w_r_80, w_l_80, w_w_80, w_r_81, w_l_81, w_w_81, w_r_82, w_l_82, w_w_82, w_r_83, w_l_83, w_w_83, w_r_84, w_l_84, w_w_84, w_r_85, w_l_85, w_w_85, w_r_86, w_l_86, w_w_86, w_r_87, w_l_87, w_w_87, w_r_88, w_l_88, w_w_88, w_r_89, w_l_89, w_w_89, w_r_90, w_l_90, w_w_90, w_r_91, w_l_91, w_w_91, w_r_92, w_l_92, w_w_92, w_r_93, w_l_93, w_w_93, w_r_94, w_l_94, w_w_94, w_r_95, w_l_95, w_w_95, w_r_96, w_l_96, w_w_96, w_r_97, w_l_97, w_w_97, w_r_98, w_l_98, w_w_98, jI_add, jI_sub, jI_mul, jI_neg, jI_eq, jI_le, jI_lt, jI_eq0, jI_eq1, jI_lt0, jI_0lt, jI_le0, jI_0le, jI_clamp, jI_inBT, kL_0, kL_1, kL_2, kL_5, kL_6, kL_7, kL_10, kL_11, kL_15, kL_23, kL_31, kL_39, kL_97, kL_99, kL_104, kL_255, kL_349, kL_999, kL_1771561, kL_16777215, kL_4294967295, kL_18446744073709551615, jI_toL, rn_zB, rn_z0, rn_z1, jIB_eq0, jIB_eq1, jIB_eqJ, jB_def, jB_not, jB_and, jB_or, jB_nand, jB_nor, jB_ite, mrg, Decidable.not_not, ite_not, u2_s, u2_n, Int.add_sub_cancel, Int.sub_add_cancel, jI_bit, b1, Int.toNat_natCast]
      rw [show (w : Int) + 1 = ((w + 1 : Nat) : Int) by omega, Int.sub_zero]
      exact s_M_de_36 hf hj hb n (w + 1) k (by omega) (by omega)
theorem s_M_de_12 {W D : Nat → Nat} {many : Nat} (hm : many ≤ 8) (hW : ∀ i, i < many → W i < 8) (hD : ∀ i, i < many → D i < 8) {num0 : Int32} :
    ∀ (n a fm num : Nat) (A : Nat → Nat → Int) (v6 v7 : Value), a + n = many → fm < 256 → cntS (fun s => fm.testBit s) 0 many = n → num < 2147483648 → (∀ i, i < many → A 96 i = W i) → (∀ i, i < many → A 95 i = D i) → v6.category = 1 →
      ∀ d Q, Rj d 180 12 [.ref 71, .int (jI many), .int num0, .int (jI num), .int (jI fm), .int (jI a), v6, v7] [] (HW L xs F A B hs t1 t2) Q = Q none (HW L xs F (fun b i => if b = 88 then dlV (whL W a n) (frF fm D 0 many) num (A 88) i else A b i) B hs t1 t2)
  | 0, a, fm, num, A, v6, v7, ha, hf, hc, hn, h96, h95, c6, d, Q => by
    rw [b_M_deal_12]
    simp (disch := omega) only [b_M_deal_103, rn_nil, rn_iconst, rn_ldc2, rn_iadd, rn_isub, rn_imul, rn_iand, rn_ior, rn_ixor, rn_ishl, rn_ishr, rn_iushr, rn_ineg, rn_ladd, rn_lsub, rn_lmul, rn_land, rn_lor, rn_lshl, rn_lushr, rn_lcmp, rn_i2l, rn_l2i, rn_dupI, rn_dupR, rn_popI, rn_dup2, rn_idiv, rn_irem, rn_ldiv, rn_lrem, rn_dadd, rn_dsub, rn_dmul, rn_objinit, rn_iload, rn_lload, rn_aload, rn_istore, rn_astore, rn_lstore, rn_iinc, rn_getfield, rn_iaload, rn_laload, rn_aaload, rn_arraylength, rn_putfield, rn_iastore, rn_lastore, rn_goto, rn_ifCond_eq, rn_if_icmp_eq, rn_ifCond_ne, rn_if_icmp_ne, rn_ifCond_lt, rn_if_icmp_lt, rn_ifCond_ge, rn_if_icmp_ge, rn_ifCond_gt, rn_if_icmp_gt, rn_ifCond_le, rn_if_icmp_le, rn_ireturn, rn_lreturn, rn_return, rL_I, rL_L, rL_R, rS_t, rI_t, rG_s, rG_i, rP_s, rP_i, kq_v, kq_s, ok_0, ok_1I, ok_1R, ok_1N, ok_s, rc8_0, rc8_1, rc8_2, rc8_3, rc8_4, List.getElem?_cons_zero, List.getElem?_cons_succ, List.set_cons_zero, List.set_cons_succ, true_and, and_true, if_true, if_false, Int.toNat_natCast, Int.reduceToNat, Int.reduceAdd, Int.reduceSub, Int.reduceMul, Int.reduceNeg, Nat.reduceAdd, Int.reduceLT, Int.reduceLE, Int.reduceEq, reduceIte, w_ck_71, w_g_71_0, w_p_71_0, w_g_71_1, w_g_71_2, w_g_71_3, w_g_71_4, w_p_71_4, w_g_71_5, w_g_71_6, w_g_71_7, w_g_71_8, w_p_71_8, w_g_71_9, w_g_71_10, w_g_71_11, w_p_71_11, w_g_71_12, w_g_71_13, w_g_71_14, w_p_71_14, w_g_71_15, w_g_71_16, w_g_71_17, w_p_71_17, w_g_71_18, w_p_71_18, w_g_71_19, w_g_71_20, w_g_71_21, w_p_71_21, w_g_71_22, w_p_71_22, w_g_71_23, w_g_71_24, w_g_71_25, w_g_71_26, w_p_71_26_0, w_p_71_26_1, w_g_71_27, w_p_71_27, w_g_71_28, w_p_71_28, w_g_71_29, w_p_71_29, w_g_71_30, w_g_71_31, w_g_71_32, w_g_71_33, w_g_71_34, w_g_71_35, w_g_71_36, w_p_71_36, w_g_71_37, w_g_71_38, w_g_71_39, w_g_71_40, w_g_71_41, w_r_72, w_l_72, w_w_72, w_r_73, w_l_73, w_w_73, w_r_74, w_l_74, w_w_74, w_r_75, w_l_75, w_w_75, w_r_76, w_l_76, w_w_76, w_r_77, w_l_77, w_w_77, w_r_78, w_l_78, w_w_78, w_r_79, w_l_79, w_w_79, w_r_80, w_l_80, w_w_80, w_r_81, w_l_81, w_w_81, w_r_82, w_l_82, w_w_82, w_r_83, w_l_83, w_w_83, w_r_84, w_l_84, w_w_84, w_r_85, w_l_85, w_w_85, w_r_86, w_l_86, w_w_86, w_r_87, w_l_87, w_w_87, w_r_88, w_l_88, w_w_88, w_r_89, w_l_89, w_w_89, w_r_90, w_l_90, w_w_90, w_r_91, w_l_91, w_w_91, w_r_92, w_l_92, w_w_92, w_r_93, w_l_93, w_w_93, w_r_94, w_l_94, w_w_94, w_r_95, w_l_95, w_w_95, w_r_96, w_l_96, w_w_96, w_r_97, w_l_97, w_w_97, w_r_98, w_l_98, w_w_98, jI_add, jI_sub, jI_mul, jI_neg, jI_eq, jI_le, jI_lt, jI_eq0, jI_eq1, jI_lt0, jI_0lt, jI_le0, jI_0le, jI_clamp, jI_inBT, kL_0, kL_1, kL_2, kL_5, kL_6, kL_7, kL_10, kL_11, kL_15, kL_23, kL_31, kL_39, kL_97, kL_99, kL_104, kL_255, kL_349, kL_999, kL_1771561, kL_16777215, kL_4294967295, kL_18446744073709551615, jI_toL, rn_zB, rn_z0, rn_z1, jIB_eq0, jIB_eq1, jIB_eqJ, jB_def, jB_not, jB_and, jB_or, jB_nand, jB_nor, jB_ite, mrg, Decidable.not_not, ite_not, u2_s, u2_n, Int.add_sub_cancel, Int.sub_add_cancel]
    rw [if_pos (by omega)]
    congr 2
    funext b i
    by_cases g : b = 88
    · rw [if_pos g, g]; rfl
    · rw [if_neg g]
  | n + 1, a, fm, num, A, v6, v7, ha, hf, hc, hn, h96, h95, c6, d, Q => by
    have ml := Nat.mod_lt num (show n + 1 > 0 by omega)
    have len := fr_len (fm := fm) (D := D) many 0
    have len2 : (frF fm D 0 many).length = n + 1 := by omega
    obtain ⟨j, -, j2, j3, j4⟩ := nth_of (p := fun s => fm.testBit s) many 0 (num % (n + 1)) (by omega)
    rw [Nat.zero_add] at j2
    obtain ⟨g1, g2⟩ := fr_get (D := D) j3 many 0 (num % (n + 1)) (by omega) (by omega) j4
    have xq := x256 fm hf j (by omega) j3
    have dv : num / (n + 1) ≤ num := Nat.div_le_self _ _
    have e1 : (num : Int) % ((many : Int) - (a : Int)) = ((num % (n + 1) : Nat) : Int) := by rw [show (many : Int) - (a : Int) = ((n + 1 : Nat) : Int) by omega]; rfl
    have e2 : (num : Int) / ((many : Int) - (a : Int)) = ((num / (n + 1) : Nat) : Int) := by rw [show (many : Int) - (a : Int) = ((n + 1 : Nat) : Int) by omega]; rfl
    have nz : ¬ (many : Int) - (a : Int) = 0 := by omega
    have er : (num : Int) - ((num / (n + 1) : Nat) : Int) * ((many : Int) - (a : Int)) = ((num % (n + 1) : Nat) : Int) := by
      have := Nat.div_add_mod num (n + 1)
      rw [show (many : Int) - (a : Int) = ((n + 1 : Nat) : Int) by omega, ← Int.natCast_mul, Nat.mul_comm]
      omega
    have pjn : 1 ≤ 2 ^ j := Nat.one_le_two_pow
    have a96 := h96 a (by omega)
    have a95 := h95 j (by omega)
    have pj := pow_pos2 j
    have c36 := s_M_de_36 (d := d) (Q := Q) (L := L) (xs := xs) (F := F) (A := A) (B := B) (hs := hs) (t1 := t1) (t2 := t2) (fm := fm) (j := j) hf (by omega) j3 (v1 := jI many) (v2 := num0) (v3 := jI ((num / (n + 1) : Nat) : Int)) (v5 := jI a) j 0 ((num % (n + 1) : Nat) : Int) (by omega) (by rw [Nat.sub_zero] at j4; exact j4.symm)
    rw [show ((0 : Nat) : Int) = 0 from rfl] at c36
    have cx : cntS (fun s => (fm ^^^ 2 ^ j).testBit s) 0 many = n := by
      have l1 := fr_len (fm := fm ^^^ 2 ^ j) (D := D) many 0
      rw [← g2, List.length_eraseIdx_of_lt (by omega), len2] at l1
      omega
    have W8 := hW a (by omega)
    have ih := s_M_de_12 hm hW hD n (a + 1) (fm ^^^ 2 ^ j) (num / (n + 1)) (u2 A 88 (W a) (D j)) (.int (jI 0)) (.int (jI j)) (by omega) (by omega) cx (by omega) (by rw [u2_a (by omega)]; exact h96) (by rw [u2_a (by omega)]; exact h95) rfl (num0 := num0) d Q
    have ef : (fm : Int) - 2 ^ j = ((fm ^^^ 2 ^ j : Nat) : Int) := by rw [pow_nat]; omega
    rw [b_M_deal_12]
    simp (disch := omega) only [b_M_deal_18, rn_nil, rn_iconst, rn_ldc2, rn_iadd, rn_isub, rn_imul, rn_iand, rn_ior, rn_ixor, rn_ishl, rn_ishr, rn_iushr, rn_ineg, rn_ladd, rn_lsub, rn_lmul, rn_land, rn_lor, rn_lshl, rn_lushr, rn_lcmp, rn_i2l, rn_l2i, rn_dupI, rn_dupR, rn_popI, rn_dup2, rn_idiv, rn_irem, rn_ldiv, rn_lrem, rn_dadd, rn_dsub, rn_dmul, rn_objinit, rn_iload, rn_lload, rn_aload, rn_istore, rn_astore, rn_lstore, rn_iinc, rn_getfield, rn_iaload, rn_laload, rn_aaload, rn_arraylength, rn_putfield, rn_iastore, rn_lastore, rn_goto, rn_ifCond_eq, rn_if_icmp_eq, rn_ifCond_ne, rn_if_icmp_ne, rn_ifCond_lt, rn_if_icmp_lt, rn_ifCond_ge, rn_if_icmp_ge, rn_ifCond_gt, rn_if_icmp_gt, rn_ifCond_le, rn_if_icmp_le, rn_ireturn, rn_lreturn, rn_return, rL_I, rL_L, rL_R, rS_t, rI_t, rG_s, rG_i, rP_s, rP_i, kq_v, kq_s, ok_0, ok_1I, ok_1R, ok_1N, ok_s, rc8_0, rc8_1, rc8_2, rc8_3, rc8_4, List.getElem?_cons_zero, List.getElem?_cons_succ, List.set_cons_zero, List.set_cons_succ, true_and, and_true, if_true, if_false, Int.toNat_natCast, Int.reduceToNat, Int.reduceAdd, Int.reduceSub, Int.reduceMul, Int.reduceNeg, Nat.reduceAdd, Int.reduceLT, Int.reduceLE, Int.reduceEq, reduceIte, w_ck_71, w_g_71_0, w_p_71_0, w_g_71_1, w_g_71_2, w_g_71_3, w_g_71_4, w_p_71_4, w_g_71_5, w_g_71_6, w_g_71_7, w_g_71_8, w_p_71_8, w_g_71_9, w_g_71_10, w_g_71_11, w_p_71_11, w_g_71_12, w_g_71_13, w_g_71_14, w_p_71_14, w_g_71_15, w_g_71_16, w_g_71_17, w_p_71_17, w_g_71_18, w_p_71_18, w_g_71_19, w_g_71_20, w_g_71_21, w_p_71_21, w_g_71_22, w_p_71_22, w_g_71_23, w_g_71_24, w_g_71_25, w_g_71_26, w_p_71_26_0, w_p_71_26_1, w_g_71_27, w_p_71_27, w_g_71_28, w_p_71_28, w_g_71_29, w_p_71_29, w_g_71_30, w_g_71_31, w_g_71_32, w_g_71_33, w_g_71_34, w_g_71_35, w_g_71_36, w_p_71_36, w_g_71_37, w_g_71_38, w_g_71_39, w_g_71_40, w_g_71_41, w_r_72, w_l_72, w_w_72, w_r_73, w_l_73, w_w_73, w_r_74, w_l_74, w_w_74, w_r_75, w_l_75, w_w_75, w_r_76, w_l_76, w_w_76, w_r_77, w_l_77, w_w_77, w_r_78, w_l_78, w_w_78, w_r_79, w_l_79, w_w_79, w_r_80, w_l_80, w_w_80, w_r_81, w_l_81, w_w_81, w_r_82, w_l_82, w_w_82, w_r_83, w_l_83, w_w_83, w_r_84, w_l_84, w_w_84, w_r_85, w_l_85, w_w_85, w_r_86, w_l_86, w_w_86, w_r_87, w_l_87, w_w_87, w_r_88, w_l_88, w_w_88, w_r_89, w_l_89, w_w_89, w_r_90, w_l_90, w_w_90, w_r_91, w_l_91, w_w_91, w_r_92, w_l_92, w_w_92, w_r_93, w_l_93, w_w_93, w_r_94, w_l_94, w_w_94, w_r_95, w_l_95, w_w_95, w_r_96, w_l_96, w_w_96, w_r_97, w_l_97, w_w_97, w_r_98, w_l_98, w_w_98, jI_add, jI_sub, jI_mul, jI_neg, jI_eq, jI_le, jI_lt, jI_eq0, jI_eq1, jI_lt0, jI_0lt, jI_le0, jI_0le, jI_clamp, jI_inBT, kL_0, kL_1, kL_2, kL_5, kL_6, kL_7, kL_10, kL_11, kL_15, kL_23, kL_31, kL_39, kL_97, kL_99, kL_104, kL_255, kL_349, kL_999, kL_1771561, kL_16777215, kL_4294967295, kL_18446744073709551615, jI_toL, rn_zB, rn_z0, rn_z1, jIB_eq0, jIB_eq1, jIB_eqJ, jB_def, jB_not, jB_and, jB_or, jB_nand, jB_nor, jB_ite, mrg, Decidable.not_not, ite_not, u2_s, u2_n, Int.add_sub_cancel, Int.sub_add_cancel, jI_div, e2, er, nz, not_false_eq_true]
    rw [if_neg (by omega), c36, b_M_deal_69]
    simp (disch := omega) only [rn_nil, rn_iconst, rn_ldc2, rn_iadd, rn_isub, rn_imul, rn_iand, rn_ior, rn_ixor, rn_ishl, rn_ishr, rn_iushr, rn_ineg, rn_ladd, rn_lsub, rn_lmul, rn_land, rn_lor, rn_lshl, rn_lushr, rn_lcmp, rn_i2l, rn_l2i, rn_dupI, rn_dupR, rn_popI, rn_dup2, rn_idiv, rn_irem, rn_ldiv, rn_lrem, rn_dadd, rn_dsub, rn_dmul, rn_objinit, rn_iload, rn_lload, rn_aload, rn_istore, rn_astore, rn_lstore, rn_iinc, rn_getfield, rn_iaload, rn_laload, rn_aaload, rn_arraylength, rn_putfield, rn_iastore, rn_lastore, rn_goto, rn_ifCond_eq, rn_if_icmp_eq, rn_ifCond_ne, rn_if_icmp_ne, rn_ifCond_lt, rn_if_icmp_lt, rn_ifCond_ge, rn_if_icmp_ge, rn_ifCond_gt, rn_if_icmp_gt, rn_ifCond_le, rn_if_icmp_le, rn_ireturn, rn_lreturn, rn_return, rL_I, rL_L, rL_R, rS_t, rI_t, rG_s, rG_i, rP_s, rP_i, kq_v, kq_s, ok_0, ok_1I, ok_1R, ok_1N, ok_s, rc8_0, rc8_1, rc8_2, rc8_3, rc8_4, List.getElem?_cons_zero, List.getElem?_cons_succ, List.set_cons_zero, List.set_cons_succ, true_and, and_true, if_true, if_false, Int.toNat_natCast, Int.reduceToNat, Int.reduceAdd, Int.reduceSub, Int.reduceMul, Int.reduceNeg, Nat.reduceAdd, Int.reduceLT, Int.reduceLE, Int.reduceEq, reduceIte, w_ck_71, w_g_71_0, w_p_71_0, w_g_71_1, w_g_71_2, w_g_71_3, w_g_71_4, w_p_71_4, w_g_71_5, w_g_71_6, w_g_71_7, w_g_71_8, w_p_71_8, w_g_71_9, w_g_71_10, w_g_71_11, w_p_71_11, w_g_71_12, w_g_71_13, w_g_71_14, w_p_71_14, w_g_71_15, w_g_71_16, w_g_71_17, w_p_71_17, w_g_71_18, w_p_71_18, w_g_71_19, w_g_71_20, w_g_71_21, w_p_71_21, w_g_71_22, w_p_71_22, w_g_71_23, w_g_71_24, w_g_71_25, w_g_71_26, w_p_71_26_0, w_p_71_26_1, w_g_71_27, w_p_71_27, w_g_71_28, w_p_71_28, w_g_71_29, w_p_71_29, w_g_71_30, w_g_71_31, w_g_71_32, w_g_71_33, w_g_71_34, w_g_71_35, w_g_71_36, w_p_71_36, w_g_71_37, w_g_71_38, w_g_71_39, w_g_71_40, w_g_71_41, w_r_72, w_l_72, w_w_72, w_r_73, w_l_73, w_w_73, w_r_74, w_l_74, w_w_74, w_r_75, w_l_75, w_w_75, w_r_76, w_l_76, w_w_76, w_r_77, w_l_77, w_w_77, w_r_78, w_l_78, w_w_78, w_r_79, w_l_79, w_w_79, w_r_80, w_l_80, w_w_80, w_r_81, w_l_81, w_w_81, w_r_82, w_l_82, w_w_82, w_r_83, w_l_83, w_w_83, w_r_84, w_l_84, w_w_84, w_r_85, w_l_85, w_w_85, w_r_86, w_l_86, w_w_86, w_r_87, w_l_87, w_w_87, w_r_88, w_l_88, w_w_88, w_r_89, w_l_89, w_w_89, w_r_90, w_l_90, w_w_90, w_r_91, w_l_91, w_w_91, w_r_92, w_l_92, w_w_92, w_r_93, w_l_93, w_w_93, w_r_94, w_l_94, w_w_94, w_r_95, w_l_95, w_w_95, w_r_96, w_l_96, w_w_96, w_r_97, w_l_97, w_w_97, w_r_98, w_l_98, w_w_98, jI_add, jI_sub, jI_mul, jI_neg, jI_eq, jI_le, jI_lt, jI_eq0, jI_eq1, jI_lt0, jI_0lt, jI_le0, jI_0le, jI_clamp, jI_inBT, kL_0, kL_1, kL_2, kL_5, kL_6, kL_7, kL_10, kL_11, kL_15, kL_23, kL_31, kL_39, kL_97, kL_99, kL_104, kL_255, kL_349, kL_999, kL_1771561, kL_16777215, kL_4294967295, kL_18446744073709551615, jI_toL, rn_zB, rn_z0, rn_z1, jIB_eq0, jIB_eq1, jIB_eqJ, jB_def, jB_not, jB_and, jB_or, jB_nand, jB_nor, jB_ite, mrg, Decidable.not_not, ite_not, u2_s, u2_n, Int.add_sub_cancel, Int.sub_add_cancel, jI_shl1, ef, a96, a95, Int.toNat_natCast]
    rw [show (a : Int) + 1 = ((a + 1 : Nat) : Int) by omega, ih]
    congr 2
    funext b i
    by_cases g : b = 88
    · rw [if_pos g, if_pos g, whL, dlV, len2, g1, g2, u2_setA]
    · rw [if_neg g, if_neg g, u2_n (by omega)]
end MDL
