/-! THE CLASS: least changes, the tree -/
/-- tree t with the variants at vr, as parents, lands, variants -/
def CT (t vr : Nat) (F A : Nat → Nat → Int) (par land vars : Nat → Int) (m : Nat) : Prop := TR t ∧ (vr = 62 ∨ vr = 58) ∧ F t 3 = m ∧ (1 ≤ m ∧ m ≤ 40) ∧ (∀ x, x < m → A (t + 1) x = par x ∧ A (t + 2) x = land x) ∧ (∀ l, l < 8 → A vr l = vars l) ∧ (∀ i, -1 ≤ land i ∧ land i ≤ 7) ∧ (∀ i, -1 ≤ vars i ∧ vars i ≤ 7) ∧ par 0 = -1 ∧ (∀ k : Nat, 1 ≤ k → k < m → 0 ≤ par k ∧ par k < k)
theorem CT_cg {t vr m : Nat} {F A A' : Nat → Nat → Int} {par land vars : Nat → Int} (h : CT t vr F A par land vars m) (hA : ∀ a, ¬ (54 ≤ a ∧ a ≤ 56) → A' a = A a) : CT t vr F A' par land vars m := by
  obtain ⟨h1, h2, h3, h4, h5, h6, h7⟩ := h
  have ht : t = 63 ∨ t = 67 := h1
  refine ⟨h1, h2, h3, h4, ?_, ?_, h7⟩
  · rw [hA (t + 1) (by omega), hA (t + 2) (by omega)]
    exact h5
  · rw [hA vr (by omega)]
    exact h6
theorem CT.wt {t vr m : Nat} {F A : Nat → Nat → Int} {par land vars : Nat → Int} (h : CT t vr F A par land vars m) : WT[vr]? = some (0, 8, []) := by
  rcases h.2.1 with rfl | rfl <;> rfl
section CHG2
variable {d y nx : Nat} {is : List Instr} {ls st r : List Value} {Q : Option Value → am_H → Prop}
variable {L : Nat} {xs : Nat → Int32} {F A : Nat → Nat → Int} {B : Nat → Int64} {hs : Int64} {t1 t2 : Nat}
theorem ownV_rng {land vars : Nat → Int} (hV : ∀ i, -1 ≤ vars i ∧ vars i ≤ 7) (k : Nat) : -1 ≤ ownV land vars k ∧ ownV land vars k ≤ 7 := by
  have := hV (land k).toNat
  unfold ownV
  split <;> omega
/-- one row added to its parent's, up to variant k -/
def aboN (A : Nat → Nat → Int) (n p k : Nat) : Nat → Nat → Int := fun a i => if a = 54 ∧ 8 * p ≤ i ∧ i < 8 * p + k then A 54 i + lstT (A 54) n (i - 8 * p) else A a i
theorem s_Ch_add_17 {n p : Int} (hn : 0 ≤ n ∧ n ≤ 39) (hp : 0 ≤ p ∧ p < n) (hr : ∀ i, 0 ≤ A 54 i ∧ A 54 i ≤ 100000) :
    ∀ (k : Nat) (v : Int), v + k = 8 → 0 ≤ v → Rj d 3 17 [.ref 53, .int (jI n), .int (jI p), .int (jI (mn (fun w => A 54 (8 * n.toNat + w)) + 1)), .int (jI v)] [] (HW L xs F (aboN A n.toNat p.toNat v.toNat) B hs t1 t2) Q = Q none (HW L xs F (aboN A n.toNat p.toNat 8) B hs t1 t2)
  | 0, v, hk, hv => by
    rw [b_Changes_addToAbove_17]
    simp (disch := omega) only [b_Changes_addToAbove_61, rn_nil, rn_iconst, rn_ldc2, rn_iadd, rn_isub, rn_imul, rn_iand, rn_ior, rn_ixor, rn_ishl, rn_ishr, rn_iushr, rn_ineg, rn_ladd, rn_lsub, rn_lmul, rn_land, rn_lor, rn_lshl, rn_lushr, rn_lcmp, rn_i2l, rn_l2i, rn_dupI, rn_dupR, rn_popI, rn_dup2, rn_idiv, rn_irem, rn_ldiv, rn_lrem, rn_dadd, rn_dsub, rn_dmul, rn_objinit, rn_iload, rn_lload, rn_aload, rn_istore, rn_astore, rn_lstore, rn_iinc, rn_getfield, rn_iaload, rn_laload, rn_aaload, rn_arraylength, rn_putfield, rn_iastore, rn_lastore, rn_goto, rn_ifCond_eq, rn_if_icmp_eq, rn_ifCond_ne, rn_if_icmp_ne, rn_ifCond_lt, rn_if_icmp_lt, rn_ifCond_ge, rn_if_icmp_ge, rn_ifCond_gt, rn_if_icmp_gt, rn_ifCond_le, rn_if_icmp_le, rn_ireturn, rn_lreturn, rn_return, rL_I, rL_L, rL_R, rS_t, rI_t, rG_s, rG_i, rP_s, rP_i, kq_v, kq_s, ok_0, ok_1I, ok_1R, ok_1N, ok_s, rc8_0, rc8_1, rc8_2, rc8_3, rc8_4, List.getElem?_cons_zero, List.getElem?_cons_succ, List.set_cons_zero, List.set_cons_succ, true_and, and_true, if_true, if_false, Int.toNat_natCast, Int.reduceToNat, Int.reduceAdd, Int.reduceSub, Int.reduceMul, Int.reduceNeg, Nat.reduceAdd, Int.reduceLT, Int.reduceLE, Int.reduceEq, reduceIte, w_ck_53, w_g_53_0, w_g_53_1, w_g_53_2, w_r_54, w_l_54, w_w_54, w_r_55, w_l_55, w_w_55, w_r_56, w_l_56, w_w_56, jI_add, jI_sub, jI_mul, jI_neg, jI_eq, jI_le, jI_lt, jI_eq0, jI_eq1, jI_lt0, jI_0lt, jI_le0, jI_0le, jI_clamp, jI_inBT, kL_0, kL_1, kL_2, kL_5, kL_6, kL_7, kL_10, kL_11, kL_15, kL_23, kL_31, kL_39, kL_97, kL_99, kL_104, kL_255, kL_349, kL_999, kL_1771561, kL_16777215, kL_4294967295, kL_18446744073709551615, jI_toL, rn_zB, rn_z0, rn_z1, jIB_eq0, jIB_eq1, jIB_eqJ, jB_def, jB_not, jB_and, jB_or, jB_nand, jB_nor, jB_ite, mrg, Decidable.not_not, ite_not, u2_s, u2_n, Int.add_sub_cancel, Int.sub_add_cancel]
    rw [if_pos (by omega), show v = 8 by omega]
    rfl
  | k + 1, v, hk, hv => by
    have e1 : aboN A n.toNat p.toNat v.toNat 54 (p * 8 + v).toNat = A 54 (p * 8 + v).toNat := by
      unfold aboN
      rw [if_neg (by omega)]
    have e2 : aboN A n.toNat p.toNat v.toNat 54 (n * 8 + v).toNat = A 54 (n * 8 + v).toNat := by
      unfold aboN
      rw [if_neg (by omega)]
    have r1 := hr (p * 8 + v).toNat
    have r2 := hr (n * 8 + v).toNat
    have r3 := mn_rng (f := fun w => A 54 (8 * n.toNat + w)) (lo := 0) (hi := 100000) (fun w _ => hr _)
    rw [b_Changes_addToAbove_17]
    simp (disch := omega) only [b_Changes_addToAbove_24, rn_nil, rn_iconst, rn_ldc2, rn_iadd, rn_isub, rn_imul, rn_iand, rn_ior, rn_ixor, rn_ishl, rn_ishr, rn_iushr, rn_ineg, rn_ladd, rn_lsub, rn_lmul, rn_land, rn_lor, rn_lshl, rn_lushr, rn_lcmp, rn_i2l, rn_l2i, rn_dupI, rn_dupR, rn_popI, rn_dup2, rn_idiv, rn_irem, rn_ldiv, rn_lrem, rn_dadd, rn_dsub, rn_dmul, rn_objinit, rn_iload, rn_lload, rn_aload, rn_istore, rn_astore, rn_lstore, rn_iinc, rn_getfield, rn_iaload, rn_laload, rn_aaload, rn_arraylength, rn_putfield, rn_iastore, rn_lastore, rn_goto, rn_ifCond_eq, rn_if_icmp_eq, rn_ifCond_ne, rn_if_icmp_ne, rn_ifCond_lt, rn_if_icmp_lt, rn_ifCond_ge, rn_if_icmp_ge, rn_ifCond_gt, rn_if_icmp_gt, rn_ifCond_le, rn_if_icmp_le, rn_ireturn, rn_lreturn, rn_return, rL_I, rL_L, rL_R, rS_t, rI_t, rG_s, rG_i, rP_s, rP_i, kq_v, kq_s, ok_0, ok_1I, ok_1R, ok_1N, ok_s, rc8_0, rc8_1, rc8_2, rc8_3, rc8_4, List.getElem?_cons_zero, List.getElem?_cons_succ, List.set_cons_zero, List.set_cons_succ, true_and, and_true, if_true, if_false, Int.toNat_natCast, Int.reduceToNat, Int.reduceAdd, Int.reduceSub, Int.reduceMul, Int.reduceNeg, Nat.reduceAdd, Int.reduceLT, Int.reduceLE, Int.reduceEq, reduceIte, w_ck_53, w_g_53_0, w_g_53_1, w_g_53_2, w_r_54, w_l_54, w_w_54, w_r_55, w_l_55, w_w_55, w_r_56, w_l_56, w_w_56, jI_add, jI_sub, jI_mul, jI_neg, jI_eq, jI_le, jI_lt, jI_eq0, jI_eq1, jI_lt0, jI_0lt, jI_le0, jI_0le, jI_clamp, jI_inBT, kL_0, kL_1, kL_2, kL_5, kL_6, kL_7, kL_10, kL_11, kL_15, kL_23, kL_31, kL_39, kL_97, kL_99, kL_104, kL_255, kL_349, kL_999, kL_1771561, kL_16777215, kL_4294967295, kL_18446744073709551615, jI_toL, rn_zB, rn_z0, rn_z1, jIB_eq0, jIB_eq1, jIB_eqJ, jB_def, jB_not, jB_and, jB_or, jB_nand, jB_nor, jB_ite, mrg, Decidable.not_not, ite_not, u2_s, u2_n, Int.add_sub_cancel, Int.sub_add_cancel, e1, e2]
    rw [if_neg (by omega)]
    have e3 : lstT (A 54) n.toNat v.toNat = if mn (fun w => A 54 (8 * n.toNat + w)) + 1 < A 54 (n * 8 + v).toNat then mn (fun w => A 54 (8 * n.toNat + w)) + 1 else A 54 (n * 8 + v).toNat := by
      rw [lstT_LL, LL_mn, show 8 * n.toNat + v.toNat = (n * 8 + v).toNat by omega]
    have e4 : u2 (aboN A n.toNat p.toNat v.toNat) 54 (p * 8 + v).toNat (A 54 (p * 8 + v).toNat + lstT (A 54) n.toNat v.toNat) = aboN A n.toNat p.toNat (v + 1).toNat := by
      funext a i
      unfold u2 aboN
      by_cases g : a = 54 ∧ i = (p * 8 + v).toNat
      · rw [if_pos g, if_pos (by omega), g.2, show (p * 8 + v).toNat - 8 * p.toNat = v.toNat by omega]
      · rw [if_neg g]
        by_cases g2 : a = 54 ∧ 8 * p.toNat ≤ i ∧ i < 8 * p.toNat + v.toNat
        · rw [if_pos g2, if_pos (by omega)]
        · rw [if_neg g2, if_neg (by omega)]
    by_cases g : mn (fun w => A 54 (8 * n.toNat + w)) + 1 < A 54 (n * 8 + v).toNat
    · rw [if_pos g] at e3 ⊢
      rw [e3] at e4
      simp (disch := omega) only [rn_nil, rn_iconst, rn_ldc2, rn_iadd, rn_isub, rn_imul, rn_iand, rn_ior, rn_ixor, rn_ishl, rn_ishr, rn_iushr, rn_ineg, rn_ladd, rn_lsub, rn_lmul, rn_land, rn_lor, rn_lshl, rn_lushr, rn_lcmp, rn_i2l, rn_l2i, rn_dupI, rn_dupR, rn_popI, rn_dup2, rn_idiv, rn_irem, rn_ldiv, rn_lrem, rn_dadd, rn_dsub, rn_dmul, rn_objinit, rn_iload, rn_lload, rn_aload, rn_istore, rn_astore, rn_lstore, rn_iinc, rn_getfield, rn_iaload, rn_laload, rn_aaload, rn_arraylength, rn_putfield, rn_iastore, rn_lastore, rn_goto, rn_ifCond_eq, rn_if_icmp_eq, rn_ifCond_ne, rn_if_icmp_ne, rn_ifCond_lt, rn_if_icmp_lt, rn_ifCond_ge, rn_if_icmp_ge, rn_ifCond_gt, rn_if_icmp_gt, rn_ifCond_le, rn_if_icmp_le, rn_ireturn, rn_lreturn, rn_return, rL_I, rL_L, rL_R, rS_t, rI_t, rG_s, rG_i, rP_s, rP_i, kq_v, kq_s, ok_0, ok_1I, ok_1R, ok_1N, ok_s, rc8_0, rc8_1, rc8_2, rc8_3, rc8_4, List.getElem?_cons_zero, List.getElem?_cons_succ, List.set_cons_zero, List.set_cons_succ, true_and, and_true, if_true, if_false, Int.toNat_natCast, Int.reduceToNat, Int.reduceAdd, Int.reduceSub, Int.reduceMul, Int.reduceNeg, Nat.reduceAdd, Int.reduceLT, Int.reduceLE, Int.reduceEq, reduceIte, w_ck_53, w_g_53_0, w_g_53_1, w_g_53_2, w_r_54, w_l_54, w_w_54, w_r_55, w_l_55, w_w_55, w_r_56, w_l_56, w_w_56, jI_add, jI_sub, jI_mul, jI_neg, jI_eq, jI_le, jI_lt, jI_eq0, jI_eq1, jI_lt0, jI_0lt, jI_le0, jI_0le, jI_clamp, jI_inBT, kL_0, kL_1, kL_2, kL_5, kL_6, kL_7, kL_10, kL_11, kL_15, kL_23, kL_31, kL_39, kL_97, kL_99, kL_104, kL_255, kL_349, kL_999, kL_1771561, kL_16777215, kL_4294967295, kL_18446744073709551615, jI_toL, rn_zB, rn_z0, rn_z1, jIB_eq0, jIB_eq1, jIB_eqJ, jB_def, jB_not, jB_and, jB_or, jB_nand, jB_nor, jB_ite, mrg, Decidable.not_not, ite_not, u2_s, u2_n, Int.add_sub_cancel, Int.sub_add_cancel, e4]
      exact s_Ch_add_17 hn hp hr k (v + 1) (by omega) (by omega)
    · rw [if_neg g] at e3 ⊢
      rw [e3] at e4
      simp (disch := omega) only [rn_nil, rn_iconst, rn_ldc2, rn_iadd, rn_isub, rn_imul, rn_iand, rn_ior, rn_ixor, rn_ishl, rn_ishr, rn_iushr, rn_ineg, rn_ladd, rn_lsub, rn_lmul, rn_land, rn_lor, rn_lshl, rn_lushr, rn_lcmp, rn_i2l, rn_l2i, rn_dupI, rn_dupR, rn_popI, rn_dup2, rn_idiv, rn_irem, rn_ldiv, rn_lrem, rn_dadd, rn_dsub, rn_dmul, rn_objinit, rn_iload, rn_lload, rn_aload, rn_istore, rn_astore, rn_lstore, rn_iinc, rn_getfield, rn_iaload, rn_laload, rn_aaload, rn_arraylength, rn_putfield, rn_iastore, rn_lastore, rn_goto, rn_ifCond_eq, rn_if_icmp_eq, rn_ifCond_ne, rn_if_icmp_ne, rn_ifCond_lt, rn_if_icmp_lt, rn_ifCond_ge, rn_if_icmp_ge, rn_ifCond_gt, rn_if_icmp_gt, rn_ifCond_le, rn_if_icmp_le, rn_ireturn, rn_lreturn, rn_return, rL_I, rL_L, rL_R, rS_t, rI_t, rG_s, rG_i, rP_s, rP_i, kq_v, kq_s, ok_0, ok_1I, ok_1R, ok_1N, ok_s, rc8_0, rc8_1, rc8_2, rc8_3, rc8_4, List.getElem?_cons_zero, List.getElem?_cons_succ, List.set_cons_zero, List.set_cons_succ, true_and, and_true, if_true, if_false, Int.toNat_natCast, Int.reduceToNat, Int.reduceAdd, Int.reduceSub, Int.reduceMul, Int.reduceNeg, Nat.reduceAdd, Int.reduceLT, Int.reduceLE, Int.reduceEq, reduceIte, w_ck_53, w_g_53_0, w_g_53_1, w_g_53_2, w_r_54, w_l_54, w_w_54, w_r_55, w_l_55, w_w_55, w_r_56, w_l_56, w_w_56, jI_add, jI_sub, jI_mul, jI_neg, jI_eq, jI_le, jI_lt, jI_eq0, jI_eq1, jI_lt0, jI_0lt, jI_le0, jI_0le, jI_clamp, jI_inBT, kL_0, kL_1, kL_2, kL_5, kL_6, kL_7, kL_10, kL_11, kL_15, kL_23, kL_31, kL_39, kL_97, kL_99, kL_104, kL_255, kL_349, kL_999, kL_1771561, kL_16777215, kL_4294967295, kL_18446744073709551615, jI_toL, rn_zB, rn_z0, rn_z1, jIB_eq0, jIB_eq1, jIB_eqJ, jB_def, jB_not, jB_and, jB_or, jB_nand, jB_nor, jB_ite, mrg, Decidable.not_not, ite_not, u2_s, u2_n, Int.add_sub_cancel, Int.sub_add_cancel, e4]
      exact s_Ch_add_17 hn hp hr k (v + 1) (by omega) (by omega)
theorem s_Ch_add {n p : Int} (hn : 0 ≤ n ∧ n ≤ 39) (hp : 0 ≤ p ∧ p < n) (hr : ∀ i, 0 ≤ A 54 i ∧ A 54 i ≤ 100000) :
    Rj (d + 1) 3 0 [.ref 53, .int (jI n), .int (jI p), .null, .null] [] (HW L xs F A B hs t1 t2) Q = Q none (HW L xs F (aboN A n.toNat p.toNat 8) B hs t1 t2) := by
  have e0 : aboN A n.toNat p.toNat 0 = A := by
    funext a i
    unfold aboN
    rw [if_neg (by omega)]
  have e := s_Ch_add_17 (d := d + 1) (Q := Q) (L := L) (xs := xs) (F := F) (B := B) (hs := hs) (t1 := t1) (t2 := t2) hn hp hr 8 0 (by omega) (by omega)
  rw [show (0 : Int).toNat = 0 from rfl, e0] at e
  rw [b_Changes_addToAbove_0]
  simp (disch := omega) only [rn_nil, rn_iconst, rn_ldc2, rn_iadd, rn_isub, rn_imul, rn_iand, rn_ior, rn_ixor, rn_ishl, rn_ishr, rn_iushr, rn_ineg, rn_ladd, rn_lsub, rn_lmul, rn_land, rn_lor, rn_lshl, rn_lushr, rn_lcmp, rn_i2l, rn_l2i, rn_dupI, rn_dupR, rn_popI, rn_dup2, rn_idiv, rn_irem, rn_ldiv, rn_lrem, rn_dadd, rn_dsub, rn_dmul, rn_objinit, rn_iload, rn_lload, rn_aload, rn_istore, rn_astore, rn_lstore, rn_iinc, rn_getfield, rn_iaload, rn_laload, rn_aaload, rn_arraylength, rn_putfield, rn_iastore, rn_lastore, rn_goto, rn_ifCond_eq, rn_if_icmp_eq, rn_ifCond_ne, rn_if_icmp_ne, rn_ifCond_lt, rn_if_icmp_lt, rn_ifCond_ge, rn_if_icmp_ge, rn_ifCond_gt, rn_if_icmp_gt, rn_ifCond_le, rn_if_icmp_le, rn_ireturn, rn_lreturn, rn_return, rL_I, rL_L, rL_R, rS_t, rI_t, rG_s, rG_i, rP_s, rP_i, kq_v, kq_s, ok_0, ok_1I, ok_1R, ok_1N, ok_s, rc8_0, rc8_1, rc8_2, rc8_3, rc8_4, List.getElem?_cons_zero, List.getElem?_cons_succ, List.set_cons_zero, List.set_cons_succ, true_and, and_true, if_true, if_false, Int.toNat_natCast, Int.reduceToNat, Int.reduceAdd, Int.reduceSub, Int.reduceMul, Int.reduceNeg, Nat.reduceAdd, Int.reduceLT, Int.reduceLE, Int.reduceEq, reduceIte, w_ck_53, w_g_53_0, w_g_53_1, w_g_53_2, w_r_54, w_l_54, w_w_54, w_r_55, w_l_55, w_w_55, w_r_56, w_l_56, w_w_56, jI_add, jI_sub, jI_mul, jI_neg, jI_eq, jI_le, jI_lt, jI_eq0, jI_eq1, jI_lt0, jI_0lt, jI_le0, jI_0le, jI_clamp, jI_inBT, kL_0, kL_1, kL_2, kL_5, kL_6, kL_7, kL_10, kL_11, kL_15, kL_23, kL_31, kL_39, kL_97, kL_99, kL_104, kL_255, kL_349, kL_999, kL_1771561, kL_16777215, kL_4294967295, kL_18446744073709551615, jI_toL, rn_zB, rn_z0, rn_z1, jIB_eq0, jIB_eq1, jIB_eqJ, jB_def, jB_not, jB_and, jB_or, jB_nand, jB_nor, jB_ite, mrg, Decidable.not_not, ite_not, u2_s, u2_n, Int.add_sub_cancel, Int.sub_add_cancel, c_Changes_leastOf]
  rw [s_Ch_leastOf (a := 54) (n := 320) rfl (by omega) (by omega) (fun w _ => by have := hr ((n * 8).toNat + w); omega), show (n * 8).toNat = 8 * n.toNat by omega]
  simp (disch := omega) only [rn_nil, rn_iconst, rn_ldc2, rn_iadd, rn_isub, rn_imul, rn_iand, rn_ior, rn_ixor, rn_ishl, rn_ishr, rn_iushr, rn_ineg, rn_ladd, rn_lsub, rn_lmul, rn_land, rn_lor, rn_lshl, rn_lushr, rn_lcmp, rn_i2l, rn_l2i, rn_dupI, rn_dupR, rn_popI, rn_dup2, rn_idiv, rn_irem, rn_ldiv, rn_lrem, rn_dadd, rn_dsub, rn_dmul, rn_objinit, rn_iload, rn_lload, rn_aload, rn_istore, rn_astore, rn_lstore, rn_iinc, rn_getfield, rn_iaload, rn_laload, rn_aaload, rn_arraylength, rn_putfield, rn_iastore, rn_lastore, rn_goto, rn_ifCond_eq, rn_if_icmp_eq, rn_ifCond_ne, rn_if_icmp_ne, rn_ifCond_lt, rn_if_icmp_lt, rn_ifCond_ge, rn_if_icmp_ge, rn_ifCond_gt, rn_if_icmp_gt, rn_ifCond_le, rn_if_icmp_le, rn_ireturn, rn_lreturn, rn_return, rL_I, rL_L, rL_R, rS_t, rI_t, rG_s, rG_i, rP_s, rP_i, kq_v, kq_s, ok_0, ok_1I, ok_1R, ok_1N, ok_s, rc8_0, rc8_1, rc8_2, rc8_3, rc8_4, List.getElem?_cons_zero, List.getElem?_cons_succ, List.set_cons_zero, List.set_cons_succ, true_and, and_true, if_true, if_false, Int.toNat_natCast, Int.reduceToNat, Int.reduceAdd, Int.reduceSub, Int.reduceMul, Int.reduceNeg, Nat.reduceAdd, Int.reduceLT, Int.reduceLE, Int.reduceEq, reduceIte, w_ck_53, w_g_53_0, w_g_53_1, w_g_53_2, w_r_54, w_l_54, w_w_54, w_r_55, w_l_55, w_w_55, w_r_56, w_l_56, w_w_56, jI_add, jI_sub, jI_mul, jI_neg, jI_eq, jI_le, jI_lt, jI_eq0, jI_eq1, jI_lt0, jI_0lt, jI_le0, jI_0le, jI_clamp, jI_inBT, kL_0, kL_1, kL_2, kL_5, kL_6, kL_7, kL_10, kL_11, kL_15, kL_23, kL_31, kL_39, kL_97, kL_99, kL_104, kL_255, kL_349, kL_999, kL_1771561, kL_16777215, kL_4294967295, kL_18446744073709551615, jI_toL, rn_zB, rn_z0, rn_z1, jIB_eq0, jIB_eq1, jIB_eqJ, jB_def, jB_not, jB_and, jB_or, jB_nand, jB_nor, jB_ite, mrg, Decidable.not_not, ite_not, u2_s, u2_n, Int.add_sub_cancel, Int.sub_add_cancel]
  exact e
/-- the costs when the nodes from n on are added -/
def adN (T par own : Nat → Int) (m n : Nat) (A : Nat → Nat → Int) : Nat → Nat → Int := fun a i => if a = 54 ∧ i < 8 * m then basM (own (i / 8)) ((i % 8 : Nat) : Int) + blwT T par (i / 8) (i % 8) n (m - n) else A a i
theorem lstT_0 {T : Nat → Int} (hT : ∀ i, 0 ≤ T i) (n v : Nat) : 0 ≤ lstT T n v := by
  rw [lstT_LL, LL_mn]
  have h1 := hT (8 * n + v)
  obtain ⟨w, _, e⟩ := mn_mem (fun w => T (8 * n + w))
  have h2 := hT (8 * n + w)
  split <;> omega
theorem blwT_0 {T par : Nat → Int} (hT : ∀ i, 0 ≤ T i) {n v : Nat} : ∀ (k j : Nat), 0 ≤ blwT T par n v j k
  | 0, j => Int.le_refl _
  | k + 1, j => by
    have h1 := lstT_0 hT j v
    have h2 := blwT_0 hT (par := par) (n := n) (v := v) k (j + 1)
    rw [blwT]
    split <;> omega
theorem blwT_app {T par : Nat → Int} {n v : Nat} : ∀ (a b j : Nat), blwT T par n v j (a + b) = blwT T par n v j a + blwT T par n v (j + a) b
  | 0, b, j => by rw [Nat.zero_add, blwT, Int.zero_add, Nat.add_zero]
  | a + 1, b, j => by rw [show a + 1 + b = (a + b) + 1 by omega, blwT, blwT, blwT_app a b (j + 1), show j + 1 + a = j + (a + 1) by omega, Int.add_assoc]
theorem blwT_none {T par : Nat → Int} {n v : Nat} : ∀ (k j : Nat), (∀ x, j ≤ x → x < j + k → ¬ par x = n) → blwT T par n v j k = 0
  | 0, j, _ => rfl
  | k + 1, j, h => by rw [blwT, if_neg (h j (Nat.le_refl j) (by omega)), blwT_none k (j + 1) (fun x h1 h2 => h x (by omega) (by omega))]; rfl
/-- no node at or before its parent -/
theorem blwT_cut {T par : Nat → Int} {m : Nat} (hp : ∀ k : Nat, 1 ≤ k → k < m → 0 ≤ par k ∧ par k < k) {j v n : Nat} (hn : 1 ≤ n) (hj : j < m) : n ≤ j + 1 → blwT T par j v n (m - n) = blwT T par j v (j + 1) (m - (j + 1)) := by
  intro h
  rw [show m - n = (j + 1 - n) + (m - (j + 1)) by omega, blwT_app, blwT_none (j + 1 - n) n (fun x h1 h2 e => by have := hp x (by omega) (by omega); omega), Int.zero_add, show n + (j + 1 - n) = j + 1 by omega]
theorem adN_rng {T par own : Nat → Int} {m : Nat} (hT : TabEq T par own m) (h0 : ∀ i, 0 ≤ T i) (hB : ∀ j v, j < m → v < 8 → 0 ≤ blwT T par j v (j + 1) (m - (j + 1)) ∧ blwT T par j v (j + 1) (m - (j + 1)) ≤ 39) (hp : ∀ k : Nat, 1 ≤ k → k < m → 0 ≤ par k ∧ par k < k) {n : Nat} (hn : 1 ≤ n ∧ n ≤ m) {A : Nat → Nat → Int} (hA : ∀ i, 0 ≤ A 54 i ∧ A 54 i ≤ 100000) : ∀ i, 0 ≤ adN T par own m n A 54 i ∧ adN T par own m n A 54 i ≤ 100000 := by
  intro i
  unfold adN
  by_cases g : i < 8 * m
  · rw [if_pos ⟨rfl, g⟩]
    have b1 := basM_rng (own (i / 8)) ((i % 8 : Nat) : Int)
    have b2 := hB (i / 8) (i % 8) (by omega) (by omega)
    have b3 := blwT_0 h0 (par := par) (n := i / 8) (v := i % 8) (m - n) n
    have b4 : blwT T par (i / 8) (i % 8) n (m - n) ≤ 39 := by
      by_cases g2 : n ≤ i / 8 + 1
      · rw [blwT_cut hp hn.1 (by omega) g2]; exact b2.2
      · have e := blwT_app (T := T) (par := par) (n := i / 8) (v := i % 8) (n - (i / 8 + 1)) (m - n) (i / 8 + 1)
        rw [show n - (i / 8 + 1) + (m - n) = m - (i / 8 + 1) by omega, show i / 8 + 1 + (n - (i / 8 + 1)) = n by omega] at e
        have b5 := blwT_0 h0 (par := par) (n := i / 8) (v := i % 8) (n - (i / 8 + 1)) (i / 8 + 1)
        omega
    omega
  · rw [if_neg (by omega)]
    exact hA i
theorem adN_step {T par own : Nat → Int} {m n : Nat} (hT : TabEq T par own m) (hp : ∀ k : Nat, 1 ≤ k → k < m → 0 ≤ par k ∧ par k < k) (hn : 1 ≤ n ∧ n < m) {A : Nat → Nat → Int} : aboN (adN T par own m (n + 1) A) n (par n).toNat 8 = adN T par own m n A := by
  have p := hp n hn.1 hn.2
  have row : ∀ w, w < 8 → adN T par own m (n + 1) A 54 (8 * n + w) = T (8 * n + w) := by
    intro w hw
    unfold adN
    rw [if_pos ⟨rfl, by omega⟩, show (8 * n + w) / 8 = n by omega, show (8 * n + w) % 8 = w by omega, hT n w hn.2 hw]
  funext a i
  unfold aboN
  by_cases g : a = 54 ∧ 8 * (par n).toNat ≤ i ∧ i < 8 * (par n).toNat + 8
  · rw [if_pos g, g.1, lstT_cg (T' := T) (by omega) row]
    have e1 : i / 8 = (par n).toNat := by omega
    have e2 : i - 8 * (par n).toNat = i % 8 := by omega
    unfold adN
    rw [if_pos ⟨rfl, by omega⟩, if_pos ⟨rfl, by omega⟩, show m - n = (m - (n + 1)) + 1 by omega, blwT, if_pos (by omega), e2]
    omega
  · rw [if_neg g]
    unfold adN
    by_cases g2 : a = 54 ∧ i < 8 * m
    · rw [if_pos g2, if_pos g2, show m - n = (m - (n + 1)) + 1 by omega, blwT, if_neg (by omega), Int.zero_add]
    · rw [if_neg g2, if_neg g2]
/-- the costs laid -/
def wbA (T : Nat → Int) (m : Nat) (A : Nat → Nat → Int) : Nat → Nat → Int := fun a i => if a = 54 ∧ i < 8 * m then T i else A a i
theorem adN_wb {T par own : Nat → Int} {m : Nat} (hT : TabEq T par own m) (hp : ∀ k : Nat, 1 ≤ k → k < m → 0 ≤ par k ∧ par k < k) {A : Nat → Nat → Int} : adN T par own m 1 A = wbA T m A := by
  funext a i
  unfold adN wbA
  by_cases g : a = 54 ∧ i < 8 * m
  · rw [if_pos g, if_pos g, blwT_cut hp (Nat.le_refl 1) (by omega) (by omega)]
    have := hT (i / 8) (i % 8) (by omega) (by omega)
    rw [show 8 * (i / 8) + i % 8 = i by omega] at this
    exact this.symm
  · rw [if_neg g, if_neg g]
theorem adN_bs {T par own : Nat → Int} {m : Nat} {A : Nat → Nat → Int} : bsN own A (8 * m) = adN T par own m m A := by
  funext a i
  unfold adN bsN
  by_cases g : a = 54 ∧ i < 8 * m
  · rw [if_pos g, if_pos g, Nat.sub_self, blwT, Int.add_zero]
  · rw [if_neg g, if_neg g]
theorem adN_o {T par own : Nat → Int} {m n a : Nat} {A : Nat → Nat → Int} (h : ¬ a = 54) : adN T par own m n A a = A a := by
  funext i
  unfold adN
  rw [if_neg (fun e => h e.1)]
theorem s_Ch_wb_95 {t vr m : Nat} {par land vars : Nat → Int} (hC : CT t vr F A par land vars m) (hA : ∀ i, 0 ≤ A 54 i ∧ A 54 i ≤ 100000) {v4 v5 v6 : Value} :
    ∀ (n : Nat), n < m → Rj (d + 2) 2 95 [.ref 53, .ref t, .ref vr, .int (jI n), v4, v5, v6] [] (HW L xs F (adN (Tab par land vars m) par (ownV land vars) m (n + 1) A) B hs t1 t2) Q = Q none (HW L xs F (wbA (Tab par land vars m) m A) B hs t1 t2)
  | 0, hn => by
    have hK := Tab_ok (par := par) hC.2.2.2.1.2 hC.2.2.2.2.2.2.1 hC.2.2.2.2.2.2.2.1
    rw [b_Changes_weighBelow_95]
    simp (disch := omega) only [b_Changes_weighBelow_116, rn_nil, rn_iconst, rn_ldc2, rn_iadd, rn_isub, rn_imul, rn_iand, rn_ior, rn_ixor, rn_ishl, rn_ishr, rn_iushr, rn_ineg, rn_ladd, rn_lsub, rn_lmul, rn_land, rn_lor, rn_lshl, rn_lushr, rn_lcmp, rn_i2l, rn_l2i, rn_dupI, rn_dupR, rn_popI, rn_dup2, rn_idiv, rn_irem, rn_ldiv, rn_lrem, rn_dadd, rn_dsub, rn_dmul, rn_objinit, rn_iload, rn_lload, rn_aload, rn_istore, rn_astore, rn_lstore, rn_iinc, rn_getfield, rn_iaload, rn_laload, rn_aaload, rn_arraylength, rn_putfield, rn_iastore, rn_lastore, rn_goto, rn_ifCond_eq, rn_if_icmp_eq, rn_ifCond_ne, rn_if_icmp_ne, rn_ifCond_lt, rn_if_icmp_lt, rn_ifCond_ge, rn_if_icmp_ge, rn_ifCond_gt, rn_if_icmp_gt, rn_ifCond_le, rn_if_icmp_le, rn_ireturn, rn_lreturn, rn_return, rL_I, rL_L, rL_R, rS_t, rI_t, rG_s, rG_i, rP_s, rP_i, kq_v, kq_s, ok_0, ok_1I, ok_1R, ok_1N, ok_s, rc8_0, rc8_1, rc8_2, rc8_3, rc8_4, List.getElem?_cons_zero, List.getElem?_cons_succ, List.set_cons_zero, List.set_cons_succ, true_and, and_true, if_true, if_false, Int.toNat_natCast, Int.reduceToNat, Int.reduceAdd, Int.reduceSub, Int.reduceMul, Int.reduceNeg, Nat.reduceAdd, Int.reduceLT, Int.reduceLE, Int.reduceEq, reduceIte, w_ck_53, w_g_53_0, w_g_53_1, w_g_53_2, w_r_54, w_l_54, w_w_54, w_r_55, w_l_55, w_w_55, w_r_56, w_l_56, w_w_56, jI_add, jI_sub, jI_mul, jI_neg, jI_eq, jI_le, jI_lt, jI_eq0, jI_eq1, jI_lt0, jI_0lt, jI_le0, jI_0le, jI_clamp, jI_inBT, kL_0, kL_1, kL_2, kL_5, kL_6, kL_7, kL_10, kL_11, kL_15, kL_23, kL_31, kL_39, kL_97, kL_99, kL_104, kL_255, kL_349, kL_999, kL_1771561, kL_16777215, kL_4294967295, kL_18446744073709551615, jI_toL, rn_zB, rn_z0, rn_z1, jIB_eq0, jIB_eq1, jIB_eqJ, jB_def, jB_not, jB_and, jB_or, jB_nand, jB_nor, jB_ite, mrg, Decidable.not_not, ite_not, u2_s, u2_n, Int.add_sub_cancel, Int.sub_add_cancel]
    rw [if_pos (by omega), adN_wb hK.1 hC.2.2.2.2.2.2.2.2.2]
  | n + 1, hn => by
    have hK := Tab_ok (par := par) hC.2.2.2.1.2 hC.2.2.2.2.2.2.1 hC.2.2.2.2.2.2.2.1
    have hp := hC.2.2.2.2.2.2.2.2.2
    have p := hp (n + 1) (by omega) hn
    have ht := hC.1
    have t0 : t = 63 ∨ t = 67 := hC.1
    have m40 := hC.2.2.2.1
    have e1 : adN (Tab par land vars m) par (ownV land vars) m (n + 1 + 1) A (t + 1) (n + 1) = par (n + 1) := by
      rw [adN_o (by omega)]
      exact (hC.2.2.2.2.1 (n + 1) hn).1
    have e1' : adN (Tab par land vars m) par (ownV land vars) m (n + 1 + 1) A (t + 1) ((n + 1 : Nat) : Int).toNat = par (n + 1) := by
      rw [Int.toNat_natCast]; exact e1
    have hr := adN_rng hK.1 (fun i => (hK.2.2.2 i).1) hK.2.1 hp (n := n + 1 + 1) (by omega) hA
    rw [b_Changes_weighBelow_95]
    simp (disch := omega) only [b_Changes_weighBelow_99, rn_nil, rn_iconst, rn_ldc2, rn_iadd, rn_isub, rn_imul, rn_iand, rn_ior, rn_ixor, rn_ishl, rn_ishr, rn_iushr, rn_ineg, rn_ladd, rn_lsub, rn_lmul, rn_land, rn_lor, rn_lshl, rn_lushr, rn_lcmp, rn_i2l, rn_l2i, rn_dupI, rn_dupR, rn_popI, rn_dup2, rn_idiv, rn_irem, rn_ldiv, rn_lrem, rn_dadd, rn_dsub, rn_dmul, rn_objinit, rn_iload, rn_lload, rn_aload, rn_istore, rn_astore, rn_lstore, rn_iinc, rn_getfield, rn_iaload, rn_laload, rn_aaload, rn_arraylength, rn_putfield, rn_iastore, rn_lastore, rn_goto, rn_ifCond_eq, rn_if_icmp_eq, rn_ifCond_ne, rn_if_icmp_ne, rn_ifCond_lt, rn_if_icmp_lt, rn_ifCond_ge, rn_if_icmp_ge, rn_ifCond_gt, rn_if_icmp_gt, rn_ifCond_le, rn_if_icmp_le, rn_ireturn, rn_lreturn, rn_return, rL_I, rL_L, rL_R, rS_t, rI_t, rG_s, rG_i, rP_s, rP_i, kq_v, kq_s, ok_0, ok_1I, ok_1R, ok_1N, ok_s, rc8_0, rc8_1, rc8_2, rc8_3, rc8_4, List.getElem?_cons_zero, List.getElem?_cons_succ, List.set_cons_zero, List.set_cons_succ, true_and, and_true, if_true, if_false, Int.toNat_natCast, Int.reduceToNat, Int.reduceAdd, Int.reduceSub, Int.reduceMul, Int.reduceNeg, Nat.reduceAdd, Int.reduceLT, Int.reduceLE, Int.reduceEq, reduceIte, w_ck_53, w_g_53_0, w_g_53_1, w_g_53_2, w_r_54, w_l_54, w_w_54, w_r_55, w_l_55, w_w_55, w_r_56, w_l_56, w_w_56, jI_add, jI_sub, jI_mul, jI_neg, jI_eq, jI_le, jI_lt, jI_eq0, jI_eq1, jI_lt0, jI_0lt, jI_le0, jI_0le, jI_clamp, jI_inBT, kL_0, kL_1, kL_2, kL_5, kL_6, kL_7, kL_10, kL_11, kL_15, kL_23, kL_31, kL_39, kL_97, kL_99, kL_104, kL_255, kL_349, kL_999, kL_1771561, kL_16777215, kL_4294967295, kL_18446744073709551615, jI_toL, rn_zB, rn_z0, rn_z1, jIB_eq0, jIB_eq1, jIB_eqJ, jB_def, jB_not, jB_and, jB_or, jB_nand, jB_nor, jB_ite, mrg, Decidable.not_not, ite_not, u2_s, u2_n, Int.add_sub_cancel, Int.sub_add_cancel, w_g_T0 ht, w_r_T1 ht, e1', c_Changes_addToAbove]
    rw [if_neg (by omega), e1, s_Ch_add (by omega) (by omega) hr]
    rw [Int.toNat_natCast, adN_step hK.1 hp (by omega)]
    simp (disch := omega) only [rn_nil, rn_iconst, rn_ldc2, rn_iadd, rn_isub, rn_imul, rn_iand, rn_ior, rn_ixor, rn_ishl, rn_ishr, rn_iushr, rn_ineg, rn_ladd, rn_lsub, rn_lmul, rn_land, rn_lor, rn_lshl, rn_lushr, rn_lcmp, rn_i2l, rn_l2i, rn_dupI, rn_dupR, rn_popI, rn_dup2, rn_idiv, rn_irem, rn_ldiv, rn_lrem, rn_dadd, rn_dsub, rn_dmul, rn_objinit, rn_iload, rn_lload, rn_aload, rn_istore, rn_astore, rn_lstore, rn_iinc, rn_getfield, rn_iaload, rn_laload, rn_aaload, rn_arraylength, rn_putfield, rn_iastore, rn_lastore, rn_goto, rn_ifCond_eq, rn_if_icmp_eq, rn_ifCond_ne, rn_if_icmp_ne, rn_ifCond_lt, rn_if_icmp_lt, rn_ifCond_ge, rn_if_icmp_ge, rn_ifCond_gt, rn_if_icmp_gt, rn_ifCond_le, rn_if_icmp_le, rn_ireturn, rn_lreturn, rn_return, rL_I, rL_L, rL_R, rS_t, rI_t, rG_s, rG_i, rP_s, rP_i, kq_v, kq_s, ok_0, ok_1I, ok_1R, ok_1N, ok_s, rc8_0, rc8_1, rc8_2, rc8_3, rc8_4, List.getElem?_cons_zero, List.getElem?_cons_succ, List.set_cons_zero, List.set_cons_succ, true_and, and_true, if_true, if_false, Int.toNat_natCast, Int.reduceToNat, Int.reduceAdd, Int.reduceSub, Int.reduceMul, Int.reduceNeg, Nat.reduceAdd, Int.reduceLT, Int.reduceLE, Int.reduceEq, reduceIte, w_ck_53, w_g_53_0, w_g_53_1, w_g_53_2, w_r_54, w_l_54, w_w_54, w_r_55, w_l_55, w_w_55, w_r_56, w_l_56, w_w_56, jI_add, jI_sub, jI_mul, jI_neg, jI_eq, jI_le, jI_lt, jI_eq0, jI_eq1, jI_lt0, jI_0lt, jI_le0, jI_0le, jI_clamp, jI_inBT, kL_0, kL_1, kL_2, kL_5, kL_6, kL_7, kL_10, kL_11, kL_15, kL_23, kL_31, kL_39, kL_97, kL_99, kL_104, kL_255, kL_349, kL_999, kL_1771561, kL_16777215, kL_4294967295, kL_18446744073709551615, jI_toL, rn_zB, rn_z0, rn_z1, jIB_eq0, jIB_eq1, jIB_eqJ, jB_def, jB_not, jB_and, jB_or, jB_nand, jB_nor, jB_ite, mrg, Decidable.not_not, ite_not, u2_s, u2_n, Int.add_sub_cancel, Int.sub_add_cancel]
    rw [show ((n + 1 : Nat) : Int) + -1 = (n : Int) by omega]
    exact s_Ch_wb_95 hC hA n (by omega)
theorem s_Ch_wb_2 {t vr m : Nat} {par land vars : Nat → Int} (hC : CT t vr F A par land vars m) (hA : ∀ i, 0 ≤ A 54 i ∧ A 54 i ≤ 100000) :
    ∀ (k : Nat) (n : Int) (v4 v5 v6 : Value), n + k = m → 0 ≤ n → Rj (d + 2) 2 2 [.ref 53, .ref t, .ref vr, .int (jI n), v4, v5, v6] [] (HW L xs F (bsN (ownV land vars) A (8 * n.toNat)) B hs t1 t2) Q = Q none (HW L xs F (wbA (Tab par land vars m) m A) B hs t1 t2)
  | 0, n, v4, v5, v6, hk, hn => by
    have ht := hC.1
    have m40 := hC.2.2.2.1
    have e3 := hC.2.2.1
    rw [b_Changes_weighBelow_2]
    simp (disch := omega) only [b_Changes_weighBelow_88, rn_nil, rn_iconst, rn_ldc2, rn_iadd, rn_isub, rn_imul, rn_iand, rn_ior, rn_ixor, rn_ishl, rn_ishr, rn_iushr, rn_ineg, rn_ladd, rn_lsub, rn_lmul, rn_land, rn_lor, rn_lshl, rn_lushr, rn_lcmp, rn_i2l, rn_l2i, rn_dupI, rn_dupR, rn_popI, rn_dup2, rn_idiv, rn_irem, rn_ldiv, rn_lrem, rn_dadd, rn_dsub, rn_dmul, rn_objinit, rn_iload, rn_lload, rn_aload, rn_istore, rn_astore, rn_lstore, rn_iinc, rn_getfield, rn_iaload, rn_laload, rn_aaload, rn_arraylength, rn_putfield, rn_iastore, rn_lastore, rn_goto, rn_ifCond_eq, rn_if_icmp_eq, rn_ifCond_ne, rn_if_icmp_ne, rn_ifCond_lt, rn_if_icmp_lt, rn_ifCond_ge, rn_if_icmp_ge, rn_ifCond_gt, rn_if_icmp_gt, rn_ifCond_le, rn_if_icmp_le, rn_ireturn, rn_lreturn, rn_return, rL_I, rL_L, rL_R, rS_t, rI_t, rG_s, rG_i, rP_s, rP_i, kq_v, kq_s, ok_0, ok_1I, ok_1R, ok_1N, ok_s, rc8_0, rc8_1, rc8_2, rc8_3, rc8_4, List.getElem?_cons_zero, List.getElem?_cons_succ, List.set_cons_zero, List.set_cons_succ, true_and, and_true, if_true, if_false, Int.toNat_natCast, Int.reduceToNat, Int.reduceAdd, Int.reduceSub, Int.reduceMul, Int.reduceNeg, Nat.reduceAdd, Int.reduceLT, Int.reduceLE, Int.reduceEq, reduceIte, w_ck_53, w_g_53_0, w_g_53_1, w_g_53_2, w_r_54, w_l_54, w_w_54, w_r_55, w_l_55, w_w_55, w_r_56, w_l_56, w_w_56, jI_add, jI_sub, jI_mul, jI_neg, jI_eq, jI_le, jI_lt, jI_eq0, jI_eq1, jI_lt0, jI_0lt, jI_le0, jI_0le, jI_clamp, jI_inBT, kL_0, kL_1, kL_2, kL_5, kL_6, kL_7, kL_10, kL_11, kL_15, kL_23, kL_31, kL_39, kL_97, kL_99, kL_104, kL_255, kL_349, kL_999, kL_1771561, kL_16777215, kL_4294967295, kL_18446744073709551615, jI_toL, rn_zB, rn_z0, rn_z1, jIB_eq0, jIB_eq1, jIB_eqJ, jB_def, jB_not, jB_and, jB_or, jB_nand, jB_nor, jB_ite, mrg, Decidable.not_not, ite_not, u2_s, u2_n, Int.add_sub_cancel, Int.sub_add_cancel, w_g_T3 ht, e3]
    rw [if_pos (by omega), show (m : Int) - 1 = ((m - 1 : Nat) : Int) by omega, show n.toNat = m by omega, adN_bs (T := Tab par land vars m) (par := par)]
    have e := s_Ch_wb_95 (d := d) (Q := Q) (L := L) (xs := xs) (B := B) (hs := hs) (t1 := t1) (t2 := t2) hC hA (v4 := v4) (v5 := v5) (v6 := v6) (m - 1) (by omega)
    rw [show m - 1 + 1 = m by omega] at e
    exact e
  | k + 1, n, v4, v5, v6, hk, hn => by
    have ht := hC.1
    have t0 : t = 63 ∨ t = 67 := hC.1
    have v0 := hC.2.1
    have m40 := hC.2.2.2.1
    have e3 := hC.2.2.1
    have hl := hC.2.2.2.2.2.2.1 n.toNat
    have hv := hC.2.2.2.2.2.2.2.1 (land n.toNat).toNat
    have e2 : bsN (ownV land vars) A (8 * n.toNat) (t + 2) n.toNat = land n.toNat := by
      rw [bsN_o (by omega)]
      exact (hC.2.2.2.2.1 n.toNat (by omega)).2
    have e4 : bsN (ownV land vars) A (8 * n.toNat) vr = A vr := bsN_o (by omega)
    have e5 : ¬ land n.toNat = -1 → A vr (land n.toNat).toNat = vars (land n.toNat).toNat := fun h => hC.2.2.2.2.2.1 _ (by omega)
    rw [b_Changes_weighBelow_2]
    simp (disch := omega) only [b_Changes_weighBelow_10, b_Changes_weighBelow_24, b_Changes_weighBelow_28, rn_nil, rn_iconst, rn_ldc2, rn_iadd, rn_isub, rn_imul, rn_iand, rn_ior, rn_ixor, rn_ishl, rn_ishr, rn_iushr, rn_ineg, rn_ladd, rn_lsub, rn_lmul, rn_land, rn_lor, rn_lshl, rn_lushr, rn_lcmp, rn_i2l, rn_l2i, rn_dupI, rn_dupR, rn_popI, rn_dup2, rn_idiv, rn_irem, rn_ldiv, rn_lrem, rn_dadd, rn_dsub, rn_dmul, rn_objinit, rn_iload, rn_lload, rn_aload, rn_istore, rn_astore, rn_lstore, rn_iinc, rn_getfield, rn_iaload, rn_laload, rn_aaload, rn_arraylength, rn_putfield, rn_iastore, rn_lastore, rn_goto, rn_ifCond_eq, rn_if_icmp_eq, rn_ifCond_ne, rn_if_icmp_ne, rn_ifCond_lt, rn_if_icmp_lt, rn_ifCond_ge, rn_if_icmp_ge, rn_ifCond_gt, rn_if_icmp_gt, rn_ifCond_le, rn_if_icmp_le, rn_ireturn, rn_lreturn, rn_return, rL_I, rL_L, rL_R, rS_t, rI_t, rG_s, rG_i, rP_s, rP_i, kq_v, kq_s, ok_0, ok_1I, ok_1R, ok_1N, ok_s, rc8_0, rc8_1, rc8_2, rc8_3, rc8_4, List.getElem?_cons_zero, List.getElem?_cons_succ, List.set_cons_zero, List.set_cons_succ, true_and, and_true, if_true, if_false, Int.toNat_natCast, Int.reduceToNat, Int.reduceAdd, Int.reduceSub, Int.reduceMul, Int.reduceNeg, Nat.reduceAdd, Int.reduceLT, Int.reduceLE, Int.reduceEq, reduceIte, w_ck_53, w_g_53_0, w_g_53_1, w_g_53_2, w_r_54, w_l_54, w_w_54, w_r_55, w_l_55, w_w_55, w_r_56, w_l_56, w_w_56, jI_add, jI_sub, jI_mul, jI_neg, jI_eq, jI_le, jI_lt, jI_eq0, jI_eq1, jI_lt0, jI_0lt, jI_le0, jI_0le, jI_clamp, jI_inBT, kL_0, kL_1, kL_2, kL_5, kL_6, kL_7, kL_10, kL_11, kL_15, kL_23, kL_31, kL_39, kL_97, kL_99, kL_104, kL_255, kL_349, kL_999, kL_1771561, kL_16777215, kL_4294967295, kL_18446744073709551615, jI_toL, rn_zB, rn_z0, rn_z1, jIB_eq0, jIB_eq1, jIB_eqJ, jB_def, jB_not, jB_and, jB_or, jB_nand, jB_nor, jB_ite, mrg, Decidable.not_not, ite_not, u2_s, u2_n, Int.add_sub_cancel, Int.sub_add_cancel, w_g_T3 ht, e3, w_g_T1 ht, w_r_T2 ht, e2, hw_rd hC.wt, e4]
    rw [if_neg (by omega)]
    have ow := ownV_rng (land := land) hC.2.2.2.2.2.2.2.1 n.toNat
    have e6 := s_Ch_wb_37 (d := d + 1) (Q := Q) (L := L) (xs := xs) (F := F) (A := A) (B := B) (hs := hs) (t1 := t1) (t2 := t2) (own := ownV land vars) (t := t) (vr := vr) (n := n) (l := land n.toNat) (b := ownV land vars n.toNat) (by omega) rfl ow 8 0 (by omega) (by omega)
    rw [show 8 * n.toNat + (0 : Int).toNat = 8 * n.toNat from rfl] at e6
    by_cases g : land n.toNat = -1
    · have eo : ownV land vars n.toNat = -1 := by unfold ownV; rw [if_pos g]
      rw [if_pos g, b_Changes_weighBelow_32]
      simp (disch := omega) only [rn_nil, rn_iconst, rn_ldc2, rn_iadd, rn_isub, rn_imul, rn_iand, rn_ior, rn_ixor, rn_ishl, rn_ishr, rn_iushr, rn_ineg, rn_ladd, rn_lsub, rn_lmul, rn_land, rn_lor, rn_lshl, rn_lushr, rn_lcmp, rn_i2l, rn_l2i, rn_dupI, rn_dupR, rn_popI, rn_dup2, rn_idiv, rn_irem, rn_ldiv, rn_lrem, rn_dadd, rn_dsub, rn_dmul, rn_objinit, rn_iload, rn_lload, rn_aload, rn_istore, rn_astore, rn_lstore, rn_iinc, rn_getfield, rn_iaload, rn_laload, rn_aaload, rn_arraylength, rn_putfield, rn_iastore, rn_lastore, rn_goto, rn_ifCond_eq, rn_if_icmp_eq, rn_ifCond_ne, rn_if_icmp_ne, rn_ifCond_lt, rn_if_icmp_lt, rn_ifCond_ge, rn_if_icmp_ge, rn_ifCond_gt, rn_if_icmp_gt, rn_ifCond_le, rn_if_icmp_le, rn_ireturn, rn_lreturn, rn_return, rL_I, rL_L, rL_R, rS_t, rI_t, rG_s, rG_i, rP_s, rP_i, kq_v, kq_s, ok_0, ok_1I, ok_1R, ok_1N, ok_s, rc8_0, rc8_1, rc8_2, rc8_3, rc8_4, List.getElem?_cons_zero, List.getElem?_cons_succ, List.set_cons_zero, List.set_cons_succ, true_and, and_true, if_true, if_false, Int.toNat_natCast, Int.reduceToNat, Int.reduceAdd, Int.reduceSub, Int.reduceMul, Int.reduceNeg, Nat.reduceAdd, Int.reduceLT, Int.reduceLE, Int.reduceEq, reduceIte, w_ck_53, w_g_53_0, w_g_53_1, w_g_53_2, w_r_54, w_l_54, w_w_54, w_r_55, w_l_55, w_w_55, w_r_56, w_l_56, w_w_56, jI_add, jI_sub, jI_mul, jI_neg, jI_eq, jI_le, jI_lt, jI_eq0, jI_eq1, jI_lt0, jI_0lt, jI_le0, jI_0le, jI_clamp, jI_inBT, kL_0, kL_1, kL_2, kL_5, kL_6, kL_7, kL_10, kL_11, kL_15, kL_23, kL_31, kL_39, kL_97, kL_99, kL_104, kL_255, kL_349, kL_999, kL_1771561, kL_16777215, kL_4294967295, kL_18446744073709551615, jI_toL, rn_zB, rn_z0, rn_z1, jIB_eq0, jIB_eq1, jIB_eqJ, jB_def, jB_not, jB_and, jB_or, jB_nand, jB_nor, jB_ite, mrg, Decidable.not_not, ite_not, u2_s, u2_n, Int.add_sub_cancel, Int.sub_add_cancel]
      rw [eo] at e6
      rw [e6, b_Changes_weighBelow_82]
      simp (disch := omega) only [rn_nil, rn_iconst, rn_ldc2, rn_iadd, rn_isub, rn_imul, rn_iand, rn_ior, rn_ixor, rn_ishl, rn_ishr, rn_iushr, rn_ineg, rn_ladd, rn_lsub, rn_lmul, rn_land, rn_lor, rn_lshl, rn_lushr, rn_lcmp, rn_i2l, rn_l2i, rn_dupI, rn_dupR, rn_popI, rn_dup2, rn_idiv, rn_irem, rn_ldiv, rn_lrem, rn_dadd, rn_dsub, rn_dmul, rn_objinit, rn_iload, rn_lload, rn_aload, rn_istore, rn_astore, rn_lstore, rn_iinc, rn_getfield, rn_iaload, rn_laload, rn_aaload, rn_arraylength, rn_putfield, rn_iastore, rn_lastore, rn_goto, rn_ifCond_eq, rn_if_icmp_eq, rn_ifCond_ne, rn_if_icmp_ne, rn_ifCond_lt, rn_if_icmp_lt, rn_ifCond_ge, rn_if_icmp_ge, rn_ifCond_gt, rn_if_icmp_gt, rn_ifCond_le, rn_if_icmp_le, rn_ireturn, rn_lreturn, rn_return, rL_I, rL_L, rL_R, rS_t, rI_t, rG_s, rG_i, rP_s, rP_i, kq_v, kq_s, ok_0, ok_1I, ok_1R, ok_1N, ok_s, rc8_0, rc8_1, rc8_2, rc8_3, rc8_4, List.getElem?_cons_zero, List.getElem?_cons_succ, List.set_cons_zero, List.set_cons_succ, true_and, and_true, if_true, if_false, Int.toNat_natCast, Int.reduceToNat, Int.reduceAdd, Int.reduceSub, Int.reduceMul, Int.reduceNeg, Nat.reduceAdd, Int.reduceLT, Int.reduceLE, Int.reduceEq, reduceIte, w_ck_53, w_g_53_0, w_g_53_1, w_g_53_2, w_r_54, w_l_54, w_w_54, w_r_55, w_l_55, w_w_55, w_r_56, w_l_56, w_w_56, jI_add, jI_sub, jI_mul, jI_neg, jI_eq, jI_le, jI_lt, jI_eq0, jI_eq1, jI_lt0, jI_0lt, jI_le0, jI_0le, jI_clamp, jI_inBT, kL_0, kL_1, kL_2, kL_5, kL_6, kL_7, kL_10, kL_11, kL_15, kL_23, kL_31, kL_39, kL_97, kL_99, kL_104, kL_255, kL_349, kL_999, kL_1771561, kL_16777215, kL_4294967295, kL_18446744073709551615, jI_toL, rn_zB, rn_z0, rn_z1, jIB_eq0, jIB_eq1, jIB_eqJ, jB_def, jB_not, jB_and, jB_or, jB_nand, jB_nor, jB_ite, mrg, Decidable.not_not, ite_not, u2_s, u2_n, Int.add_sub_cancel, Int.sub_add_cancel]
      rw [show n.toNat + 1 = (n + 1).toNat by omega]
      exact s_Ch_wb_2 hC hA k (n + 1) _ _ _ (by omega) (by omega)
    · have eo : ownV land vars n.toNat = vars (land n.toNat).toNat := by unfold ownV; rw [if_neg g]
      rw [if_neg g, e5 g, b_Changes_weighBelow_32]
      simp (disch := omega) only [rn_nil, rn_iconst, rn_ldc2, rn_iadd, rn_isub, rn_imul, rn_iand, rn_ior, rn_ixor, rn_ishl, rn_ishr, rn_iushr, rn_ineg, rn_ladd, rn_lsub, rn_lmul, rn_land, rn_lor, rn_lshl, rn_lushr, rn_lcmp, rn_i2l, rn_l2i, rn_dupI, rn_dupR, rn_popI, rn_dup2, rn_idiv, rn_irem, rn_ldiv, rn_lrem, rn_dadd, rn_dsub, rn_dmul, rn_objinit, rn_iload, rn_lload, rn_aload, rn_istore, rn_astore, rn_lstore, rn_iinc, rn_getfield, rn_iaload, rn_laload, rn_aaload, rn_arraylength, rn_putfield, rn_iastore, rn_lastore, rn_goto, rn_ifCond_eq, rn_if_icmp_eq, rn_ifCond_ne, rn_if_icmp_ne, rn_ifCond_lt, rn_if_icmp_lt, rn_ifCond_ge, rn_if_icmp_ge, rn_ifCond_gt, rn_if_icmp_gt, rn_ifCond_le, rn_if_icmp_le, rn_ireturn, rn_lreturn, rn_return, rL_I, rL_L, rL_R, rS_t, rI_t, rG_s, rG_i, rP_s, rP_i, kq_v, kq_s, ok_0, ok_1I, ok_1R, ok_1N, ok_s, rc8_0, rc8_1, rc8_2, rc8_3, rc8_4, List.getElem?_cons_zero, List.getElem?_cons_succ, List.set_cons_zero, List.set_cons_succ, true_and, and_true, if_true, if_false, Int.toNat_natCast, Int.reduceToNat, Int.reduceAdd, Int.reduceSub, Int.reduceMul, Int.reduceNeg, Nat.reduceAdd, Int.reduceLT, Int.reduceLE, Int.reduceEq, reduceIte, w_ck_53, w_g_53_0, w_g_53_1, w_g_53_2, w_r_54, w_l_54, w_w_54, w_r_55, w_l_55, w_w_55, w_r_56, w_l_56, w_w_56, jI_add, jI_sub, jI_mul, jI_neg, jI_eq, jI_le, jI_lt, jI_eq0, jI_eq1, jI_lt0, jI_0lt, jI_le0, jI_0le, jI_clamp, jI_inBT, kL_0, kL_1, kL_2, kL_5, kL_6, kL_7, kL_10, kL_11, kL_15, kL_23, kL_31, kL_39, kL_97, kL_99, kL_104, kL_255, kL_349, kL_999, kL_1771561, kL_16777215, kL_4294967295, kL_18446744073709551615, jI_toL, rn_zB, rn_z0, rn_z1, jIB_eq0, jIB_eq1, jIB_eqJ, jB_def, jB_not, jB_and, jB_or, jB_nand, jB_nor, jB_ite, mrg, Decidable.not_not, ite_not, u2_s, u2_n, Int.add_sub_cancel, Int.sub_add_cancel]
      rw [eo] at e6
      rw [e6, b_Changes_weighBelow_82]
      simp (disch := omega) only [rn_nil, rn_iconst, rn_ldc2, rn_iadd, rn_isub, rn_imul, rn_iand, rn_ior, rn_ixor, rn_ishl, rn_ishr, rn_iushr, rn_ineg, rn_ladd, rn_lsub, rn_lmul, rn_land, rn_lor, rn_lshl, rn_lushr, rn_lcmp, rn_i2l, rn_l2i, rn_dupI, rn_dupR, rn_popI, rn_dup2, rn_idiv, rn_irem, rn_ldiv, rn_lrem, rn_dadd, rn_dsub, rn_dmul, rn_objinit, rn_iload, rn_lload, rn_aload, rn_istore, rn_astore, rn_lstore, rn_iinc, rn_getfield, rn_iaload, rn_laload, rn_aaload, rn_arraylength, rn_putfield, rn_iastore, rn_lastore, rn_goto, rn_ifCond_eq, rn_if_icmp_eq, rn_ifCond_ne, rn_if_icmp_ne, rn_ifCond_lt, rn_if_icmp_lt, rn_ifCond_ge, rn_if_icmp_ge, rn_ifCond_gt, rn_if_icmp_gt, rn_ifCond_le, rn_if_icmp_le, rn_ireturn, rn_lreturn, rn_return, rL_I, rL_L, rL_R, rS_t, rI_t, rG_s, rG_i, rP_s, rP_i, kq_v, kq_s, ok_0, ok_1I, ok_1R, ok_1N, ok_s, rc8_0, rc8_1, rc8_2, rc8_3, rc8_4, List.getElem?_cons_zero, List.getElem?_cons_succ, List.set_cons_zero, List.set_cons_succ, true_and, and_true, if_true, if_false, Int.toNat_natCast, Int.reduceToNat, Int.reduceAdd, Int.reduceSub, Int.reduceMul, Int.reduceNeg, Nat.reduceAdd, Int.reduceLT, Int.reduceLE, Int.reduceEq, reduceIte, w_ck_53, w_g_53_0, w_g_53_1, w_g_53_2, w_r_54, w_l_54, w_w_54, w_r_55, w_l_55, w_w_55, w_r_56, w_l_56, w_w_56, jI_add, jI_sub, jI_mul, jI_neg, jI_eq, jI_le, jI_lt, jI_eq0, jI_eq1, jI_lt0, jI_0lt, jI_le0, jI_0le, jI_clamp, jI_inBT, kL_0, kL_1, kL_2, kL_5, kL_6, kL_7, kL_10, kL_11, kL_15, kL_23, kL_31, kL_39, kL_97, kL_99, kL_104, kL_255, kL_349, kL_999, kL_1771561, kL_16777215, kL_4294967295, kL_18446744073709551615, jI_toL, rn_zB, rn_z0, rn_z1, jIB_eq0, jIB_eq1, jIB_eqJ, jB_def, jB_not, jB_and, jB_or, jB_nand, jB_nor, jB_ite, mrg, Decidable.not_not, ite_not, u2_s, u2_n, Int.add_sub_cancel, Int.sub_add_cancel]
      rw [show n.toNat + 1 = (n + 1).toNat by omega]
      exact s_Ch_wb_2 hC hA k (n + 1) _ _ _ (by omega) (by omega)
theorem s_Ch_wb {t vr m : Nat} {par land vars : Nat → Int} (hC : CT t vr F A par land vars m) (hA : ∀ i, 0 ≤ A 54 i ∧ A 54 i ≤ 100000) :
    Rj (d + 2) 2 0 [.ref 53, .ref t, .ref vr, .null, .null, .null, .null] [] (HW L xs F A B hs t1 t2) Q = Q none (HW L xs F (wbA (Tab par land vars m) m A) B hs t1 t2) := by
  rw [b_Changes_weighBelow_0]
  simp (disch := omega) only [rn_nil, rn_iconst, rn_ldc2, rn_iadd, rn_isub, rn_imul, rn_iand, rn_ior, rn_ixor, rn_ishl, rn_ishr, rn_iushr, rn_ineg, rn_ladd, rn_lsub, rn_lmul, rn_land, rn_lor, rn_lshl, rn_lushr, rn_lcmp, rn_i2l, rn_l2i, rn_dupI, rn_dupR, rn_popI, rn_dup2, rn_idiv, rn_irem, rn_ldiv, rn_lrem, rn_dadd, rn_dsub, rn_dmul, rn_objinit, rn_iload, rn_lload, rn_aload, rn_istore, rn_astore, rn_lstore, rn_iinc, rn_getfield, rn_iaload, rn_laload, rn_aaload, rn_arraylength, rn_putfield, rn_iastore, rn_lastore, rn_goto, rn_ifCond_eq, rn_if_icmp_eq, rn_ifCond_ne, rn_if_icmp_ne, rn_ifCond_lt, rn_if_icmp_lt, rn_ifCond_ge, rn_if_icmp_ge, rn_ifCond_gt, rn_if_icmp_gt, rn_ifCond_le, rn_if_icmp_le, rn_ireturn, rn_lreturn, rn_return, rL_I, rL_L, rL_R, rS_t, rI_t, rG_s, rG_i, rP_s, rP_i, kq_v, kq_s, ok_0, ok_1I, ok_1R, ok_1N, ok_s, rc8_0, rc8_1, rc8_2, rc8_3, rc8_4, List.getElem?_cons_zero, List.getElem?_cons_succ, List.set_cons_zero, List.set_cons_succ, true_and, and_true, if_true, if_false, Int.toNat_natCast, Int.reduceToNat, Int.reduceAdd, Int.reduceSub, Int.reduceMul, Int.reduceNeg, Nat.reduceAdd, Int.reduceLT, Int.reduceLE, Int.reduceEq, reduceIte, w_ck_53, w_g_53_0, w_g_53_1, w_g_53_2, w_r_54, w_l_54, w_w_54, w_r_55, w_l_55, w_w_55, w_r_56, w_l_56, w_w_56, jI_add, jI_sub, jI_mul, jI_neg, jI_eq, jI_le, jI_lt, jI_eq0, jI_eq1, jI_lt0, jI_0lt, jI_le0, jI_0le, jI_clamp, jI_inBT, kL_0, kL_1, kL_2, kL_5, kL_6, kL_7, kL_10, kL_11, kL_15, kL_23, kL_31, kL_39, kL_97, kL_99, kL_104, kL_255, kL_349, kL_999, kL_1771561, kL_16777215, kL_4294967295, kL_18446744073709551615, jI_toL, rn_zB, rn_z0, rn_z1, jIB_eq0, jIB_eq1, jIB_eqJ, jB_def, jB_not, jB_and, jB_or, jB_nand, jB_nor, jB_ite, mrg, Decidable.not_not, ite_not, u2_s, u2_n, Int.add_sub_cancel, Int.sub_add_cancel]
  have e := s_Ch_wb_2 (d := d) (Q := Q) (L := L) (xs := xs) (B := B) (hs := hs) (t1 := t1) (t2 := t2) hC hA m 0 .null .null .null (by omega) (by omega)
  rw [show 8 * (0 : Int).toNat = 0 from rfl, bsN_0] at e
  exact e
theorem wbA_o {T : Nat → Int} {m a : Nat} {A : Nat → Nat → Int} (h : ¬ a = 54) : wbA T m A a = A a := by
  funext i
  unfold wbA
  rw [if_neg (fun e => h e.1)]
theorem wbA_at {T : Nat → Int} {m i : Nat} {A : Nat → Nat → Int} (h : i < 8 * m) : wbA T m A 54 i = T i := by
  unfold wbA
  rw [if_pos ⟨rfl, h⟩]
theorem wbA_rng {T : Nat → Int} {m : Nat} {A : Nat → Nat → Int} (hT : ∀ i, 0 ≤ T i ∧ T i ≤ 100000) (hA : ∀ i, 0 ≤ A 54 i ∧ A 54 i ≤ 100000) : ∀ i, 0 ≤ wbA T m A 54 i ∧ wbA T m A 54 i ≤ 100000 := by
  intro i
  unfold wbA
  split
  · exact hT i
  · exact hA i
/-- the fewest changes -/
def lcV (par land vars : Nat → Int) (m : Nat) : Int := minS (Tab par land vars m) 0 8 1000
theorem lcV_mn {par land vars : Nat → Int} {m : Nat} (hm : 1 ≤ m ∧ m ≤ 40) (hL : ∀ i, -1 ≤ land i ∧ land i ≤ 7) (hV : ∀ i, -1 ≤ vars i ∧ vars i ≤ 7) (h0 : par 0 = -1) : lcV par land vars m = mn (Tab par land vars m) ∧ 0 ≤ lcV par land vars m ∧ lcV par land vars m ≤ 39 := by
  have hK := Tab_ok (par := par) hm.2 hL hV
  obtain ⟨w, hw, hw2⟩ := hK.2.2.1 h0 (by omega)
  have e : lcV par land vars m = mn (Tab par land vars m) := mn_1000 ⟨w, hw, by omega⟩
  have h1 := mn_le (f := Tab par land vars m) hw
  obtain ⟨x, _, e2⟩ := mn_mem (Tab par land vars m)
  have h2 := hK.2.2.2 x
  refine ⟨e, by omega, by omega⟩
theorem s_Ch_least {t vr m : Nat} {par land vars : Nat → Int} (hC : CT t vr F A par land vars m) (hA : ∀ i, 0 ≤ A 54 i ∧ A 54 i ≤ 100000) :
    Rj (d + 3) 1 0 [.ref 53, .ref t, .ref vr] [] (HW L xs F A B hs t1 t2) Q = Q (some (.int (jI (lcV par land vars m)))) (HW L xs F (wbA (Tab par land vars m) m A) B hs t1 t2) := by
  have hK := Tab_ok (par := par) hC.2.2.2.1.2 hC.2.2.2.2.2.2.1 hC.2.2.2.2.2.2.2.1
  have m40 := hC.2.2.2.1
  rw [b_Changes_least_0]
  simp (disch := omega) only [rn_nil, rn_iconst, rn_ldc2, rn_iadd, rn_isub, rn_imul, rn_iand, rn_ior, rn_ixor, rn_ishl, rn_ishr, rn_iushr, rn_ineg, rn_ladd, rn_lsub, rn_lmul, rn_land, rn_lor, rn_lshl, rn_lushr, rn_lcmp, rn_i2l, rn_l2i, rn_dupI, rn_dupR, rn_popI, rn_dup2, rn_idiv, rn_irem, rn_ldiv, rn_lrem, rn_dadd, rn_dsub, rn_dmul, rn_objinit, rn_iload, rn_lload, rn_aload, rn_istore, rn_astore, rn_lstore, rn_iinc, rn_getfield, rn_iaload, rn_laload, rn_aaload, rn_arraylength, rn_putfield, rn_iastore, rn_lastore, rn_goto, rn_ifCond_eq, rn_if_icmp_eq, rn_ifCond_ne, rn_if_icmp_ne, rn_ifCond_lt, rn_if_icmp_lt, rn_ifCond_ge, rn_if_icmp_ge, rn_ifCond_gt, rn_if_icmp_gt, rn_ifCond_le, rn_if_icmp_le, rn_ireturn, rn_lreturn, rn_return, rL_I, rL_L, rL_R, rS_t, rI_t, rG_s, rG_i, rP_s, rP_i, kq_v, kq_s, ok_0, ok_1I, ok_1R, ok_1N, ok_s, rc8_0, rc8_1, rc8_2, rc8_3, rc8_4, List.getElem?_cons_zero, List.getElem?_cons_succ, List.set_cons_zero, List.set_cons_succ, true_and, and_true, if_true, if_false, Int.toNat_natCast, Int.reduceToNat, Int.reduceAdd, Int.reduceSub, Int.reduceMul, Int.reduceNeg, Nat.reduceAdd, Int.reduceLT, Int.reduceLE, Int.reduceEq, reduceIte, w_ck_53, w_g_53_0, w_g_53_1, w_g_53_2, w_r_54, w_l_54, w_w_54, w_r_55, w_l_55, w_w_55, w_r_56, w_l_56, w_w_56, jI_add, jI_sub, jI_mul, jI_neg, jI_eq, jI_le, jI_lt, jI_eq0, jI_eq1, jI_lt0, jI_0lt, jI_le0, jI_0le, jI_clamp, jI_inBT, kL_0, kL_1, kL_2, kL_5, kL_6, kL_7, kL_10, kL_11, kL_15, kL_23, kL_31, kL_39, kL_97, kL_99, kL_104, kL_255, kL_349, kL_999, kL_1771561, kL_16777215, kL_4294967295, kL_18446744073709551615, jI_toL, rn_zB, rn_z0, rn_z1, jIB_eq0, jIB_eq1, jIB_eqJ, jB_def, jB_not, jB_and, jB_or, jB_nand, jB_nor, jB_ite, mrg, Decidable.not_not, ite_not, u2_s, u2_n, Int.add_sub_cancel, Int.sub_add_cancel, c_Changes_weighBelow, s_Ch_wb hC hA, c_Changes_leastOf]
  have hr := wbA_rng (m := m) hK.2.2.2 hA
  rw [s_Ch_leastOf (a := 54) (n := 320) rfl (by omega) (by omega) (fun w _ => by have := hr ((0 : Int).toNat + w); omega)]
  simp (disch := omega) only [rn_nil, rn_iconst, rn_ldc2, rn_iadd, rn_isub, rn_imul, rn_iand, rn_ior, rn_ixor, rn_ishl, rn_ishr, rn_iushr, rn_ineg, rn_ladd, rn_lsub, rn_lmul, rn_land, rn_lor, rn_lshl, rn_lushr, rn_lcmp, rn_i2l, rn_l2i, rn_dupI, rn_dupR, rn_popI, rn_dup2, rn_idiv, rn_irem, rn_ldiv, rn_lrem, rn_dadd, rn_dsub, rn_dmul, rn_objinit, rn_iload, rn_lload, rn_aload, rn_istore, rn_astore, rn_lstore, rn_iinc, rn_getfield, rn_iaload, rn_laload, rn_aaload, rn_arraylength, rn_putfield, rn_iastore, rn_lastore, rn_goto, rn_ifCond_eq, rn_if_icmp_eq, rn_ifCond_ne, rn_if_icmp_ne, rn_ifCond_lt, rn_if_icmp_lt, rn_ifCond_ge, rn_if_icmp_ge, rn_ifCond_gt, rn_if_icmp_gt, rn_ifCond_le, rn_if_icmp_le, rn_ireturn, rn_lreturn, rn_return, rL_I, rL_L, rL_R, rS_t, rI_t, rG_s, rG_i, rP_s, rP_i, kq_v, kq_s, ok_0, ok_1I, ok_1R, ok_1N, ok_s, rc8_0, rc8_1, rc8_2, rc8_3, rc8_4, List.getElem?_cons_zero, List.getElem?_cons_succ, List.set_cons_zero, List.set_cons_succ, true_and, and_true, if_true, if_false, Int.toNat_natCast, Int.reduceToNat, Int.reduceAdd, Int.reduceSub, Int.reduceMul, Int.reduceNeg, Nat.reduceAdd, Int.reduceLT, Int.reduceLE, Int.reduceEq, reduceIte, w_ck_53, w_g_53_0, w_g_53_1, w_g_53_2, w_r_54, w_l_54, w_w_54, w_r_55, w_l_55, w_w_55, w_r_56, w_l_56, w_w_56, jI_add, jI_sub, jI_mul, jI_neg, jI_eq, jI_le, jI_lt, jI_eq0, jI_eq1, jI_lt0, jI_0lt, jI_le0, jI_0le, jI_clamp, jI_inBT, kL_0, kL_1, kL_2, kL_5, kL_6, kL_7, kL_10, kL_11, kL_15, kL_23, kL_31, kL_39, kL_97, kL_99, kL_104, kL_255, kL_349, kL_999, kL_1771561, kL_16777215, kL_4294967295, kL_18446744073709551615, jI_toL, rn_zB, rn_z0, rn_z1, jIB_eq0, jIB_eq1, jIB_eqJ, jB_def, jB_not, jB_and, jB_or, jB_nand, jB_nor, jB_ite, mrg, Decidable.not_not, ite_not, u2_s, u2_n, Int.add_sub_cancel, Int.sub_add_cancel]
  rw [(lcV_mn m40 hC.2.2.2.2.2.2.1 hC.2.2.2.2.2.2.2.1 hC.2.2.2.2.2.2.2.2.1).1]
  rw [mn_ext (g := Tab par land vars m) (fun w hw => by rw [Nat.zero_add]; exact wbA_at (by omega))]
end CHG2
