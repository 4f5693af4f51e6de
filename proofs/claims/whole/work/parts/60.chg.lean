/-! THE CLASS: least changes -/
def cp8 (A : Nat → Nat → Int) (a b : Nat) : Nat → Nat → Int := fun j i => if j = b ∧ i < 8 then A a i else A j i
section CHG
variable {d y nx : Nat} {is : List Instr} {ls st r : List Value} {Q : Option Value → am_H → Prop}
variable {L : Nat} {xs : Nat → Int32} {F A : Nat → Nat → Int} {B : Nat → Int64} {hs : Int64} {t1 t2 : Nat}
theorem hw_cp8 {a b n0 n1 : Nat} (ha : WT[a]? = some (0, n0, [])) (hb : WT[b]? = some (0, n1, [])) (h0 : 8 ≤ n0) (h1 : 8 ≤ n1) : rP d y is nx ls r (HW L xs F A B hs t1 t2) b Q (am_wc ((HW L xs F A B hs t1 t2).2.2 a) ((HW L xs F A B hs t1 t2).2.2 b) (jI 0) (jI 0) (jI 8)) = Rn d (y, is, nx, ls, r) (HW L xs F (cp8 A a b) B hs t1 t2) Q := by
  rw [hw_at ha, hw_at hb]
  show rP d y is nx ls r _ b Q (if ¬ jI 0 < 0 ∧ ¬ jI 0 < 0 ∧ ¬ jI 8 < 0 ∧ (jI 0).toNatClampNeg + (jI 8).toNatClampNeg ≤ n0 ∧ (jI 0).toNatClampNeg + (jI 8).toNatClampNeg ≤ n1 then some (.inl (0, n1, .inl (va_cpy (fun i => jI (A a i)) (fun i => jI (A b i)) (jI 0).toNatClampNeg (jI 0).toNatClampNeg (jI 8).toNatClampNeg))) else none) = _
  have e0 : (jI 0).toNatClampNeg = 0 := jI_clamp (by omega)
  have e8 : (jI 8).toNatClampNeg = 8 := jI_clamp (by omega)
  rw [e0, e8, if_pos ⟨by decide, by decide, by decide, by omega, by omega⟩, rP_s]
  rw [hw_ext (F' := F) (A' := cp8 A a b) (B' := B) (hs' := hs) (t1' := t1) (t2' := t2) hb]
  · have e1 : (fun z => jI (cp8 A a b b z)) = va_cpy (fun i => jI (A a i)) (fun i => jI (A b i)) 0 0 8 := by
      funext z
      unfold cp8 va_cpy
      by_cases g : z < 8
      · rw [if_pos ⟨rfl, g⟩, if_pos (by omega), show 0 + (z - 0) = z by omega]
      · rw [if_neg (by omega), if_neg (by omega)]
    show (Sum.inl (0, n1, Sum.inl (fun z => jI (cp8 A a b b z))) : am_E) = _
    rw [e1]
  · intro j e' hj _
    exact wcell_A (by funext i; unfold cp8; rw [if_neg (by omega)])
theorem s_Ch_lo_6 {a n : Nat} (he : WT[a]? = some (0, n, [])) {f : Int} (hf : 0 ≤ f ∧ f + 7 < n) (hn : n ≤ 1000) (hr : ∀ w, w < 8 → -1000000 ≤ A a (f.toNat + w) ∧ A a (f.toNat + w) ≤ 1000000) :
    ∀ (k : Nat) (v m : Int), v + k = 8 → 0 ≤ v → -1000000 ≤ m ∧ m ≤ 1000000 → Rj d 4 6 [.ref a, .int (jI f), .int (jI m), .int (jI v)] [] (HW L xs F A B hs t1 t2) Q = Q (some (.int (jI (minS (fun w => A a (f.toNat + w)) v.toNat k m)))) (HW L xs F A B hs t1 t2)
  | 0, v, m, hk, hv, hm => by
    rw [b_Changes_leastOf_6]
    simp (disch := omega) only [b_Changes_leastOf_33, rn_nil, rn_iconst, rn_ldc2, rn_iadd, rn_isub, rn_imul, rn_iand, rn_ior, rn_ixor, rn_ishl, rn_ishr, rn_iushr, rn_ineg, rn_ladd, rn_lsub, rn_lmul, rn_land, rn_lor, rn_lshl, rn_lushr, rn_lcmp, rn_i2l, rn_l2i, rn_dupI, rn_dupR, rn_popI, rn_dup2, rn_idiv, rn_irem, rn_ldiv, rn_lrem, rn_dadd, rn_dsub, rn_dmul, rn_objinit, rn_iload, rn_lload, rn_aload, rn_istore, rn_astore, rn_lstore, rn_iinc, rn_getfield, rn_iaload, rn_laload, rn_aaload, rn_arraylength, rn_putfield, rn_iastore, rn_lastore, rn_goto, rn_ifCond_eq, rn_if_icmp_eq, rn_ifCond_ne, rn_if_icmp_ne, rn_ifCond_lt, rn_if_icmp_lt, rn_ifCond_ge, rn_if_icmp_ge, rn_ifCond_gt, rn_if_icmp_gt, rn_ifCond_le, rn_if_icmp_le, rn_ireturn, rn_lreturn, rn_return, rL_I, rL_L, rL_R, rS_t, rI_t, rG_s, rG_i, rP_s, rP_i, kq_v, kq_s, ok_0, ok_1I, ok_1R, ok_1N, ok_s, rc8_0, rc8_1, rc8_2, rc8_3, rc8_4, List.getElem?_cons_zero, List.getElem?_cons_succ, List.set_cons_zero, List.set_cons_succ, true_and, and_true, if_true, if_false, Int.toNat_natCast, Int.reduceToNat, Int.reduceAdd, Int.reduceSub, Int.reduceMul, Int.reduceNeg, Nat.reduceAdd, Int.reduceLT, Int.reduceLE, Int.reduceEq, reduceIte, jI_add, jI_sub, jI_mul, jI_neg, jI_eq, jI_le, jI_lt, jI_eq0, jI_eq1, jI_lt0, jI_0lt, jI_le0, jI_0le, jI_clamp, jI_inBT, kL_0, kL_1, kL_2, kL_5, kL_6, kL_7, kL_10, kL_11, kL_15, kL_23, kL_31, kL_39, kL_97, kL_99, kL_104, kL_255, kL_349, kL_999, kL_1771561, kL_16777215, kL_4294967295, kL_18446744073709551615, jI_toL, rn_zB, rn_z0, rn_z1, jIB_eq0, jIB_eq1, jIB_eqJ, jB_def, jB_not, jB_and, jB_or, jB_nand, jB_nor, jB_ite, mrg, Decidable.not_not, ite_not, u2_s, u2_n, Int.add_sub_cancel, Int.sub_add_cancel]
    rw [if_pos (by omega)]
    rfl
  | k + 1, v, m, hk, hv, hm => by
    have r1 := hr v.toNat (by omega)
    rw [show f.toNat + v.toNat = (f + v).toNat by omega] at r1
    rw [b_Changes_leastOf_6]
    simp (disch := omega) only [b_Changes_leastOf_12, b_Changes_leastOf_21, b_Changes_leastOf_27, rn_nil, rn_iconst, rn_ldc2, rn_iadd, rn_isub, rn_imul, rn_iand, rn_ior, rn_ixor, rn_ishl, rn_ishr, rn_iushr, rn_ineg, rn_ladd, rn_lsub, rn_lmul, rn_land, rn_lor, rn_lshl, rn_lushr, rn_lcmp, rn_i2l, rn_l2i, rn_dupI, rn_dupR, rn_popI, rn_dup2, rn_idiv, rn_irem, rn_ldiv, rn_lrem, rn_dadd, rn_dsub, rn_dmul, rn_objinit, rn_iload, rn_lload, rn_aload, rn_istore, rn_astore, rn_lstore, rn_iinc, rn_getfield, rn_iaload, rn_laload, rn_aaload, rn_arraylength, rn_putfield, rn_iastore, rn_lastore, rn_goto, rn_ifCond_eq, rn_if_icmp_eq, rn_ifCond_ne, rn_if_icmp_ne, rn_ifCond_lt, rn_if_icmp_lt, rn_ifCond_ge, rn_if_icmp_ge, rn_ifCond_gt, rn_if_icmp_gt, rn_ifCond_le, rn_if_icmp_le, rn_ireturn, rn_lreturn, rn_return, rL_I, rL_L, rL_R, rS_t, rI_t, rG_s, rG_i, rP_s, rP_i, kq_v, kq_s, ok_0, ok_1I, ok_1R, ok_1N, ok_s, rc8_0, rc8_1, rc8_2, rc8_3, rc8_4, List.getElem?_cons_zero, List.getElem?_cons_succ, List.set_cons_zero, List.set_cons_succ, true_and, and_true, if_true, if_false, Int.toNat_natCast, Int.reduceToNat, Int.reduceAdd, Int.reduceSub, Int.reduceMul, Int.reduceNeg, Nat.reduceAdd, Int.reduceLT, Int.reduceLE, Int.reduceEq, reduceIte, jI_add, jI_sub, jI_mul, jI_neg, jI_eq, jI_le, jI_lt, jI_eq0, jI_eq1, jI_lt0, jI_0lt, jI_le0, jI_0le, jI_clamp, jI_inBT, kL_0, kL_1, kL_2, kL_5, kL_6, kL_7, kL_10, kL_11, kL_15, kL_23, kL_31, kL_39, kL_97, kL_99, kL_104, kL_255, kL_349, kL_999, kL_1771561, kL_16777215, kL_4294967295, kL_18446744073709551615, jI_toL, rn_zB, rn_z0, rn_z1, jIB_eq0, jIB_eq1, jIB_eqJ, jB_def, jB_not, jB_and, jB_or, jB_nand, jB_nor, jB_ite, mrg, Decidable.not_not, ite_not, u2_s, u2_n, Int.add_sub_cancel, Int.sub_add_cancel, hw_rd he]
    rw [if_neg (by omega), s_Ch_lo_6 he hf hn hr k (v + 1) _ (by omega) (by omega) hm, s_Ch_lo_6 he hf hn hr k (v + 1) _ (by omega) (by omega) r1, minS, show (v + 1).toNat = v.toNat + 1 by omega, show f.toNat + v.toNat = (f + v).toNat by omega]
    by_cases g : m ≤ A a (f + v).toNat
    · rw [if_pos g, if_pos g]
    · rw [if_neg g, if_neg g]
theorem s_Ch_leastOf {a n : Nat} (he : WT[a]? = some (0, n, [])) {f : Int} (hf : 0 ≤ f ∧ f + 7 < n) (hn : n ≤ 1000) (hr : ∀ w, w < 8 → -1000000 ≤ A a (f.toNat + w) ∧ A a (f.toNat + w) ≤ 1000000) :
    Rj d 4 0 [.ref a, .int (jI f), .null, .null] [] (HW L xs F A B hs t1 t2) Q = Q (some (.int (jI (mn (fun w => A a (f.toNat + w)))))) (HW L xs F A B hs t1 t2) := by
  have r1 := hr 0 (by omega)
  rw [Nat.add_zero] at r1
  rw [b_Changes_leastOf_0]
  simp (disch := omega) only [rn_nil, rn_iconst, rn_ldc2, rn_iadd, rn_isub, rn_imul, rn_iand, rn_ior, rn_ixor, rn_ishl, rn_ishr, rn_iushr, rn_ineg, rn_ladd, rn_lsub, rn_lmul, rn_land, rn_lor, rn_lshl, rn_lushr, rn_lcmp, rn_i2l, rn_l2i, rn_dupI, rn_dupR, rn_popI, rn_dup2, rn_idiv, rn_irem, rn_ldiv, rn_lrem, rn_dadd, rn_dsub, rn_dmul, rn_objinit, rn_iload, rn_lload, rn_aload, rn_istore, rn_astore, rn_lstore, rn_iinc, rn_getfield, rn_iaload, rn_laload, rn_aaload, rn_arraylength, rn_putfield, rn_iastore, rn_lastore, rn_goto, rn_ifCond_eq, rn_if_icmp_eq, rn_ifCond_ne, rn_if_icmp_ne, rn_ifCond_lt, rn_if_icmp_lt, rn_ifCond_ge, rn_if_icmp_ge, rn_ifCond_gt, rn_if_icmp_gt, rn_ifCond_le, rn_if_icmp_le, rn_ireturn, rn_lreturn, rn_return, rL_I, rL_L, rL_R, rS_t, rI_t, rG_s, rG_i, rP_s, rP_i, kq_v, kq_s, ok_0, ok_1I, ok_1R, ok_1N, ok_s, rc8_0, rc8_1, rc8_2, rc8_3, rc8_4, List.getElem?_cons_zero, List.getElem?_cons_succ, List.set_cons_zero, List.set_cons_succ, true_and, and_true, if_true, if_false, Int.toNat_natCast, Int.reduceToNat, Int.reduceAdd, Int.reduceSub, Int.reduceMul, Int.reduceNeg, Nat.reduceAdd, Int.reduceLT, Int.reduceLE, Int.reduceEq, reduceIte, jI_add, jI_sub, jI_mul, jI_neg, jI_eq, jI_le, jI_lt, jI_eq0, jI_eq1, jI_lt0, jI_0lt, jI_le0, jI_0le, jI_clamp, jI_inBT, kL_0, kL_1, kL_2, kL_5, kL_6, kL_7, kL_10, kL_11, kL_15, kL_23, kL_31, kL_39, kL_97, kL_99, kL_104, kL_255, kL_349, kL_999, kL_1771561, kL_16777215, kL_4294967295, kL_18446744073709551615, jI_toL, rn_zB, rn_z0, rn_z1, jIB_eq0, jIB_eq1, jIB_eqJ, jB_def, jB_not, jB_and, jB_or, jB_nand, jB_nor, jB_ite, mrg, Decidable.not_not, ite_not, u2_s, u2_n, Int.add_sub_cancel, Int.sub_add_cancel, hw_rd he]
  rw [s_Ch_lo_6 he hf hn hr 7 1 _ (by omega) (by omega) r1]
  rfl
/-- costs laid down to begin with, up to place k -/
def bsN (own : Nat → Int) (A : Nat → Nat → Int) (k : Nat) : Nat → Nat → Int := fun a j => if a = 54 ∧ j < k then basM (own (j / 8)) ((j % 8 : Nat) : Int) else A a j
theorem bsN_o {own : Nat → Int} {A : Nat → Nat → Int} {k a : Nat} (h : ¬ a = 54) : bsN own A k a = A a := by
  funext j
  unfold bsN
  rw [if_neg (fun e => h e.1)]
theorem bsN_s {own : Nat → Int} {A : Nat → Nat → Int} {n v : Nat} (hv : v < 8) : u2 (bsN own A (8 * n + v)) 54 (8 * n + v) (basM (own n) v) = bsN own A (8 * n + (v + 1)) := by
  funext a j
  unfold u2 bsN
  by_cases g : a = 54 ∧ j = 8 * n + v
  · rw [if_pos g, if_pos (by omega), show j / 8 = n by omega, show j % 8 = v by omega]
  · rw [if_neg g]
    by_cases g2 : a = 54 ∧ j < 8 * n + v
    · rw [if_pos g2, if_pos (by omega)]
    · rw [if_neg g2, if_neg (by omega)]
theorem bsN_0 {own : Nat → Int} {A : Nat → Nat → Int} : bsN own A 0 = A := by
  funext a j
  unfold bsN
  rw [if_neg (by omega)]
theorem s_Ch_wb_37 {own : Nat → Int} {t vr : Nat} {n l b : Int} (hn : 0 ≤ n ∧ n ≤ 39) (hb : own n.toNat = b) (hb2 : -1 ≤ b ∧ b ≤ 7) :
    ∀ (k : Nat) (v : Int), v + k = 8 → 0 ≤ v → Rj (d + 1) 2 37 [.ref 53, .ref t, .ref vr, .int (jI n), .int (jI l), .int (jI b), .int (jI v)] [] (HW L xs F (bsN own A (8 * n.toNat + v.toNat)) B hs t1 t2) Q =
      Rj (d + 1) 2 82 [.ref 53, .ref t, .ref vr, .int (jI n), .int (jI l), .int (jI b), .int (jI 8)] [] (HW L xs F (bsN own A (8 * (n.toNat + 1))) B hs t1 t2) Q
  | 0, v, hk, hv => by
    rw [b_Changes_weighBelow_37]
    simp (disch := omega) only [rn_nil, rn_iconst, rn_ldc2, rn_iadd, rn_isub, rn_imul, rn_iand, rn_ior, rn_ixor, rn_ishl, rn_ishr, rn_iushr, rn_ineg, rn_ladd, rn_lsub, rn_lmul, rn_land, rn_lor, rn_lshl, rn_lushr, rn_lcmp, rn_i2l, rn_l2i, rn_dupI, rn_dupR, rn_popI, rn_dup2, rn_idiv, rn_irem, rn_ldiv, rn_lrem, rn_dadd, rn_dsub, rn_dmul, rn_objinit, rn_iload, rn_lload, rn_aload, rn_istore, rn_astore, rn_lstore, rn_iinc, rn_getfield, rn_iaload, rn_laload, rn_aaload, rn_arraylength, rn_putfield, rn_iastore, rn_lastore, rn_goto, rn_ifCond_eq, rn_if_icmp_eq, rn_ifCond_ne, rn_if_icmp_ne, rn_ifCond_lt, rn_if_icmp_lt, rn_ifCond_ge, rn_if_icmp_ge, rn_ifCond_gt, rn_if_icmp_gt, rn_ifCond_le, rn_if_icmp_le, rn_ireturn, rn_lreturn, rn_return, rL_I, rL_L, rL_R, rS_t, rI_t, rG_s, rG_i, rP_s, rP_i, kq_v, kq_s, ok_0, ok_1I, ok_1R, ok_1N, ok_s, rc8_0, rc8_1, rc8_2, rc8_3, rc8_4, List.getElem?_cons_zero, List.getElem?_cons_succ, List.set_cons_zero, List.set_cons_succ, true_and, and_true, if_true, if_false, Int.toNat_natCast, Int.reduceToNat, Int.reduceAdd, Int.reduceSub, Int.reduceMul, Int.reduceNeg, Nat.reduceAdd, Int.reduceLT, Int.reduceLE, Int.reduceEq, reduceIte, w_ck_53, w_g_53_0, w_g_53_1, w_g_53_2, w_r_54, w_l_54, w_w_54, w_r_55, w_l_55, w_w_55, w_r_56, w_l_56, w_w_56, jI_add, jI_sub, jI_mul, jI_neg, jI_eq, jI_le, jI_lt, jI_eq0, jI_eq1, jI_lt0, jI_0lt, jI_le0, jI_0le, jI_clamp, jI_inBT, kL_0, kL_1, kL_2, kL_5, kL_6, kL_7, kL_10, kL_11, kL_15, kL_23, kL_31, kL_39, kL_97, kL_99, kL_104, kL_255, kL_349, kL_999, kL_1771561, kL_16777215, kL_4294967295, kL_18446744073709551615, jI_toL, rn_zB, rn_z0, rn_z1, jIB_eq0, jIB_eq1, jIB_eqJ, jB_def, jB_not, jB_and, jB_or, jB_nand, jB_nor, jB_ite, mrg, Decidable.not_not, ite_not, u2_s, u2_n, Int.add_sub_cancel, Int.sub_add_cancel]
    rw [if_pos (by omega), show v = 8 by omega]
    rfl
  | k + 1, v, hk, hv => by
    rw [b_Changes_weighBelow_37]
    simp (disch := omega) only [b_Changes_weighBelow_44, b_Changes_weighBelow_61, b_Changes_weighBelow_68, b_Changes_weighBelow_72, rn_nil, rn_iconst, rn_ldc2, rn_iadd, rn_isub, rn_imul, rn_iand, rn_ior, rn_ixor, rn_ishl, rn_ishr, rn_iushr, rn_ineg, rn_ladd, rn_lsub, rn_lmul, rn_land, rn_lor, rn_lshl, rn_lushr, rn_lcmp, rn_i2l, rn_l2i, rn_dupI, rn_dupR, rn_popI, rn_dup2, rn_idiv, rn_irem, rn_ldiv, rn_lrem, rn_dadd, rn_dsub, rn_dmul, rn_objinit, rn_iload, rn_lload, rn_aload, rn_istore, rn_astore, rn_lstore, rn_iinc, rn_getfield, rn_iaload, rn_laload, rn_aaload, rn_arraylength, rn_putfield, rn_iastore, rn_lastore, rn_goto, rn_ifCond_eq, rn_if_icmp_eq, rn_ifCond_ne, rn_if_icmp_ne, rn_ifCond_lt, rn_if_icmp_lt, rn_ifCond_ge, rn_if_icmp_ge, rn_ifCond_gt, rn_if_icmp_gt, rn_ifCond_le, rn_if_icmp_le, rn_ireturn, rn_lreturn, rn_return, rL_I, rL_L, rL_R, rS_t, rI_t, rG_s, rG_i, rP_s, rP_i, kq_v, kq_s, ok_0, ok_1I, ok_1R, ok_1N, ok_s, rc8_0, rc8_1, rc8_2, rc8_3, rc8_4, List.getElem?_cons_zero, List.getElem?_cons_succ, List.set_cons_zero, List.set_cons_succ, true_and, and_true, if_true, if_false, Int.toNat_natCast, Int.reduceToNat, Int.reduceAdd, Int.reduceSub, Int.reduceMul, Int.reduceNeg, Nat.reduceAdd, Int.reduceLT, Int.reduceLE, Int.reduceEq, reduceIte, w_ck_53, w_g_53_0, w_g_53_1, w_g_53_2, w_r_54, w_l_54, w_w_54, w_r_55, w_l_55, w_w_55, w_r_56, w_l_56, w_w_56, jI_add, jI_sub, jI_mul, jI_neg, jI_eq, jI_le, jI_lt, jI_eq0, jI_eq1, jI_lt0, jI_0lt, jI_le0, jI_0le, jI_clamp, jI_inBT, kL_0, kL_1, kL_2, kL_5, kL_6, kL_7, kL_10, kL_11, kL_15, kL_23, kL_31, kL_39, kL_97, kL_99, kL_104, kL_255, kL_349, kL_999, kL_1771561, kL_16777215, kL_4294967295, kL_18446744073709551615, jI_toL, rn_zB, rn_z0, rn_z1, jIB_eq0, jIB_eq1, jIB_eqJ, jB_def, jB_not, jB_and, jB_or, jB_nand, jB_nor, jB_ite, mrg, Decidable.not_not, ite_not, u2_s, u2_n, Int.add_sub_cancel, Int.sub_add_cancel]
    rw [if_neg (by omega), b_Changes_weighBelow_75]
    simp (disch := omega) only [rn_nil, rn_iconst, rn_ldc2, rn_iadd, rn_isub, rn_imul, rn_iand, rn_ior, rn_ixor, rn_ishl, rn_ishr, rn_iushr, rn_ineg, rn_ladd, rn_lsub, rn_lmul, rn_land, rn_lor, rn_lshl, rn_lushr, rn_lcmp, rn_i2l, rn_l2i, rn_dupI, rn_dupR, rn_popI, rn_dup2, rn_idiv, rn_irem, rn_ldiv, rn_lrem, rn_dadd, rn_dsub, rn_dmul, rn_objinit, rn_iload, rn_lload, rn_aload, rn_istore, rn_astore, rn_lstore, rn_iinc, rn_getfield, rn_iaload, rn_laload, rn_aaload, rn_arraylength, rn_putfield, rn_iastore, rn_lastore, rn_goto, rn_ifCond_eq, rn_if_icmp_eq, rn_ifCond_ne, rn_if_icmp_ne, rn_ifCond_lt, rn_if_icmp_lt, rn_ifCond_ge, rn_if_icmp_ge, rn_ifCond_gt, rn_if_icmp_gt, rn_ifCond_le, rn_if_icmp_le, rn_ireturn, rn_lreturn, rn_return, rL_I, rL_L, rL_R, rS_t, rI_t, rG_s, rG_i, rP_s, rP_i, kq_v, kq_s, ok_0, ok_1I, ok_1R, ok_1N, ok_s, rc8_0, rc8_1, rc8_2, rc8_3, rc8_4, List.getElem?_cons_zero, List.getElem?_cons_succ, List.set_cons_zero, List.set_cons_succ, true_and, and_true, if_true, if_false, Int.toNat_natCast, Int.reduceToNat, Int.reduceAdd, Int.reduceSub, Int.reduceMul, Int.reduceNeg, Nat.reduceAdd, Int.reduceLT, Int.reduceLE, Int.reduceEq, reduceIte, w_ck_53, w_g_53_0, w_g_53_1, w_g_53_2, w_r_54, w_l_54, w_w_54, w_r_55, w_l_55, w_w_55, w_r_56, w_l_56, w_w_56, jI_add, jI_sub, jI_mul, jI_neg, jI_eq, jI_le, jI_lt, jI_eq0, jI_eq1, jI_lt0, jI_0lt, jI_le0, jI_0le, jI_clamp, jI_inBT, kL_0, kL_1, kL_2, kL_5, kL_6, kL_7, kL_10, kL_11, kL_15, kL_23, kL_31, kL_39, kL_97, kL_99, kL_104, kL_255, kL_349, kL_999, kL_1771561, kL_16777215, kL_4294967295, kL_18446744073709551615, jI_toL, rn_zB, rn_z0, rn_z1, jIB_eq0, jIB_eq1, jIB_eqJ, jB_def, jB_not, jB_and, jB_or, jB_nand, jB_nor, jB_ite, mrg, Decidable.not_not, ite_not, u2_s, u2_n, Int.add_sub_cancel, Int.sub_add_cancel]
    have e1 : (if b = -1 then (0 : Int) else if b = v then 0 else 1000) = basM (own n.toNat) (v.toNat : Int) := by
      unfold basM
      rw [hb, show ((v.toNat : Nat) : Int) = v by omega]
    rw [e1, show (n * 8 + v).toNat = 8 * n.toNat + v.toNat by omega, bsN_s (by omega), show v.toNat + 1 = (v + 1).toNat by omega]
    exact s_Ch_wb_37 hn hb hb2 k (v + 1) (by omega) (by omega)
end CHG
