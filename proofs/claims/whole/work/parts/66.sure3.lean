/-! THE REFERENCE: sureOf -/
section SUR3
variable {L : Nat} {xs : Nat → Int32} {F : Nat → Nat → Int} {B : Nat → Int64} {hs : Int64} {t1 t2 : Nat}
theorem wo_at {A : Nat → Nat → Int} {n p m : Nat} {T par : Nat → Int} (hn : 1 ≤ n ∧ n < m) (hp : (par n).toNat = p) (hT : ∀ i, i < 8 * m → A 92 i = T i) : (∀ v, v < 8 → woN (abN A n p 8) n 8 92 (8 * n + v) + woN (abN A n p 8) n 8 93 (8 * n + v) = T (8 * n + v) + LL (rsT (fun i => A 92 i + A 93 i) T par n) v) ∧ (∀ i, i < 8 * n → woN (abN A n p 8) n 8 92 i + woN (abN A n p 8) n 8 93 i = A 92 i + A 93 i) ∧ (∀ a, ¬ (93 ≤ a ∧ a ≤ 94) → woN (abN A n p 8) n 8 a = A a) := by
  have e92 : woN (abN A n p 8) n 8 92 = A 92 := by rw [woN_o (by omega), abN_o (by omega)]
  refine ⟨?_, ?_, ?_⟩
  · intro v hv
    rw [e92, hT _ (by omega)]
    congr 1
    unfold woN
    rw [if_pos ⟨rfl, by omega, by omega⟩, show 8 * n + v - 8 * n = v by omega]
    apply LL_ext hv
    intro w hw
    unfold abN rsT
    rw [if_pos ⟨rfl, hw⟩, hp, lstT_cg (T' := T) hw (fun x hx => hT _ (by omega)), Int.add_comm (A 93 (8 * p + w))]
  · intro i hi
    rw [e92]
    unfold woN
    rw [if_neg (by omega), abN_o (by omega)]
  · intro a ha
    rw [woN_o (by omega), abN_o (by omega)]
theorem s_M_su_28 {m : Nat} {T par : Nat → Int} (hm : 1 ≤ m ∧ m ≤ 40) (hF : F 71 22 = m) (hp : ∀ k : Nat, 1 ≤ k → k < m → 0 ≤ par k ∧ par k < k) (hT1 : ∀ i, i < 8 * m → 0 ≤ T i ∧ T i ≤ 1039) {n z : Int} (hn : 0 ≤ n ∧ n < m) (hz : 0 ≤ z ∧ z ≤ 1000) :
    ∀ (c k : Nat) (A : Nat → Nat → Int) (v4 v5 v6 : Value), k + c = m → 1 ≤ k → A 86 = par → (∀ i, i < 8 * m → A 92 i = T i) → (∀ i, 0 ≤ A 92 i ∧ A 92 i ≤ 100000) → WhEq (fun i => A 92 i + A 93 i) T par k → (∀ j v, j < k → v < 8 → -(3000 * ((j : Int) + 1)) ≤ A 92 (8 * j + v) + A 93 (8 * j + v) ∧ A 92 (8 * j + v) + A 93 (8 * j + v) ≤ 3000 * ((j : Int) + 1)) →
      ∃ A' H, (∀ a, ¬ (93 ≤ a ∧ a ≤ 94) → A' a = A a) ∧ WhEq H T par m ∧ ∀ d Q, Rj (d + 1) 178 28 [.ref 71, .int (jI n), .int (jI z), .int (jI k), v4, v5, v6] [] (HW L xs F A B hs t1 t2) Q = Q (some (.int (jI (onlyP (fun w => decide (H (8 * n.toNat + w) = z)))))) (HW L xs F A' B hs t1 t2)
  | 0, k, A, v4, v5, v6, hc, hk, hA, hT, hW, hE, hB => by
    refine ⟨A, fun i => A 92 i + A 93 i, fun _ _ => rfl, ?_, fun d Q => ?_⟩
    · rw [show m = k by omega]; exact hE
    · rw [b_M_sureOf_28]
      simp (disch := omega) only [b_M_sureOf_196, rn_nil, rn_iconst, rn_ldc2, rn_iadd, rn_isub, rn_imul, rn_iand, rn_ior, rn_ixor, rn_ishl, rn_ishr, rn_iushr, rn_ineg, rn_ladd, rn_lsub, rn_lmul, rn_land, rn_lor, rn_lshl, rn_lushr, rn_lcmp, rn_i2l, rn_l2i, rn_dupI, rn_dupR, rn_popI, rn_dup2, rn_idiv, rn_irem, rn_ldiv, rn_lrem, rn_dadd, rn_dsub, rn_dmul, rn_objinit, rn_iload, rn_lload, rn_aload, rn_istore, rn_astore, rn_lstore, rn_iinc, rn_getfield, rn_iaload, rn_laload, rn_aaload, rn_arraylength, rn_putfield, rn_iastore, rn_lastore, rn_goto, rn_ifCond_eq, rn_if_icmp_eq, rn_ifCond_ne, rn_if_icmp_ne, rn_ifCond_lt, rn_if_icmp_lt, rn_ifCond_ge, rn_if_icmp_ge, rn_ifCond_gt, rn_if_icmp_gt, rn_ifCond_le, rn_if_icmp_le, rn_ireturn, rn_lreturn, rn_return, rL_I, rL_L, rL_R, rS_t, rI_t, rG_s, rG_i, rP_s, rP_i, kq_v, kq_s, ok_0, ok_1I, ok_1R, ok_1N, ok_s, rc8_0, rc8_1, rc8_2, rc8_3, rc8_4, List.getElem?_cons_zero, List.getElem?_cons_succ, List.set_cons_zero, List.set_cons_succ, true_and, and_true, if_true, if_false, Int.toNat_natCast, Int.reduceToNat, Int.reduceAdd, Int.reduceSub, Int.reduceMul, Int.reduceNeg, Nat.reduceAdd, Int.reduceLT, Int.reduceLE, Int.reduceEq, reduceIte, w_ck_71, w_g_71_0, w_p_71_0, w_g_71_1, w_g_71_2, w_g_71_3, w_g_71_4, w_p_71_4, w_g_71_5, w_g_71_6, w_g_71_7, w_g_71_8, w_p_71_8, w_g_71_9, w_g_71_10, w_g_71_11, w_p_71_11, w_g_71_12, w_g_71_13, w_g_71_14, w_p_71_14, w_g_71_15, w_g_71_16, w_g_71_17, w_p_71_17, w_g_71_18, w_p_71_18, w_g_71_19, w_g_71_20, w_g_71_21, w_p_71_21, w_g_71_22, w_p_71_22, w_g_71_23, w_g_71_24, w_g_71_25, w_g_71_26, w_p_71_26_0, w_p_71_26_1, w_g_71_27, w_p_71_27, w_g_71_28, w_p_71_28, w_g_71_29, w_p_71_29, w_g_71_30, w_g_71_31, w_g_71_32, w_g_71_33, w_g_71_34, w_g_71_35, w_g_71_36, w_p_71_36, w_g_71_37, w_g_71_38, w_g_71_39, w_g_71_40, w_g_71_41, w_r_72, w_l_72, w_w_72, w_r_73, w_l_73, w_w_73, w_r_74, w_l_74, w_w_74, w_r_75, w_l_75, w_w_75, w_r_76, w_l_76, w_w_76, w_r_77, w_l_77, w_w_77, w_r_78, w_l_78, w_w_78, w_r_79, w_l_79, w_w_79, w_r_80, w_l_80, w_w_80, w_r_81, w_l_81, w_w_81, w_r_82, w_l_82, w_w_82, w_r_83, w_l_83, w_w_83, w_r_84, w_l_84, w_w_84, w_r_85, w_l_85, w_w_85, w_r_86, w_l_86, w_w_86, w_r_87, w_l_87, w_w_87, w_r_88, w_l_88, w_w_88, w_r_89, w_l_89, w_w_89, w_r_90, w_l_90, w_w_90, w_r_91, w_l_91, w_w_91, w_r_92, w_l_92, w_w_92, w_r_93, w_l_93, w_w_93, w_r_94, w_l_94, w_w_94, w_r_95, w_l_95, w_w_95, w_r_96, w_l_96, w_w_96, w_r_97, w_l_97, w_w_97, w_r_98, w_l_98, w_w_98, jI_add, jI_sub, jI_mul, jI_neg, jI_eq, jI_le, jI_lt, jI_eq0, jI_eq1, jI_lt0, jI_0lt, jI_le0, jI_0le, jI_clamp, jI_inBT, kL_0, kL_1, kL_2, kL_5, kL_6, kL_7, kL_10, kL_11, kL_15, kL_23, kL_31, kL_39, kL_97, kL_99, kL_104, kL_255, kL_349, kL_999, kL_1771561, kL_16777215, kL_4294967295, kL_18446744073709551615, jI_toL, rn_zB, rn_z0, rn_z1, jIB_eq0, jIB_eq1, jIB_eqJ, jB_def, jB_not, jB_and, jB_or, jB_nand, jB_nor, jB_ite, mrg, Decidable.not_not, ite_not, u2_s, u2_n, Int.add_sub_cancel, Int.sub_add_cancel, hF]
      rw [if_pos (by omega), s_M_su_204 (by omega) hz hW (fun w hw => by have h1 := hB n.toNat w (by omega) hw; have h2 := hT1 (8 * n.toNat + w) (by omega); have h3 := hT (8 * n.toNat + w) (by omega); omega) 8 0 (-1) 0 _ (by omega) (by omega) (by omega), if_neg (show ¬ (0 : Int) = 1 by omega), Int.zero_add]
      rfl
  | c + 1, k, A, v4, v5, v6, hc, hk, hA, hT, hW, hE, hB => by
    have p := hp k hk (by omega)
    obtain ⟨w1, w2, w3⟩ := wo_at (par := par) (p := (par k).toNat) (m := m) ⟨hk, by omega⟩ rfl hT
    have hE' := Wh_step (H' := fun i => woN (abN A k (par k).toNat 8) k 8 92 i + woN (abN A k (par k).toNat 8) k 8 93 i) hk (fun j h1 h2 => hp j h1 (by omega)) hE w1 w2
    have hT2 : ∀ v, v < 8 → 0 ≤ T (8 * k + v) ∧ T (8 * k + v) ≤ 1039 := fun v hv => hT1 _ (by omega)
    have hrs := rs_rng (H := fun i => A 92 i + A 93 i) (par := par) (c := 3000 * (((par k).toNat : Int) + 1)) hT2 (fun v hv => hB (par k).toNat v (by omega) hv)
    have hB' : ∀ j v, j < k + 1 → v < 8 → -(3000 * ((j : Int) + 1)) ≤ woN (abN A k (par k).toNat 8) k 8 92 (8 * j + v) + woN (abN A k (par k).toNat 8) k 8 93 (8 * j + v) ∧ woN (abN A k (par k).toNat 8) k 8 92 (8 * j + v) + woN (abN A k (par k).toNat 8) k 8 93 (8 * j + v) ≤ 3000 * ((j : Int) + 1) := by
      intro j v hj hv
      by_cases g : j = k
      · rw [g, w1 v hv]
        have h1 := hT2 v hv
        have h2 := LL_rng hrs hv
        omega
      · rw [w2 _ (by omega)]
        exact hB j v (by omega) hv
    have h93 : ∀ w, w < 8 → -500000 ≤ A 93 (8 * (par k).toNat + w) ∧ A 93 (8 * (par k).toNat + w) ≤ 500000 := by
      intro w hw
      have h1 := hB (par k).toNat w (by omega) hw
      have h2 := hT1 (8 * (par k).toNat + w) (by omega)
      have h3 := hT (8 * (par k).toNat + w) (by omega)
      omega
    have h94 : ∀ w, w < 8 → -700000 ≤ abN A k (par k).toNat 8 94 w ∧ abN A k (par k).toNat 8 94 w ≤ 700000 := by
      intro w hw
      have h1 := h93 w hw
      have h2 := hW (8 * (par k).toNat + w)
      have h3 := LL_rng (f := fun w => A 92 (8 * k + w)) (lo := 0) (hi := 100000) (fun w _ => hW _) hw
      rw [← lstT_LL] at h3
      unfold abN
      rw [if_pos ⟨rfl, hw⟩]
      omega
    have e0 : abN A k (par k).toNat 0 = A := by
      funext a i
      unfold abN
      rw [if_neg (by omega)]
    have e00 : woN (abN A k (par k).toNat 8) k 0 = abN A k (par k).toNat 8 := by
      funext a i
      unfold woN
      rw [if_neg (by omega)]
    have key : ∀ u5 u6 : Value, ∃ A' H, (∀ a, ¬ (93 ≤ a ∧ a ≤ 94) → A' a = A a) ∧ WhEq H T par m ∧ ∀ d Q, Rj (d + 1) 178 28 [.ref 71, .int (jI n), .int (jI z), .int (jI ((k + 1 : Nat) : Int)), .int (jI 8), u5, u6] [] (HW L xs F (woN (abN A k (par k).toNat 8) k 8) B hs t1 t2) Q = Q (some (.int (jI (onlyP (fun w => decide (H (8 * n.toNat + w) = z)))))) (HW L xs F A' B hs t1 t2) := by
      intro u5 u6
      obtain ⟨A', H, a1, a2, a3⟩ := s_M_su_28 hm hF hp hT1 hn hz c (k + 1) (woN (abN A k (par k).toNat 8) k 8) (.int (jI 8)) u5 u6 (by omega) (by omega) (by rw [w3 86 (by omega)]; exact hA) (by rw [w3 92 (by omega)]; exact hT) (by rw [w3 92 (by omega)]; exact hW) hE' hB'
      exact ⟨A', H, fun a ha => by rw [a1 a ha, w3 a ha], a2, a3⟩
    obtain ⟨u5, u6, hu⟩ := s_M_su_108 (L := L) (xs := xs) (F := F) (A := abN A k (par k).toNat 8) (B := B) (hs := hs) (t1 := t1) (t2 := t2) (n := n) (z := z) (k := (k : Int)) (by omega) h94 8 0 v5 v6 (by omega) (by omega)
    obtain ⟨A', H, a1, a2, a3⟩ := key u5 u6
    refine ⟨A', H, a1, a2, fun d Q => ?_⟩
    have e1 := s_M_su_39 (d := d) (Q := Q) (L := L) (xs := xs) (F := F) (A := A) (B := B) (hs := hs) (t1 := t1) (t2 := t2) (n := n) (z := z) (k := (k : Int)) (p := par k) (v5 := v5) (v6 := v6) (by omega) (by rw [Int.toNat_natCast, hA]) p hW h93 8 0 (by omega) (by omega)
    rw [show (0 : Int).toNat = 0 from rfl, Int.toNat_natCast, e0] at e1
    have hu2 := hu (d + 1) Q
    rw [show (0 : Int).toNat = 0 from rfl, Int.toNat_natCast, e00] at hu2
    rw [b_M_sureOf_28]
    simp (disch := omega) only [b_M_sureOf_36, rn_nil, rn_iconst, rn_ldc2, rn_iadd, rn_isub, rn_imul, rn_iand, rn_ior, rn_ixor, rn_ishl, rn_ishr, rn_iushr, rn_ineg, rn_ladd, rn_lsub, rn_lmul, rn_land, rn_lor, rn_lshl, rn_lushr, rn_lcmp, rn_i2l, rn_l2i, rn_dupI, rn_dupR, rn_popI, rn_dup2, rn_idiv, rn_irem, rn_ldiv, rn_lrem, rn_dadd, rn_dsub, rn_dmul, rn_objinit, rn_iload, rn_lload, rn_aload, rn_istore, rn_astore, rn_lstore, rn_iinc, rn_getfield, rn_iaload, rn_laload, rn_aaload, rn_arraylength, rn_putfield, rn_iastore, rn_lastore, rn_goto, rn_ifCond_eq, rn_if_icmp_eq, rn_ifCond_ne, rn_if_icmp_ne, rn_ifCond_lt, rn_if_icmp_lt, rn_ifCond_ge, rn_if_icmp_ge, rn_ifCond_gt, rn_if_icmp_gt, rn_ifCond_le, rn_if_icmp_le, rn_ireturn, rn_lreturn, rn_return, rL_I, rL_L, rL_R, rS_t, rI_t, rG_s, rG_i, rP_s, rP_i, kq_v, kq_s, ok_0, ok_1I, ok_1R, ok_1N, ok_s, rc8_0, rc8_1, rc8_2, rc8_3, rc8_4, List.getElem?_cons_zero, List.getElem?_cons_succ, List.set_cons_zero, List.set_cons_succ, true_and, and_true, if_true, if_false, Int.toNat_natCast, Int.reduceToNat, Int.reduceAdd, Int.reduceSub, Int.reduceMul, Int.reduceNeg, Nat.reduceAdd, Int.reduceLT, Int.reduceLE, Int.reduceEq, reduceIte, w_ck_71, w_g_71_0, w_p_71_0, w_g_71_1, w_g_71_2, w_g_71_3, w_g_71_4, w_p_71_4, w_g_71_5, w_g_71_6, w_g_71_7, w_g_71_8, w_p_71_8, w_g_71_9, w_g_71_10, w_g_71_11, w_p_71_11, w_g_71_12, w_g_71_13, w_g_71_14, w_p_71_14, w_g_71_15, w_g_71_16, w_g_71_17, w_p_71_17, w_g_71_18, w_p_71_18, w_g_71_19, w_g_71_20, w_g_71_21, w_p_71_21, w_g_71_22, w_p_71_22, w_g_71_23, w_g_71_24, w_g_71_25, w_g_71_26, w_p_71_26_0, w_p_71_26_1, w_g_71_27, w_p_71_27, w_g_71_28, w_p_71_28, w_g_71_29, w_p_71_29, w_g_71_30, w_g_71_31, w_g_71_32, w_g_71_33, w_g_71_34, w_g_71_35, w_g_71_36, w_p_71_36, w_g_71_37, w_g_71_38, w_g_71_39, w_g_71_40, w_g_71_41, w_r_72, w_l_72, w_w_72, w_r_73, w_l_73, w_w_73, w_r_74, w_l_74, w_w_74, w_r_75, w_l_75, w_w_75, w_r_76, w_l_76, w_w_76, w_r_77, w_l_77, w_w_77, w_r_78, w_l_78, w_w_78, w_r_79, w_l_79, w_w_79, w_r_80, w_l_80, w_w_80, w_r_81, w_l_81, w_w_81, w_r_82, w_l_82, w_w_82, w_r_83, w_l_83, w_w_83, w_r_84, w_l_84, w_w_84, w_r_85, w_l_85, w_w_85, w_r_86, w_l_86, w_w_86, w_r_87, w_l_87, w_w_87, w_r_88, w_l_88, w_w_88, w_r_89, w_l_89, w_w_89, w_r_90, w_l_90, w_w_90, w_r_91, w_l_91, w_w_91, w_r_92, w_l_92, w_w_92, w_r_93, w_l_93, w_w_93, w_r_94, w_l_94, w_w_94, w_r_95, w_l_95, w_w_95, w_r_96, w_l_96, w_w_96, w_r_97, w_l_97, w_w_97, w_r_98, w_l_98, w_w_98, jI_add, jI_sub, jI_mul, jI_neg, jI_eq, jI_le, jI_lt, jI_eq0, jI_eq1, jI_lt0, jI_0lt, jI_le0, jI_0le, jI_clamp, jI_inBT, kL_0, kL_1, kL_2, kL_5, kL_6, kL_7, kL_10, kL_11, kL_15, kL_23, kL_31, kL_39, kL_97, kL_99, kL_104, kL_255, kL_349, kL_999, kL_1771561, kL_16777215, kL_4294967295, kL_18446744073709551615, jI_toL, rn_zB, rn_z0, rn_z1, jIB_eq0, jIB_eq1, jIB_eqJ, jB_def, jB_not, jB_and, jB_or, jB_nand, jB_nor, jB_ite, mrg, Decidable.not_not, ite_not, u2_s, u2_n, Int.add_sub_cancel, Int.sub_add_cancel, hF]
    rw [if_neg (by omega), e1, b_M_sureOf_105]
    simp (disch := omega) only [rn_nil, rn_iconst, rn_ldc2, rn_iadd, rn_isub, rn_imul, rn_iand, rn_ior, rn_ixor, rn_ishl, rn_ishr, rn_iushr, rn_ineg, rn_ladd, rn_lsub, rn_lmul, rn_land, rn_lor, rn_lshl, rn_lushr, rn_lcmp, rn_i2l, rn_l2i, rn_dupI, rn_dupR, rn_popI, rn_dup2, rn_idiv, rn_irem, rn_ldiv, rn_lrem, rn_dadd, rn_dsub, rn_dmul, rn_objinit, rn_iload, rn_lload, rn_aload, rn_istore, rn_astore, rn_lstore, rn_iinc, rn_getfield, rn_iaload, rn_laload, rn_aaload, rn_arraylength, rn_putfield, rn_iastore, rn_lastore, rn_goto, rn_ifCond_eq, rn_if_icmp_eq, rn_ifCond_ne, rn_if_icmp_ne, rn_ifCond_lt, rn_if_icmp_lt, rn_ifCond_ge, rn_if_icmp_ge, rn_ifCond_gt, rn_if_icmp_gt, rn_ifCond_le, rn_if_icmp_le, rn_ireturn, rn_lreturn, rn_return, rL_I, rL_L, rL_R, rS_t, rI_t, rG_s, rG_i, rP_s, rP_i, kq_v, kq_s, ok_0, ok_1I, ok_1R, ok_1N, ok_s, rc8_0, rc8_1, rc8_2, rc8_3, rc8_4, List.getElem?_cons_zero, List.getElem?_cons_succ, List.set_cons_zero, List.set_cons_succ, true_and, and_true, if_true, if_false, Int.toNat_natCast, Int.reduceToNat, Int.reduceAdd, Int.reduceSub, Int.reduceMul, Int.reduceNeg, Nat.reduceAdd, Int.reduceLT, Int.reduceLE, Int.reduceEq, reduceIte, w_ck_71, w_g_71_0, w_p_71_0, w_g_71_1, w_g_71_2, w_g_71_3, w_g_71_4, w_p_71_4, w_g_71_5, w_g_71_6, w_g_71_7, w_g_71_8, w_p_71_8, w_g_71_9, w_g_71_10, w_g_71_11, w_p_71_11, w_g_71_12, w_g_71_13, w_g_71_14, w_p_71_14, w_g_71_15, w_g_71_16, w_g_71_17, w_p_71_17, w_g_71_18, w_p_71_18, w_g_71_19, w_g_71_20, w_g_71_21, w_p_71_21, w_g_71_22, w_p_71_22, w_g_71_23, w_g_71_24, w_g_71_25, w_g_71_26, w_p_71_26_0, w_p_71_26_1, w_g_71_27, w_p_71_27, w_g_71_28, w_p_71_28, w_g_71_29, w_p_71_29, w_g_71_30, w_g_71_31, w_g_71_32, w_g_71_33, w_g_71_34, w_g_71_35, w_g_71_36, w_p_71_36, w_g_71_37, w_g_71_38, w_g_71_39, w_g_71_40, w_g_71_41, w_r_72, w_l_72, w_w_72, w_r_73, w_l_73, w_w_73, w_r_74, w_l_74, w_w_74, w_r_75, w_l_75, w_w_75, w_r_76, w_l_76, w_w_76, w_r_77, w_l_77, w_w_77, w_r_78, w_l_78, w_w_78, w_r_79, w_l_79, w_w_79, w_r_80, w_l_80, w_w_80, w_r_81, w_l_81, w_w_81, w_r_82, w_l_82, w_w_82, w_r_83, w_l_83, w_w_83, w_r_84, w_l_84, w_w_84, w_r_85, w_l_85, w_w_85, w_r_86, w_l_86, w_w_86, w_r_87, w_l_87, w_w_87, w_r_88, w_l_88, w_w_88, w_r_89, w_l_89, w_w_89, w_r_90, w_l_90, w_w_90, w_r_91, w_l_91, w_w_91, w_r_92, w_l_92, w_w_92, w_r_93, w_l_93, w_w_93, w_r_94, w_l_94, w_w_94, w_r_95, w_l_95, w_w_95, w_r_96, w_l_96, w_w_96, w_r_97, w_l_97, w_w_97, w_r_98, w_l_98, w_w_98, jI_add, jI_sub, jI_mul, jI_neg, jI_eq, jI_le, jI_lt, jI_eq0, jI_eq1, jI_lt0, jI_0lt, jI_le0, jI_0le, jI_clamp, jI_inBT, kL_0, kL_1, kL_2, kL_5, kL_6, kL_7, kL_10, kL_11, kL_15, kL_23, kL_31, kL_39, kL_97, kL_99, kL_104, kL_255, kL_349, kL_999, kL_1771561, kL_16777215, kL_4294967295, kL_18446744073709551615, jI_toL, rn_zB, rn_z0, rn_z1, jIB_eq0, jIB_eq1, jIB_eqJ, jB_def, jB_not, jB_and, jB_or, jB_nand, jB_nor, jB_ite, mrg, Decidable.not_not, ite_not, u2_s, u2_n, Int.add_sub_cancel, Int.sub_add_cancel]
    rw [hu2, b_M_sureOf_190]
    simp (disch := omega) only [rn_nil, rn_iconst, rn_ldc2, rn_iadd, rn_isub, rn_imul, rn_iand, rn_ior, rn_ixor, rn_ishl, rn_ishr, rn_iushr, rn_ineg, rn_ladd, rn_lsub, rn_lmul, rn_land, rn_lor, rn_lshl, rn_lushr, rn_lcmp, rn_i2l, rn_l2i, rn_dupI, rn_dupR, rn_popI, rn_dup2, rn_idiv, rn_irem, rn_ldiv, rn_lrem, rn_dadd, rn_dsub, rn_dmul, rn_objinit, rn_iload, rn_lload, rn_aload, rn_istore, rn_astore, rn_lstore, rn_iinc, rn_getfield, rn_iaload, rn_laload, rn_aaload, rn_arraylength, rn_putfield, rn_iastore, rn_lastore, rn_goto, rn_ifCond_eq, rn_if_icmp_eq, rn_ifCond_ne, rn_if_icmp_ne, rn_ifCond_lt, rn_if_icmp_lt, rn_ifCond_ge, rn_if_icmp_ge, rn_ifCond_gt, rn_if_icmp_gt, rn_ifCond_le, rn_if_icmp_le, rn_ireturn, rn_lreturn, rn_return, rL_I, rL_L, rL_R, rS_t, rI_t, rG_s, rG_i, rP_s, rP_i, kq_v, kq_s, ok_0, ok_1I, ok_1R, ok_1N, ok_s, rc8_0, rc8_1, rc8_2, rc8_3, rc8_4, List.getElem?_cons_zero, List.getElem?_cons_succ, List.set_cons_zero, List.set_cons_succ, true_and, and_true, if_true, if_false, Int.toNat_natCast, Int.reduceToNat, Int.reduceAdd, Int.reduceSub, Int.reduceMul, Int.reduceNeg, Nat.reduceAdd, Int.reduceLT, Int.reduceLE, Int.reduceEq, reduceIte, w_ck_71, w_g_71_0, w_p_71_0, w_g_71_1, w_g_71_2, w_g_71_3, w_g_71_4, w_p_71_4, w_g_71_5, w_g_71_6, w_g_71_7, w_g_71_8, w_p_71_8, w_g_71_9, w_g_71_10, w_g_71_11, w_p_71_11, w_g_71_12, w_g_71_13, w_g_71_14, w_p_71_14, w_g_71_15, w_g_71_16, w_g_71_17, w_p_71_17, w_g_71_18, w_p_71_18, w_g_71_19, w_g_71_20, w_g_71_21, w_p_71_21, w_g_71_22, w_p_71_22, w_g_71_23, w_g_71_24, w_g_71_25, w_g_71_26, w_p_71_26_0, w_p_71_26_1, w_g_71_27, w_p_71_27, w_g_71_28, w_p_71_28, w_g_71_29, w_p_71_29, w_g_71_30, w_g_71_31, w_g_71_32, w_g_71_33, w_g_71_34, w_g_71_35, w_g_71_36, w_p_71_36, w_g_71_37, w_g_71_38, w_g_71_39, w_g_71_40, w_g_71_41, w_r_72, w_l_72, w_w_72, w_r_73, w_l_73, w_w_73, w_r_74, w_l_74, w_w_74, w_r_75, w_l_75, w_w_75, w_r_76, w_l_76, w_w_76, w_r_77, w_l_77, w_w_77, w_r_78, w_l_78, w_w_78, w_r_79, w_l_79, w_w_79, w_r_80, w_l_80, w_w_80, w_r_81, w_l_81, w_w_81, w_r_82, w_l_82, w_w_82, w_r_83, w_l_83, w_w_83, w_r_84, w_l_84, w_w_84, w_r_85, w_l_85, w_w_85, w_r_86, w_l_86, w_w_86, w_r_87, w_l_87, w_w_87, w_r_88, w_l_88, w_w_88, w_r_89, w_l_89, w_w_89, w_r_90, w_l_90, w_w_90, w_r_91, w_l_91, w_w_91, w_r_92, w_l_92, w_w_92, w_r_93, w_l_93, w_w_93, w_r_94, w_l_94, w_w_94, w_r_95, w_l_95, w_w_95, w_r_96, w_l_96, w_w_96, w_r_97, w_l_97, w_w_97, w_r_98, w_l_98, w_w_98, jI_add, jI_sub, jI_mul, jI_neg, jI_eq, jI_le, jI_lt, jI_eq0, jI_eq1, jI_lt0, jI_0lt, jI_le0, jI_0le, jI_clamp, jI_inBT, kL_0, kL_1, kL_2, kL_5, kL_6, kL_7, kL_10, kL_11, kL_15, kL_23, kL_31, kL_39, kL_97, kL_99, kL_104, kL_255, kL_349, kL_999, kL_1771561, kL_16777215, kL_4294967295, kL_18446744073709551615, jI_toL, rn_zB, rn_z0, rn_z1, jIB_eq0, jIB_eq1, jIB_eqJ, jB_def, jB_not, jB_and, jB_or, jB_nand, jB_nor, jB_ite, mrg, Decidable.not_not, ite_not, u2_s, u2_n, Int.add_sub_cancel, Int.sub_add_cancel]
    rw [show (k : Int) + 1 = ((k + 1 : Nat) : Int) by omega]
    exact a3 d Q
/-- where changes are sure, as the reference finds it -/
theorem s_M_sure {A : Nat → Nat → Int} {m : Nat} (hm : 1 ≤ m ∧ m ≤ 40) (hF : F 71 22 = m) (hW : ∀ i, 0 ≤ A 92 i ∧ A 92 i ≤ 100000) (hP : ∀ i, -1 ≤ A 86 i ∧ A 86 i ≤ 39) (hL : ∀ i, -1 ≤ A 87 i ∧ A 87 i ≤ 7) (hV : ∀ i, -1 ≤ A 88 i ∧ A 88 i ≤ 7) (h0 : A 86 0 = -1) (hp : ∀ k : Nat, 1 ≤ k → k < m → 0 ≤ A 86 k ∧ A 86 k < k) {n : Int} (hn : 0 ≤ n ∧ n < m) :
    ∃ A', (∀ a, ¬ (92 ≤ a ∧ a ≤ 94) → A' a = A a) ∧ (∀ i, 0 ≤ A' 92 i ∧ A' 92 i ≤ 100000) ∧ ∀ d Q, Rj (d + 2) 178 0 [.ref 71, .int (jI n), .null, .null, .null, .null, .null] [] (HW L xs F A B hs t1 t2) Q = Q (some (.int (jI (sureV (A 86) (A 87) (A 88) m n.toNat)))) (HW L xs F A' B hs t1 t2) := by
  have hR := allR_T hm.2 hW hL hV
  have hK := Tab_ok (par := A 86) hm.2 hL hV
  have hlc := lcV_mn hm hL hV h0
  have hT1 : ∀ i, i < 8 * m → 0 ≤ Tab (A 86) (A 87) (A 88) m i ∧ Tab (A 86) (A 87) (A 88) m i ≤ 1039 := by
    intro i hi
    have h1 := hK.1 (i / 8) (i % 8) (by omega) (by omega)
    have h2 := hK.2.1 (i / 8) (i % 8) (by omega) (by omega)
    have h3 := basM_rng (ownV (A 87) (A 88) (i / 8)) ((i % 8 : Nat) : Int)
    rw [show 8 * (i / 8) + i % 8 = i by omega] at h1
    omega
  have z92 : z8N (allR m A m) 8 92 = allR m A m 92 := by
    funext i
    unfold z8N
    rw [if_neg (by omega)]
  have zo : ∀ a, ¬ a = 93 → z8N (allR m A m) 8 a = allR m A m a := by
    intro a ha
    funext i
    unfold z8N
    rw [if_neg (by omega)]
  have z93 : ∀ v, v < 8 → z8N (allR m A m) 8 93 v = 0 := by
    intro v hv
    unfold z8N
    rw [if_pos ⟨rfl, hv⟩]
  have zh : ∀ v, v < 8 → z8N (allR m A m) 8 92 v + z8N (allR m A m) 8 93 v = Tab (A 86) (A 87) (A 88) m v := by
    intro v hv
    rw [z92, z93 v hv, hR.2.2 v (by omega), Int.add_zero]
  obtain ⟨A', H, a1, a2, a3⟩ := s_M_su_28 (L := L) (xs := xs) (B := B) (hs := hs) (t1 := t1) (t2 := t2) hm hF hp hT1 hn (z := lcV (A 86) (A 87) (A 88) m) (by omega) (m - 1) 1 (z8N (allR m A m) 8) .null .null .null (by omega) (Nat.le_refl 1) (by rw [zo 86 (by omega), hR.1 86 (by omega)]) (by rw [z92]; exact hR.2.2) (by rw [z92]; exact hR.2.1) ⟨zh, fun k v h1 h2 => by omega⟩ (by
    intro j v hj hv
    have e : j = 0 := by omega
    subst e
    rw [show 8 * 0 + v = v by omega, zh v hv]
    have := hT1 v (by omega)
    omega)
  refine ⟨A', fun a ha => by rw [a1 a (by omega), zo a (by omega), hR.1 a (by omega)], by rw [a1 92 (by omega), z92]; exact hR.2.1, fun d Q => ?_⟩
  have e7 := s_M_su_7 (d := d + 2) (Q := Q) (L := L) (xs := xs) (F := F) (A := allR m A m) (B := B) (hs := hs) (t1 := t1) (t2 := t2) (n := n) (z := lcV (A 86) (A 87) (A 88) m) (v4 := .null) (v5 := .null) (v6 := .null) 8 0 (by omega) (by omega)
  have e00 : z8N (allR m A m) 0 = allR m A m := by
    funext a i
    unfold z8N
    rw [if_neg (by omega)]
  rw [show (0 : Int).toNat = 0 from rfl, e00] at e7
  rw [b_M_sureOf_0]
  simp (disch := omega) only [rn_nil, rn_iconst, rn_ldc2, rn_iadd, rn_isub, rn_imul, rn_iand, rn_ior, rn_ixor, rn_ishl, rn_ishr, rn_iushr, rn_ineg, rn_ladd, rn_lsub, rn_lmul, rn_land, rn_lor, rn_lshl, rn_lushr, rn_lcmp, rn_i2l, rn_l2i, rn_dupI, rn_dupR, rn_popI, rn_dup2, rn_idiv, rn_irem, rn_ldiv, rn_lrem, rn_dadd, rn_dsub, rn_dmul, rn_objinit, rn_iload, rn_lload, rn_aload, rn_istore, rn_astore, rn_lstore, rn_iinc, rn_getfield, rn_iaload, rn_laload, rn_aaload, rn_arraylength, rn_putfield, rn_iastore, rn_lastore, rn_goto, rn_ifCond_eq, rn_if_icmp_eq, rn_ifCond_ne, rn_if_icmp_ne, rn_ifCond_lt, rn_if_icmp_lt, rn_ifCond_ge, rn_if_icmp_ge, rn_ifCond_gt, rn_if_icmp_gt, rn_ifCond_le, rn_if_icmp_le, rn_ireturn, rn_lreturn, rn_return, rL_I, rL_L, rL_R, rS_t, rI_t, rG_s, rG_i, rP_s, rP_i, kq_v, kq_s, ok_0, ok_1I, ok_1R, ok_1N, ok_s, rc8_0, rc8_1, rc8_2, rc8_3, rc8_4, List.getElem?_cons_zero, List.getElem?_cons_succ, List.set_cons_zero, List.set_cons_succ, true_and, and_true, if_true, if_false, Int.toNat_natCast, Int.reduceToNat, Int.reduceAdd, Int.reduceSub, Int.reduceMul, Int.reduceNeg, Nat.reduceAdd, Int.reduceLT, Int.reduceLE, Int.reduceEq, reduceIte, w_ck_71, w_g_71_0, w_p_71_0, w_g_71_1, w_g_71_2, w_g_71_3, w_g_71_4, w_p_71_4, w_g_71_5, w_g_71_6, w_g_71_7, w_g_71_8, w_p_71_8, w_g_71_9, w_g_71_10, w_g_71_11, w_p_71_11, w_g_71_12, w_g_71_13, w_g_71_14, w_p_71_14, w_g_71_15, w_g_71_16, w_g_71_17, w_p_71_17, w_g_71_18, w_p_71_18, w_g_71_19, w_g_71_20, w_g_71_21, w_p_71_21, w_g_71_22, w_p_71_22, w_g_71_23, w_g_71_24, w_g_71_25, w_g_71_26, w_p_71_26_0, w_p_71_26_1, w_g_71_27, w_p_71_27, w_g_71_28, w_p_71_28, w_g_71_29, w_p_71_29, w_g_71_30, w_g_71_31, w_g_71_32, w_g_71_33, w_g_71_34, w_g_71_35, w_g_71_36, w_p_71_36, w_g_71_37, w_g_71_38, w_g_71_39, w_g_71_40, w_g_71_41, w_r_72, w_l_72, w_w_72, w_r_73, w_l_73, w_w_73, w_r_74, w_l_74, w_w_74, w_r_75, w_l_75, w_w_75, w_r_76, w_l_76, w_w_76, w_r_77, w_l_77, w_w_77, w_r_78, w_l_78, w_w_78, w_r_79, w_l_79, w_w_79, w_r_80, w_l_80, w_w_80, w_r_81, w_l_81, w_w_81, w_r_82, w_l_82, w_w_82, w_r_83, w_l_83, w_w_83, w_r_84, w_l_84, w_w_84, w_r_85, w_l_85, w_w_85, w_r_86, w_l_86, w_w_86, w_r_87, w_l_87, w_w_87, w_r_88, w_l_88, w_w_88, w_r_89, w_l_89, w_w_89, w_r_90, w_l_90, w_w_90, w_r_91, w_l_91, w_w_91, w_r_92, w_l_92, w_w_92, w_r_93, w_l_93, w_w_93, w_r_94, w_l_94, w_w_94, w_r_95, w_l_95, w_w_95, w_r_96, w_l_96, w_w_96, w_r_97, w_l_97, w_w_97, w_r_98, w_l_98, w_w_98, jI_add, jI_sub, jI_mul, jI_neg, jI_eq, jI_le, jI_lt, jI_eq0, jI_eq1, jI_lt0, jI_0lt, jI_le0, jI_0le, jI_clamp, jI_inBT, kL_0, kL_1, kL_2, kL_5, kL_6, kL_7, kL_10, kL_11, kL_15, kL_23, kL_31, kL_39, kL_97, kL_99, kL_104, kL_255, kL_349, kL_999, kL_1771561, kL_16777215, kL_4294967295, kL_18446744073709551615, jI_toL, rn_zB, rn_z0, rn_z1, jIB_eq0, jIB_eq1, jIB_eqJ, jB_def, jB_not, jB_and, jB_or, jB_nand, jB_nor, jB_ite, mrg, Decidable.not_not, ite_not, u2_s, u2_n, Int.add_sub_cancel, Int.sub_add_cancel, c_M_leastChanges, s_M_least hm hF hW hP hL hV]
  rw [e7, b_M_sureOf_26]
  simp (disch := omega) only [rn_nil, rn_iconst, rn_ldc2, rn_iadd, rn_isub, rn_imul, rn_iand, rn_ior, rn_ixor, rn_ishl, rn_ishr, rn_iushr, rn_ineg, rn_ladd, rn_lsub, rn_lmul, rn_land, rn_lor, rn_lshl, rn_lushr, rn_lcmp, rn_i2l, rn_l2i, rn_dupI, rn_dupR, rn_popI, rn_dup2, rn_idiv, rn_irem, rn_ldiv, rn_lrem, rn_dadd, rn_dsub, rn_dmul, rn_objinit, rn_iload, rn_lload, rn_aload, rn_istore, rn_astore, rn_lstore, rn_iinc, rn_getfield, rn_iaload, rn_laload, rn_aaload, rn_arraylength, rn_putfield, rn_iastore, rn_lastore, rn_goto, rn_ifCond_eq, rn_if_icmp_eq, rn_ifCond_ne, rn_if_icmp_ne, rn_ifCond_lt, rn_if_icmp_lt, rn_ifCond_ge, rn_if_icmp_ge, rn_ifCond_gt, rn_if_icmp_gt, rn_ifCond_le, rn_if_icmp_le, rn_ireturn, rn_lreturn, rn_return, rL_I, rL_L, rL_R, rS_t, rI_t, rG_s, rG_i, rP_s, rP_i, kq_v, kq_s, ok_0, ok_1I, ok_1R, ok_1N, ok_s, rc8_0, rc8_1, rc8_2, rc8_3, rc8_4, List.getElem?_cons_zero, List.getElem?_cons_succ, List.set_cons_zero, List.set_cons_succ, true_and, and_true, if_true, if_false, Int.toNat_natCast, Int.reduceToNat, Int.reduceAdd, Int.reduceSub, Int.reduceMul, Int.reduceNeg, Nat.reduceAdd, Int.reduceLT, Int.reduceLE, Int.reduceEq, reduceIte, w_ck_71, w_g_71_0, w_p_71_0, w_g_71_1, w_g_71_2, w_g_71_3, w_g_71_4, w_p_71_4, w_g_71_5, w_g_71_6, w_g_71_7, w_g_71_8, w_p_71_8, w_g_71_9, w_g_71_10, w_g_71_11, w_p_71_11, w_g_71_12, w_g_71_13, w_g_71_14, w_p_71_14, w_g_71_15, w_g_71_16, w_g_71_17, w_p_71_17, w_g_71_18, w_p_71_18, w_g_71_19, w_g_71_20, w_g_71_21, w_p_71_21, w_g_71_22, w_p_71_22, w_g_71_23, w_g_71_24, w_g_71_25, w_g_71_26, w_p_71_26_0, w_p_71_26_1, w_g_71_27, w_p_71_27, w_g_71_28, w_p_71_28, w_g_71_29, w_p_71_29, w_g_71_30, w_g_71_31, w_g_71_32, w_g_71_33, w_g_71_34, w_g_71_35, w_g_71_36, w_p_71_36, w_g_71_37, w_g_71_38, w_g_71_39, w_g_71_40, w_g_71_41, w_r_72, w_l_72, w_w_72, w_r_73, w_l_73, w_w_73, w_r_74, w_l_74, w_w_74, w_r_75, w_l_75, w_w_75, w_r_76, w_l_76, w_w_76, w_r_77, w_l_77, w_w_77, w_r_78, w_l_78, w_w_78, w_r_79, w_l_79, w_w_79, w_r_80, w_l_80, w_w_80, w_r_81, w_l_81, w_w_81, w_r_82, w_l_82, w_w_82, w_r_83, w_l_83, w_w_83, w_r_84, w_l_84, w_w_84, w_r_85, w_l_85, w_w_85, w_r_86, w_l_86, w_w_86, w_r_87, w_l_87, w_w_87, w_r_88, w_l_88, w_w_88, w_r_89, w_l_89, w_w_89, w_r_90, w_l_90, w_w_90, w_r_91, w_l_91, w_w_91, w_r_92, w_l_92, w_w_92, w_r_93, w_l_93, w_w_93, w_r_94, w_l_94, w_w_94, w_r_95, w_l_95, w_w_95, w_r_96, w_l_96, w_w_96, w_r_97, w_l_97, w_w_97, w_r_98, w_l_98, w_w_98, jI_add, jI_sub, jI_mul, jI_neg, jI_eq, jI_le, jI_lt, jI_eq0, jI_eq1, jI_lt0, jI_0lt, jI_le0, jI_0le, jI_clamp, jI_inBT, kL_0, kL_1, kL_2, kL_5, kL_6, kL_7, kL_10, kL_11, kL_15, kL_23, kL_31, kL_39, kL_97, kL_99, kL_104, kL_255, kL_349, kL_999, kL_1771561, kL_16777215, kL_4294967295, kL_18446744073709551615, jI_toL, rn_zB, rn_z0, rn_z1, jIB_eq0, jIB_eq1, jIB_eqJ, jB_def, jB_not, jB_and, jB_or, jB_nand, jB_nor, jB_ite, mrg, Decidable.not_not, ite_not, u2_s, u2_n, Int.add_sub_cancel, Int.sub_add_cancel]
  have a4 := a3 (d + 1) Q
  rw [show ((1 : Nat) : Int) = 1 from rfl] at a4
  rw [a4]
  unfold sureV
  rw [only_ext (fun w hw => by rw [sure_of hm.1 a2 hp (fun _ _ => rfl) (by omega) w hw])]
end SUR3
