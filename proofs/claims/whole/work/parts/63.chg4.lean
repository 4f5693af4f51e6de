/-! THE CLASS: the whole tree's costs, and sure ones -/
section CHG4
variable {L : Nat} {xs : Nat → Int32} {F A : Nat → Nat → Int} {B : Nat → Int64} {hs : Int64} {t1 t2 : Nat}
theorem ww_at {A : Nat → Nat → Int} {n p : Nat} {T par : Nat → Int} {m : Nat} (hn : 1 ≤ n ∧ n < m) (hp : (par n).toNat = p) (hT : ∀ i, i < 8 * m → A 54 i = T i) : (∀ v, v < 8 → whN (rsN A n p 8) n 8 55 (8 * n + v) = T (8 * n + v) + LL (rsT (A 55) T par n) v) ∧ (∀ i, i < 8 * n → whN (rsN A n p 8) n 8 55 i = A 55 i) ∧ (∀ a, ¬ (55 ≤ a ∧ a ≤ 56) → whN (rsN A n p 8) n 8 a = A a) := by
  refine ⟨?_, ?_, ?_⟩
  · intro v hv
    unfold whN
    rw [if_pos ⟨rfl, by omega, by omega⟩, rsN_o (by omega), hT _ (by omega), show 8 * n + v - 8 * n = v by omega]
    congr 1
    apply LL_ext hv
    intro w hw
    unfold rsN rsT
    rw [if_pos ⟨rfl, hw⟩, hp, lstT_cg (T' := T) hw (fun x hx => hT _ (by omega))]
  · intro i hi
    unfold whN
    rw [if_neg (by omega), rsN_o (by omega)]
  · intro a ha
    rw [whN_o (by omega), rsN_o (by omega)]
theorem Wh_step {H H' T par : Nat → Int} {n : Nat} (hn : 1 ≤ n) (hp : ∀ k : Nat, 1 ≤ k → k ≤ n → 0 ≤ par k ∧ par k < k) (h : WhEq H T par n) (h1 : ∀ v, v < 8 → H' (8 * n + v) = T (8 * n + v) + LL (rsT H T par n) v) (h2 : ∀ i, i < 8 * n → H' i = H i) : WhEq H' T par (n + 1) := by
  refine ⟨fun v hv => by rw [h2 v (by omega)]; exact h.1 v hv, fun k v k1 k2 hv => ?_⟩
  have p := hp k k1 (by omega)
  have e : ∀ w, w < 8 → rsT H' T par k w = rsT H T par k w := by
    intro w hw
    unfold rsT
    rw [h2 _ (by omega)]
  rw [LL_ext hv e]
  by_cases g : k = n
  · rw [g]; exact h1 v hv
  · rw [h2 _ (by omega)]; exact h.2 k v k1 (by omega) hv
theorem s_Ch_all_23 {t vr m : Nat} {par land vars : Nat → Int} :
    ∀ (k n : Nat) (A : Nat → Nat → Int), n + k = m → 1 ≤ n → CT t vr F A par land vars m → (∀ i, i < 8 * m → A 54 i = Tab par land vars m i) → (∀ i, 0 ≤ A 54 i ∧ A 54 i ≤ 100000) → WhEq (A 55) (Tab par land vars m) par n → (∀ j v, j < n → v < 8 → -(3000 * ((j : Int) + 1)) ≤ A 55 (8 * j + v) ∧ A 55 (8 * j + v) ≤ 3000 * ((j : Int) + 1)) →
      ∃ A', (∀ a, ¬ (54 ≤ a ∧ a ≤ 56) → A' a = A a) ∧ (∀ i, i < 8 * m → A' 54 i = Tab par land vars m i) ∧ (∀ i, 0 ≤ A' 54 i ∧ A' 54 i ≤ 100000) ∧ WhEq (A' 55) (Tab par land vars m) par m ∧ (∀ j v, j < m → v < 8 → -200000 ≤ A' 55 (8 * j + v) ∧ A' 55 (8 * j + v) ≤ 200000) ∧ ∀ d Q, Rj (d + 3) 5 23 [.ref 53, .ref t, .ref vr, .int (jI n)] [] (HW L xs F A B hs t1 t2) Q = Q none (HW L xs F A' B hs t1 t2)
  | 0, n, A, hk, hn, hC, hT, hr, hW, hB => by
    have ht := hC.1
    have e3 := hC.2.2.1
    have m40 := hC.2.2.2.1
    refine ⟨A, fun _ _ => rfl, hT, hr, ?_, fun j v hj hv => ?_, fun d Q => ?_⟩
    · rw [show m = n by omega] at hW ⊢; exact hW
    · have := hB j v (by omega) hv
      omega
    · rw [b_Changes_weighAll_23]
      simp (disch := omega) only [b_Changes_weighAll_48, rn_nil, rn_iconst, rn_ldc2, rn_iadd, rn_isub, rn_imul, rn_iand, rn_ior, rn_ixor, rn_ishl, rn_ishr, rn_iushr, rn_ineg, rn_ladd, rn_lsub, rn_lmul, rn_land, rn_lor, rn_lshl, rn_lushr, rn_lcmp, rn_i2l, rn_l2i, rn_dupI, rn_dupR, rn_popI, rn_dup2, rn_idiv, rn_irem, rn_ldiv, rn_lrem, rn_dadd, rn_dsub, rn_dmul, rn_objinit, rn_iload, rn_lload, rn_aload, rn_istore, rn_astore, rn_lstore, rn_iinc, rn_getfield, rn_iaload, rn_laload, rn_aaload, rn_arraylength, rn_putfield, rn_iastore, rn_lastore, rn_goto, rn_ifCond_eq, rn_if_icmp_eq, rn_ifCond_ne, rn_if_icmp_ne, rn_ifCond_lt, rn_if_icmp_lt, rn_ifCond_ge, rn_if_icmp_ge, rn_ifCond_gt, rn_if_icmp_gt, rn_ifCond_le, rn_if_icmp_le, rn_ireturn, rn_lreturn, rn_return, rL_I, rL_L, rL_R, rS_t, rI_t, rG_s, rG_i, rP_s, rP_i, kq_v, kq_s, ok_0, ok_1I, ok_1R, ok_1N, ok_s, rc8_0, rc8_1, rc8_2, rc8_3, rc8_4, List.getElem?_cons_zero, List.getElem?_cons_succ, List.set_cons_zero, List.set_cons_succ, true_and, and_true, if_true, if_false, Int.toNat_natCast, Int.reduceToNat, Int.reduceAdd, Int.reduceSub, Int.reduceMul, Int.reduceNeg, Nat.reduceAdd, Int.reduceLT, Int.reduceLE, Int.reduceEq, reduceIte, w_ck_53, w_g_53_0, w_g_53_1, w_g_53_2, w_r_54, w_l_54, w_w_54, w_r_55, w_l_55, w_w_55, w_r_56, w_l_56, w_w_56, jI_add, jI_sub, jI_mul, jI_neg, jI_eq, jI_le, jI_lt, jI_eq0, jI_eq1, jI_lt0, jI_0lt, jI_le0, jI_0le, jI_clamp, jI_inBT, kL_0, kL_1, kL_2, kL_5, kL_6, kL_7, kL_10, kL_11, kL_15, kL_23, kL_31, kL_39, kL_97, kL_99, kL_104, kL_255, kL_349, kL_999, kL_1771561, kL_16777215, kL_4294967295, kL_18446744073709551615, jI_toL, rn_zB, rn_z0, rn_z1, jIB_eq0, jIB_eq1, jIB_eqJ, jB_def, jB_not, jB_and, jB_or, jB_nand, jB_nor, jB_ite, mrg, Decidable.not_not, ite_not, u2_s, u2_n, Int.add_sub_cancel, Int.sub_add_cancel, w_g_T3 ht, e3]
      rw [if_pos (by omega)]
  | k + 1, n, A, hk, hn, hC, hT, hr, hW, hB => by
    have ht := hC.1
    have e3 := hC.2.2.1
    have m40 := hC.2.2.2.1
    have hp := hC.2.2.2.2.2.2.2.2.2
    have p := hp n hn (by omega)
    have e1 : A (t + 1) n = par n := (hC.2.2.2.2.1 n (by omega)).1
    have hK := Tab_ok (par := par) m40.2 hC.2.2.2.2.2.2.1 hC.2.2.2.2.2.2.2.1
    obtain ⟨w1, w2, w3⟩ := ww_at (par := par) (p := (par n).toNat) (m := m) ⟨hn, by omega⟩ rfl hT
    have hW' := Wh_step hn (fun j h1 h2 => hp j h1 (by omega)) hW w1 w2
    have hT1 : ∀ v, v < 8 → 0 ≤ Tab par land vars m (8 * n + v) ∧ Tab par land vars m (8 * n + v) ≤ 1039 := by
      intro v hv
      have h1 := hK.1 n v (by omega) hv
      have h2 := hK.2.1 n v (by omega) hv
      have h3 := basM_rng (ownV land vars n) v
      omega
    have hrs := rs_rng (par := par) (c := 3000 * (((par n).toNat : Int) + 1)) hT1 (fun v hv => hB (par n).toNat v (by omega) hv)
    have hB' : ∀ j v, j < n + 1 → v < 8 → -(3000 * ((j : Int) + 1)) ≤ whN (rsN A n (par n).toNat 8) n 8 55 (8 * j + v) ∧ whN (rsN A n (par n).toNat 8) n 8 55 (8 * j + v) ≤ 3000 * ((j : Int) + 1) := by
      intro j v hj hv
      by_cases g : j = n
      · rw [g, w1 v hv]
        have h1 := hT1 v hv
        have h2 := LL_rng hrs hv
        omega
      · rw [w2 _ (by omega)]
        exact hB j v (by omega) hv
    obtain ⟨A', a1, a2, a3, a4, a5, a6⟩ := s_Ch_all_23 k (n + 1) _ (by omega) (by omega) (CT_cg hC (fun a ha => w3 a (by omega))) (by rw [w3 54 (by omega)]; exact hT) (by rw [w3 54 (by omega)]; exact hr) hW' hB'
    refine ⟨A', fun a ha => by rw [a1 a ha, w3 a (by omega)], a2, a3, a4, a5, fun d Q => ?_⟩
    have e1' : A (t + 1) ((n : Int)).toNat = par n := by rw [Int.toNat_natCast]; exact e1
    rw [b_Changes_weighAll_23]
    simp (disch := omega) only [b_Changes_weighAll_31, rn_nil, rn_iconst, rn_ldc2, rn_iadd, rn_isub, rn_imul, rn_iand, rn_ior, rn_ixor, rn_ishl, rn_ishr, rn_iushr, rn_ineg, rn_ladd, rn_lsub, rn_lmul, rn_land, rn_lor, rn_lshl, rn_lushr, rn_lcmp, rn_i2l, rn_l2i, rn_dupI, rn_dupR, rn_popI, rn_dup2, rn_idiv, rn_irem, rn_ldiv, rn_lrem, rn_dadd, rn_dsub, rn_dmul, rn_objinit, rn_iload, rn_lload, rn_aload, rn_istore, rn_astore, rn_lstore, rn_iinc, rn_getfield, rn_iaload, rn_laload, rn_aaload, rn_arraylength, rn_putfield, rn_iastore, rn_lastore, rn_goto, rn_ifCond_eq, rn_if_icmp_eq, rn_ifCond_ne, rn_if_icmp_ne, rn_ifCond_lt, rn_if_icmp_lt, rn_ifCond_ge, rn_if_icmp_ge, rn_ifCond_gt, rn_if_icmp_gt, rn_ifCond_le, rn_if_icmp_le, rn_ireturn, rn_lreturn, rn_return, rL_I, rL_L, rL_R, rS_t, rI_t, rG_s, rG_i, rP_s, rP_i, kq_v, kq_s, ok_0, ok_1I, ok_1R, ok_1N, ok_s, rc8_0, rc8_1, rc8_2, rc8_3, rc8_4, List.getElem?_cons_zero, List.getElem?_cons_succ, List.set_cons_zero, List.set_cons_succ, true_and, and_true, if_true, if_false, Int.toNat_natCast, Int.reduceToNat, Int.reduceAdd, Int.reduceSub, Int.reduceMul, Int.reduceNeg, Nat.reduceAdd, Int.reduceLT, Int.reduceLE, Int.reduceEq, reduceIte, w_ck_53, w_g_53_0, w_g_53_1, w_g_53_2, w_r_54, w_l_54, w_w_54, w_r_55, w_l_55, w_w_55, w_r_56, w_l_56, w_w_56, jI_add, jI_sub, jI_mul, jI_neg, jI_eq, jI_le, jI_lt, jI_eq0, jI_eq1, jI_lt0, jI_0lt, jI_le0, jI_0le, jI_clamp, jI_inBT, kL_0, kL_1, kL_2, kL_5, kL_6, kL_7, kL_10, kL_11, kL_15, kL_23, kL_31, kL_39, kL_97, kL_99, kL_104, kL_255, kL_349, kL_999, kL_1771561, kL_16777215, kL_4294967295, kL_18446744073709551615, jI_toL, rn_zB, rn_z0, rn_z1, jIB_eq0, jIB_eq1, jIB_eqJ, jB_def, jB_not, jB_and, jB_or, jB_nand, jB_nor, jB_ite, mrg, Decidable.not_not, ite_not, u2_s, u2_n, Int.add_sub_cancel, Int.sub_add_cancel, w_g_T3 ht, e3, w_g_T0 ht, w_r_T1 ht, e1', c_Changes_weighWhole]
    rw [if_neg (by omega), e1, s_Ch_ww (by omega) (by omega) hr (fun w hw => by have := hB (par n).toNat w (by omega) hw; omega), Int.toNat_natCast]
    simp (disch := omega) only [rn_nil, rn_iconst, rn_ldc2, rn_iadd, rn_isub, rn_imul, rn_iand, rn_ior, rn_ixor, rn_ishl, rn_ishr, rn_iushr, rn_ineg, rn_ladd, rn_lsub, rn_lmul, rn_land, rn_lor, rn_lshl, rn_lushr, rn_lcmp, rn_i2l, rn_l2i, rn_dupI, rn_dupR, rn_popI, rn_dup2, rn_idiv, rn_irem, rn_ldiv, rn_lrem, rn_dadd, rn_dsub, rn_dmul, rn_objinit, rn_iload, rn_lload, rn_aload, rn_istore, rn_astore, rn_lstore, rn_iinc, rn_getfield, rn_iaload, rn_laload, rn_aaload, rn_arraylength, rn_putfield, rn_iastore, rn_lastore, rn_goto, rn_ifCond_eq, rn_if_icmp_eq, rn_ifCond_ne, rn_if_icmp_ne, rn_ifCond_lt, rn_if_icmp_lt, rn_ifCond_ge, rn_if_icmp_ge, rn_ifCond_gt, rn_if_icmp_gt, rn_ifCond_le, rn_if_icmp_le, rn_ireturn, rn_lreturn, rn_return, rL_I, rL_L, rL_R, rS_t, rI_t, rG_s, rG_i, rP_s, rP_i, kq_v, kq_s, ok_0, ok_1I, ok_1R, ok_1N, ok_s, rc8_0, rc8_1, rc8_2, rc8_3, rc8_4, List.getElem?_cons_zero, List.getElem?_cons_succ, List.set_cons_zero, List.set_cons_succ, true_and, and_true, if_true, if_false, Int.toNat_natCast, Int.reduceToNat, Int.reduceAdd, Int.reduceSub, Int.reduceMul, Int.reduceNeg, Nat.reduceAdd, Int.reduceLT, Int.reduceLE, Int.reduceEq, reduceIte, w_ck_53, w_g_53_0, w_g_53_1, w_g_53_2, w_r_54, w_l_54, w_w_54, w_r_55, w_l_55, w_w_55, w_r_56, w_l_56, w_w_56, jI_add, jI_sub, jI_mul, jI_neg, jI_eq, jI_le, jI_lt, jI_eq0, jI_eq1, jI_lt0, jI_0lt, jI_le0, jI_0le, jI_clamp, jI_inBT, kL_0, kL_1, kL_2, kL_5, kL_6, kL_7, kL_10, kL_11, kL_15, kL_23, kL_31, kL_39, kL_97, kL_99, kL_104, kL_255, kL_349, kL_999, kL_1771561, kL_16777215, kL_4294967295, kL_18446744073709551615, jI_toL, rn_zB, rn_z0, rn_z1, jIB_eq0, jIB_eq1, jIB_eqJ, jB_def, jB_not, jB_and, jB_or, jB_nand, jB_nor, jB_ite, mrg, Decidable.not_not, ite_not, u2_s, u2_n, Int.add_sub_cancel, Int.sub_add_cancel]
    rw [show (n : Int) + 1 = ((n + 1 : Nat) : Int) by omega]
    exact a6 d Q
theorem s_Ch_all {t vr m : Nat} {par land vars : Nat → Int} (hC : CT t vr F A par land vars m) (hA : ∀ i, 0 ≤ A 54 i ∧ A 54 i ≤ 100000) :
      ∃ A', (∀ a, ¬ (54 ≤ a ∧ a ≤ 56) → A' a = A a) ∧ (∀ i, i < 8 * m → A' 54 i = Tab par land vars m i) ∧ (∀ i, 0 ≤ A' 54 i ∧ A' 54 i ≤ 100000) ∧ WhEq (A' 55) (Tab par land vars m) par m ∧ (∀ j v, j < m → v < 8 → -200000 ≤ A' 55 (8 * j + v) ∧ A' 55 (8 * j + v) ≤ 200000) ∧ ∀ d Q, Rj (d + 3) 5 0 [.ref 53, .ref t, .ref vr, .null] [] (HW L xs F A B hs t1 t2) Q = Q none (HW L xs F A' B hs t1 t2) := by
  have m40 := hC.2.2.2.1
  have hK := Tab_ok (par := par) m40.2 hC.2.2.2.2.2.2.1 hC.2.2.2.2.2.2.2.1
  have fr : ∀ a, ¬ a = 54 → ¬ a = 55 → cp8 (wbA (Tab par land vars m) m A) 54 55 a = A a := by
    intro a h1 h2
    funext i
    unfold cp8
    rw [if_neg (by omega), wbA_o h1]
  have f54 : cp8 (wbA (Tab par land vars m) m A) 54 55 54 = wbA (Tab par land vars m) m A 54 := by
    funext i
    unfold cp8
    rw [if_neg (by omega)]
  have f55 : ∀ v, v < 8 → cp8 (wbA (Tab par land vars m) m A) 54 55 55 v = Tab par land vars m v := by
    intro v hv
    unfold cp8
    rw [if_pos ⟨rfl, hv⟩, wbA_at (by omega)]
  have hC' : CT t vr F (cp8 (wbA (Tab par land vars m) m A) 54 55) par land vars m := CT_cg hC (fun a ha => fr a (by omega) (by omega))
  obtain ⟨A', a1, a2, a3, a4, a5, a6⟩ := s_Ch_all_23 (L := L) (xs := xs) (B := B) (hs := hs) (t1 := t1) (t2 := t2) (m - 1) 1 _ (by omega) (Nat.le_refl 1) hC' (by rw [f54]; exact fun i hi => wbA_at hi) (by rw [f54]; exact wbA_rng hK.2.2.2 hA) ⟨f55, fun k v h1 h2 => by omega⟩ (by
    intro j v hj hv
    have e : j = 0 := by omega
    subst e
    rw [show 8 * 0 + v = v by omega, f55 v hv]
    have h1 := hK.1 0 v (by omega) hv
    have h2 := hK.2.1 0 v (by omega) hv
    have h3 := basM_rng (ownV land vars 0) v
    rw [show 8 * 0 + v = v by omega] at h1
    omega)
  refine ⟨A', fun a ha => by rw [a1 a ha, fr a (by omega) (by omega)], a2, a3, a4, a5, fun d Q => ?_⟩
  rw [b_Changes_weighAll_0]
  simp (disch := omega) only [rn_nil, rn_iconst, rn_ldc2, rn_iadd, rn_isub, rn_imul, rn_iand, rn_ior, rn_ixor, rn_ishl, rn_ishr, rn_iushr, rn_ineg, rn_ladd, rn_lsub, rn_lmul, rn_land, rn_lor, rn_lshl, rn_lushr, rn_lcmp, rn_i2l, rn_l2i, rn_dupI, rn_dupR, rn_popI, rn_dup2, rn_idiv, rn_irem, rn_ldiv, rn_lrem, rn_dadd, rn_dsub, rn_dmul, rn_objinit, rn_iload, rn_lload, rn_aload, rn_istore, rn_astore, rn_lstore, rn_iinc, rn_getfield, rn_iaload, rn_laload, rn_aaload, rn_arraylength, rn_putfield, rn_iastore, rn_lastore, rn_goto, rn_ifCond_eq, rn_if_icmp_eq, rn_ifCond_ne, rn_if_icmp_ne, rn_ifCond_lt, rn_if_icmp_lt, rn_ifCond_ge, rn_if_icmp_ge, rn_ifCond_gt, rn_if_icmp_gt, rn_ifCond_le, rn_if_icmp_le, rn_ireturn, rn_lreturn, rn_return, rL_I, rL_L, rL_R, rS_t, rI_t, rG_s, rG_i, rP_s, rP_i, kq_v, kq_s, ok_0, ok_1I, ok_1R, ok_1N, ok_s, rc8_0, rc8_1, rc8_2, rc8_3, rc8_4, List.getElem?_cons_zero, List.getElem?_cons_succ, List.set_cons_zero, List.set_cons_succ, true_and, and_true, if_true, if_false, Int.toNat_natCast, Int.reduceToNat, Int.reduceAdd, Int.reduceSub, Int.reduceMul, Int.reduceNeg, Nat.reduceAdd, Int.reduceLT, Int.reduceLE, Int.reduceEq, reduceIte, w_ck_53, w_g_53_0, w_g_53_1, w_g_53_2, w_r_54, w_l_54, w_w_54, w_r_55, w_l_55, w_w_55, w_r_56, w_l_56, w_w_56, jI_add, jI_sub, jI_mul, jI_neg, jI_eq, jI_le, jI_lt, jI_eq0, jI_eq1, jI_lt0, jI_0lt, jI_le0, jI_0le, jI_clamp, jI_inBT, kL_0, kL_1, kL_2, kL_5, kL_6, kL_7, kL_10, kL_11, kL_15, kL_23, kL_31, kL_39, kL_97, kL_99, kL_104, kL_255, kL_349, kL_999, kL_1771561, kL_16777215, kL_4294967295, kL_18446744073709551615, jI_toL, rn_zB, rn_z0, rn_z1, jIB_eq0, jIB_eq1, jIB_eqJ, jB_def, jB_not, jB_and, jB_or, jB_nand, jB_nor, jB_ite, mrg, Decidable.not_not, ite_not, u2_s, u2_n, Int.add_sub_cancel, Int.sub_add_cancel, c_Changes_weighBelow, s_Ch_wb hC hA]
  rw [rn_copy (by rw [rc8_0]; trivial), hw_cp8 (a := 54) (b := 55) (n0 := 320) (n1 := 320) rfl rfl (by omega) (by omega)]
  simp (disch := omega) only [rn_nil, rn_iconst, rn_ldc2, rn_iadd, rn_isub, rn_imul, rn_iand, rn_ior, rn_ixor, rn_ishl, rn_ishr, rn_iushr, rn_ineg, rn_ladd, rn_lsub, rn_lmul, rn_land, rn_lor, rn_lshl, rn_lushr, rn_lcmp, rn_i2l, rn_l2i, rn_dupI, rn_dupR, rn_popI, rn_dup2, rn_idiv, rn_irem, rn_ldiv, rn_lrem, rn_dadd, rn_dsub, rn_dmul, rn_objinit, rn_iload, rn_lload, rn_aload, rn_istore, rn_astore, rn_lstore, rn_iinc, rn_getfield, rn_iaload, rn_laload, rn_aaload, rn_arraylength, rn_putfield, rn_iastore, rn_lastore, rn_goto, rn_ifCond_eq, rn_if_icmp_eq, rn_ifCond_ne, rn_if_icmp_ne, rn_ifCond_lt, rn_if_icmp_lt, rn_ifCond_ge, rn_if_icmp_ge, rn_ifCond_gt, rn_if_icmp_gt, rn_ifCond_le, rn_if_icmp_le, rn_ireturn, rn_lreturn, rn_return, rL_I, rL_L, rL_R, rS_t, rI_t, rG_s, rG_i, rP_s, rP_i, kq_v, kq_s, ok_0, ok_1I, ok_1R, ok_1N, ok_s, rc8_0, rc8_1, rc8_2, rc8_3, rc8_4, List.getElem?_cons_zero, List.getElem?_cons_succ, List.set_cons_zero, List.set_cons_succ, true_and, and_true, if_true, if_false, Int.toNat_natCast, Int.reduceToNat, Int.reduceAdd, Int.reduceSub, Int.reduceMul, Int.reduceNeg, Nat.reduceAdd, Int.reduceLT, Int.reduceLE, Int.reduceEq, reduceIte, w_ck_53, w_g_53_0, w_g_53_1, w_g_53_2, w_r_54, w_l_54, w_w_54, w_r_55, w_l_55, w_w_55, w_r_56, w_l_56, w_w_56, jI_add, jI_sub, jI_mul, jI_neg, jI_eq, jI_le, jI_lt, jI_eq0, jI_eq1, jI_lt0, jI_0lt, jI_le0, jI_0le, jI_clamp, jI_inBT, kL_0, kL_1, kL_2, kL_5, kL_6, kL_7, kL_10, kL_11, kL_15, kL_23, kL_31, kL_39, kL_97, kL_99, kL_104, kL_255, kL_349, kL_999, kL_1771561, kL_16777215, kL_4294967295, kL_18446744073709551615, jI_toL, rn_zB, rn_z0, rn_z1, jIB_eq0, jIB_eq1, jIB_eqJ, jB_def, jB_not, jB_and, jB_or, jB_nand, jB_nor, jB_ite, mrg, Decidable.not_not, ite_not, u2_s, u2_n, Int.add_sub_cancel, Int.sub_add_cancel]
  exact a6 d Q
end CHG4
/-- one place alone, -1 if there is not just one -/
def onlyP (p : Nat → Bool) : Int := if cntS p 0 8 = 1 then fstP p 0 8 else -1
section CHG5
variable {d : Nat} {Q : Option Value → am_H → Prop}
variable {L : Nat} {xs : Nat → Int32} {F A : Nat → Nat → Int} {B : Nat → Int64} {hs : Int64} {t1 t2 : Nat}
theorem s_Ch_su_17 {n z : Int} (hn : 0 ≤ n ∧ n ≤ 39) (hz : -200000 ≤ z ∧ z ≤ 200000) (hr : ∀ w, w < 8 → -200000 ≤ A 55 (8 * n.toNat + w) ∧ A 55 (8 * n.toNat + w) ≤ 200000) :
    ∀ (k : Nat) (v s : Int), v + k = 8 → 0 ≤ v → -1 ≤ s ∧ s < v → Rj d 7 17 [.ref 53, .int (jI n), .int (jI z), .int (jI s), .int (jI v)] [] (HW L xs F A B hs t1 t2) Q =
      Q (some (.int (jI (if s = -1 then (if cntS (fun w => decide (A 55 (8 * n.toNat + w) = z)) v.toNat k = 1 then fstP (fun w => decide (A 55 (8 * n.toNat + w) = z)) v.toNat k else -1) else (if cntS (fun w => decide (A 55 (8 * n.toNat + w) = z)) v.toNat k = 0 then s else -1))))) (HW L xs F A B hs t1 t2)
  | 0, v, s, hk, hv, hs' => by
    rw [b_Changes_sureOf_17]
    simp (disch := omega) only [b_Changes_sureOf_56, rn_nil, rn_iconst, rn_ldc2, rn_iadd, rn_isub, rn_imul, rn_iand, rn_ior, rn_ixor, rn_ishl, rn_ishr, rn_iushr, rn_ineg, rn_ladd, rn_lsub, rn_lmul, rn_land, rn_lor, rn_lshl, rn_lushr, rn_lcmp, rn_i2l, rn_l2i, rn_dupI, rn_dupR, rn_popI, rn_dup2, rn_idiv, rn_irem, rn_ldiv, rn_lrem, rn_dadd, rn_dsub, rn_dmul, rn_objinit, rn_iload, rn_lload, rn_aload, rn_istore, rn_astore, rn_lstore, rn_iinc, rn_getfield, rn_iaload, rn_laload, rn_aaload, rn_arraylength, rn_putfield, rn_iastore, rn_lastore, rn_goto, rn_ifCond_eq, rn_if_icmp_eq, rn_ifCond_ne, rn_if_icmp_ne, rn_ifCond_lt, rn_if_icmp_lt, rn_ifCond_ge, rn_if_icmp_ge, rn_ifCond_gt, rn_if_icmp_gt, rn_ifCond_le, rn_if_icmp_le, rn_ireturn, rn_lreturn, rn_return, rL_I, rL_L, rL_R, rS_t, rI_t, rG_s, rG_i, rP_s, rP_i, kq_v, kq_s, ok_0, ok_1I, ok_1R, ok_1N, ok_s, rc8_0, rc8_1, rc8_2, rc8_3, rc8_4, List.getElem?_cons_zero, List.getElem?_cons_succ, List.set_cons_zero, List.set_cons_succ, true_and, and_true, if_true, if_false, Int.toNat_natCast, Int.reduceToNat, Int.reduceAdd, Int.reduceSub, Int.reduceMul, Int.reduceNeg, Nat.reduceAdd, Int.reduceLT, Int.reduceLE, Int.reduceEq, reduceIte, w_ck_53, w_g_53_0, w_g_53_1, w_g_53_2, w_r_54, w_l_54, w_w_54, w_r_55, w_l_55, w_w_55, w_r_56, w_l_56, w_w_56, jI_add, jI_sub, jI_mul, jI_neg, jI_eq, jI_le, jI_lt, jI_eq0, jI_eq1, jI_lt0, jI_0lt, jI_le0, jI_0le, jI_clamp, jI_inBT, kL_0, kL_1, kL_2, kL_5, kL_6, kL_7, kL_10, kL_11, kL_15, kL_23, kL_31, kL_39, kL_97, kL_99, kL_104, kL_255, kL_349, kL_999, kL_1771561, kL_16777215, kL_4294967295, kL_18446744073709551615, jI_toL, rn_zB, rn_z0, rn_z1, jIB_eq0, jIB_eq1, jIB_eqJ, jB_def, jB_not, jB_and, jB_or, jB_nand, jB_nor, jB_ite, mrg, Decidable.not_not, ite_not, u2_s, u2_n, Int.add_sub_cancel, Int.sub_add_cancel]
    rw [if_pos (by omega)]
    by_cases g : s = -1
    · rw [if_pos g, g]; simp [cntS]
    · rw [if_neg g]; simp [cntS]
  | k + 1, v, s, hk, hv, hs' => by
    have r1 := hr v.toNat (by omega)
    have e0 : 8 * n.toNat + v.toNat = (n * 8 + v).toNat := by omega
    have cr := cntS_rng (fun w => decide (A 55 (8 * n.toNat + w) = z)) k (v.toNat + 1)
    rw [e0] at r1
    rw [b_Changes_sureOf_17]
    simp (disch := omega) only [b_Changes_sureOf_24, b_Changes_sureOf_40, b_Changes_sureOf_45, b_Changes_sureOf_47, b_Changes_sureOf_50, rn_nil, rn_iconst, rn_ldc2, rn_iadd, rn_isub, rn_imul, rn_iand, rn_ior, rn_ixor, rn_ishl, rn_ishr, rn_iushr, rn_ineg, rn_ladd, rn_lsub, rn_lmul, rn_land, rn_lor, rn_lshl, rn_lushr, rn_lcmp, rn_i2l, rn_l2i, rn_dupI, rn_dupR, rn_popI, rn_dup2, rn_idiv, rn_irem, rn_ldiv, rn_lrem, rn_dadd, rn_dsub, rn_dmul, rn_objinit, rn_iload, rn_lload, rn_aload, rn_istore, rn_astore, rn_lstore, rn_iinc, rn_getfield, rn_iaload, rn_laload, rn_aaload, rn_arraylength, rn_putfield, rn_iastore, rn_lastore, rn_goto, rn_ifCond_eq, rn_if_icmp_eq, rn_ifCond_ne, rn_if_icmp_ne, rn_ifCond_lt, rn_if_icmp_lt, rn_ifCond_ge, rn_if_icmp_ge, rn_ifCond_gt, rn_if_icmp_gt, rn_ifCond_le, rn_if_icmp_le, rn_ireturn, rn_lreturn, rn_return, rL_I, rL_L, rL_R, rS_t, rI_t, rG_s, rG_i, rP_s, rP_i, kq_v, kq_s, ok_0, ok_1I, ok_1R, ok_1N, ok_s, rc8_0, rc8_1, rc8_2, rc8_3, rc8_4, List.getElem?_cons_zero, List.getElem?_cons_succ, List.set_cons_zero, List.set_cons_succ, true_and, and_true, if_true, if_false, Int.toNat_natCast, Int.reduceToNat, Int.reduceAdd, Int.reduceSub, Int.reduceMul, Int.reduceNeg, Nat.reduceAdd, Int.reduceLT, Int.reduceLE, Int.reduceEq, reduceIte, w_ck_53, w_g_53_0, w_g_53_1, w_g_53_2, w_r_54, w_l_54, w_w_54, w_r_55, w_l_55, w_w_55, w_r_56, w_l_56, w_w_56, jI_add, jI_sub, jI_mul, jI_neg, jI_eq, jI_le, jI_lt, jI_eq0, jI_eq1, jI_lt0, jI_0lt, jI_le0, jI_0le, jI_clamp, jI_inBT, kL_0, kL_1, kL_2, kL_5, kL_6, kL_7, kL_10, kL_11, kL_15, kL_23, kL_31, kL_39, kL_97, kL_99, kL_104, kL_255, kL_349, kL_999, kL_1771561, kL_16777215, kL_4294967295, kL_18446744073709551615, jI_toL, rn_zB, rn_z0, rn_z1, jIB_eq0, jIB_eq1, jIB_eqJ, jB_def, jB_not, jB_and, jB_or, jB_nand, jB_nor, jB_ite, mrg, Decidable.not_not, ite_not, u2_s, u2_n, Int.add_sub_cancel, Int.sub_add_cancel]
    rw [if_neg (by omega), s_Ch_su_17 hn hz hr k (v + 1) s (by omega) (by omega) (by omega), s_Ch_su_17 hn hz hr k (v + 1) v (by omega) (by omega) (by omega), cntS, fstP, e0, show (v + 1).toNat = v.toNat + 1 by omega]
    by_cases g : A 55 (n * 8 + v).toNat = z
    · simp only [g, if_true, decide_true]
      by_cases g2 : s = -1
      · rw [if_pos g2, if_pos g2, if_neg (show ¬ v = -1 by omega), show ((v.toNat : Nat) : Int) = v by omega]
        by_cases g3 : cntS (fun w => decide (A 55 (8 * n.toNat + w) = z)) (v.toNat + 1) k = 0
        · rw [if_pos g3, if_pos (by omega)]
        · rw [if_neg g3, if_neg (by omega)]
      · rw [if_neg g2, if_neg g2, if_neg (by omega)]
    · simp only [g, if_false, decide_false, Bool.false_eq_true, Int.zero_add]
theorem s_Ch_sure {n : Int} (hn : 0 ≤ n ∧ n ≤ 39) (hr : ∀ w, w < 8 → -200000 ≤ A 55 (8 * n.toNat + w) ∧ A 55 (8 * n.toNat + w) ≤ 200000) :
    Rj (d + 1) 7 0 [.ref 53, .int (jI n), .null, .null, .null] [] (HW L xs F A B hs t1 t2) Q = Q (some (.int (jI (onlyP (fun w => decide (A 55 (8 * n.toNat + w) = mn (fun w => A 55 (8 * n.toNat + w)))))))) (HW L xs F A B hs t1 t2) := by
  have hz := mn_rng hr
  rw [b_Changes_sureOf_0]
  simp (disch := omega) only [rn_nil, rn_iconst, rn_ldc2, rn_iadd, rn_isub, rn_imul, rn_iand, rn_ior, rn_ixor, rn_ishl, rn_ishr, rn_iushr, rn_ineg, rn_ladd, rn_lsub, rn_lmul, rn_land, rn_lor, rn_lshl, rn_lushr, rn_lcmp, rn_i2l, rn_l2i, rn_dupI, rn_dupR, rn_popI, rn_dup2, rn_idiv, rn_irem, rn_ldiv, rn_lrem, rn_dadd, rn_dsub, rn_dmul, rn_objinit, rn_iload, rn_lload, rn_aload, rn_istore, rn_astore, rn_lstore, rn_iinc, rn_getfield, rn_iaload, rn_laload, rn_aaload, rn_arraylength, rn_putfield, rn_iastore, rn_lastore, rn_goto, rn_ifCond_eq, rn_if_icmp_eq, rn_ifCond_ne, rn_if_icmp_ne, rn_ifCond_lt, rn_if_icmp_lt, rn_ifCond_ge, rn_if_icmp_ge, rn_ifCond_gt, rn_if_icmp_gt, rn_ifCond_le, rn_if_icmp_le, rn_ireturn, rn_lreturn, rn_return, rL_I, rL_L, rL_R, rS_t, rI_t, rG_s, rG_i, rP_s, rP_i, kq_v, kq_s, ok_0, ok_1I, ok_1R, ok_1N, ok_s, rc8_0, rc8_1, rc8_2, rc8_3, rc8_4, List.getElem?_cons_zero, List.getElem?_cons_succ, List.set_cons_zero, List.set_cons_succ, true_and, and_true, if_true, if_false, Int.toNat_natCast, Int.reduceToNat, Int.reduceAdd, Int.reduceSub, Int.reduceMul, Int.reduceNeg, Nat.reduceAdd, Int.reduceLT, Int.reduceLE, Int.reduceEq, reduceIte, w_ck_53, w_g_53_0, w_g_53_1, w_g_53_2, w_r_54, w_l_54, w_w_54, w_r_55, w_l_55, w_w_55, w_r_56, w_l_56, w_w_56, jI_add, jI_sub, jI_mul, jI_neg, jI_eq, jI_le, jI_lt, jI_eq0, jI_eq1, jI_lt0, jI_0lt, jI_le0, jI_0le, jI_clamp, jI_inBT, kL_0, kL_1, kL_2, kL_5, kL_6, kL_7, kL_10, kL_11, kL_15, kL_23, kL_31, kL_39, kL_97, kL_99, kL_104, kL_255, kL_349, kL_999, kL_1771561, kL_16777215, kL_4294967295, kL_18446744073709551615, jI_toL, rn_zB, rn_z0, rn_z1, jIB_eq0, jIB_eq1, jIB_eqJ, jB_def, jB_not, jB_and, jB_or, jB_nand, jB_nor, jB_ite, mrg, Decidable.not_not, ite_not, u2_s, u2_n, Int.add_sub_cancel, Int.sub_add_cancel, c_Changes_leastOf]
  rw [s_Ch_leastOf (a := 55) (n := 320) rfl (by omega) (by omega) (fun w hw => by rw [show (n * 8).toNat = 8 * n.toNat by omega]; have := hr w hw; omega), show (n * 8).toNat = 8 * n.toNat by omega]
  simp (disch := omega) only [rn_nil, rn_iconst, rn_ldc2, rn_iadd, rn_isub, rn_imul, rn_iand, rn_ior, rn_ixor, rn_ishl, rn_ishr, rn_iushr, rn_ineg, rn_ladd, rn_lsub, rn_lmul, rn_land, rn_lor, rn_lshl, rn_lushr, rn_lcmp, rn_i2l, rn_l2i, rn_dupI, rn_dupR, rn_popI, rn_dup2, rn_idiv, rn_irem, rn_ldiv, rn_lrem, rn_dadd, rn_dsub, rn_dmul, rn_objinit, rn_iload, rn_lload, rn_aload, rn_istore, rn_astore, rn_lstore, rn_iinc, rn_getfield, rn_iaload, rn_laload, rn_aaload, rn_arraylength, rn_putfield, rn_iastore, rn_lastore, rn_goto, rn_ifCond_eq, rn_if_icmp_eq, rn_ifCond_ne, rn_if_icmp_ne, rn_ifCond_lt, rn_if_icmp_lt, rn_ifCond_ge, rn_if_icmp_ge, rn_ifCond_gt, rn_if_icmp_gt, rn_ifCond_le, rn_if_icmp_le, rn_ireturn, rn_lreturn, rn_return, rL_I, rL_L, rL_R, rS_t, rI_t, rG_s, rG_i, rP_s, rP_i, kq_v, kq_s, ok_0, ok_1I, ok_1R, ok_1N, ok_s, rc8_0, rc8_1, rc8_2, rc8_3, rc8_4, List.getElem?_cons_zero, List.getElem?_cons_succ, List.set_cons_zero, List.set_cons_succ, true_and, and_true, if_true, if_false, Int.toNat_natCast, Int.reduceToNat, Int.reduceAdd, Int.reduceSub, Int.reduceMul, Int.reduceNeg, Nat.reduceAdd, Int.reduceLT, Int.reduceLE, Int.reduceEq, reduceIte, w_ck_53, w_g_53_0, w_g_53_1, w_g_53_2, w_r_54, w_l_54, w_w_54, w_r_55, w_l_55, w_w_55, w_r_56, w_l_56, w_w_56, jI_add, jI_sub, jI_mul, jI_neg, jI_eq, jI_le, jI_lt, jI_eq0, jI_eq1, jI_lt0, jI_0lt, jI_le0, jI_0le, jI_clamp, jI_inBT, kL_0, kL_1, kL_2, kL_5, kL_6, kL_7, kL_10, kL_11, kL_15, kL_23, kL_31, kL_39, kL_97, kL_99, kL_104, kL_255, kL_349, kL_999, kL_1771561, kL_16777215, kL_4294967295, kL_18446744073709551615, jI_toL, rn_zB, rn_z0, rn_z1, jIB_eq0, jIB_eq1, jIB_eqJ, jB_def, jB_not, jB_and, jB_or, jB_nand, jB_nor, jB_ite, mrg, Decidable.not_not, ite_not, u2_s, u2_n, Int.add_sub_cancel, Int.sub_add_cancel]
  rw [s_Ch_su_17 hn hz hr 8 0 (-1) (by omega) (by omega) (by omega), if_pos rfl]
  rfl
end CHG5
