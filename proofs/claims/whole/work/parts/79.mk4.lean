/-! THE CLASS: gather, fewest -/
section GAT2
variable {L : Nat} {xs : Nat → Int32} {B : Nat → Int64} {hs : Int64} {t1 t2 : Nat}
theorem s_Mk_ga_121 {F A0 : Nat → Nat → Int} {th t n k : Nat} {g : Nat → Nat} (hth : th ≤ 12) (hk : k ≤ 20) {v4 : Value} :
    ∀ (j : Nat) (A : Nat → Nat → Int), j ≤ k → (∀ a, ¬ (19 ≤ a ∧ a ≤ 22) → A a = A0 a) → GS F A0 A th t g k n → (∀ i, j ≤ i → i ≤ k → A 22 i = setS (fun z => allB (fun x => fitM A0 (g x) z) i (k - i)) 0 th) →
      ∃ A', (∀ a, ¬ (19 ≤ a ∧ a ≤ 22) → A' a = A0 a) ∧ GS F A0 A' th t g k n ∧ (∀ i, i ≤ k → A' 22 i = setS (fun z => allB (fun x => fitM A0 (g x) z) i (k - i)) 0 th) ∧ ∀ d Q, Rj d 36 121 [.ref 18, .ref 3, .int (jI t), .int (jI ((j : Int) - 1)), v4] [] (HW L xs F A B hs t1 t2) Q = Q none (HW L xs F A' B hs t1 t2)
  | 0, A, hj, hA, hG, hR => by
    refine ⟨A, hA, hG, fun i hi => hR i (by omega) hi, fun d Q => ?_⟩
    rw [b_Maker_gather_121]
    simp (disch := omega) only [b_Maker_gather_152, rn_nil, rn_iconst, rn_ldc2, rn_iadd, rn_isub, rn_imul, rn_iand, rn_ior, rn_ixor, rn_ishl, rn_ishr, rn_iushr, rn_ineg, rn_ladd, rn_lsub, rn_lmul, rn_land, rn_lor, rn_lshl, rn_lushr, rn_lcmp, rn_i2l, rn_l2i, rn_dupI, rn_dupR, rn_popI, rn_dup2, rn_idiv, rn_irem, rn_ldiv, rn_lrem, rn_dadd, rn_dsub, rn_dmul, rn_objinit, rn_iload, rn_lload, rn_aload, rn_istore, rn_astore, rn_lstore, rn_iinc, rn_getfield, rn_iaload, rn_laload, rn_aaload, rn_arraylength, rn_putfield, rn_iastore, rn_lastore, rn_goto, rn_ifCond_eq, rn_if_icmp_eq, rn_ifCond_ne, rn_if_icmp_ne, rn_ifCond_lt, rn_if_icmp_lt, rn_ifCond_ge, rn_if_icmp_ge, rn_ifCond_gt, rn_if_icmp_gt, rn_ifCond_le, rn_if_icmp_le, rn_ireturn, rn_lreturn, rn_return, rL_I, rL_L, rL_R, rS_t, rI_t, rG_s, rG_i, rP_s, rP_i, kq_v, kq_s, ok_0, ok_1I, ok_1R, ok_1N, ok_s, rc8_0, rc8_1, rc8_2, rc8_3, rc8_4, List.getElem?_cons_zero, List.getElem?_cons_succ, List.set_cons_zero, List.set_cons_succ, true_and, and_true, if_true, if_false, Int.toNat_natCast, Int.reduceToNat, Int.reduceAdd, Int.reduceSub, Int.reduceMul, Int.reduceNeg, Nat.reduceAdd, Int.reduceLT, Int.reduceLE, Int.reduceEq, reduceIte, w_ck_18, w_g_18_0, w_g_18_1, w_g_18_2, w_g_18_3, w_g_18_4, w_g_18_5, w_p_18_5, w_g_18_6, w_p_18_6, w_g_18_7, w_p_18_7, w_g_18_8, w_p_18_8, w_r_19, w_l_19, w_w_19, w_r_20, w_l_20, w_w_20, w_r_21, w_l_21, w_w_21, w_r_22, w_l_22, w_w_22, jI_add, jI_sub, jI_mul, jI_neg, jI_eq, jI_le, jI_lt, jI_eq0, jI_eq1, jI_lt0, jI_0lt, jI_le0, jI_0le, jI_clamp, jI_inBT, kL_0, kL_1, kL_2, kL_5, kL_6, kL_7, kL_10, kL_11, kL_15, kL_23, kL_31, kL_39, kL_97, kL_99, kL_104, kL_255, kL_349, kL_999, kL_1771561, kL_16777215, kL_4294967295, kL_18446744073709551615, jI_toL, rn_zB, rn_z0, rn_z1, jIB_eq0, jIB_eq1, jIB_eqJ, jB_def, jB_not, jB_and, jB_or, jB_nand, jB_nor, jB_ite, mrg, Decidable.not_not, ite_not, u2_s, u2_n, Int.add_sub_cancel, Int.sub_add_cancel]
    rw [if_pos (by omega)]
  | j + 1, A, hj, hA, hG, hR => by
    have aj := (hG.2.2.2.2 j (by omega)).1
    have aR := hR (j + 1) (Nat.le_refl _) (by omega)
    have q1 := setS_12 (fitM A0 (g j)) (n := th) hth
    have q2 := setS_12 (fun z => allB (fun x => fitM A0 (g x) z) (j + 1) (k - (j + 1))) (n := th) hth
    have ej : iand (setS (fun z => allB (fun x => fitM A0 (g x) z) (j + 1) (k - (j + 1))) 0 th) (setS (fitM A0 (g j)) 0 th) = setS (fun z => allB (fun x => fitM A0 (g x) z) j (k - j)) 0 th := by
      rw [and_SS]
      apply setS_ext
      intro z _ _
      rw [show k - j = (k - (j + 1)) + 1 by omega, allB, Bool.and_comm]
    obtain ⟨q3, q4, q5, q6, q7⟩ := hG
    obtain ⟨A', r1, r2, r3, r4⟩ := s_Mk_ga_121 (v4 := v4) hth hk j (u2 A 22 j (setS (fun z => allB (fun x => fitM A0 (g x) z) j (k - j)) 0 th)) (by omega) (fun a ha => by rw [u2_a (by omega)]; exact hA a ha) ⟨q3, q4, q5, q6, fun i hi => by rw [u2_n (by omega), u2_n (by omega), u2_n (by omega)]; exact q7 i hi⟩ (fun i h1 h2 => by
      by_cases c : i = j
      · rw [c, u2_s]
      · rw [u2_n (by omega)]; exact hR i (by omega) h2)
    refine ⟨A', r1, r2, r3, fun d Q => ?_⟩
    have e1 : ((j : Int) + 1).toNat = j + 1 := by omega
    rw [b_Maker_gather_121, show ((j + 1 : Nat) : Int) - 1 = (j : Int) by omega]
    simp (disch := omega) only [b_Maker_gather_125, rn_nil, rn_iconst, rn_ldc2, rn_iadd, rn_isub, rn_imul, rn_iand, rn_ior, rn_ixor, rn_ishl, rn_ishr, rn_iushr, rn_ineg, rn_ladd, rn_lsub, rn_lmul, rn_land, rn_lor, rn_lshl, rn_lushr, rn_lcmp, rn_i2l, rn_l2i, rn_dupI, rn_dupR, rn_popI, rn_dup2, rn_idiv, rn_irem, rn_ldiv, rn_lrem, rn_dadd, rn_dsub, rn_dmul, rn_objinit, rn_iload, rn_lload, rn_aload, rn_istore, rn_astore, rn_lstore, rn_iinc, rn_getfield, rn_iaload, rn_laload, rn_aaload, rn_arraylength, rn_putfield, rn_iastore, rn_lastore, rn_goto, rn_ifCond_eq, rn_if_icmp_eq, rn_ifCond_ne, rn_if_icmp_ne, rn_ifCond_lt, rn_if_icmp_lt, rn_ifCond_ge, rn_if_icmp_ge, rn_ifCond_gt, rn_if_icmp_gt, rn_ifCond_le, rn_if_icmp_le, rn_ireturn, rn_lreturn, rn_return, rL_I, rL_L, rL_R, rS_t, rI_t, rG_s, rG_i, rP_s, rP_i, kq_v, kq_s, ok_0, ok_1I, ok_1R, ok_1N, ok_s, rc8_0, rc8_1, rc8_2, rc8_3, rc8_4, List.getElem?_cons_zero, List.getElem?_cons_succ, List.set_cons_zero, List.set_cons_succ, true_and, and_true, if_true, if_false, Int.toNat_natCast, Int.reduceToNat, Int.reduceAdd, Int.reduceSub, Int.reduceMul, Int.reduceNeg, Nat.reduceAdd, Int.reduceLT, Int.reduceLE, Int.reduceEq, reduceIte, w_ck_18, w_g_18_0, w_g_18_1, w_g_18_2, w_g_18_3, w_g_18_4, w_g_18_5, w_p_18_5, w_g_18_6, w_p_18_6, w_g_18_7, w_p_18_7, w_g_18_8, w_p_18_8, w_r_19, w_l_19, w_w_19, w_r_20, w_l_20, w_w_20, w_r_21, w_l_21, w_w_21, w_r_22, w_l_22, w_w_22, jI_add, jI_sub, jI_mul, jI_neg, jI_eq, jI_le, jI_lt, jI_eq0, jI_eq1, jI_lt0, jI_0lt, jI_le0, jI_0le, jI_clamp, jI_inBT, kL_0, kL_1, kL_2, kL_5, kL_6, kL_7, kL_10, kL_11, kL_15, kL_23, kL_31, kL_39, kL_97, kL_99, kL_104, kL_255, kL_349, kL_999, kL_1771561, kL_16777215, kL_4294967295, kL_18446744073709551615, jI_toL, rn_zB, rn_z0, rn_z1, jIB_eq0, jIB_eq1, jIB_eqJ, jB_def, jB_not, jB_and, jB_or, jB_nand, jB_nor, jB_ite, mrg, Decidable.not_not, ite_not, u2_s, u2_n, Int.add_sub_cancel, Int.sub_add_cancel, e1, aR, aj, jI_and, ej, Int.toNat_natCast]
    rw [if_neg (by omega), show (j : Int) + -1 = (j : Int) - 1 by omega]
    exact r4 d Q
theorem s_Mk_gather {F A : Nat → Nat → Int} (hI : LI F A) (h24 : ∀ w, w < 16 → A 24 w = 7) (h24r : ∀ w, 0 ≤ A 24 w ∧ A 24 w ≤ 7) {t : Int} (ht : 0 ≤ t ∧ t < F 71 0) :
    ∃ F' A' g k, (∀ o, ¬ o = 18 → F' o = F o) ∧ (∀ a, ¬ (19 ≤ a ∧ a ≤ 22) → A' a = A a) ∧ MK F' A' (fitM A) (tuM A t.toNat) (F 71 4).toNat (F 71 0).toNat t.toNat g k ∧ ∀ d Q, Rj (d + 1) 36 0 [.ref 18, .ref 3, .int (jI t), .null, .null] [] (HW L xs F A B hs t1 t2) Q = Q none (HW L xs F' A' B hs t1 t2) := by
  have h0 := hI.1.2.1
  have h1 := hI.1.2.2.1
  have p2 := pow_pos2 t.toNat
  have e0 : F 71 0 = (((F 71 0).toNat : Nat) : Int) := by omega
  have e4 : F 71 4 = (((F 71 4).toNat : Nat) : Int) := by omega
  obtain ⟨F1, A1, g, k, u4, r1, r2, r3, r4⟩ := s_Mk_ga_14 (L := L) (xs := xs) (F := F) (B := B) (hs := hs) (t1 := t1) (t2 := t2) hI h24 h24r (t := t.toNat) (fun _ => trivial) e0 e4 (by omega) (F 71 4).toNat 0 0 (fun _ => 0) (u2 (u2 F 18 5 0) 18 6 (2 ^ t.toNat)) A .null (by omega) (fun o ho => by rw [u2_a ho, u2_a ho]) (fun _ _ => rfl) ⟨⟨fun i hi => by omega, fun i j h1 h2 => by omega, fun s hs => by omega⟩, by rw [u2_n (by omega), u2_s]; rfl, u2_s, Nat.le_refl 0, fun i hi => by omega⟩
  have hk : k ≤ (F 71 4).toNat := r3.2.2.2.1
  have hEF : EF F F1 := EF_mk r1
  have hEQ : EQ A A1 := fun a ha => r2 a (by unfold NS at ha; omega)
  have hI' := LI_cg hEF hEQ hI
  obtain ⟨q3, q4, q5, q6, q7⟩ := r3
  obtain ⟨A2, s1, s2, s3, s4⟩ := s_Mk_ga_121 (L := L) (xs := xs) (B := B) (hs := hs) (t1 := t1) (t2 := t2) (F := F1) (A0 := A) (th := (F 71 0).toNat) (t := t.toNat) (n := (F 71 4).toNat) (k := k) (g := g) (by omega) (by omega) (v4 := u4) k (u2 A1 22 k (setS (fun _ => true) 0 (F 71 0).toNat)) (Nat.le_refl k) (fun a ha => by rw [u2_a (by omega)]; exact r2 a ha) ⟨q3, q4, q5, q6, fun i hi => by rw [u2_n (by omega), u2_n (by omega), u2_n (by omega)]; exact q7 i hi⟩ (fun i i1 i2 => by
    rw [show i = k by omega, u2_s, Nat.sub_self]
    rfl)
  refine ⟨F1, A2, g, k, r1, s1, ⟨s2.1, s2.2.1, s2.2.2.1, ⟨by omega, by omega, by omega, hk⟩, s2.2.2.2.2, s3, tuM_rng A t.toNat⟩, fun d Q => ?_⟩
  have r5 := r4 d Q
  have s5 := s4 (d + 1) Q
  rw [show ((t.toNat : Nat) : Int) = t by omega, show ((0 : Nat) : Int) = 0 from rfl] at r5
  rw [show ((t.toNat : Nat) : Int) = t by omega] at s5
  have c3 : F1 3 0 = F 71 0 := by rw [r1 3 (by omega)]; exact hI.1.2.2.2.1
  rw [b_Maker_gather_0]
  simp (disch := omega) only [rn_nil, rn_iconst, rn_ldc2, rn_iadd, rn_isub, rn_imul, rn_iand, rn_ior, rn_ixor, rn_ishl, rn_ishr, rn_iushr, rn_ineg, rn_ladd, rn_lsub, rn_lmul, rn_land, rn_lor, rn_lshl, rn_lushr, rn_lcmp, rn_i2l, rn_l2i, rn_dupI, rn_dupR, rn_popI, rn_dup2, rn_idiv, rn_irem, rn_ldiv, rn_lrem, rn_dadd, rn_dsub, rn_dmul, rn_objinit, rn_iload, rn_lload, rn_aload, rn_istore, rn_astore, rn_lstore, rn_iinc, rn_getfield, rn_iaload, rn_laload, rn_aaload, rn_arraylength, rn_putfield, rn_iastore, rn_lastore, rn_goto, rn_ifCond_eq, rn_if_icmp_eq, rn_ifCond_ne, rn_if_icmp_ne, rn_ifCond_lt, rn_if_icmp_lt, rn_ifCond_ge, rn_if_icmp_ge, rn_ifCond_gt, rn_if_icmp_gt, rn_ifCond_le, rn_if_icmp_le, rn_ireturn, rn_lreturn, rn_return, rL_I, rL_L, rL_R, rS_t, rI_t, rG_s, rG_i, rP_s, rP_i, kq_v, kq_s, ok_0, ok_1I, ok_1R, ok_1N, ok_s, rc8_0, rc8_1, rc8_2, rc8_3, rc8_4, List.getElem?_cons_zero, List.getElem?_cons_succ, List.set_cons_zero, List.set_cons_succ, true_and, and_true, if_true, if_false, Int.toNat_natCast, Int.reduceToNat, Int.reduceAdd, Int.reduceSub, Int.reduceMul, Int.reduceNeg, Nat.reduceAdd, Int.reduceLT, Int.reduceLE, Int.reduceEq, reduceIte, w_ck_18, w_g_18_0, w_g_18_1, w_g_18_2, w_g_18_3, w_g_18_4, w_g_18_5, w_p_18_5, w_g_18_6, w_p_18_6, w_g_18_7, w_p_18_7, w_g_18_8, w_p_18_8, w_r_19, w_l_19, w_w_19, w_r_20, w_l_20, w_w_20, w_r_21, w_l_21, w_w_21, w_r_22, w_l_22, w_w_22, jI_add, jI_sub, jI_mul, jI_neg, jI_eq, jI_le, jI_lt, jI_eq0, jI_eq1, jI_lt0, jI_0lt, jI_le0, jI_0le, jI_clamp, jI_inBT, kL_0, kL_1, kL_2, kL_5, kL_6, kL_7, kL_10, kL_11, kL_15, kL_23, kL_31, kL_39, kL_97, kL_99, kL_104, kL_255, kL_349, kL_999, kL_1771561, kL_16777215, kL_4294967295, kL_18446744073709551615, jI_toL, rn_zB, rn_z0, rn_z1, jIB_eq0, jIB_eq1, jIB_eqJ, jB_def, jB_not, jB_and, jB_or, jB_nand, jB_nor, jB_ite, mrg, Decidable.not_not, ite_not, u2_s, u2_n, Int.add_sub_cancel, Int.sub_add_cancel, jI_shl1]
  rw [r5, b_Maker_gather_101]
  simp (disch := omega) only [rn_nil, rn_iconst, rn_ldc2, rn_iadd, rn_isub, rn_imul, rn_iand, rn_ior, rn_ixor, rn_ishl, rn_ishr, rn_iushr, rn_ineg, rn_ladd, rn_lsub, rn_lmul, rn_land, rn_lor, rn_lshl, rn_lushr, rn_lcmp, rn_i2l, rn_l2i, rn_dupI, rn_dupR, rn_popI, rn_dup2, rn_idiv, rn_irem, rn_ldiv, rn_lrem, rn_dadd, rn_dsub, rn_dmul, rn_objinit, rn_iload, rn_lload, rn_aload, rn_istore, rn_astore, rn_lstore, rn_iinc, rn_getfield, rn_iaload, rn_laload, rn_aaload, rn_arraylength, rn_putfield, rn_iastore, rn_lastore, rn_goto, rn_ifCond_eq, rn_if_icmp_eq, rn_ifCond_ne, rn_if_icmp_ne, rn_ifCond_lt, rn_if_icmp_lt, rn_ifCond_ge, rn_if_icmp_ge, rn_ifCond_gt, rn_if_icmp_gt, rn_ifCond_le, rn_if_icmp_le, rn_ireturn, rn_lreturn, rn_return, rL_I, rL_L, rL_R, rS_t, rI_t, rG_s, rG_i, rP_s, rP_i, kq_v, kq_s, ok_0, ok_1I, ok_1R, ok_1N, ok_s, rc8_0, rc8_1, rc8_2, rc8_3, rc8_4, List.getElem?_cons_zero, List.getElem?_cons_succ, List.set_cons_zero, List.set_cons_succ, true_and, and_true, if_true, if_false, Int.toNat_natCast, Int.reduceToNat, Int.reduceAdd, Int.reduceSub, Int.reduceMul, Int.reduceNeg, Nat.reduceAdd, Int.reduceLT, Int.reduceLE, Int.reduceEq, reduceIte, w_ck_18, w_g_18_0, w_g_18_1, w_g_18_2, w_g_18_3, w_g_18_4, w_g_18_5, w_p_18_5, w_g_18_6, w_p_18_6, w_g_18_7, w_p_18_7, w_g_18_8, w_p_18_8, w_r_19, w_l_19, w_w_19, w_r_20, w_l_20, w_w_20, w_r_21, w_l_21, w_w_21, w_r_22, w_l_22, w_w_22, jI_add, jI_sub, jI_mul, jI_neg, jI_eq, jI_le, jI_lt, jI_eq0, jI_eq1, jI_lt0, jI_0lt, jI_le0, jI_0le, jI_clamp, jI_inBT, kL_0, kL_1, kL_2, kL_5, kL_6, kL_7, kL_10, kL_11, kL_15, kL_23, kL_31, kL_39, kL_97, kL_99, kL_104, kL_255, kL_349, kL_999, kL_1771561, kL_16777215, kL_4294967295, kL_18446744073709551615, jI_toL, rn_zB, rn_z0, rn_z1, jIB_eq0, jIB_eq1, jIB_eqJ, jB_def, jB_not, jB_and, jB_or, jB_nand, jB_nor, jB_ite, mrg, Decidable.not_not, ite_not, u2_s, u2_n, Int.add_sub_cancel, Int.sub_add_cancel, c_Lore_allThings, w_ck_3, s_Lore_allThings, c3, q4, Int.toNat_natCast, setS_all0]
  exact s5
theorem s_Mk_fe_19 {F A : Nat → Nat → Int} {f : Nat → Nat → Bool} {tu : Nat → Int} {n th t : Nat} {g : Nat → Nat} {k K : Nat} (hM : MK F A f tu n th t g k) (c3 : F 3 0 = th) (hK : K ≤ 6) :
    ∀ (c j : Nat) (m b : Int), j + c = K + 1 → 1 ≤ j → MDr (fun j => PM f n th t j) (tnV tu n) (j - 1) b → (b = -1 → m = -1) → (-1 ≤ b ∧ b < 2147483648) →
      ∃ m' b', MDr (fun j => PM f n th t j) (tnV tu n) K b' ∧ ∀ d Q, Rj (d + 7) 35 19 [.ref 18, .ref 3, .int (jI t), .int (jI K), .int (jI j)] [] (HW L xs (FB F m b) A B hs t1 t2) Q = Q (some (.int (jI b'))) (HW L xs (FB F m' b') A B hs t1 t2)
  | 0, j, m, b, hc, hj, hB, hm, hb => by
    refine ⟨m, b, by rw [show K = j - 1 by omega]; exact hB, fun d Q => ?_⟩
    rw [b_Maker_fewest_19]
    simp (disch := omega) only [b_Maker_fewest_52, rn_nil, rn_iconst, rn_ldc2, rn_iadd, rn_isub, rn_imul, rn_iand, rn_ior, rn_ixor, rn_ishl, rn_ishr, rn_iushr, rn_ineg, rn_ladd, rn_lsub, rn_lmul, rn_land, rn_lor, rn_lshl, rn_lushr, rn_lcmp, rn_i2l, rn_l2i, rn_dupI, rn_dupR, rn_popI, rn_dup2, rn_idiv, rn_irem, rn_ldiv, rn_lrem, rn_dadd, rn_dsub, rn_dmul, rn_objinit, rn_iload, rn_lload, rn_aload, rn_istore, rn_astore, rn_lstore, rn_iinc, rn_getfield, rn_iaload, rn_laload, rn_aaload, rn_arraylength, rn_putfield, rn_iastore, rn_lastore, rn_goto, rn_ifCond_eq, rn_if_icmp_eq, rn_ifCond_ne, rn_if_icmp_ne, rn_ifCond_lt, rn_if_icmp_lt, rn_ifCond_ge, rn_if_icmp_ge, rn_ifCond_gt, rn_if_icmp_gt, rn_ifCond_le, rn_if_icmp_le, rn_ireturn, rn_lreturn, rn_return, rL_I, rL_L, rL_R, rS_t, rI_t, rG_s, rG_i, rP_s, rP_i, kq_v, kq_s, ok_0, ok_1I, ok_1R, ok_1N, ok_s, rc8_0, rc8_1, rc8_2, rc8_3, rc8_4, List.getElem?_cons_zero, List.getElem?_cons_succ, List.set_cons_zero, List.set_cons_succ, true_and, and_true, if_true, if_false, Int.toNat_natCast, Int.reduceToNat, Int.reduceAdd, Int.reduceSub, Int.reduceMul, Int.reduceNeg, Nat.reduceAdd, Int.reduceLT, Int.reduceLE, Int.reduceEq, reduceIte, w_ck_18, w_g_18_0, w_g_18_1, w_g_18_2, w_g_18_3, w_g_18_4, w_g_18_5, w_p_18_5, w_g_18_6, w_p_18_6, w_g_18_7, w_p_18_7, w_g_18_8, w_p_18_8, w_r_19, w_l_19, w_w_19, w_r_20, w_l_20, w_w_20, w_r_21, w_l_21, w_w_21, w_r_22, w_l_22, w_w_22, jI_add, jI_sub, jI_mul, jI_neg, jI_eq, jI_le, jI_lt, jI_eq0, jI_eq1, jI_lt0, jI_0lt, jI_le0, jI_0le, jI_clamp, jI_inBT, kL_0, kL_1, kL_2, kL_5, kL_6, kL_7, kL_10, kL_11, kL_15, kL_23, kL_31, kL_39, kL_97, kL_99, kL_104, kL_255, kL_349, kL_999, kL_1771561, kL_16777215, kL_4294967295, kL_18446744073709551615, jI_toL, rn_zB, rn_z0, rn_z1, jIB_eq0, jIB_eq1, jIB_eqJ, jB_def, jB_not, jB_and, jB_or, jB_nand, jB_nor, jB_ite, mrg, Decidable.not_not, ite_not, u2_s, u2_n, Int.add_sub_cancel, Int.sub_add_cancel, FB_8]
    rw [if_pos (by omega)]
  | c + 1, j, m, b, hc, hj, hB, hm, hb => by
    by_cases gb : b = -1
    · have hno : ∀ i, 1 ≤ i → i < j → ∀ x, ¬ PM f n th t i x := by
        rcases hB with ⟨h1, h2⟩ | ⟨i, m0, h1, h2, h3, h4, h5⟩
        · exact fun i i1 i2 => h2 i i1 (by omega)
        · exact absurd gb h5
      have hm1 := hm gb
      subst gb hm1
      have hM' := hM
      obtain ⟨hG, hk5, hk6, ⟨hn, hth, ht, hkn⟩, hA, hR, htu⟩ := hM
      have pn := pow20 hn
      have z0 : ∀ s, (0 : Nat).testBit s = false := fun s => Nat.zero_testBit s
      have i0 : ∀ z, intP f n 0 z = true := by
        intro z
        unfold intP
        rw [allB_iff]
        intro s _ _
        rw [z0]; rfl
      have p0 : pcV n 0 = 0 := by
        unfold pcV
        exact cnt_none n 0 (fun s _ _ => z0 s)
      have tn0 : tnV tu n 0 = 0 := by
        unfold tnV
        have : ∀ (a i : Nat), sumS (fun s => if (0 : Nat).testBit s = true then tu s else 0) i a = 0 := by
          intro a
          induction a with
          | zero => intro i; rfl
          | succ a ih => intro i; rw [sumS, ih, z0]; rfl
        exact this n 0
      obtain ⟨m1, b1, hB1, hr1⟩ := s_Mk_choose (L := L) (xs := xs) (B := B) (hs := hs) (t1 := t1) (t2 := t2) hM' j 0 0 (-1) (-1) (fun _ => False) hj (by omega) (by omega) (by omega) (fun s _ => z0 s) (fun s _ e => by rw [z0] at e; cases e) (fun x h => h.elim) (Best_none (fun x h => h))
      have hgn : gx g k n 0 ≤ n := by
        by_cases c1 : 0 < k
        · rw [gx_lt c1]; have := (hG.1 0 c1).1; omega
        · rw [gx_k (by omega)]; exact Nat.le_refl n
      have eqP : ∀ x, (False ∨ mkC f n th t g k 0 j 0 x) ↔ PM f n th t j x := by
        intro x
        constructor
        · rintro (h | ⟨h1, h2, h3, h4⟩)
          · exact h.elim
          · exact ⟨h1, by rw [h4, p0]; omega, h2⟩
        · rintro ⟨h1, h2, h3⟩
          right
          refine ⟨h1, h3, fun s hs => ?_, by rw [h2, p0]; omega⟩
          rw [z0]
          cases e : x.testBit s
          · rfl
          · exfalso
            have hf := vld_f ht h3 (by omega) e
            obtain ⟨i, hi, ei⟩ := hG.2.2 s (by omega) hf
            rw [gx_lt (by omega)] at hs
            by_cases c1 : i = 0
            · rw [c1] at ei; omega
            · have := hG.2.1 0 i (by omega) hi; omega
      have hB2 := Best_iff hB1 eqP
      have bm := Best_m (N := 2 ^ n) (fun x => by have := tn_rng htu n x; omega) (fun x h => h.1) hB2
      have hD : MDr (fun j => PM f n th t j) (tnV tu n) (j + 1 - 1) b1 := by
        by_cases g1 : b1 = -1
        · left
          refine ⟨g1, fun i h1 h2 => ?_⟩
          by_cases e : i = j
          · rw [e]; exact (Best_ex hB2).mp g1
          · exact hno i h1 (by omega)
        · right
          exact ⟨j, m1, hj, by omega, hno, hB2, g1⟩
      obtain ⟨m', b', r1, r2⟩ := s_Mk_fe_19 hM' c3 hK c (j + 1) m1 b1 (by omega) (by omega) hD (fun e => by
        rcases hB2 with ⟨a1, a2, -⟩ | ⟨x, -, a2, -, -⟩
        · exact a2
        · omega) (by omega)
      refine ⟨m', b', r1, fun d Q => ?_⟩
      have hr2 := hr1 (d + (6 - j)) (KQ (d + 6) 35 [.iinc 4 1, .goto 19] 0 [.ref 18, .ref 3, .int (jI t), .int (jI K), .int (jI j)] [] Q)
      rw [show d + (6 - j) + j = d + 6 by omega, tn0, show setS (intP f n 0) 0 th = setS (fun _ => true) 0 th from setS_ext _ _ (fun z _ _ => i0 z), show ((0 : Nat) : Int) = 0 from rfl] at hr2
      have c3' : FB F (-1) (-1) 3 0 = th := by rw [FB_o (by omega)]; exact c3
      rw [b_Maker_fewest_19]
      simp (disch := omega) only [b_Maker_fewest_25, b_Maker_fewest_33, rn_nil, rn_iconst, rn_ldc2, rn_iadd, rn_isub, rn_imul, rn_iand, rn_ior, rn_ixor, rn_ishl, rn_ishr, rn_iushr, rn_ineg, rn_ladd, rn_lsub, rn_lmul, rn_land, rn_lor, rn_lshl, rn_lushr, rn_lcmp, rn_i2l, rn_l2i, rn_dupI, rn_dupR, rn_popI, rn_dup2, rn_idiv, rn_irem, rn_ldiv, rn_lrem, rn_dadd, rn_dsub, rn_dmul, rn_objinit, rn_iload, rn_lload, rn_aload, rn_istore, rn_astore, rn_lstore, rn_iinc, rn_getfield, rn_iaload, rn_laload, rn_aaload, rn_arraylength, rn_putfield, rn_iastore, rn_lastore, rn_goto, rn_ifCond_eq, rn_if_icmp_eq, rn_ifCond_ne, rn_if_icmp_ne, rn_ifCond_lt, rn_if_icmp_lt, rn_ifCond_ge, rn_if_icmp_ge, rn_ifCond_gt, rn_if_icmp_gt, rn_ifCond_le, rn_if_icmp_le, rn_ireturn, rn_lreturn, rn_return, rL_I, rL_L, rL_R, rS_t, rI_t, rG_s, rG_i, rP_s, rP_i, kq_v, kq_s, ok_0, ok_1I, ok_1R, ok_1N, ok_s, rc8_0, rc8_1, rc8_2, rc8_3, rc8_4, List.getElem?_cons_zero, List.getElem?_cons_succ, List.set_cons_zero, List.set_cons_succ, true_and, and_true, if_true, if_false, Int.toNat_natCast, Int.reduceToNat, Int.reduceAdd, Int.reduceSub, Int.reduceMul, Int.reduceNeg, Nat.reduceAdd, Int.reduceLT, Int.reduceLE, Int.reduceEq, reduceIte, w_ck_18, w_g_18_0, w_g_18_1, w_g_18_2, w_g_18_3, w_g_18_4, w_g_18_5, w_p_18_5, w_g_18_6, w_p_18_6, w_g_18_7, w_p_18_7, w_g_18_8, w_p_18_8, w_r_19, w_l_19, w_w_19, w_r_20, w_l_20, w_w_20, w_r_21, w_l_21, w_w_21, w_r_22, w_l_22, w_w_22, jI_add, jI_sub, jI_mul, jI_neg, jI_eq, jI_le, jI_lt, jI_eq0, jI_eq1, jI_lt0, jI_0lt, jI_le0, jI_0le, jI_clamp, jI_inBT, kL_0, kL_1, kL_2, kL_5, kL_6, kL_7, kL_10, kL_11, kL_15, kL_23, kL_31, kL_39, kL_97, kL_99, kL_104, kL_255, kL_349, kL_999, kL_1771561, kL_16777215, kL_4294967295, kL_18446744073709551615, jI_toL, rn_zB, rn_z0, rn_z1, jIB_eq0, jIB_eq1, jIB_eqJ, jB_def, jB_not, jB_and, jB_or, jB_nand, jB_nor, jB_ite, mrg, Decidable.not_not, ite_not, u2_s, u2_n, Int.add_sub_cancel, Int.sub_add_cancel, FB_8, c_Lore_allThings, w_ck_3, s_Lore_allThings, c3', Int.toNat_natCast, setS_all0, c_Maker_choose]
      rw [if_neg (by omega), hr2]
      simp (disch := omega) only [rn_nil, rn_iconst, rn_ldc2, rn_iadd, rn_isub, rn_imul, rn_iand, rn_ior, rn_ixor, rn_ishl, rn_ishr, rn_iushr, rn_ineg, rn_ladd, rn_lsub, rn_lmul, rn_land, rn_lor, rn_lshl, rn_lushr, rn_lcmp, rn_i2l, rn_l2i, rn_dupI, rn_dupR, rn_popI, rn_dup2, rn_idiv, rn_irem, rn_ldiv, rn_lrem, rn_dadd, rn_dsub, rn_dmul, rn_objinit, rn_iload, rn_lload, rn_aload, rn_istore, rn_astore, rn_lstore, rn_iinc, rn_getfield, rn_iaload, rn_laload, rn_aaload, rn_arraylength, rn_putfield, rn_iastore, rn_lastore, rn_goto, rn_ifCond_eq, rn_if_icmp_eq, rn_ifCond_ne, rn_if_icmp_ne, rn_ifCond_lt, rn_if_icmp_lt, rn_ifCond_ge, rn_if_icmp_ge, rn_ifCond_gt, rn_if_icmp_gt, rn_ifCond_le, rn_if_icmp_le, rn_ireturn, rn_lreturn, rn_return, rL_I, rL_L, rL_R, rS_t, rI_t, rG_s, rG_i, rP_s, rP_i, kq_v, kq_s, ok_0, ok_1I, ok_1R, ok_1N, ok_s, rc8_0, rc8_1, rc8_2, rc8_3, rc8_4, List.getElem?_cons_zero, List.getElem?_cons_succ, List.set_cons_zero, List.set_cons_succ, true_and, and_true, if_true, if_false, Int.toNat_natCast, Int.reduceToNat, Int.reduceAdd, Int.reduceSub, Int.reduceMul, Int.reduceNeg, Nat.reduceAdd, Int.reduceLT, Int.reduceLE, Int.reduceEq, reduceIte, w_ck_18, w_g_18_0, w_g_18_1, w_g_18_2, w_g_18_3, w_g_18_4, w_g_18_5, w_p_18_5, w_g_18_6, w_p_18_6, w_g_18_7, w_p_18_7, w_g_18_8, w_p_18_8, w_r_19, w_l_19, w_w_19, w_r_20, w_l_20, w_w_20, w_r_21, w_l_21, w_w_21, w_r_22, w_l_22, w_w_22, jI_add, jI_sub, jI_mul, jI_neg, jI_eq, jI_le, jI_lt, jI_eq0, jI_eq1, jI_lt0, jI_0lt, jI_le0, jI_0le, jI_clamp, jI_inBT, kL_0, kL_1, kL_2, kL_5, kL_6, kL_7, kL_10, kL_11, kL_15, kL_23, kL_31, kL_39, kL_97, kL_99, kL_104, kL_255, kL_349, kL_999, kL_1771561, kL_16777215, kL_4294967295, kL_18446744073709551615, jI_toL, rn_zB, rn_z0, rn_z1, jIB_eq0, jIB_eq1, jIB_eqJ, jB_def, jB_not, jB_and, jB_or, jB_nand, jB_nor, jB_ite, mrg, Decidable.not_not, ite_not, u2_s, u2_n, Int.add_sub_cancel, Int.sub_add_cancel]
      rw [show (j : Int) + 1 = ((j + 1 : Nat) : Int) by omega]
      exact r2 d Q
    · refine ⟨m, b, ?_, fun d Q => ?_⟩
      · rcases hB with ⟨h1, h2⟩ | ⟨i, m0, h1, h2, h3, h4, h5⟩
        · exact absurd h1 gb
        · exact Or.inr ⟨i, m0, h1, by omega, h3, h4, h5⟩
      · rw [b_Maker_fewest_19]
        simp (disch := omega) only [b_Maker_fewest_25, b_Maker_fewest_52, rn_nil, rn_iconst, rn_ldc2, rn_iadd, rn_isub, rn_imul, rn_iand, rn_ior, rn_ixor, rn_ishl, rn_ishr, rn_iushr, rn_ineg, rn_ladd, rn_lsub, rn_lmul, rn_land, rn_lor, rn_lshl, rn_lushr, rn_lcmp, rn_i2l, rn_l2i, rn_dupI, rn_dupR, rn_popI, rn_dup2, rn_idiv, rn_irem, rn_ldiv, rn_lrem, rn_dadd, rn_dsub, rn_dmul, rn_objinit, rn_iload, rn_lload, rn_aload, rn_istore, rn_astore, rn_lstore, rn_iinc, rn_getfield, rn_iaload, rn_laload, rn_aaload, rn_arraylength, rn_putfield, rn_iastore, rn_lastore, rn_goto, rn_ifCond_eq, rn_if_icmp_eq, rn_ifCond_ne, rn_if_icmp_ne, rn_ifCond_lt, rn_if_icmp_lt, rn_ifCond_ge, rn_if_icmp_ge, rn_ifCond_gt, rn_if_icmp_gt, rn_ifCond_le, rn_if_icmp_le, rn_ireturn, rn_lreturn, rn_return, rL_I, rL_L, rL_R, rS_t, rI_t, rG_s, rG_i, rP_s, rP_i, kq_v, kq_s, ok_0, ok_1I, ok_1R, ok_1N, ok_s, rc8_0, rc8_1, rc8_2, rc8_3, rc8_4, List.getElem?_cons_zero, List.getElem?_cons_succ, List.set_cons_zero, List.set_cons_succ, true_and, and_true, if_true, if_false, Int.toNat_natCast, Int.reduceToNat, Int.reduceAdd, Int.reduceSub, Int.reduceMul, Int.reduceNeg, Nat.reduceAdd, Int.reduceLT, Int.reduceLE, Int.reduceEq, reduceIte, w_ck_18, w_g_18_0, w_g_18_1, w_g_18_2, w_g_18_3, w_g_18_4, w_g_18_5, w_p_18_5, w_g_18_6, w_p_18_6, w_g_18_7, w_p_18_7, w_g_18_8, w_p_18_8, w_r_19, w_l_19, w_w_19, w_r_20, w_l_20, w_w_20, w_r_21, w_l_21, w_w_21, w_r_22, w_l_22, w_w_22, jI_add, jI_sub, jI_mul, jI_neg, jI_eq, jI_le, jI_lt, jI_eq0, jI_eq1, jI_lt0, jI_0lt, jI_le0, jI_0le, jI_clamp, jI_inBT, kL_0, kL_1, kL_2, kL_5, kL_6, kL_7, kL_10, kL_11, kL_15, kL_23, kL_31, kL_39, kL_97, kL_99, kL_104, kL_255, kL_349, kL_999, kL_1771561, kL_16777215, kL_4294967295, kL_18446744073709551615, jI_toL, rn_zB, rn_z0, rn_z1, jIB_eq0, jIB_eq1, jIB_eqJ, jB_def, jB_not, jB_and, jB_or, jB_nand, jB_nor, jB_ite, mrg, Decidable.not_not, ite_not, u2_s, u2_n, Int.add_sub_cancel, Int.sub_add_cancel, FB_8]
        rw [if_neg (by omega), if_neg gb]
theorem s_Mk_fewest {F A : Nat → Nat → Int} (hI : LI F A) (h24 : ∀ w, w < 16 → A 24 w = 7) (h24r : ∀ w, 0 ≤ A 24 w ∧ A 24 w ≤ 7) {t K : Int} (ht : 0 ≤ t ∧ t < F 71 0) (hK : 1 ≤ K ∧ K ≤ 6) :
    ∃ F' A' r, (∀ o, ¬ o = 18 → F' o = F o) ∧ (∀ a, ¬ (19 ≤ a ∧ a ≤ 22) → A' a = A a) ∧ MDr (fun j => PM (fitM A) (F 71 4).toNat (F 71 0).toNat t.toNat j) (tnV (tuM A t.toNat) (F 71 4).toNat) K.toNat r ∧ ∀ d Q, Rj (d + 7) 35 0 [.ref 18, .ref 3, .int (jI t), .int (jI K), .null] [] (HW L xs F A B hs t1 t2) Q = Q (some (.int (jI r))) (HW L xs F' A' B hs t1 t2) := by
  have h0 := hI.1.2.1
  obtain ⟨F1, A1, g, k, r1, r2, r3, r4⟩ := s_Mk_gather (L := L) (xs := xs) (B := B) (hs := hs) (t1 := t1) (t2 := t2) hI h24 h24r ht
  have c3 : F1 3 0 = (((F 71 0).toNat : Nat) : Int) := by rw [r1 3 (by omega), hI.1.2.2.2.1]; omega
  obtain ⟨m', b', s1, s2⟩ := s_Mk_fe_19 (L := L) (xs := xs) (B := B) (hs := hs) (t1 := t1) (t2 := t2) (K := K.toNat) r3 c3 (by omega) K.toNat 1 (-1) (-1) (by omega) (Nat.le_refl 1) (Or.inl ⟨rfl, fun j a b => by omega⟩) (fun _ => rfl) (by omega)
  refine ⟨FB F1 m' b', A1, b', fun o ho => by unfold FB; rw [u2_a ho, u2_a ho]; exact r1 o ho, r2, s1, fun d Q => ?_⟩
  have s3 := s2 d Q
  rw [show ((t.toNat : Nat) : Int) = t by omega, show ((K.toNat : Nat) : Int) = K by omega, show ((1 : Nat) : Int) = 1 from rfl] at s3
  rw [b_Maker_fewest_0]
  simp (disch := omega) only [rn_nil, rn_iconst, rn_ldc2, rn_iadd, rn_isub, rn_imul, rn_iand, rn_ior, rn_ixor, rn_ishl, rn_ishr, rn_iushr, rn_ineg, rn_ladd, rn_lsub, rn_lmul, rn_land, rn_lor, rn_lshl, rn_lushr, rn_lcmp, rn_i2l, rn_l2i, rn_dupI, rn_dupR, rn_popI, rn_dup2, rn_idiv, rn_irem, rn_ldiv, rn_lrem, rn_dadd, rn_dsub, rn_dmul, rn_objinit, rn_iload, rn_lload, rn_aload, rn_istore, rn_astore, rn_lstore, rn_iinc, rn_getfield, rn_iaload, rn_laload, rn_aaload, rn_arraylength, rn_putfield, rn_iastore, rn_lastore, rn_goto, rn_ifCond_eq, rn_if_icmp_eq, rn_ifCond_ne, rn_if_icmp_ne, rn_ifCond_lt, rn_if_icmp_lt, rn_ifCond_ge, rn_if_icmp_ge, rn_ifCond_gt, rn_if_icmp_gt, rn_ifCond_le, rn_if_icmp_le, rn_ireturn, rn_lreturn, rn_return, rL_I, rL_L, rL_R, rS_t, rI_t, rG_s, rG_i, rP_s, rP_i, kq_v, kq_s, ok_0, ok_1I, ok_1R, ok_1N, ok_s, rc8_0, rc8_1, rc8_2, rc8_3, rc8_4, List.getElem?_cons_zero, List.getElem?_cons_succ, List.set_cons_zero, List.set_cons_succ, true_and, and_true, if_true, if_false, Int.toNat_natCast, Int.reduceToNat, Int.reduceAdd, Int.reduceSub, Int.reduceMul, Int.reduceNeg, Nat.reduceAdd, Int.reduceLT, Int.reduceLE, Int.reduceEq, reduceIte, w_ck_18, w_g_18_0, w_g_18_1, w_g_18_2, w_g_18_3, w_g_18_4, w_g_18_5, w_p_18_5, w_g_18_6, w_p_18_6, w_g_18_7, w_p_18_7, w_g_18_8, w_p_18_8, w_r_19, w_l_19, w_w_19, w_r_20, w_l_20, w_w_20, w_r_21, w_l_21, w_w_21, w_r_22, w_l_22, w_w_22, jI_add, jI_sub, jI_mul, jI_neg, jI_eq, jI_le, jI_lt, jI_eq0, jI_eq1, jI_lt0, jI_0lt, jI_le0, jI_0le, jI_clamp, jI_inBT, kL_0, kL_1, kL_2, kL_5, kL_6, kL_7, kL_10, kL_11, kL_15, kL_23, kL_31, kL_39, kL_97, kL_99, kL_104, kL_255, kL_349, kL_999, kL_1771561, kL_16777215, kL_4294967295, kL_18446744073709551615, jI_toL, rn_zB, rn_z0, rn_z1, jIB_eq0, jIB_eq1, jIB_eqJ, jB_def, jB_not, jB_and, jB_or, jB_nand, jB_nor, jB_ite, mrg, Decidable.not_not, ite_not, u2_s, u2_n, Int.add_sub_cancel, Int.sub_add_cancel, c_Maker_gather, r4]
  exact s3
end GAT2
