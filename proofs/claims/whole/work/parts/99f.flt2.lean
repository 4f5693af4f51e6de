section CALF
variable {L : Nat} {xs : Nat → Int32} {F A F' A' : Nat → Nat → Int} {B B1 B2 : Nat → Int64} {hs hs1 hs2 : Int64} {t1 t2 t : Nat} {qx qm : Nat} {ax am : List Value} {H : am_H} {d : Nat} {Q : Option Value → am_H → Prop}
theorem SC_flt (hC : SC A) (hm : 0 ≤ F 71 21 ∧ F 71 21 ≤ 40) : SC (fltM F A).2.2 := by
  have ri := flt_RI (F := F) hC.2.2.2.2.1 hC.2.2.2.2.2.1 hm
  unfold SC
  rw [flt_fA (a := 29) (by omega), flt_fA (a := 54) (by omega), flt_fA (a := 58) (by omega), flt_fA (a := 92) (by omega)]
  exact ⟨hC.1, hC.2.1, hC.2.2.1, hC.2.2.2.1, ri.1, ri.2.1, rd_90 _ _ _ _ hC.2.2.2.2.2.2⟩
theorem cal_fault (hI : INV F A t1 t2) : Cal L xs 111 168 [.ref 2] [.ref 71] (HW L xs F A B hs t1 t2) := by
  obtain ⟨⟨hL, hR, hH, hT, hS, hP, hV, hK, hN⟩, hTT, h2, hC⟩ := id hI
  obtain ⟨q0, i5, q2, q3⟩ := id hP
  have tr2 : TR t2 := by unfold T2 at h2; unfold TR; omega
  obtain ⟨F', A', ⟨s1, s2⟩, s3, s4⟩ := s_Tr_read (L := L) (xs := xs) (F := F) (A := A) (B := B) (hs := hs) (t1 := t1) (t2 := t2) tr2 q3 hC.2.2.2.2.1 hC.2.2.2.2.2.1 i5 q0 q2
  unfold T2 at h2
  have f71 : F' 71 = F 71 := s1 71 (by omega)
  have a85 := s2 85 (by omega) (by omega) (by omega)
  have a89 := s2 89 (by omega) (by omega) (by omega)
  have a90 := s2 90 (by omega) (by omega) (by omega)
  have a91 := s2 91 (by omega) (by omega) (by omega)
  obtain ⟨g1, -⟩ := flt_cg f71 a85 a89 a90 a91
  have hC' : SC A' := SC_p (fun a h => s2 a (by omega) (by omega) (by omega)) hC
  have m := fun d Q => s_M_fault (d := d + 26) (Q := Q) (L := L) (xs := xs) (F := F') (A := A') (B := B) (hs := hs) (t1 := t1) (t2 := t2) (by rw [a85]; exact q3) hC'.2.2.2.2.1 hC'.2.2.2.2.2.1 (by rw [f71]; exact i5)
  rw [g1] at m
  refine Cal_fx (B := B) (hs := hs) (t1 := t1) (t2 := t2) F' A' (fltM F' A').2.1 (fltM F' A').2.2 ((fltM F A).1 : Int) (fun d Q => ?_) m ?_
  · simp (disch := omega) only [b_X_fault_0, rn_nil, rn_iconst, rn_ldc2, rn_iadd, rn_isub, rn_imul, rn_iand, rn_ior, rn_ixor, rn_ishl, rn_ishr, rn_iushr, rn_ineg, rn_ladd, rn_lsub, rn_lmul, rn_land, rn_lor, rn_lshl, rn_lushr, rn_lcmp, rn_i2l, rn_l2i, rn_dupI, rn_dupR, rn_popI, rn_dup2, rn_idiv, rn_irem, rn_ldiv, rn_lrem, rn_dadd, rn_dsub, rn_dmul, rn_objinit, rn_iload, rn_lload, rn_aload, rn_istore, rn_astore, rn_lstore, rn_iinc, rn_getfield, rn_iaload, rn_laload, rn_aaload, rn_arraylength, rn_putfield, rn_iastore, rn_lastore, rn_goto, rn_ifCond_eq, rn_if_icmp_eq, rn_ifCond_ne, rn_if_icmp_ne, rn_ifCond_lt, rn_if_icmp_lt, rn_ifCond_ge, rn_if_icmp_ge, rn_ifCond_gt, rn_if_icmp_gt, rn_ifCond_le, rn_if_icmp_le, rn_ireturn, rn_lreturn, rn_return, rL_I, rL_L, rL_R, rS_t, rI_t, rG_s, rG_i, rP_s, rP_i, kq_v, kq_s, ok_0, ok_1I, ok_1R, ok_1N, ok_s, rc8_0, rc8_1, rc8_2, rc8_3, rc8_4, List.getElem?_cons_zero, List.getElem?_cons_succ, List.set_cons_zero, List.set_cons_succ, true_and, and_true, if_true, if_false, Int.toNat_natCast, Int.reduceToNat, Int.reduceAdd, Int.reduceSub, Int.reduceMul, Int.reduceNeg, Nat.reduceAdd, Int.reduceLT, Int.reduceLE, Int.reduceEq, reduceIte, w_ck_2, w_g_2_0, w_g_2_1, w_g_2_2, w_g_2_3, w_g_2_4, w_g_2_5, w_g_2_6, w_g_2_7, w_g_2_8, w_g_2_9, w_g_2_10, w_g_2_11, w_g_2_12, w_p_2_12, w_g_2_13, w_p_2_13, w_r_62, w_l_62, w_w_62, jI_add, jI_sub, jI_mul, jI_neg, jI_eq, jI_le, jI_lt, jI_eq0, jI_eq1, jI_lt0, jI_0lt, jI_le0, jI_0le, jI_clamp, jI_inBT, kL_0, kL_1, kL_2, kL_5, kL_6, kL_7, kL_10, kL_11, kL_15, kL_23, kL_31, kL_39, kL_97, kL_99, kL_104, kL_255, kL_349, kL_999, kL_1771561, kL_16777215, kL_4294967295, kL_18446744073709551615, jI_toL, rn_zB, rn_z0, rn_z1, jIB_eq0, jIB_eq1, jIB_eqJ, jB_def, jB_not, jB_and, jB_or, jB_nand, jB_nor, jB_ite, mrg, Decidable.not_not, ite_not, u2_s, u2_n, Int.add_sub_cancel, Int.sub_add_cancel, c_Tree_read, w_ck_T tr2, s4]
  · have kf : ∀ o k, ¬ (o = t2 ∨ (o = 71 ∧ 26 ≤ k ∧ k ≤ 29)) → (fltM F' A').2.1 o k = F o k := fun o k h => by rw [flt_fF (by omega), s1 o (by omega)]
    have ka : ∀ a, ¬ (a = t2 + 1 ∨ a = t2 + 2 ∨ a = t2 + 3 ∨ (89 ≤ a ∧ a ≤ 91)) → (fltM F' A').2.2 a = A a := fun a h => by rw [flt_fA (by omega), s2 a (by omega) (by omega) (by omega)]
    have hS2 := SC_flt (F := F') hC' (by rw [f71]; exact i5)
    refine ⟨⟨LI_p (fun o k h => kf o k (by omega)) (fun a h => ka a (by omega)) hL, RX_p (fun o k h => kf o k (by omega)) (fun a h => ka a (by omega)) hR, HX_p (fun o k h => kf o k (by omega)) (fun a h => ka a (by omega)) hH, TX_p (fun o k h => kf o k (by omega)) (fun a h => ka a (by omega)) hT, SF_p (fun a h => ka a (by omega)) hS, PX_p (fun o k h => kf o k (by omega)) (fun a h => ka a (by omega)) hP, VX_p (fun a h => ka a (by omega)) hV, KX_p (fun a h => ka a (by omega)) hK, NX_p (fun o k h => kf o k (by omega)) hN⟩, TT_p (fun o k h => kf o k (by omega)) (fun a h => ka a (by omega)) hTT, h2, ?_⟩
    exact hS2
end CALF
