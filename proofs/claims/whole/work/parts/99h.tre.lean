theorem cpT_o {a : Nat} (h : ¬ (86 ≤ a ∧ a ≤ 87)) : ∀ (n i : Nat) (A : Nat → Nat → Int), cpT A i n a = A a
  | 0, i, A => rfl
  | n + 1, i, A => by rw [cpT, cpT_o h n, u2_a (by omega), u2_a (by omega)]
theorem cpT_86 {x : Nat} : ∀ (n i : Nat) (A : Nat → Nat → Int), cpT A i n 86 x = if i ≤ x ∧ x < i + n then A 89 x else A 86 x
  | 0, i, A => by rw [if_neg (by omega)]; rfl
  | n + 1, i, A => by
    rw [cpT, cpT_86 n, u2_a (by omega), u2_a (by omega), u2_a (by omega)]
    by_cases g : x = i
    · rw [if_neg (by omega), if_pos (by omega), g, u2_s]
    · rw [u2_n (by omega)]
      by_cases k : i ≤ x ∧ x < i + (n + 1)
      · rw [if_pos (by omega), if_pos k]
      · rw [if_neg (by omega), if_neg k]
theorem cpT_87 {x : Nat} : ∀ (n i : Nat) (A : Nat → Nat → Int), cpT A i n 87 x = if i ≤ x ∧ x < i + n then A 90 x else A 87 x
  | 0, i, A => by rw [if_neg (by omega)]; rfl
  | n + 1, i, A => by
    rw [cpT, cpT_87 n, u2_a (by omega), u2_a (by omega)]
    by_cases g : x = i
    · rw [if_neg (by omega), if_pos (by omega), g, u2_s]
    · rw [u2_n (by omega), u2_a (by omega)]
      by_cases k : i ≤ x ∧ x < i + (n + 1)
      · rw [if_pos (by omega), if_pos k]
      · rw [if_neg (by omega), if_neg k]
section CALH
variable {L : Nat} {xs : Nat → Int32} {F A F' A' : Nat → Nat → Int} {B B1 B2 : Nat → Int64} {hs hs1 hs2 : Int64} {t1 t2 t : Nat} {qx qm : Nat} {ax am : List Value} {H : am_H} {d : Nat} {Q : Option Value → am_H → Prop}
theorem cal_tree (hI : INV F A t1 t2) : Cal L xs 112 173 [.ref 2, .null] [.ref 71, .null] (HW L xs F A B hs t1 t2) := by
  obtain ⟨⟨hL, hR, hH, hT, hS, hP, hV, hK, hN⟩, hTT, h2, hC⟩ := id hI
  obtain ⟨q0, i5, q2, q3⟩ := id hP
  have tr2 : TR t2 := by unfold T2 at h2; unfold TR; omega
  obtain ⟨F', A', ⟨s1, s2⟩, s3, s4⟩ := s_Tr_read (L := L) (xs := xs) (F := F) (A := A) (B := B) (hs := hs) (t1 := t1) (t2 := t2) tr2 q3 hC.2.2.2.2.1 hC.2.2.2.2.2.1 i5 q0 q2
  have h2' := h2
  unfold T2 at h2
  have f71 : F' 71 = F 71 := s1 71 (by omega)
  have f48 : F' 48 = F 48 := s1 48 (by omega)
  have a85 := s2 85 (by omega) (by omega) (by omega)
  have a89 := s2 89 (by omega) (by omega) (by omega)
  have a90 := s2 90 (by omega) (by omega) (by omega)
  have a91 := s2 91 (by omega) (by omega) (by omega)
  have hC' : SC A' := SC_p (fun a h => s2 a (by omega) (by omega) (by omega)) hC
  have ri := flt_RI (F := F) (A := A) hC.2.2.2.2.1 hC.2.2.2.2.2.1 i5
  have le := flt_le (A := A) i5
  have m := fun (F1 : Nat → Nat → Int) (f : F1 71 = F 71) t1 t2 d Q => s_M_tree (d := d + 26) (Q := Q) (L := L) (xs := xs) (F := F1) (A := A') (B := B) (hs := hs) (t1 := t1) (t2 := t2) (by rw [a85]; exact q3) hC'.2.2.2.2.1 hC'.2.2.2.2.2.1 (by rw [f]; exact i5)
  have wq : ∀ F1 : Nat → Nat → Int, F1 71 = F 71 → whlM F1 A' = whlM F A := fun F1 f => by
    obtain ⟨g1, g2, -⟩ := flt_cg f a85 a89 a90 a91
    unfold whlM
    rw [g1, g2, f]
  by_cases c : whlM F A = true
  · have c' := c
    unfold whlM at c'
    rw [decide_eq_true_iff] at c'
    obtain ⟨c1, c2, c3⟩ := c'
    have T := s3 (by omega)
    obtain ⟨⟨t3, t4, t5, t6⟩, t7, -⟩ := T
    obtain ⟨rk, rj1, rj2, rj3⟩ := RJ_flt F A
    have npos : 0 < (fltM F A).2.1 71 29 := by
      have := rk.1
      by_cases g : (fltM F A).2.1 71 29 = 0
      · exact absurd c2 (rj3 g)
      · omega
    have e1 : u2 F' 48 1 0 71 = F 71 := by rw [u2_a (by omega)]; exact f71
    obtain ⟨g1, g2, g3, g4, g5⟩ := flt_cg e1 a85 a89 a90 a91
    have m1 := m (u2 F' 48 1 0) e1 t2 t1
    simp only [wq _ e1, if_pos c, g2] at m1
    refine Cal_mk ((fltM F A).2.1 71 29) (F1 := u2 F' 48 1 0) (A1 := A') (B1 := B) (hs1 := hs) (u1 := t2) (u2 := t1) (fun d Q => ?_) m1 ?_
    · have wh := fun d Q => s_Tr_whole (d := d) (Q := Q) (L := L) (xs := xs) (F := F') (A := A') (B := B) (hs := hs) (t1 := t1) (t2 := t2) tr2 (by omega) (by omega)
      have wt : F' t2 6 = 0 ∧ F' t2 5 = -1 := by omega
      have lt : ¬ ((fltM F A).1 : Int) < F' 48 1 := by rw [f48]; omega
      have b48 : 0 ≤ F' 48 1 ∧ F' 48 1 ≤ 40 := by rw [f48]; omega
      have b49 : u2 F' 48 1 0 t2 3 = (fltM F A).2.1 71 29 := by rw [u2_n (by omega)]; exact t3
      simp (disch := omega) only [b_X_tree_0, b_X_tree_21, b_X_tree_31, b_X_tree_34, rn_nil, rn_iconst, rn_ldc2, rn_iadd, rn_isub, rn_imul, rn_iand, rn_ior, rn_ixor, rn_ishl, rn_ishr, rn_iushr, rn_ineg, rn_ladd, rn_lsub, rn_lmul, rn_land, rn_lor, rn_lshl, rn_lushr, rn_lcmp, rn_i2l, rn_l2i, rn_dupI, rn_dupR, rn_popI, rn_dup2, rn_idiv, rn_irem, rn_ldiv, rn_lrem, rn_dadd, rn_dsub, rn_dmul, rn_objinit, rn_iload, rn_lload, rn_aload, rn_istore, rn_astore, rn_lstore, rn_iinc, rn_getfield, rn_iaload, rn_laload, rn_aaload, rn_arraylength, rn_putfield, rn_iastore, rn_lastore, rn_goto, rn_ifCond_eq, rn_if_icmp_eq, rn_ifCond_ne, rn_if_icmp_ne, rn_ifCond_lt, rn_if_icmp_lt, rn_ifCond_ge, rn_if_icmp_ge, rn_ifCond_gt, rn_if_icmp_gt, rn_ifCond_le, rn_if_icmp_le, rn_ireturn, rn_lreturn, rn_return, rL_I, rL_L, rL_R, rS_t, rI_t, rG_s, rG_i, rP_s, rP_i, kq_v, kq_s, ok_0, ok_1I, ok_1R, ok_1N, ok_s, rc8_0, rc8_1, rc8_2, rc8_3, rc8_4, List.getElem?_cons_zero, List.getElem?_cons_succ, List.set_cons_zero, List.set_cons_succ, true_and, and_true, if_true, if_false, Int.toNat_natCast, Int.reduceToNat, Int.reduceAdd, Int.reduceSub, Int.reduceMul, Int.reduceNeg, Nat.reduceAdd, Int.reduceLT, Int.reduceLE, Int.reduceEq, reduceIte, w_ck_2, w_g_2_0, w_g_2_1, w_g_2_2, w_g_2_3, w_g_2_4, w_g_2_5, w_g_2_6, w_g_2_7, w_g_2_8, w_g_2_9, w_g_2_10, w_g_2_11, w_g_2_12, w_p_2_12, w_g_2_13, w_p_2_13, w_r_62, w_l_62, w_w_62, w_ck_48, w_g_48_0, w_g_48_1, w_p_48_1, w_r_49, w_l_49, w_w_49, jI_add, jI_sub, jI_mul, jI_neg, jI_eq, jI_le, jI_lt, jI_eq0, jI_eq1, jI_lt0, jI_0lt, jI_le0, jI_0le, jI_clamp, jI_inBT, kL_0, kL_1, kL_2, kL_5, kL_6, kL_7, kL_10, kL_11, kL_15, kL_23, kL_31, kL_39, kL_97, kL_99, kL_104, kL_255, kL_349, kL_999, kL_1771561, kL_16777215, kL_4294967295, kL_18446744073709551615, jI_toL, rn_zB, rn_z0, rn_z1, jIB_eq0, jIB_eq1, jIB_eqJ, jB_def, jB_not, jB_and, jB_or, jB_nand, jB_nor, jB_ite, mrg, Decidable.not_not, ite_not, u2_s, u2_n, Int.add_sub_cancel, Int.sub_add_cancel, c_Tree_read, w_ck_T tr2, s4, c_Tree_isWhole, wh, wt, lt, w_p_told, w_p_draft, c_Page_empty, s_Pg_empty, w_g_T3 tr2, b49]
      rw [t3]
    · have gF : ∀ o k, ¬ (o = 71 ∧ 26 ≤ k ∧ k ≤ 29) → (fltM (u2 F' 48 1 0) A').2.1 o k = u2 F' 48 1 0 o k := fun o k h => flt_fF h
      have gA : ∀ a, ¬ (89 ≤ a ∧ a ≤ 91) → (fltM (u2 F' 48 1 0) A').2.2 a = A' a := fun a h => flt_fA h
      have hS2 := SC_flt (F := u2 F' 48 1 0) hC' (by rw [e1]; exact i5)
      generalize (fltM (u2 F' 48 1 0) A').2.1 = G at gF
      generalize (fltM (u2 F' 48 1 0) A').2.2 = C at gA hS2 g3 g4 g5
      generalize (fltM F A).2.1 = G0 at *
      generalize (fltM F A).2.2 = C0 at *
      have kf : ∀ o k, ¬ (o = t2 ∨ (o = 71 ∧ 21 ≤ k ∧ k ≤ 22) ∨ (o = 71 ∧ 26 ≤ k ∧ k ≤ 29) ∨ (o = 48 ∧ k = 1)) → u2 (u2 G 71 22 (G0 71 29)) 71 21 0 o k = F o k := fun o k h => by rw [u2_n (by omega), u2_n (by omega), gF o k (by omega), u2_n (by omega), s1 o (by omega)]
      have ft : ∀ k, u2 (u2 G 71 22 (G0 71 29)) 71 21 0 t2 k = F' t2 k := fun k => by rw [u2_n (by omega), u2_n (by omega), gF t2 k (by omega), u2_n (by omega)]
      have ka : ∀ a, ¬ (a = t2 + 1 ∨ a = t2 + 2 ∨ a = t2 + 3 ∨ (86 ≤ a ∧ a ≤ 87) ∨ (89 ≤ a ∧ a ≤ 91)) → cpT C 0 (G0 71 29).toNat a = A a := fun a h => by rw [cpT_o (by omega), gA a (by omega), s2 a (by omega) (by omega) (by omega)]
      have kt : ∀ a, a = t2 + 1 ∨ a = t2 + 2 → cpT C 0 (G0 71 29).toNat a = A' a := fun a h => by rw [cpT_o (by omega), gA a (by omega)]
      have k86 : ∀ x : Nat, (x : Int) < G0 71 29 → cpT C 0 (G0 71 29).toNat 86 x = C0 89 x := fun x h => by rw [cpT_86, if_pos (by omega), g3]
      have k87 : ∀ x : Nat, (x : Int) < G0 71 29 → cpT C 0 (G0 71 29).toNat 87 x = C0 90 x := fun x h => by rw [cpT_87, if_pos (by omega), g4]
      have r86 : ∀ x : Nat, -1 ≤ cpT C 0 (G0 71 29).toNat 86 x ∧ cpT C 0 (G0 71 29).toNat 86 x ≤ 39 := fun x => by
        rw [cpT_86]
        split
        · exact hS2.2.2.2.2.2.1 x
        · rw [gA 86 (by omega), s2 86 (by omega) (by omega) (by omega)]; exact hTT.2.2.1 x
      have r87 : ∀ x : Nat, -1 ≤ cpT C 0 (G0 71 29).toNat 87 x ∧ cpT C 0 (G0 71 29).toNat 87 x ≤ 7 := fun x => by
        rw [cpT_87]
        split
        · exact hS2.2.2.2.2.2.2 x
        · rw [gA 87 (by omega), s2 87 (by omega) (by omega) (by omega)]; exact hTT.2.2.2.1 x
      have ks : ∀ a, ¬ (86 ≤ a ∧ a ≤ 87) → cpT C 0 (G0 71 29).toNat a = C a := fun a h => cpT_o h _ _ _
      have n22 : u2 (u2 G 71 22 (G0 71 29)) 71 21 0 71 22 = G0 71 29 := by rw [u2_n (by omega), u2_s]
      have n21 : u2 (u2 G 71 22 (G0 71 29)) 71 21 0 71 21 = 0 := u2_s
      have n48 : u2 (u2 G 71 22 (G0 71 29)) 71 21 0 48 1 = 0 := by rw [u2_n (by omega), u2_n (by omega), gF 48 1 (by omega), u2_s]
      have m40 := ri.2.2.2.1
      generalize u2 (u2 G 71 22 (G0 71 29)) 71 21 0 = F2 at kf ft n22 n21 n48
      generalize cpT C 0 (G0 71 29).toNat = A2 at ka kt k86 k87 r86 r87 ks
      have h2 : T2 t2 t1 := by unfold T2; omega
      unfold T2 at h2
      refine ⟨⟨LI_p (fun o k h => kf o k (by omega)) (fun a h => ka a (by omega)) hL, RX_p (fun o k h => kf o k (by omega)) (fun a h => ka a (by omega)) hR, HX_p (fun o k h => kf o k (by omega)) (fun a h => ka a (by omega)) hH, TX_p (fun o k h => kf o k (by omega)) (fun a h => ka a (by omega)) hT, SF_p (fun a h => ka a (by omega)) hS, ?_, VX_p (fun a h => ka a (by omega)) hV, KX_p (fun a h => ka a (by omega)) hK, NX_p (fun o k h => kf o k (by omega)) hN⟩, ?_, h2, ?_⟩
      · unfold PX
        rw [n48, n21, ka 49 (by omega), ka 85 (by omega)]
        exact ⟨rfl, by omega, q2, q3⟩
      · unfold TT
        rw [n22, ft, ft, ft, ft, kt (t2 + 1) (by omega), kt (t2 + 2) (by omega)]
        obtain ⟨y1, y2, y3, y4, y5, y6⟩ := rk
        refine ⟨t3, by omega, r86, r87, by omega, by omega, ⟨fun _ => npos, fun _ => by omega⟩, fun _ => ⟨?_, fun k z1 z2 => ?_, fun x hx => ?_, fun j k z1 z2 => ?_, by omega, fun l => ?_⟩⟩
        · rw [k86 0 (by omega)]; exact y2 npos
        · rw [k86 k z2]; exact y3 k z1 z2
        · rw [k86 x hx, k87 x hx]; exact t7 x hx
        · rw [k87 j z1, k87 k z2]; exact y4 j k z1 z2
        · rw [t4, y6 l]
          constructor
          · rintro ⟨k, z1, z2⟩
            exact ⟨k, z1, by rw [k87 k z1]; exact z2⟩
          · rintro ⟨k, z1, z2⟩
            exact ⟨k, z1, by rw [← k87 k z1]; exact z2⟩
      · exact SC_p (fun a h => ks a (by omega)) hS2
  · have e1 := f71
    have m1 := m F' f71 t1 t2
    simp only [wq _ f71, if_neg c] at m1
    refine Cal_fx (B := B) (hs := hs) (t1 := t1) (t2 := t2) F' A' (fltM F' A').2.1 (fltM F' A').2.2 (-103) (fun d Q => ?_) m1 ?_
    · have b48 : 0 ≤ F' 48 1 ∧ F' 48 1 ≤ 40 := by rw [f48]; omega
      by_cases lt : ((fltM F A).1 : Int) < F' 48 1
      · simp (disch := omega) only [b_X_tree_0, b_X_tree_31, rn_nil, rn_iconst, rn_ldc2, rn_iadd, rn_isub, rn_imul, rn_iand, rn_ior, rn_ixor, rn_ishl, rn_ishr, rn_iushr, rn_ineg, rn_ladd, rn_lsub, rn_lmul, rn_land, rn_lor, rn_lshl, rn_lushr, rn_lcmp, rn_i2l, rn_l2i, rn_dupI, rn_dupR, rn_popI, rn_dup2, rn_idiv, rn_irem, rn_ldiv, rn_lrem, rn_dadd, rn_dsub, rn_dmul, rn_objinit, rn_iload, rn_lload, rn_aload, rn_istore, rn_astore, rn_lstore, rn_iinc, rn_getfield, rn_iaload, rn_laload, rn_aaload, rn_arraylength, rn_putfield, rn_iastore, rn_lastore, rn_goto, rn_ifCond_eq, rn_if_icmp_eq, rn_ifCond_ne, rn_if_icmp_ne, rn_ifCond_lt, rn_if_icmp_lt, rn_ifCond_ge, rn_if_icmp_ge, rn_ifCond_gt, rn_if_icmp_gt, rn_ifCond_le, rn_if_icmp_le, rn_ireturn, rn_lreturn, rn_return, rL_I, rL_L, rL_R, rS_t, rI_t, rG_s, rG_i, rP_s, rP_i, kq_v, kq_s, ok_0, ok_1I, ok_1R, ok_1N, ok_s, rc8_0, rc8_1, rc8_2, rc8_3, rc8_4, List.getElem?_cons_zero, List.getElem?_cons_succ, List.set_cons_zero, List.set_cons_succ, true_and, and_true, if_true, if_false, Int.toNat_natCast, Int.reduceToNat, Int.reduceAdd, Int.reduceSub, Int.reduceMul, Int.reduceNeg, Nat.reduceAdd, Int.reduceLT, Int.reduceLE, Int.reduceEq, reduceIte, w_ck_2, w_g_2_0, w_g_2_1, w_g_2_2, w_g_2_3, w_g_2_4, w_g_2_5, w_g_2_6, w_g_2_7, w_g_2_8, w_g_2_9, w_g_2_10, w_g_2_11, w_g_2_12, w_p_2_12, w_g_2_13, w_p_2_13, w_r_62, w_l_62, w_w_62, w_ck_48, w_g_48_0, w_g_48_1, w_p_48_1, w_r_49, w_l_49, w_w_49, jI_add, jI_sub, jI_mul, jI_neg, jI_eq, jI_le, jI_lt, jI_eq0, jI_eq1, jI_lt0, jI_0lt, jI_le0, jI_0le, jI_clamp, jI_inBT, kL_0, kL_1, kL_2, kL_5, kL_6, kL_7, kL_10, kL_11, kL_15, kL_23, kL_31, kL_39, kL_97, kL_99, kL_104, kL_255, kL_349, kL_999, kL_1771561, kL_16777215, kL_4294967295, kL_18446744073709551615, jI_toL, rn_zB, rn_z0, rn_z1, jIB_eq0, jIB_eq1, jIB_eqJ, jB_def, jB_not, jB_and, jB_or, jB_nand, jB_nor, jB_ite, mrg, Decidable.not_not, ite_not, u2_s, u2_n, Int.add_sub_cancel, Int.sub_add_cancel, c_Tree_read, w_ck_T tr2, s4, lt]
      · rw [f48, q0] at lt
        obtain ⟨⟨t3, t4, t5, t6⟩, t7, -⟩ := s3 (by omega)
        have wh := fun d Q => s_Tr_whole (d := d) (Q := Q) (L := L) (xs := xs) (F := F') (A := A') (B := B) (hs := hs) (t1 := t1) (t2 := t2) tr2 (by have := ri.2.2.2.2.2.2; omega) (by have := ri.2.2.2.2.1; have := ri.2.2.2.1; omega)
        have wf : ¬ (F' t2 6 = 0 ∧ F' t2 5 = -1) := by
          intro h
          apply c
          unfold whlM
          rw [decide_eq_true_iff]
          exact ⟨lt, by omega, by omega⟩
        have lt2 : ¬ ((fltM F A).1 : Int) < F' 48 1 := by rw [f48]; omega
        simp (disch := omega) only [b_X_tree_0, b_X_tree_21, b_X_tree_31, rn_nil, rn_iconst, rn_ldc2, rn_iadd, rn_isub, rn_imul, rn_iand, rn_ior, rn_ixor, rn_ishl, rn_ishr, rn_iushr, rn_ineg, rn_ladd, rn_lsub, rn_lmul, rn_land, rn_lor, rn_lshl, rn_lushr, rn_lcmp, rn_i2l, rn_l2i, rn_dupI, rn_dupR, rn_popI, rn_dup2, rn_idiv, rn_irem, rn_ldiv, rn_lrem, rn_dadd, rn_dsub, rn_dmul, rn_objinit, rn_iload, rn_lload, rn_aload, rn_istore, rn_astore, rn_lstore, rn_iinc, rn_getfield, rn_iaload, rn_laload, rn_aaload, rn_arraylength, rn_putfield, rn_iastore, rn_lastore, rn_goto, rn_ifCond_eq, rn_if_icmp_eq, rn_ifCond_ne, rn_if_icmp_ne, rn_ifCond_lt, rn_if_icmp_lt, rn_ifCond_ge, rn_if_icmp_ge, rn_ifCond_gt, rn_if_icmp_gt, rn_ifCond_le, rn_if_icmp_le, rn_ireturn, rn_lreturn, rn_return, rL_I, rL_L, rL_R, rS_t, rI_t, rG_s, rG_i, rP_s, rP_i, kq_v, kq_s, ok_0, ok_1I, ok_1R, ok_1N, ok_s, rc8_0, rc8_1, rc8_2, rc8_3, rc8_4, List.getElem?_cons_zero, List.getElem?_cons_succ, List.set_cons_zero, List.set_cons_succ, true_and, and_true, if_true, if_false, Int.toNat_natCast, Int.reduceToNat, Int.reduceAdd, Int.reduceSub, Int.reduceMul, Int.reduceNeg, Nat.reduceAdd, Int.reduceLT, Int.reduceLE, Int.reduceEq, reduceIte, w_ck_2, w_g_2_0, w_g_2_1, w_g_2_2, w_g_2_3, w_g_2_4, w_g_2_5, w_g_2_6, w_g_2_7, w_g_2_8, w_g_2_9, w_g_2_10, w_g_2_11, w_g_2_12, w_p_2_12, w_g_2_13, w_p_2_13, w_r_62, w_l_62, w_w_62, w_ck_48, w_g_48_0, w_g_48_1, w_p_48_1, w_r_49, w_l_49, w_w_49, jI_add, jI_sub, jI_mul, jI_neg, jI_eq, jI_le, jI_lt, jI_eq0, jI_eq1, jI_lt0, jI_0lt, jI_le0, jI_0le, jI_clamp, jI_inBT, kL_0, kL_1, kL_2, kL_5, kL_6, kL_7, kL_10, kL_11, kL_15, kL_23, kL_31, kL_39, kL_97, kL_99, kL_104, kL_255, kL_349, kL_999, kL_1771561, kL_16777215, kL_4294967295, kL_18446744073709551615, jI_toL, rn_zB, rn_z0, rn_z1, jIB_eq0, jIB_eq1, jIB_eqJ, jB_def, jB_not, jB_and, jB_or, jB_nand, jB_nor, jB_ite, mrg, Decidable.not_not, ite_not, u2_s, u2_n, Int.add_sub_cancel, Int.sub_add_cancel, c_Tree_read, w_ck_T tr2, s4, c_Tree_isWhole, wh, wf, lt2]
    · have kf : ∀ o k, ¬ (o = t2 ∨ (o = 71 ∧ 26 ≤ k ∧ k ≤ 29)) → (fltM F' A').2.1 o k = F o k := fun o k h => by rw [flt_fF (by omega), s1 o (by omega)]
      have ka : ∀ a, ¬ (a = t2 + 1 ∨ a = t2 + 2 ∨ a = t2 + 3 ∨ (89 ≤ a ∧ a ≤ 91)) → (fltM F' A').2.2 a = A a := fun a h => by rw [flt_fA (by omega), s2 a (by omega) (by omega) (by omega)]
      have hS2 := SC_flt (F := F') hC' (by rw [f71]; exact i5)
      refine ⟨⟨LI_p (fun o k h => kf o k (by omega)) (fun a h => ka a (by omega)) hL, RX_p (fun o k h => kf o k (by omega)) (fun a h => ka a (by omega)) hR, HX_p (fun o k h => kf o k (by omega)) (fun a h => ka a (by omega)) hH, TX_p (fun o k h => kf o k (by omega)) (fun a h => ka a (by omega)) hT, SF_p (fun a h => ka a (by omega)) hS, PX_p (fun o k h => kf o k (by omega)) (fun a h => ka a (by omega)) hP, VX_p (fun a h => ka a (by omega)) hV, KX_p (fun a h => ka a (by omega)) hK, NX_p (fun o k h => kf o k (by omega)) hN⟩, TT_p (fun o k h => kf o k (by omega)) (fun a h => ka a (by omega)) hTT, h2, ?_⟩
      exact hS2
end CALH
