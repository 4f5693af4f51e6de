/-! THE REFERENCE: what names something -/
theorem kL_0 : Int64.ofNat 0 = jL 0 := by decide +kernel
theorem kL_1 : Int64.ofNat 1 = jL 1 := by decide +kernel
theorem kL_2 : Int64.ofNat 2 = jL 2 := by decide +kernel
theorem kL_5 : Int64.ofNat 5 = jL 5 := by decide +kernel
theorem kL_6 : Int64.ofNat 6 = jL 6 := by decide +kernel
theorem kL_7 : Int64.ofNat 7 = jL 7 := by decide +kernel
theorem kL_10 : Int64.ofNat 10 = jL 10 := by decide +kernel
theorem kL_11 : Int64.ofNat 11 = jL 11 := by decide +kernel
theorem kL_15 : Int64.ofNat 15 = jL 15 := by decide +kernel
theorem kL_23 : Int64.ofNat 23 = jL 23 := by decide +kernel
theorem kL_31 : Int64.ofNat 31 = jL 31 := by decide +kernel
theorem kL_39 : Int64.ofNat 39 = jL 39 := by decide +kernel
theorem kL_97 : Int64.ofNat 97 = jL 97 := by decide +kernel
theorem kL_99 : Int64.ofNat 99 = jL 99 := by decide +kernel
theorem kL_104 : Int64.ofNat 104 = jL 104 := by decide +kernel
theorem kL_255 : Int64.ofNat 255 = jL 255 := by decide +kernel
theorem kL_349 : Int64.ofNat 349 = jL 349 := by decide +kernel
theorem kL_999 : Int64.ofNat 999 = jL 999 := by decide +kernel
theorem kL_1771561 : Int64.ofNat 1771561 = jL 1771561 := by decide +kernel
theorem kL_16777215 : Int64.ofNat 16777215 = jL 16777215 := by decide +kernel
theorem kL_4294967295 : Int64.ofNat 4294967295 = jL 4294967295 := by decide +kernel
theorem kL_18446744073709551615 : Int64.ofNat 18446744073709551615 = jL (-1) := by decide +kernel
/-- true or false -/
def jB (c : Prop) [Decidable c] : Int := if c then 1 else 0
theorem jB_01 (c : Prop) [Decidable c] : jB c = 0 ∨ jB c = 1 := by unfold jB; by_cases h : c <;> simp [h]
theorem jB_rng (c : Prop) [Decidable c] : 0 ≤ jB c ∧ jB c ≤ 1 := by unfold jB; by_cases h : c <;> simp [h]
theorem jB_eq0 (c : Prop) [Decidable c] : (jB c = 0) = ¬ c := by unfold jB; by_cases h : c <;> simp [h]
theorem jB_eq1 (c : Prop) [Decidable c] : (jB c = 1) = c := by unfold jB; by_cases h : c <;> simp [h]
theorem jB_ne0 (c : Prop) [Decidable c] : (¬ jB c = 0) = c := by unfold jB; by_cases h : c <;> simp [h]
theorem jB_ret (c : Prop) [Decidable c] : (jI (jB c) = 0 ∨ jI (jB c) = 1) = True := by
  unfold jB; by_cases h : c <;> simp [h] <;> first | (left; rfl) | (right; rfl)
theorem jIB_eq0 (c : Prop) [Decidable c] : (jI (jB c) = 0) = ¬ c := by rw [jI_eq0 (by have := jB_rng c; omega), jB_eq0]
theorem jIB_eq1 (c : Prop) [Decidable c] : (jI (jB c) = 1) = c := by rw [jI_eq1 (by have := jB_rng c; omega), jB_eq1]
theorem jIB_eqJ (c : Prop) [Decidable c] : (jI (jB c) = jI 1) = c := jIB_eq1 c
theorem jB_def (c : Prop) [Decidable c] : (if c then (1 : Int) else 0) = jB c := rfl
theorem jB_not (c : Prop) [Decidable c] : (if c then (0 : Int) else 1) = jB (¬ c) := by unfold jB; by_cases h : c <;> simp [h]
theorem jB_and (c e : Prop) [Decidable c] [Decidable e] : (if c then jB e else 0) = jB (c ∧ e) := by unfold jB; by_cases h : c <;> simp [h]
theorem jB_or (c e : Prop) [Decidable c] [Decidable e] : (if c then 1 else jB e) = jB (c ∨ e) := by unfold jB; by_cases h : c <;> simp [h]
theorem jB_nand (c e : Prop) [Decidable c] [Decidable e] : (if c then 0 else jB e) = jB (¬ c ∧ e) := by unfold jB; by_cases h : c <;> simp [h]
theorem jB_nor (c e : Prop) [Decidable c] [Decidable e] : (if c then jB e else 1) = jB (¬ c ∨ e) := by unfold jB; by_cases h : c <;> simp [h]
theorem jB_ite (c e g : Prop) [Decidable c] [Decidable e] [Decidable g] : (if c then jB e else jB g) = jB (if c then e else g) := by unfold jB; by_cases h : c <;> simp [h]
/-- two roads that meet -/
theorem mrg {d y pc : Nat} {ls st : List Value} {h : am_H} {Q : Option Value → am_H → Prop} (c : Prop) [Decidable c] (a b : Int) : (if c then Rj d y pc ls (.int (jI a) :: st) h Q else Rj d y pc ls (.int (jI b) :: st) h Q) = Rj d y pc ls (.int (jI (if c then a else b)) :: st) h Q := by by_cases hc : c <;> simp [hc]
theorem mrgQ {h : am_H} {Q : Option Value → am_H → Prop} (c : Prop) [Decidable c] (a b : Int) : (if c then Q (some (.int (jI a))) h else Q (some (.int (jI b))) h) = Q (some (.int (jI (if c then a else b)))) h := by by_cases hc : c <;> simp [hc]
theorem rn_zB {d y nx : Nat} {is : List Instr} {ls : List Value} {h : am_H} {Q : Option Value → am_H → Prop} (c : Prop) [Decidable c] : Rn d (y, .freturn :: is, nx, ls, [.int (jI (jB c))]) h Q = Q (some (.int (jI (jB c)))) h := by rw [rn_zreturn, jB_ret, true_and]
theorem rn_z0 {d y nx : Nat} {is : List Instr} {ls : List Value} {h : am_H} {Q : Option Value → am_H → Prop} : Rn d (y, .freturn :: is, nx, ls, [.int (jI 0)]) h Q = Q (some (.int (jI 0))) h := by rw [rn_zreturn]; simp [show jI 0 = 0 from rfl]
theorem rn_z1 {d y nx : Nat} {is : List Instr} {ls : List Value} {h : am_H} {Q : Option Value → am_H → Prop} : Rn d (y, .freturn :: is, nx, ls, [.int (jI 1)]) h Q = Q (some (.int (jI 1))) h := by rw [rn_zreturn]; simp [show jI 1 = 1 from rfl]
section M2
variable {d : Nat} {Q : Option Value → am_H → Prop}
variable {L : Nat} {xs : Nat → Int32} {F A : Nat → Nat → Int} {B : Nat → Int64} {hs : Int64} {t1 t2 : Nat}
theorem s_M_inJ {h : am_H} {v lo hi : Int} (hv : -2147483648 ≤ v ∧ v < 2147483648) (hl : -2147483648 ≤ lo ∧ lo < 2147483648) (hh : -2147483648 ≤ hi ∧ hi < 2147483648) :
    Rj d 127 0 [.long (jL v), .null, .long (jL lo), .null, .long (jL hi), .null] [] h Q = Q (some (.int (jI (jB (lo ≤ v ∧ v ≤ hi))))) h := s_M_in (by omega) (by omega) (by omega)
theorem s_M_isThing {t : Int} (ht : -2147483648 ≤ t ∧ t < 2147483648) (h1 : 0 ≤ F 71 0 ∧ F 71 0 ≤ 12) :
    Rj (d + 1) 135 0 [.ref 71, .int (jI t)] [] (HW L xs F A B hs t1 t2) Q = Q (some (.int (jI (jB (0 ≤ t ∧ t ≤ F 71 0 - 1))))) (HW L xs F A B hs t1 t2) := by
  simp (disch := omega) only [b_M_isThing_0, rn_nil, rn_iconst, rn_ldc2, rn_iadd, rn_isub, rn_imul, rn_iand, rn_ior, rn_ixor, rn_ishl, rn_ishr, rn_iushr, rn_ineg, rn_ladd, rn_lsub, rn_lmul, rn_land, rn_lor, rn_lshl, rn_lushr, rn_lcmp, rn_i2l, rn_l2i, rn_dupI, rn_dupR, rn_popI, rn_dup2, rn_idiv, rn_irem, rn_ldiv, rn_lrem, rn_dadd, rn_dsub, rn_dmul, rn_objinit, rn_iload, rn_lload, rn_aload, rn_istore, rn_astore, rn_lstore, rn_iinc, rn_getfield, rn_iaload, rn_laload, rn_aaload, rn_arraylength, rn_putfield, rn_iastore, rn_lastore, rn_goto, rn_ifCond_eq, rn_if_icmp_eq, rn_ifCond_ne, rn_if_icmp_ne, rn_ifCond_lt, rn_if_icmp_lt, rn_ifCond_ge, rn_if_icmp_ge, rn_ifCond_gt, rn_if_icmp_gt, rn_ifCond_le, rn_if_icmp_le, rn_ireturn, rn_lreturn, rn_return, rL_I, rL_L, rL_R, rS_t, rI_t, rG_s, rG_i, rP_s, rP_i, kq_v, kq_s, ok_0, ok_1I, ok_1R, ok_1N, ok_s, rc8_0, rc8_1, rc8_2, rc8_3, rc8_4, List.getElem?_cons_zero, List.getElem?_cons_succ, List.set_cons_zero, List.set_cons_succ, true_and, and_true, if_true, if_false, Int.toNat_natCast, Int.reduceToNat, Int.reduceAdd, Int.reduceSub, Int.reduceMul, Int.reduceNeg, Nat.reduceAdd, Int.reduceLT, Int.reduceLE, Int.reduceEq, reduceIte, w_ck_71, w_g_71_0, w_p_71_0, w_g_71_1, w_g_71_2, w_g_71_3, w_g_71_4, w_p_71_4, w_g_71_5, w_g_71_6, w_g_71_7, w_g_71_8, w_p_71_8, w_g_71_9, w_g_71_10, w_g_71_11, w_p_71_11, w_g_71_12, w_g_71_13, w_g_71_14, w_p_71_14, w_g_71_15, w_g_71_16, w_g_71_17, w_p_71_17, w_g_71_18, w_p_71_18, w_g_71_19, w_g_71_20, w_g_71_21, w_p_71_21, w_g_71_22, w_p_71_22, w_g_71_23, w_g_71_24, w_g_71_25, w_g_71_26, w_p_71_26_0, w_p_71_26_1, w_g_71_27, w_p_71_27, w_g_71_28, w_p_71_28, w_g_71_29, w_p_71_29, w_g_71_30, w_g_71_31, w_g_71_32, w_g_71_33, w_g_71_34, w_g_71_35, w_g_71_36, w_p_71_36, w_g_71_37, w_g_71_38, w_g_71_39, w_g_71_40, w_g_71_41, w_r_72, w_l_72, w_w_72, w_r_73, w_l_73, w_w_73, w_r_74, w_l_74, w_w_74, w_r_75, w_l_75, w_w_75, w_r_76, w_l_76, w_w_76, w_r_77, w_l_77, w_w_77, w_r_78, w_l_78, w_w_78, w_r_79, w_l_79, w_w_79, w_r_80, w_l_80, w_w_80, w_r_81, w_l_81, w_w_81, w_r_82, w_l_82, w_w_82, w_r_83, w_l_83, w_w_83, w_r_84, w_l_84, w_w_84, w_r_85, w_l_85, w_w_85, w_r_86, w_l_86, w_w_86, w_r_87, w_l_87, w_w_87, w_r_88, w_l_88, w_w_88, w_r_89, w_l_89, w_w_89, w_r_90, w_l_90, w_w_90, w_r_91, w_l_91, w_w_91, w_r_92, w_l_92, w_w_92, w_r_93, w_l_93, w_w_93, w_r_94, w_l_94, w_w_94, w_r_95, w_l_95, w_w_95, w_r_96, w_l_96, w_w_96, w_r_97, w_l_97, w_w_97, w_r_98, w_l_98, w_w_98, jI_add, jI_sub, jI_mul, jI_neg, jI_eq, jI_le, jI_lt, jI_eq0, jI_eq1, jI_lt0, jI_0lt, jI_le0, jI_0le, jI_clamp, jI_inBT, kL_0, kL_1, kL_2, kL_5, kL_6, kL_7, kL_10, kL_11, kL_15, kL_23, kL_31, kL_39, kL_97, kL_99, kL_104, kL_255, kL_349, kL_999, kL_1771561, kL_16777215, kL_4294967295, kL_18446744073709551615, jI_toL, rn_zB, rn_z0, rn_z1, jIB_eq0, jIB_eq1, jIB_eqJ, jB_def, jB_not, jB_and, jB_or, jB_nand, jB_nor, mrg, Decidable.not_not, ite_not, c_M_in, s_M_inJ]
end M2
