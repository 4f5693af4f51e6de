/-! THE CLASS: deals -/
def FD (F : Nat → Nat → Int) (m b : Int) : Nat → Nat → Int := u2 (u2 F 57 6 m) 57 7 b
theorem FD_6 {F : Nat → Nat → Int} {m b : Int} : FD F m b 57 6 = m := by unfold FD; rw [u2_n (by omega), u2_s]
theorem FD_7 {F : Nat → Nat → Int} {m b : Int} : FD F m b 57 7 = b := u2_s
theorem FD_o {F : Nat → Nat → Int} {m b : Int} {o j : Nat} (h : ¬ (o = 57 ∧ 6 ≤ j ∧ j ≤ 7)) : FD F m b o j = F o j := by unfold FD; rw [u2_n (by omega), u2_n (by omega)]
theorem FD_u6 {F : Nat → Nat → Int} {m b m' : Int} : u2 (FD F m b) 57 6 m' = FD F m' b := by
  funext o j
  unfold FD u2
  by_cases g : o = 57 ∧ j = 6
  · rw [if_pos g, if_neg (by omega), if_pos g]
  · rw [if_neg g]
    by_cases g2 : o = 57 ∧ j = 7
    · rw [if_pos g2, if_pos g2]
    · rw [if_neg g2, if_neg g, if_neg g2, if_neg g]
theorem FD_u7 {F : Nat → Nat → Int} {m b b' : Int} : u2 (FD F m b) 57 7 b' = FD F m b' := by
  unfold FD
  exact u2_u2
theorem u2_setA {A : Nat → Nat → Int} {a s : Nat} {x : Int} : u2 A a s x a = setA (A a) s x := by
  funext i
  unfold u2 setA
  simp
section DEAL
variable {L : Nat} {xs : Nat → Int32} {F A : Nat → Nat → Int} {B : Nat → Int64} {hs : Int64} {t1 t2 : Nat}
theorem s_De_tw_19 {d : Nat} {Q : Option Value → am_H → Prop} {had c : Nat → Nat} (h60 : ∀ z, z < 8 → A 60 z = had z) (h61 : ∀ z, z < 8 → A 61 z = c z) (h8 : ∀ z, had z ≤ 8) (hc : ∀ z, c z ≤ had z) {x : Nat} (hx : x < 8) :
    ∀ (n u : Nat), u + n = x → Rj d 11 19 [.ref 57, .int (jI x), .int (jI u)] [] (HW L xs F A B hs t1 t2) Q = Q (some (.int (jI (jB (anyB (fun u => decide (had u = had x ∧ c u = had u)) u n = true))))) (HW L xs F A B hs t1 t2)
  | 0, u, hn => by
    rw [b_Deal_hasTwinBefore_19]
    simp (disch := omega) only [b_Deal_hasTwinBefore_62, rn_nil, rn_iconst, rn_ldc2, rn_iadd, rn_isub, rn_imul, rn_iand, rn_ior, rn_ixor, rn_ishl, rn_ishr, rn_iushr, rn_ineg, rn_ladd, rn_lsub, rn_lmul, rn_land, rn_lor, rn_lshl, rn_lushr, rn_lcmp, rn_i2l, rn_l2i, rn_dupI, rn_dupR, rn_popI, rn_dup2, rn_idiv, rn_irem, rn_ldiv, rn_lrem, rn_dadd, rn_dsub, rn_dmul, rn_objinit, rn_iload, rn_lload, rn_aload, rn_istore, rn_astore, rn_lstore, rn_iinc, rn_getfield, rn_iaload, rn_laload, rn_aaload, rn_arraylength, rn_putfield, rn_iastore, rn_lastore, rn_goto, rn_ifCond_eq, rn_if_icmp_eq, rn_ifCond_ne, rn_if_icmp_ne, rn_ifCond_lt, rn_if_icmp_lt, rn_ifCond_ge, rn_if_icmp_ge, rn_ifCond_gt, rn_if_icmp_gt, rn_ifCond_le, rn_if_icmp_le, rn_ireturn, rn_lreturn, rn_return, rL_I, rL_L, rL_R, rS_t, rI_t, rG_s, rG_i, rP_s, rP_i, kq_v, kq_s, ok_0, ok_1I, ok_1R, ok_1N, ok_s, rc8_0, rc8_1, rc8_2, rc8_3, rc8_4, List.getElem?_cons_zero, List.getElem?_cons_succ, List.set_cons_zero, List.set_cons_succ, true_and, and_true, if_true, if_false, Int.toNat_natCast, Int.reduceToNat, Int.reduceAdd, Int.reduceSub, Int.reduceMul, Int.reduceNeg, Nat.reduceAdd, Int.reduceLT, Int.reduceLE, Int.reduceEq, reduceIte, w_ck_57, w_g_57_0, w_g_57_1, w_g_57_2, w_g_57_3, w_g_57_4, w_p_57_4, w_g_57_5, w_p_57_5, w_g_57_6, w_p_57_6, w_g_57_7, w_p_57_7, w_r_58, w_l_58, w_w_58, w_r_59, w_l_59, w_w_59, w_r_60, w_l_60, w_w_60, w_r_61, w_l_61, w_w_61, jI_add, jI_sub, jI_mul, jI_neg, jI_eq, jI_le, jI_lt, jI_eq0, jI_eq1, jI_lt0, jI_0lt, jI_le0, jI_0le, jI_clamp, jI_inBT, kL_0, kL_1, kL_2, kL_5, kL_6, kL_7, kL_10, kL_11, kL_15, kL_23, kL_31, kL_39, kL_97, kL_99, kL_104, kL_255, kL_349, kL_999, kL_1771561, kL_16777215, kL_4294967295, kL_18446744073709551615, jI_toL, rn_zB, rn_z0, rn_z1, jIB_eq0, jIB_eq1, jIB_eqJ, jB_def, jB_not, jB_and, jB_or, jB_nand, jB_nor, jB_ite, mrg, Decidable.not_not, ite_not, u2_s, u2_n, Int.add_sub_cancel, Int.sub_add_cancel]
    rw [if_pos (by omega)]
    simp [anyB, jB]
  | n + 1, u, hn => by
    have a1 := h60 u (by omega)
    have a2 := h60 x hx
    have a3 := h61 u (by omega)
    have b1 := h8 u
    have b2 := h8 x
    have b3 := hc u
    rw [b_Deal_hasTwinBefore_19]
    simp (disch := omega) only [b_Deal_hasTwinBefore_24, b_Deal_hasTwinBefore_39, b_Deal_hasTwinBefore_54, b_Deal_hasTwinBefore_56, rn_nil, rn_iconst, rn_ldc2, rn_iadd, rn_isub, rn_imul, rn_iand, rn_ior, rn_ixor, rn_ishl, rn_ishr, rn_iushr, rn_ineg, rn_ladd, rn_lsub, rn_lmul, rn_land, rn_lor, rn_lshl, rn_lushr, rn_lcmp, rn_i2l, rn_l2i, rn_dupI, rn_dupR, rn_popI, rn_dup2, rn_idiv, rn_irem, rn_ldiv, rn_lrem, rn_dadd, rn_dsub, rn_dmul, rn_objinit, rn_iload, rn_lload, rn_aload, rn_istore, rn_astore, rn_lstore, rn_iinc, rn_getfield, rn_iaload, rn_laload, rn_aaload, rn_arraylength, rn_putfield, rn_iastore, rn_lastore, rn_goto, rn_ifCond_eq, rn_if_icmp_eq, rn_ifCond_ne, rn_if_icmp_ne, rn_ifCond_lt, rn_if_icmp_lt, rn_ifCond_ge, rn_if_icmp_ge, rn_ifCond_gt, rn_if_icmp_gt, rn_ifCond_le, rn_if_icmp_le, rn_ireturn, rn_lreturn, rn_return, rL_I, rL_L, rL_R, rS_t, rI_t, rG_s, rG_i, rP_s, rP_i, kq_v, kq_s, ok_0, ok_1I, ok_1R, ok_1N, ok_s, rc8_0, rc8_1, rc8_2, rc8_3, rc8_4, List.getElem?_cons_zero, List.getElem?_cons_succ, List.set_cons_zero, List.set_cons_succ, true_and, and_true, if_true, if_false, Int.toNat_natCast, Int.reduceToNat, Int.reduceAdd, Int.reduceSub, Int.reduceMul, Int.reduceNeg, Nat.reduceAdd, Int.reduceLT, Int.reduceLE, Int.reduceEq, reduceIte, w_ck_57, w_g_57_0, w_g_57_1, w_g_57_2, w_g_57_3, w_g_57_4, w_p_57_4, w_g_57_5, w_p_57_5, w_g_57_6, w_p_57_6, w_g_57_7, w_p_57_7, w_r_58, w_l_58, w_w_58, w_r_59, w_l_59, w_w_59, w_r_60, w_l_60, w_w_60, w_r_61, w_l_61, w_w_61, jI_add, jI_sub, jI_mul, jI_neg, jI_eq, jI_le, jI_lt, jI_eq0, jI_eq1, jI_lt0, jI_0lt, jI_le0, jI_0le, jI_clamp, jI_inBT, kL_0, kL_1, kL_2, kL_5, kL_6, kL_7, kL_10, kL_11, kL_15, kL_23, kL_31, kL_39, kL_97, kL_99, kL_104, kL_255, kL_349, kL_999, kL_1771561, kL_16777215, kL_4294967295, kL_18446744073709551615, jI_toL, rn_zB, rn_z0, rn_z1, jIB_eq0, jIB_eq1, jIB_eqJ, jB_def, jB_not, jB_and, jB_or, jB_nand, jB_nor, jB_ite, mrg, Decidable.not_not, ite_not, u2_s, u2_n, Int.add_sub_cancel, Int.sub_add_cancel, a1, a2, a3, Int.toNat_natCast]
    rw [if_neg (by omega), show (u : Int) + 1 = ((u + 1 : Nat) : Int) by omega, s_De_tw_19 h60 h61 h8 hc hx n (u + 1) (by omega), anyB]
    by_cases g : had u = had x
    · by_cases g2 : c u = had u
      · rw [if_pos (by omega), if_pos (by omega)]
        simp [g, g2, jB]
      · rw [if_pos (by omega), if_neg (by omega)]
        rw [show decide (had u = had x ∧ c u = had u) = false by simp [g2], Bool.false_or]
    · rw [if_neg (by omega)]
      simp only [g, false_and, decide_false, Bool.false_or]
theorem s_De_tw {d : Nat} {Q : Option Value → am_H → Prop} {had c : Nat → Nat} (h60 : ∀ z, z < 8 → A 60 z = had z) (h61 : ∀ z, z < 8 → A 61 z = c z) (h8 : ∀ z, had z ≤ 8) (hc : ∀ z, c z ≤ had z) {x : Nat} (hx : x < 8) :
    Rj d 11 0 [.ref 57, .int (jI x), .null] [] (HW L xs F A B hs t1 t2) Q = Q (some (.int (jI (jB (twB had c x = true))))) (HW L xs F A B hs t1 t2) := by
  have a2 := h60 x hx
  have a3 := h61 x hx
  have b2 := h8 x
  have b3 := hc x
  have e := s_De_tw_19 (d := d) (Q := Q) (L := L) (xs := xs) (F := F) (B := B) (hs := hs) (t1 := t1) (t2 := t2) h60 h61 h8 hc hx x 0 (by omega)
  rw [show ((0 : Nat) : Int) = 0 from rfl] at e
  rw [b_Deal_hasTwinBefore_0]
  simp (disch := omega) only [b_Deal_hasTwinBefore_15, b_Deal_hasTwinBefore_17, rn_nil, rn_iconst, rn_ldc2, rn_iadd, rn_isub, rn_imul, rn_iand, rn_ior, rn_ixor, rn_ishl, rn_ishr, rn_iushr, rn_ineg, rn_ladd, rn_lsub, rn_lmul, rn_land, rn_lor, rn_lshl, rn_lushr, rn_lcmp, rn_i2l, rn_l2i, rn_dupI, rn_dupR, rn_popI, rn_dup2, rn_idiv, rn_irem, rn_ldiv, rn_lrem, rn_dadd, rn_dsub, rn_dmul, rn_objinit, rn_iload, rn_lload, rn_aload, rn_istore, rn_astore, rn_lstore, rn_iinc, rn_getfield, rn_iaload, rn_laload, rn_aaload, rn_arraylength, rn_putfield, rn_iastore, rn_lastore, rn_goto, rn_ifCond_eq, rn_if_icmp_eq, rn_ifCond_ne, rn_if_icmp_ne, rn_ifCond_lt, rn_if_icmp_lt, rn_ifCond_ge, rn_if_icmp_ge, rn_ifCond_gt, rn_if_icmp_gt, rn_ifCond_le, rn_if_icmp_le, rn_ireturn, rn_lreturn, rn_return, rL_I, rL_L, rL_R, rS_t, rI_t, rG_s, rG_i, rP_s, rP_i, kq_v, kq_s, ok_0, ok_1I, ok_1R, ok_1N, ok_s, rc8_0, rc8_1, rc8_2, rc8_3, rc8_4, List.getElem?_cons_zero, List.getElem?_cons_succ, List.set_cons_zero, List.set_cons_succ, true_and, and_true, if_true, if_false, Int.toNat_natCast, Int.reduceToNat, Int.reduceAdd, Int.reduceSub, Int.reduceMul, Int.reduceNeg, Nat.reduceAdd, Int.reduceLT, Int.reduceLE, Int.reduceEq, reduceIte, w_ck_57, w_g_57_0, w_g_57_1, w_g_57_2, w_g_57_3, w_g_57_4, w_p_57_4, w_g_57_5, w_p_57_5, w_g_57_6, w_p_57_6, w_g_57_7, w_p_57_7, w_r_58, w_l_58, w_w_58, w_r_59, w_l_59, w_w_59, w_r_60, w_l_60, w_w_60, w_r_61, w_l_61, w_w_61, jI_add, jI_sub, jI_mul, jI_neg, jI_eq, jI_le, jI_lt, jI_eq0, jI_eq1, jI_lt0, jI_0lt, jI_le0, jI_0le, jI_clamp, jI_inBT, kL_0, kL_1, kL_2, kL_5, kL_6, kL_7, kL_10, kL_11, kL_15, kL_23, kL_31, kL_39, kL_97, kL_99, kL_104, kL_255, kL_349, kL_999, kL_1771561, kL_16777215, kL_4294967295, kL_18446744073709551615, jI_toL, rn_zB, rn_z0, rn_z1, jIB_eq0, jIB_eq1, jIB_eqJ, jB_def, jB_not, jB_and, jB_or, jB_nand, jB_nor, jB_ite, mrg, Decidable.not_not, ite_not, u2_s, u2_n, Int.add_sub_cancel, Int.sub_add_cancel, a2, a3, Int.toNat_natCast]
  rw [e]
  unfold twB
  by_cases g : had x ≤ c x
  · rw [if_pos (by omega)]
    simp only [g, decide_true, Bool.true_and]
  · rw [if_neg (by omega)]
    simp [g, jB]
/-- what deals rest on -/
def DS (F A : Nat → Nat → Int) (t : Nat) (par land : Nat → Int) (m : Nat) (bd : Int) (had : Nat → Nat) (seats : List Nat) : Prop := TR t ∧ F t 3 = m ∧ (1 ≤ m ∧ m ≤ 40) ∧ (∀ x, x < m → A (t + 1) x = par x ∧ A (t + 2) x = land x) ∧ (∀ i, -1 ≤ land i ∧ land i ≤ 7) ∧ par 0 = -1 ∧ (∀ k : Nat, 1 ≤ k → k < m → 0 ≤ par k ∧ par k < k) ∧ F 57 4 = seats.length ∧ F 57 5 = bd ∧ (0 ≤ bd ∧ bd ≤ 1000) ∧ (∀ i, i < seats.length → A 59 i = ((seats.getD i 0 : Nat) : Int) ∧ seats.getD i 0 < 8) ∧ (∀ z, z < 8 → A 60 z = had z) ∧ (∀ z, had z ≤ 8) ∧ seats.length ≤ 8
theorem DS_CT {t m : Nat} {par land : Nat → Int} {bd : Int} {had : Nat → Nat} {seats : List Nat} {A0 : Nat → Nat → Int} {al fe : Int} (hD : DS F A0 t par land m bd had seats) (hA : ∀ a, ¬ a = 54 → ¬ a = 58 → ¬ a = 61 → A a = A0 a) (hV : ∀ i, -1 ≤ A 58 i ∧ A 58 i ≤ 7) : CT t 58 (FD F al fe) A par land (A 58) m := by
  obtain ⟨h1, h2, h3, h4, h5, h6, h7, -⟩ := hD
  have ht : t = 63 ∨ t = 67 := h1
  refine ⟨h1, Or.inr rfl, by rw [FD_o (by omega)]; exact h2, h3, ?_, fun l _ => rfl, h5, hV, h6, h7⟩
  rw [hA (t + 1) (by omega) (by omega) (by omega), hA (t + 2) (by omega) (by omega) (by omega)]
  exact h4
theorem drop_cons {l ss : List Nat} {s i : Nat} (h : l.drop i = s :: ss) : i < l.length ∧ l.getD i 0 = s ∧ l.drop (i + 1) = ss := by
  have hi : i < l.length := by
    by_cases c : i < l.length
    · exact c
    · rw [List.drop_eq_nil_of_le (by omega)] at h; cases h
  rw [List.drop_eq_getElem_cons hi] at h
  injection h with h1 h2
  refine ⟨hi, ?_, h2⟩
  rw [List.getD_eq_getElem?_getD, List.getElem?_eq_getElem hi]
  exact h1
theorem sN_le {f : Nat → Nat} {b : Nat} (h : ∀ i, f i ≤ b) : ∀ n, sN f n ≤ b * n
  | 0 => by simp [sN]
  | n + 1 => by
    have := sN_le h n
    have := h n
    rw [sN, Nat.mul_add, Nat.mul_one]
    omega
theorem s_De_from {A0 : Nat → Nat → Int} {t m : Nat} {par land : Nat → Int} {bd : Int} {had : Nat → Nat} {seats : List Nat} (hD : DS F A0 t par land m bd had seats) :
    ∀ (ss : List Nat) (seat : Nat) (c : Nat → Nat) (A : Nat → Nat → Int) (al fe : Nat), seats.drop seat = ss → seat ≤ 8 → (∀ a, ¬ a = 54 → ¬ a = 58 → ¬ a = 61 → A a = A0 a) → (∀ i, 0 ≤ A 54 i ∧ A 54 i ≤ 100000) → (∀ i, -1 ≤ A 58 i ∧ A 58 i ≤ 7) → (∀ z, z < 8 → A 61 z = c z) → (∀ z, c z ≤ had z) → al + 8 ^ ss.length ≤ 20000000 → fe + 8 ^ ss.length ≤ 20000000 →
      ∃ A' : Nat → Nat → Int, (∀ a, ¬ a = 54 → ¬ a = 58 → ¬ a = 61 → A' a = A0 a) ∧ (∀ i, 0 ≤ A' 54 i ∧ A' 54 i ≤ 100000) ∧ (∀ i, -1 ≤ A' 58 i ∧ A' 58 i ≤ 7) ∧ (∀ z, z < 8 → A' 61 z = c z) ∧ (∀ l, ¬ l ∈ ss → A' 58 l = A 58 l) ∧ ∀ d Q, Rj (d + ss.length + 4) 10 0 [.ref 57, .int (jI seat), .ref t, .ref 53, .null] [] (HW L xs (FD F al fe) A B hs t1 t2) Q = Q none (HW L xs (FD F ((al + KK (fun _ => true) had ss c (A 58) : Nat) : Int) ((fe + KK (fun v => decide (lcV par land v m ≤ bd)) had ss c (A 58) : Nat) : Int)) A' B hs t1 t2) := by
  intro ss
  induction ss with
  | nil =>
    intro seat c A al fe hdr hs8 hA h54 hV h61 hc hal hfe
    have hC := fun (al fe : Int) => DS_CT (al := al) (fe := fe) hD hA hV
    have hD' := hD
    obtain ⟨h1, h2, h3, h4, h5, h6, h7, s1, s2, s3, s4, s5, s6, s7⟩ := hD'
    have K := Tab_ok (par := par) h3.2 h5 hV
    have lc := lcV_mn h3 h5 hV h6
    have hlen : seats.length ≤ seat := by
      by_cases g : seats.length ≤ seat
      · exact g
      · have := congrArg List.length hdr
        rw [List.length_drop, List.length_nil] at this
        omega
    have f4 : ∀ a b, FD F a b 57 4 = seats.length := fun a b => by rw [FD_o (by omega)]; exact s1
    have f5 : ∀ a b, FD F a b 57 5 = bd := fun a b => by rw [FD_o (by omega)]; exact s2
    rw [List.length_nil, Nat.pow_zero] at hal hfe
    refine ⟨wbA (Tab par land (A 58) m) m A, fun a a1 a2 a3 => by rw [wbA_o a1]; exact hA a a1 a2 a3, wbA_rng K.2.2.2 h54, by rw [wbA_o (by omega)]; exact hV, by rw [wbA_o (by omega)]; exact h61, fun l _ => by rw [wbA_o (by omega)], fun d Q => ?_⟩
    have e1 : KK (fun _ => true) had [] c (A 58) = 1 := rfl
    rw [List.length_nil, Nat.add_zero, b_Deal_dealFrom_0, e1]
    by_cases g : lcV par land (A 58) m ≤ bd
    · have e2 : KK (fun v => decide (lcV par land v m ≤ bd)) had [] c (A 58) = 1 := by rw [KK, if_pos (by simp [g])]
      rw [e2]
      simp (disch := omega) only [b_Deal_dealFrom_8, b_Deal_dealFrom_34, b_Deal_dealFrom_44, rn_nil, rn_iconst, rn_ldc2, rn_iadd, rn_isub, rn_imul, rn_iand, rn_ior, rn_ixor, rn_ishl, rn_ishr, rn_iushr, rn_ineg, rn_ladd, rn_lsub, rn_lmul, rn_land, rn_lor, rn_lshl, rn_lushr, rn_lcmp, rn_i2l, rn_l2i, rn_dupI, rn_dupR, rn_popI, rn_dup2, rn_idiv, rn_irem, rn_ldiv, rn_lrem, rn_dadd, rn_dsub, rn_dmul, rn_objinit, rn_iload, rn_lload, rn_aload, rn_istore, rn_astore, rn_lstore, rn_iinc, rn_getfield, rn_iaload, rn_laload, rn_aaload, rn_arraylength, rn_putfield, rn_iastore, rn_lastore, rn_goto, rn_ifCond_eq, rn_if_icmp_eq, rn_ifCond_ne, rn_if_icmp_ne, rn_ifCond_lt, rn_if_icmp_lt, rn_ifCond_ge, rn_if_icmp_ge, rn_ifCond_gt, rn_if_icmp_gt, rn_ifCond_le, rn_if_icmp_le, rn_ireturn, rn_lreturn, rn_return, rL_I, rL_L, rL_R, rS_t, rI_t, rG_s, rG_i, rP_s, rP_i, kq_v, kq_s, ok_0, ok_1I, ok_1R, ok_1N, ok_s, rc8_0, rc8_1, rc8_2, rc8_3, rc8_4, List.getElem?_cons_zero, List.getElem?_cons_succ, List.set_cons_zero, List.set_cons_succ, true_and, and_true, if_true, if_false, Int.toNat_natCast, Int.reduceToNat, Int.reduceAdd, Int.reduceSub, Int.reduceMul, Int.reduceNeg, Nat.reduceAdd, Int.reduceLT, Int.reduceLE, Int.reduceEq, reduceIte, w_ck_57, w_g_57_0, w_g_57_1, w_g_57_2, w_g_57_3, w_g_57_4, w_p_57_4, w_g_57_5, w_p_57_5, w_g_57_6, w_p_57_6, w_g_57_7, w_p_57_7, w_r_58, w_l_58, w_w_58, w_r_59, w_l_59, w_w_59, w_r_60, w_l_60, w_w_60, w_r_61, w_l_61, w_w_61, jI_add, jI_sub, jI_mul, jI_neg, jI_eq, jI_le, jI_lt, jI_eq0, jI_eq1, jI_lt0, jI_0lt, jI_le0, jI_0le, jI_clamp, jI_inBT, kL_0, kL_1, kL_2, kL_5, kL_6, kL_7, kL_10, kL_11, kL_15, kL_23, kL_31, kL_39, kL_97, kL_99, kL_104, kL_255, kL_349, kL_999, kL_1771561, kL_16777215, kL_4294967295, kL_18446744073709551615, jI_toL, rn_zB, rn_z0, rn_z1, jIB_eq0, jIB_eq1, jIB_eqJ, jB_def, jB_not, jB_and, jB_or, jB_nand, jB_nor, jB_ite, mrg, Decidable.not_not, ite_not, u2_s, u2_n, Int.add_sub_cancel, Int.sub_add_cancel, f4, f5, FD_6, FD_7, FD_u6, FD_u7, c_Changes_least, w_ck_53, s_Ch_least (hC _ _) h54]
      rw [if_neg (by omega), if_neg (by omega)]
      rfl
    · have e2 : KK (fun v => decide (lcV par land v m ≤ bd)) had [] c (A 58) = 0 := by rw [KK, if_neg (by simp; omega)]
      rw [e2]
      simp (disch := omega) only [b_Deal_dealFrom_8, b_Deal_dealFrom_44, rn_nil, rn_iconst, rn_ldc2, rn_iadd, rn_isub, rn_imul, rn_iand, rn_ior, rn_ixor, rn_ishl, rn_ishr, rn_iushr, rn_ineg, rn_ladd, rn_lsub, rn_lmul, rn_land, rn_lor, rn_lshl, rn_lushr, rn_lcmp, rn_i2l, rn_l2i, rn_dupI, rn_dupR, rn_popI, rn_dup2, rn_idiv, rn_irem, rn_ldiv, rn_lrem, rn_dadd, rn_dsub, rn_dmul, rn_objinit, rn_iload, rn_lload, rn_aload, rn_istore, rn_astore, rn_lstore, rn_iinc, rn_getfield, rn_iaload, rn_laload, rn_aaload, rn_arraylength, rn_putfield, rn_iastore, rn_lastore, rn_goto, rn_ifCond_eq, rn_if_icmp_eq, rn_ifCond_ne, rn_if_icmp_ne, rn_ifCond_lt, rn_if_icmp_lt, rn_ifCond_ge, rn_if_icmp_ge, rn_ifCond_gt, rn_if_icmp_gt, rn_ifCond_le, rn_if_icmp_le, rn_ireturn, rn_lreturn, rn_return, rL_I, rL_L, rL_R, rS_t, rI_t, rG_s, rG_i, rP_s, rP_i, kq_v, kq_s, ok_0, ok_1I, ok_1R, ok_1N, ok_s, rc8_0, rc8_1, rc8_2, rc8_3, rc8_4, List.getElem?_cons_zero, List.getElem?_cons_succ, List.set_cons_zero, List.set_cons_succ, true_and, and_true, if_true, if_false, Int.toNat_natCast, Int.reduceToNat, Int.reduceAdd, Int.reduceSub, Int.reduceMul, Int.reduceNeg, Nat.reduceAdd, Int.reduceLT, Int.reduceLE, Int.reduceEq, reduceIte, w_ck_57, w_g_57_0, w_g_57_1, w_g_57_2, w_g_57_3, w_g_57_4, w_p_57_4, w_g_57_5, w_p_57_5, w_g_57_6, w_p_57_6, w_g_57_7, w_p_57_7, w_r_58, w_l_58, w_w_58, w_r_59, w_l_59, w_w_59, w_r_60, w_l_60, w_w_60, w_r_61, w_l_61, w_w_61, jI_add, jI_sub, jI_mul, jI_neg, jI_eq, jI_le, jI_lt, jI_eq0, jI_eq1, jI_lt0, jI_0lt, jI_le0, jI_0le, jI_clamp, jI_inBT, kL_0, kL_1, kL_2, kL_5, kL_6, kL_7, kL_10, kL_11, kL_15, kL_23, kL_31, kL_39, kL_97, kL_99, kL_104, kL_255, kL_349, kL_999, kL_1771561, kL_16777215, kL_4294967295, kL_18446744073709551615, jI_toL, rn_zB, rn_z0, rn_z1, jIB_eq0, jIB_eq1, jIB_eqJ, jB_def, jB_not, jB_and, jB_or, jB_nand, jB_nor, jB_ite, mrg, Decidable.not_not, ite_not, u2_s, u2_n, Int.add_sub_cancel, Int.sub_add_cancel, f4, f5, FD_6, FD_7, FD_u6, FD_u7, c_Changes_least, w_ck_53, s_Ch_least (hC _ _) h54]
      rw [if_neg (by omega), if_pos (by omega)]
      rfl
  | cons s ss ih =>
    intro seat c A al fe hdr hs8 hA h54 hV h61 hc hal hfe
    obtain ⟨hi, hse, hdr'⟩ := drop_cons hdr
    have hD' := hD
    obtain ⟨h1, h2, h3, h4, h5, h6, h7, s1, s2, s3, s4, s5, s6, s7⟩ := hD'
    have f4 : ∀ a b, FD F a b 57 4 = seats.length := fun a b => by rw [FD_o (by omega)]; exact s1
    have ss8 := s4 seat hi
    rw [hse] at ss8
    rw [List.length_cons, Nat.pow_succ] at hal hfe
    -- what each variant brings
    generalize hfT : (fun x => if 0 < c x ∧ twB had c x = false then KK (fun _ => true) had ss (dec c x) (setA (A 58) s x) else 0) = fT
    generalize hfP : (fun x => if 0 < c x ∧ twB had c x = false then KK (fun v => decide (lcV par land v m ≤ bd)) had ss (dec c x) (setA (A 58) s x) else 0) = fP
    have bT : ∀ x, fT x ≤ 8 ^ ss.length := by
      intro x
      rw [← hfT]
      dsimp only
      split
      · exact KK_big ss _ _
      · exact Nat.zero_le _
    have bP : ∀ x, fP x ≤ 8 ^ ss.length := by
      intro x
      rw [← hfP]
      dsimp only
      split
      · exact KK_big ss _ _
      · exact Nat.zero_le _
    have loop : ∀ (n x : Nat) (A1 : Nat → Nat → Int), x + n = 8 → (∀ a, ¬ a = 54 → ¬ a = 58 → ¬ a = 61 → A1 a = A0 a) → (∀ i, 0 ≤ A1 54 i ∧ A1 54 i ≤ 100000) → (∀ i, -1 ≤ A1 58 i ∧ A1 58 i ≤ 7) → (∀ z, z < 8 → A1 61 z = c z) → (∀ l, ¬ l ∈ s :: ss → A1 58 l = A 58 l) →
        ∃ A' : Nat → Nat → Int, (∀ a, ¬ a = 54 → ¬ a = 58 → ¬ a = 61 → A' a = A0 a) ∧ (∀ i, 0 ≤ A' 54 i ∧ A' 54 i ≤ 100000) ∧ (∀ i, -1 ≤ A' 58 i ∧ A' 58 i ≤ 7) ∧ (∀ z, z < 8 → A' 61 z = c z) ∧ (∀ l, ¬ l ∈ s :: ss → A' 58 l = A 58 l) ∧ ∀ d Q, Rj (d + ss.length + 5) 10 48 [.ref 57, .int (jI seat), .ref t, .ref 53, .int (jI x)] [] (HW L xs (FD F ((al + sN fT x : Nat) : Int) ((fe + sN fP x : Nat) : Int)) A1 B hs t1 t2) Q = Q none (HW L xs (FD F ((al + sN fT 8 : Nat) : Int) ((fe + sN fP 8 : Nat) : Int)) A' B hs t1 t2) := by
      intro n
      induction n with
      | zero =>
        intro x A1 hx q1 q2 q3 q4 q5
        refine ⟨A1, q1, q2, q3, q4, q5, fun d Q => ?_⟩
        rw [b_Deal_dealFrom_48]
        simp (disch := omega) only [b_Deal_dealFrom_124, rn_nil, rn_iconst, rn_ldc2, rn_iadd, rn_isub, rn_imul, rn_iand, rn_ior, rn_ixor, rn_ishl, rn_ishr, rn_iushr, rn_ineg, rn_ladd, rn_lsub, rn_lmul, rn_land, rn_lor, rn_lshl, rn_lushr, rn_lcmp, rn_i2l, rn_l2i, rn_dupI, rn_dupR, rn_popI, rn_dup2, rn_idiv, rn_irem, rn_ldiv, rn_lrem, rn_dadd, rn_dsub, rn_dmul, rn_objinit, rn_iload, rn_lload, rn_aload, rn_istore, rn_astore, rn_lstore, rn_iinc, rn_getfield, rn_iaload, rn_laload, rn_aaload, rn_arraylength, rn_putfield, rn_iastore, rn_lastore, rn_goto, rn_ifCond_eq, rn_if_icmp_eq, rn_ifCond_ne, rn_if_icmp_ne, rn_ifCond_lt, rn_if_icmp_lt, rn_ifCond_ge, rn_if_icmp_ge, rn_ifCond_gt, rn_if_icmp_gt, rn_ifCond_le, rn_if_icmp_le, rn_ireturn, rn_lreturn, rn_return, rL_I, rL_L, rL_R, rS_t, rI_t, rG_s, rG_i, rP_s, rP_i, kq_v, kq_s, ok_0, ok_1I, ok_1R, ok_1N, ok_s, rc8_0, rc8_1, rc8_2, rc8_3, rc8_4, List.getElem?_cons_zero, List.getElem?_cons_succ, List.set_cons_zero, List.set_cons_succ, true_and, and_true, if_true, if_false, Int.toNat_natCast, Int.reduceToNat, Int.reduceAdd, Int.reduceSub, Int.reduceMul, Int.reduceNeg, Nat.reduceAdd, Int.reduceLT, Int.reduceLE, Int.reduceEq, reduceIte, w_ck_57, w_g_57_0, w_g_57_1, w_g_57_2, w_g_57_3, w_g_57_4, w_p_57_4, w_g_57_5, w_p_57_5, w_g_57_6, w_p_57_6, w_g_57_7, w_p_57_7, w_r_58, w_l_58, w_w_58, w_r_59, w_l_59, w_w_59, w_r_60, w_l_60, w_w_60, w_r_61, w_l_61, w_w_61, jI_add, jI_sub, jI_mul, jI_neg, jI_eq, jI_le, jI_lt, jI_eq0, jI_eq1, jI_lt0, jI_0lt, jI_le0, jI_0le, jI_clamp, jI_inBT, kL_0, kL_1, kL_2, kL_5, kL_6, kL_7, kL_10, kL_11, kL_15, kL_23, kL_31, kL_39, kL_97, kL_99, kL_104, kL_255, kL_349, kL_999, kL_1771561, kL_16777215, kL_4294967295, kL_18446744073709551615, jI_toL, rn_zB, rn_z0, rn_z1, jIB_eq0, jIB_eq1, jIB_eqJ, jB_def, jB_not, jB_and, jB_or, jB_nand, jB_nor, jB_ite, mrg, Decidable.not_not, ite_not, u2_s, u2_n, Int.add_sub_cancel, Int.sub_add_cancel]
        rw [if_pos (by omega), show x = 8 by omega]
      | succ n ihn =>
        intro x A1 hx q1 q2 q3 q4 q5
        have a61 := q4 x (by omega)
        have cx := hc x
        have hx8 := s6 x
        have h60 : ∀ z, z < 8 → A1 60 z = had z := by rw [q1 60 (by omega) (by omega) (by omega)]; exact s5
        have tw := fun (d : Nat) (Q : Option Value → am_H → Prop) (F : Nat → Nat → Int) => s_De_tw (d := d) (Q := Q) (L := L) (xs := xs) (F := F) (B := B) (hs := hs) (t1 := t1) (t2 := t2) h60 q4 s6 hc (x := x) (by omega)
        have eT : fT x = if 0 < c x ∧ twB had c x = false then KK (fun _ => true) had ss (dec c x) (setA (A 58) s x) else 0 := by rw [← hfT]
        have eP : fP x = if 0 < c x ∧ twB had c x = false then KK (fun v => decide (lcV par land v m ≤ bd)) had ss (dec c x) (setA (A 58) s x) else 0 := by rw [← hfP]
        have sT := sN_le bT x
        have sP := sN_le bP x
        have mT : 8 ^ ss.length * x + 8 ^ ss.length ≤ 8 ^ ss.length * 8 := by
          rw [← Nat.mul_succ]; exact Nat.mul_le_mul_left _ (by omega)
        by_cases g : 0 < c x ∧ twB had c x = false
        · rw [if_pos g] at eT eP
          have hA58 : u2 (u2 A1 61 x ((c x : Int) - 1)) 58 s (x : Int) 58 = setA (A1 58) s (x : Int) := by
            rw [u2_setA, u2_a (by omega)]
          obtain ⟨A2, r1, r2, r3, r4, r5, r6⟩ := ih (seat + 1) (dec c x) (u2 (u2 A1 61 x ((c x : Int) - 1)) 58 s (x : Int)) (al + sN fT x) (fe + sN fP x) hdr' (by omega) (fun a a1 a2 a3 => by rw [u2_a a2, u2_a a3]; exact q1 a a1 a2 a3) (by rw [u2_a (by omega), u2_a (by omega)]; exact q2) (by
            rw [hA58]
            intro i
            by_cases e : i = s
            · rw [setA_s e]; omega
            · rw [setA_n e]; exact q3 i) (by
            intro z hz
            by_cases e : z = x
            · rw [u2_n (by omega), e, u2_s, dec_s]; omega
            · rw [u2_n (by omega), u2_n (by omega), dec_n e]; exact q4 z hz) (by
            intro z
            have := hc z
            by_cases e : z = x
            · rw [e, dec_s]; omega
            · rw [dec_n e]; exact this) (by omega) (by omega)
          rw [hA58] at r6
          have k1 : ∀ P, KK P had ss (dec c x) (setA (A1 58) s x) = KK P had ss (dec c x) (setA (A 58) s x) := fun P => KK_cg ss _ _ _ (fun l hl => by
            by_cases e : l = s
            · rw [setA_s e, setA_s e]
            · rw [setA_n e, setA_n e]; exact q5 l (by simp [e, hl]))
          rw [k1, k1, ← eT, ← eP] at r6
          have a2x := r4 x (by omega)
          rw [dec_s] at a2x
          obtain ⟨A3, t1', t2', t3, t4, t5, t6⟩ := ihn (x + 1) (u2 A2 61 x (c x : Int)) (by omega) (fun a a1 a2 a3 => by rw [u2_a a3]; exact r1 a a1 a2 a3) (by rw [u2_a (by omega)]; exact r2) (by rw [u2_a (by omega)]; exact r3) (by
            intro z hz
            by_cases e : z = x
            · rw [e, u2_s]
            · rw [u2_n (by omega), r4 z hz, dec_n e]) (by
            intro l hl
            have hl2 : ¬ l = s ∧ ¬ l ∈ ss := by simpa using hl
            rw [u2_a (by omega), r5 l hl2.2, hA58, setA_n hl2.1]
            exact q5 l hl)
          refine ⟨A3, t1', t2', t3, t4, t5, fun d Q => ?_⟩
          have e59 : A1 59 seat = (s : Int) := by rw [q1 59 (by omega) (by omega) (by omega)]; exact ss8.1
          have e59' : u2 A1 61 x ((c x : Int) - 1) 59 seat = (s : Int) := by rw [u2_a (by omega)]; exact e59
          have ex : A2 61 x + 1 = (c x : Int) := by omega
          have gt : ¬ twB had c x = true := by rw [g.2]; simp
          rw [show d + ss.length + 5 = (d + ss.length + 4) + 1 from rfl, b_Deal_dealFrom_48]
          simp (disch := omega) only [b_Deal_dealFrom_55, b_Deal_dealFrom_65, b_Deal_dealFrom_74, rn_nil, rn_iconst, rn_ldc2, rn_iadd, rn_isub, rn_imul, rn_iand, rn_ior, rn_ixor, rn_ishl, rn_ishr, rn_iushr, rn_ineg, rn_ladd, rn_lsub, rn_lmul, rn_land, rn_lor, rn_lshl, rn_lushr, rn_lcmp, rn_i2l, rn_l2i, rn_dupI, rn_dupR, rn_popI, rn_dup2, rn_idiv, rn_irem, rn_ldiv, rn_lrem, rn_dadd, rn_dsub, rn_dmul, rn_objinit, rn_iload, rn_lload, rn_aload, rn_istore, rn_astore, rn_lstore, rn_iinc, rn_getfield, rn_iaload, rn_laload, rn_aaload, rn_arraylength, rn_putfield, rn_iastore, rn_lastore, rn_goto, rn_ifCond_eq, rn_if_icmp_eq, rn_ifCond_ne, rn_if_icmp_ne, rn_ifCond_lt, rn_if_icmp_lt, rn_ifCond_ge, rn_if_icmp_ge, rn_ifCond_gt, rn_if_icmp_gt, rn_ifCond_le, rn_if_icmp_le, rn_ireturn, rn_lreturn, rn_return, rL_I, rL_L, rL_R, rS_t, rI_t, rG_s, rG_i, rP_s, rP_i, kq_v, kq_s, ok_0, ok_1I, ok_1R, ok_1N, ok_s, rc8_0, rc8_1, rc8_2, rc8_3, rc8_4, List.getElem?_cons_zero, List.getElem?_cons_succ, List.set_cons_zero, List.set_cons_succ, true_and, and_true, if_true, if_false, Int.toNat_natCast, Int.reduceToNat, Int.reduceAdd, Int.reduceSub, Int.reduceMul, Int.reduceNeg, Nat.reduceAdd, Int.reduceLT, Int.reduceLE, Int.reduceEq, reduceIte, w_ck_57, w_g_57_0, w_g_57_1, w_g_57_2, w_g_57_3, w_g_57_4, w_p_57_4, w_g_57_5, w_p_57_5, w_g_57_6, w_p_57_6, w_g_57_7, w_p_57_7, w_r_58, w_l_58, w_w_58, w_r_59, w_l_59, w_w_59, w_r_60, w_l_60, w_w_60, w_r_61, w_l_61, w_w_61, jI_add, jI_sub, jI_mul, jI_neg, jI_eq, jI_le, jI_lt, jI_eq0, jI_eq1, jI_lt0, jI_0lt, jI_le0, jI_0le, jI_clamp, jI_inBT, kL_0, kL_1, kL_2, kL_5, kL_6, kL_7, kL_10, kL_11, kL_15, kL_23, kL_31, kL_39, kL_97, kL_99, kL_104, kL_255, kL_349, kL_999, kL_1771561, kL_16777215, kL_4294967295, kL_18446744073709551615, jI_toL, rn_zB, rn_z0, rn_z1, jIB_eq0, jIB_eq1, jIB_eqJ, jB_def, jB_not, jB_and, jB_or, jB_nand, jB_nor, jB_ite, mrg, Decidable.not_not, ite_not, u2_s, u2_n, Int.add_sub_cancel, Int.sub_add_cancel, a61, c_Deal_hasTwinBefore, tw, gt, Bool.false_eq_true, e59, c_Deal_dealFrom, Int.toNat_natCast]
          rw [if_neg (by omega), if_neg (by omega), show (seat : Int) + 1 = ((seat + 1 : Nat) : Int) by omega, r6]
          simp (disch := omega) only [rn_nil, rn_iconst, rn_ldc2, rn_iadd, rn_isub, rn_imul, rn_iand, rn_ior, rn_ixor, rn_ishl, rn_ishr, rn_iushr, rn_ineg, rn_ladd, rn_lsub, rn_lmul, rn_land, rn_lor, rn_lshl, rn_lushr, rn_lcmp, rn_i2l, rn_l2i, rn_dupI, rn_dupR, rn_popI, rn_dup2, rn_idiv, rn_irem, rn_ldiv, rn_lrem, rn_dadd, rn_dsub, rn_dmul, rn_objinit, rn_iload, rn_lload, rn_aload, rn_istore, rn_astore, rn_lstore, rn_iinc, rn_getfield, rn_iaload, rn_laload, rn_aaload, rn_arraylength, rn_putfield, rn_iastore, rn_lastore, rn_goto, rn_ifCond_eq, rn_if_icmp_eq, rn_ifCond_ne, rn_if_icmp_ne, rn_ifCond_lt, rn_if_icmp_lt, rn_ifCond_ge, rn_if_icmp_ge, rn_ifCond_gt, rn_if_icmp_gt, rn_ifCond_le, rn_if_icmp_le, rn_ireturn, rn_lreturn, rn_return, rL_I, rL_L, rL_R, rS_t, rI_t, rG_s, rG_i, rP_s, rP_i, kq_v, kq_s, ok_0, ok_1I, ok_1R, ok_1N, ok_s, rc8_0, rc8_1, rc8_2, rc8_3, rc8_4, List.getElem?_cons_zero, List.getElem?_cons_succ, List.set_cons_zero, List.set_cons_succ, true_and, and_true, if_true, if_false, Int.toNat_natCast, Int.reduceToNat, Int.reduceAdd, Int.reduceSub, Int.reduceMul, Int.reduceNeg, Nat.reduceAdd, Int.reduceLT, Int.reduceLE, Int.reduceEq, reduceIte, w_ck_57, w_g_57_0, w_g_57_1, w_g_57_2, w_g_57_3, w_g_57_4, w_p_57_4, w_g_57_5, w_p_57_5, w_g_57_6, w_p_57_6, w_g_57_7, w_p_57_7, w_r_58, w_l_58, w_w_58, w_r_59, w_l_59, w_w_59, w_r_60, w_l_60, w_w_60, w_r_61, w_l_61, w_w_61, jI_add, jI_sub, jI_mul, jI_neg, jI_eq, jI_le, jI_lt, jI_eq0, jI_eq1, jI_lt0, jI_0lt, jI_le0, jI_0le, jI_clamp, jI_inBT, kL_0, kL_1, kL_2, kL_5, kL_6, kL_7, kL_10, kL_11, kL_15, kL_23, kL_31, kL_39, kL_97, kL_99, kL_104, kL_255, kL_349, kL_999, kL_1771561, kL_16777215, kL_4294967295, kL_18446744073709551615, jI_toL, rn_zB, rn_z0, rn_z1, jIB_eq0, jIB_eq1, jIB_eqJ, jB_def, jB_not, jB_and, jB_or, jB_nand, jB_nor, jB_ite, mrg, Decidable.not_not, ite_not, u2_s, u2_n, Int.add_sub_cancel, Int.sub_add_cancel, Int.toNat_natCast, ex]
          rw [b_Deal_dealFrom_118]
          simp (disch := omega) only [rn_nil, rn_iconst, rn_ldc2, rn_iadd, rn_isub, rn_imul, rn_iand, rn_ior, rn_ixor, rn_ishl, rn_ishr, rn_iushr, rn_ineg, rn_ladd, rn_lsub, rn_lmul, rn_land, rn_lor, rn_lshl, rn_lushr, rn_lcmp, rn_i2l, rn_l2i, rn_dupI, rn_dupR, rn_popI, rn_dup2, rn_idiv, rn_irem, rn_ldiv, rn_lrem, rn_dadd, rn_dsub, rn_dmul, rn_objinit, rn_iload, rn_lload, rn_aload, rn_istore, rn_astore, rn_lstore, rn_iinc, rn_getfield, rn_iaload, rn_laload, rn_aaload, rn_arraylength, rn_putfield, rn_iastore, rn_lastore, rn_goto, rn_ifCond_eq, rn_if_icmp_eq, rn_ifCond_ne, rn_if_icmp_ne, rn_ifCond_lt, rn_if_icmp_lt, rn_ifCond_ge, rn_if_icmp_ge, rn_ifCond_gt, rn_if_icmp_gt, rn_ifCond_le, rn_if_icmp_le, rn_ireturn, rn_lreturn, rn_return, rL_I, rL_L, rL_R, rS_t, rI_t, rG_s, rG_i, rP_s, rP_i, kq_v, kq_s, ok_0, ok_1I, ok_1R, ok_1N, ok_s, rc8_0, rc8_1, rc8_2, rc8_3, rc8_4, List.getElem?_cons_zero, List.getElem?_cons_succ, List.set_cons_zero, List.set_cons_succ, true_and, and_true, if_true, if_false, Int.toNat_natCast, Int.reduceToNat, Int.reduceAdd, Int.reduceSub, Int.reduceMul, Int.reduceNeg, Nat.reduceAdd, Int.reduceLT, Int.reduceLE, Int.reduceEq, reduceIte, w_ck_57, w_g_57_0, w_g_57_1, w_g_57_2, w_g_57_3, w_g_57_4, w_p_57_4, w_g_57_5, w_p_57_5, w_g_57_6, w_p_57_6, w_g_57_7, w_p_57_7, w_r_58, w_l_58, w_w_58, w_r_59, w_l_59, w_w_59, w_r_60, w_l_60, w_w_60, w_r_61, w_l_61, w_w_61, jI_add, jI_sub, jI_mul, jI_neg, jI_eq, jI_le, jI_lt, jI_eq0, jI_eq1, jI_lt0, jI_0lt, jI_le0, jI_0le, jI_clamp, jI_inBT, kL_0, kL_1, kL_2, kL_5, kL_6, kL_7, kL_10, kL_11, kL_15, kL_23, kL_31, kL_39, kL_97, kL_99, kL_104, kL_255, kL_349, kL_999, kL_1771561, kL_16777215, kL_4294967295, kL_18446744073709551615, jI_toL, rn_zB, rn_z0, rn_z1, jIB_eq0, jIB_eq1, jIB_eqJ, jB_def, jB_not, jB_and, jB_or, jB_nand, jB_nor, jB_ite, mrg, Decidable.not_not, ite_not, u2_s, u2_n, Int.add_sub_cancel, Int.sub_add_cancel]
          have t7 := t6 d Q
          rw [sN, sN] at t7
          rw [show (x : Int) + 1 = ((x + 1 : Nat) : Int) by omega, Nat.add_assoc al (sN fT x) (fT x), Nat.add_assoc fe (sN fP x) (fP x)]
          exact t7
        · rw [if_neg g] at eT eP
          obtain ⟨A3, t1', t2', t3, t4, t5, t6⟩ := ihn (x + 1) A1 (by omega) q1 q2 q3 q4 q5
          refine ⟨A3, t1', t2', t3, t4, t5, fun d Q => ?_⟩
          have t7 := t6 d Q
          rw [sN, sN, eT, eP, Nat.add_zero, Nat.add_zero] at t7
          rw [b_Deal_dealFrom_48]
          by_cases g0 : 0 < c x
          · have gt : twB had c x = true := by
              cases e : twB had c x
              · exact absurd ⟨g0, e⟩ g
              · rfl
            simp (disch := omega) only [b_Deal_dealFrom_55, b_Deal_dealFrom_65, rn_nil, rn_iconst, rn_ldc2, rn_iadd, rn_isub, rn_imul, rn_iand, rn_ior, rn_ixor, rn_ishl, rn_ishr, rn_iushr, rn_ineg, rn_ladd, rn_lsub, rn_lmul, rn_land, rn_lor, rn_lshl, rn_lushr, rn_lcmp, rn_i2l, rn_l2i, rn_dupI, rn_dupR, rn_popI, rn_dup2, rn_idiv, rn_irem, rn_ldiv, rn_lrem, rn_dadd, rn_dsub, rn_dmul, rn_objinit, rn_iload, rn_lload, rn_aload, rn_istore, rn_astore, rn_lstore, rn_iinc, rn_getfield, rn_iaload, rn_laload, rn_aaload, rn_arraylength, rn_putfield, rn_iastore, rn_lastore, rn_goto, rn_ifCond_eq, rn_if_icmp_eq, rn_ifCond_ne, rn_if_icmp_ne, rn_ifCond_lt, rn_if_icmp_lt, rn_ifCond_ge, rn_if_icmp_ge, rn_ifCond_gt, rn_if_icmp_gt, rn_ifCond_le, rn_if_icmp_le, rn_ireturn, rn_lreturn, rn_return, rL_I, rL_L, rL_R, rS_t, rI_t, rG_s, rG_i, rP_s, rP_i, kq_v, kq_s, ok_0, ok_1I, ok_1R, ok_1N, ok_s, rc8_0, rc8_1, rc8_2, rc8_3, rc8_4, List.getElem?_cons_zero, List.getElem?_cons_succ, List.set_cons_zero, List.set_cons_succ, true_and, and_true, if_true, if_false, Int.toNat_natCast, Int.reduceToNat, Int.reduceAdd, Int.reduceSub, Int.reduceMul, Int.reduceNeg, Nat.reduceAdd, Int.reduceLT, Int.reduceLE, Int.reduceEq, reduceIte, w_ck_57, w_g_57_0, w_g_57_1, w_g_57_2, w_g_57_3, w_g_57_4, w_p_57_4, w_g_57_5, w_p_57_5, w_g_57_6, w_p_57_6, w_g_57_7, w_p_57_7, w_r_58, w_l_58, w_w_58, w_r_59, w_l_59, w_w_59, w_r_60, w_l_60, w_w_60, w_r_61, w_l_61, w_w_61, jI_add, jI_sub, jI_mul, jI_neg, jI_eq, jI_le, jI_lt, jI_eq0, jI_eq1, jI_lt0, jI_0lt, jI_le0, jI_0le, jI_clamp, jI_inBT, kL_0, kL_1, kL_2, kL_5, kL_6, kL_7, kL_10, kL_11, kL_15, kL_23, kL_31, kL_39, kL_97, kL_99, kL_104, kL_255, kL_349, kL_999, kL_1771561, kL_16777215, kL_4294967295, kL_18446744073709551615, jI_toL, rn_zB, rn_z0, rn_z1, jIB_eq0, jIB_eq1, jIB_eqJ, jB_def, jB_not, jB_and, jB_or, jB_nand, jB_nor, jB_ite, mrg, Decidable.not_not, ite_not, u2_s, u2_n, Int.add_sub_cancel, Int.sub_add_cancel, a61, c_Deal_hasTwinBefore, tw, gt, Int.toNat_natCast]
            rw [if_neg (by omega), if_neg (by omega), b_Deal_dealFrom_118]
            simp (disch := omega) only [rn_nil, rn_iconst, rn_ldc2, rn_iadd, rn_isub, rn_imul, rn_iand, rn_ior, rn_ixor, rn_ishl, rn_ishr, rn_iushr, rn_ineg, rn_ladd, rn_lsub, rn_lmul, rn_land, rn_lor, rn_lshl, rn_lushr, rn_lcmp, rn_i2l, rn_l2i, rn_dupI, rn_dupR, rn_popI, rn_dup2, rn_idiv, rn_irem, rn_ldiv, rn_lrem, rn_dadd, rn_dsub, rn_dmul, rn_objinit, rn_iload, rn_lload, rn_aload, rn_istore, rn_astore, rn_lstore, rn_iinc, rn_getfield, rn_iaload, rn_laload, rn_aaload, rn_arraylength, rn_putfield, rn_iastore, rn_lastore, rn_goto, rn_ifCond_eq, rn_if_icmp_eq, rn_ifCond_ne, rn_if_icmp_ne, rn_ifCond_lt, rn_if_icmp_lt, rn_ifCond_ge, rn_if_icmp_ge, rn_ifCond_gt, rn_if_icmp_gt, rn_ifCond_le, rn_if_icmp_le, rn_ireturn, rn_lreturn, rn_return, rL_I, rL_L, rL_R, rS_t, rI_t, rG_s, rG_i, rP_s, rP_i, kq_v, kq_s, ok_0, ok_1I, ok_1R, ok_1N, ok_s, rc8_0, rc8_1, rc8_2, rc8_3, rc8_4, List.getElem?_cons_zero, List.getElem?_cons_succ, List.set_cons_zero, List.set_cons_succ, true_and, and_true, if_true, if_false, Int.toNat_natCast, Int.reduceToNat, Int.reduceAdd, Int.reduceSub, Int.reduceMul, Int.reduceNeg, Nat.reduceAdd, Int.reduceLT, Int.reduceLE, Int.reduceEq, reduceIte, w_ck_57, w_g_57_0, w_g_57_1, w_g_57_2, w_g_57_3, w_g_57_4, w_p_57_4, w_g_57_5, w_p_57_5, w_g_57_6, w_p_57_6, w_g_57_7, w_p_57_7, w_r_58, w_l_58, w_w_58, w_r_59, w_l_59, w_w_59, w_r_60, w_l_60, w_w_60, w_r_61, w_l_61, w_w_61, jI_add, jI_sub, jI_mul, jI_neg, jI_eq, jI_le, jI_lt, jI_eq0, jI_eq1, jI_lt0, jI_0lt, jI_le0, jI_0le, jI_clamp, jI_inBT, kL_0, kL_1, kL_2, kL_5, kL_6, kL_7, kL_10, kL_11, kL_15, kL_23, kL_31, kL_39, kL_97, kL_99, kL_104, kL_255, kL_349, kL_999, kL_1771561, kL_16777215, kL_4294967295, kL_18446744073709551615, jI_toL, rn_zB, rn_z0, rn_z1, jIB_eq0, jIB_eq1, jIB_eqJ, jB_def, jB_not, jB_and, jB_or, jB_nand, jB_nor, jB_ite, mrg, Decidable.not_not, ite_not, u2_s, u2_n, Int.add_sub_cancel, Int.sub_add_cancel]
            rw [show (x : Int) + 1 = ((x + 1 : Nat) : Int) by omega]
            exact t7
          · simp (disch := omega) only [b_Deal_dealFrom_55, rn_nil, rn_iconst, rn_ldc2, rn_iadd, rn_isub, rn_imul, rn_iand, rn_ior, rn_ixor, rn_ishl, rn_ishr, rn_iushr, rn_ineg, rn_ladd, rn_lsub, rn_lmul, rn_land, rn_lor, rn_lshl, rn_lushr, rn_lcmp, rn_i2l, rn_l2i, rn_dupI, rn_dupR, rn_popI, rn_dup2, rn_idiv, rn_irem, rn_ldiv, rn_lrem, rn_dadd, rn_dsub, rn_dmul, rn_objinit, rn_iload, rn_lload, rn_aload, rn_istore, rn_astore, rn_lstore, rn_iinc, rn_getfield, rn_iaload, rn_laload, rn_aaload, rn_arraylength, rn_putfield, rn_iastore, rn_lastore, rn_goto, rn_ifCond_eq, rn_if_icmp_eq, rn_ifCond_ne, rn_if_icmp_ne, rn_ifCond_lt, rn_if_icmp_lt, rn_ifCond_ge, rn_if_icmp_ge, rn_ifCond_gt, rn_if_icmp_gt, rn_ifCond_le, rn_if_icmp_le, rn_ireturn, rn_lreturn, rn_return, rL_I, rL_L, rL_R, rS_t, rI_t, rG_s, rG_i, rP_s, rP_i, kq_v, kq_s, ok_0, ok_1I, ok_1R, ok_1N, ok_s, rc8_0, rc8_1, rc8_2, rc8_3, rc8_4, List.getElem?_cons_zero, List.getElem?_cons_succ, List.set_cons_zero, List.set_cons_succ, true_and, and_true, if_true, if_false, Int.toNat_natCast, Int.reduceToNat, Int.reduceAdd, Int.reduceSub, Int.reduceMul, Int.reduceNeg, Nat.reduceAdd, Int.reduceLT, Int.reduceLE, Int.reduceEq, reduceIte, w_ck_57, w_g_57_0, w_g_57_1, w_g_57_2, w_g_57_3, w_g_57_4, w_p_57_4, w_g_57_5, w_p_57_5, w_g_57_6, w_p_57_6, w_g_57_7, w_p_57_7, w_r_58, w_l_58, w_w_58, w_r_59, w_l_59, w_w_59, w_r_60, w_l_60, w_w_60, w_r_61, w_l_61, w_w_61, jI_add, jI_sub, jI_mul, jI_neg, jI_eq, jI_le, jI_lt, jI_eq0, jI_eq1, jI_lt0, jI_0lt, jI_le0, jI_0le, jI_clamp, jI_inBT, kL_0, kL_1, kL_2, kL_5, kL_6, kL_7, kL_10, kL_11, kL_15, kL_23, kL_31, kL_39, kL_97, kL_99, kL_104, kL_255, kL_349, kL_999, kL_1771561, kL_16777215, kL_4294967295, kL_18446744073709551615, jI_toL, rn_zB, rn_z0, rn_z1, jIB_eq0, jIB_eq1, jIB_eqJ, jB_def, jB_not, jB_and, jB_or, jB_nand, jB_nor, jB_ite, mrg, Decidable.not_not, ite_not, u2_s, u2_n, Int.add_sub_cancel, Int.sub_add_cancel, a61, Int.toNat_natCast]
            rw [if_neg (by omega), if_pos (by omega), b_Deal_dealFrom_118]
            simp (disch := omega) only [rn_nil, rn_iconst, rn_ldc2, rn_iadd, rn_isub, rn_imul, rn_iand, rn_ior, rn_ixor, rn_ishl, rn_ishr, rn_iushr, rn_ineg, rn_ladd, rn_lsub, rn_lmul, rn_land, rn_lor, rn_lshl, rn_lushr, rn_lcmp, rn_i2l, rn_l2i, rn_dupI, rn_dupR, rn_popI, rn_dup2, rn_idiv, rn_irem, rn_ldiv, rn_lrem, rn_dadd, rn_dsub, rn_dmul, rn_objinit, rn_iload, rn_lload, rn_aload, rn_istore, rn_astore, rn_lstore, rn_iinc, rn_getfield, rn_iaload, rn_laload, rn_aaload, rn_arraylength, rn_putfield, rn_iastore, rn_lastore, rn_goto, rn_ifCond_eq, rn_if_icmp_eq, rn_ifCond_ne, rn_if_icmp_ne, rn_ifCond_lt, rn_if_icmp_lt, rn_ifCond_ge, rn_if_icmp_ge, rn_ifCond_gt, rn_if_icmp_gt, rn_ifCond_le, rn_if_icmp_le, rn_ireturn, rn_lreturn, rn_return, rL_I, rL_L, rL_R, rS_t, rI_t, rG_s, rG_i, rP_s, rP_i, kq_v, kq_s, ok_0, ok_1I, ok_1R, ok_1N, ok_s, rc8_0, rc8_1, rc8_2, rc8_3, rc8_4, List.getElem?_cons_zero, List.getElem?_cons_succ, List.set_cons_zero, List.set_cons_succ, true_and, and_true, if_true, if_false, Int.toNat_natCast, Int.reduceToNat, Int.reduceAdd, Int.reduceSub, Int.reduceMul, Int.reduceNeg, Nat.reduceAdd, Int.reduceLT, Int.reduceLE, Int.reduceEq, reduceIte, w_ck_57, w_g_57_0, w_g_57_1, w_g_57_2, w_g_57_3, w_g_57_4, w_p_57_4, w_g_57_5, w_p_57_5, w_g_57_6, w_p_57_6, w_g_57_7, w_p_57_7, w_r_58, w_l_58, w_w_58, w_r_59, w_l_59, w_w_59, w_r_60, w_l_60, w_w_60, w_r_61, w_l_61, w_w_61, jI_add, jI_sub, jI_mul, jI_neg, jI_eq, jI_le, jI_lt, jI_eq0, jI_eq1, jI_lt0, jI_0lt, jI_le0, jI_0le, jI_clamp, jI_inBT, kL_0, kL_1, kL_2, kL_5, kL_6, kL_7, kL_10, kL_11, kL_15, kL_23, kL_31, kL_39, kL_97, kL_99, kL_104, kL_255, kL_349, kL_999, kL_1771561, kL_16777215, kL_4294967295, kL_18446744073709551615, jI_toL, rn_zB, rn_z0, rn_z1, jIB_eq0, jIB_eq1, jIB_eqJ, jB_def, jB_not, jB_and, jB_or, jB_nand, jB_nor, jB_ite, mrg, Decidable.not_not, ite_not, u2_s, u2_n, Int.add_sub_cancel, Int.sub_add_cancel]
            rw [show (x : Int) + 1 = ((x + 1 : Nat) : Int) by omega]
            exact t7
    obtain ⟨A', r1, r2, r3, r4, r5, r6⟩ := loop 8 0 A (by omega) hA h54 hV h61 (fun _ _ => rfl)
    refine ⟨A', r1, r2, r3, r4, r5, fun d Q => ?_⟩
    have r7 := r6 d Q
    rw [sN, sN, Nat.add_zero, Nat.add_zero, show ((0 : Nat) : Int) = 0 from rfl] at r7
    have eKT : KK (fun _ => true) had (s :: ss) c (A 58) = sN fT 8 := by rw [← hfT]; rfl
    have eKP : KK (fun v => decide (lcV par land v m ≤ bd)) had (s :: ss) c (A 58) = sN fP 8 := by rw [← hfP]; rfl
    rw [List.length_cons, b_Deal_dealFrom_0, eKT, eKP, show d + (ss.length + 1) + 4 = d + ss.length + 5 by omega]
    simp (disch := omega) only [b_Deal_dealFrom_45, rn_nil, rn_iconst, rn_ldc2, rn_iadd, rn_isub, rn_imul, rn_iand, rn_ior, rn_ixor, rn_ishl, rn_ishr, rn_iushr, rn_ineg, rn_ladd, rn_lsub, rn_lmul, rn_land, rn_lor, rn_lshl, rn_lushr, rn_lcmp, rn_i2l, rn_l2i, rn_dupI, rn_dupR, rn_popI, rn_dup2, rn_idiv, rn_irem, rn_ldiv, rn_lrem, rn_dadd, rn_dsub, rn_dmul, rn_objinit, rn_iload, rn_lload, rn_aload, rn_istore, rn_astore, rn_lstore, rn_iinc, rn_getfield, rn_iaload, rn_laload, rn_aaload, rn_arraylength, rn_putfield, rn_iastore, rn_lastore, rn_goto, rn_ifCond_eq, rn_if_icmp_eq, rn_ifCond_ne, rn_if_icmp_ne, rn_ifCond_lt, rn_if_icmp_lt, rn_ifCond_ge, rn_if_icmp_ge, rn_ifCond_gt, rn_if_icmp_gt, rn_ifCond_le, rn_if_icmp_le, rn_ireturn, rn_lreturn, rn_return, rL_I, rL_L, rL_R, rS_t, rI_t, rG_s, rG_i, rP_s, rP_i, kq_v, kq_s, ok_0, ok_1I, ok_1R, ok_1N, ok_s, rc8_0, rc8_1, rc8_2, rc8_3, rc8_4, List.getElem?_cons_zero, List.getElem?_cons_succ, List.set_cons_zero, List.set_cons_succ, true_and, and_true, if_true, if_false, Int.toNat_natCast, Int.reduceToNat, Int.reduceAdd, Int.reduceSub, Int.reduceMul, Int.reduceNeg, Nat.reduceAdd, Int.reduceLT, Int.reduceLE, Int.reduceEq, reduceIte, w_ck_57, w_g_57_0, w_g_57_1, w_g_57_2, w_g_57_3, w_g_57_4, w_p_57_4, w_g_57_5, w_p_57_5, w_g_57_6, w_p_57_6, w_g_57_7, w_p_57_7, w_r_58, w_l_58, w_w_58, w_r_59, w_l_59, w_w_59, w_r_60, w_l_60, w_w_60, w_r_61, w_l_61, w_w_61, jI_add, jI_sub, jI_mul, jI_neg, jI_eq, jI_le, jI_lt, jI_eq0, jI_eq1, jI_lt0, jI_0lt, jI_le0, jI_0le, jI_clamp, jI_inBT, kL_0, kL_1, kL_2, kL_5, kL_6, kL_7, kL_10, kL_11, kL_15, kL_23, kL_31, kL_39, kL_97, kL_99, kL_104, kL_255, kL_349, kL_999, kL_1771561, kL_16777215, kL_4294967295, kL_18446744073709551615, jI_toL, rn_zB, rn_z0, rn_z1, jIB_eq0, jIB_eq1, jIB_eqJ, jB_def, jB_not, jB_and, jB_or, jB_nand, jB_nor, jB_ite, mrg, Decidable.not_not, ite_not, u2_s, u2_n, Int.add_sub_cancel, Int.sub_add_cancel, f4]
    rw [if_pos (by omega)]
    exact r7
end DEAL
