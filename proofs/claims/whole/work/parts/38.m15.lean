/-! THE REFERENCE: faultOf, fault, tree -/
/-- what holds while a page is read -/
def RI (F A : Nat → Nat → Int) (m k : Int) : Prop :=
  (∀ i, 0 ≤ A 91 i ∧ A 91 i ≤ 40) ∧ (∀ i, -1 ≤ A 89 i ∧ A 89 i ≤ 39) ∧ (∀ i : Nat, (i : Int) < F 71 29 → A 91 i ≤ k ∧ A 89 i < i) ∧ (0 ≤ F 71 29 ∧ F 71 29 ≤ m) ∧ (-1 ≤ F 71 27 ∧ F 71 27 < F 71 29) ∧ (0 ≤ F 71 28 ∧ F 71 28 < 256) ∧ (0 ≤ F 71 26 ∧ F 71 26 ≤ 1)
theorem RI_mono {F A : Nat → Nat → Int} {m k m' k' : Int} (h : RI F A m k) (hm : m ≤ m') (hk : k ≤ k') : RI F A m' k' :=
  ⟨h.1, h.2.1, fun i g => ⟨by have := (h.2.2.1 i g).1; omega, (h.2.2.1 i g).2⟩, ⟨h.2.2.2.1.1, by have := h.2.2.2.1.2; omega⟩, h.2.2.2.2⟩
theorem RI_f {F F' A : Nat → Nat → Int} {m k : Int} (h : RI F A m k) (e9 : F' 71 29 = F 71 29) (e7 : -1 ≤ F' 71 27 ∧ F' 71 27 < F 71 29) (e8 : 0 ≤ F' 71 28 ∧ F' 71 28 < 256) (e6 : 0 ≤ F' 71 26 ∧ F' 71 26 ≤ 1) : RI F' A m k := by
  unfold RI
  rw [e9]
  exact ⟨h.1, h.2.1, h.2.2.1, h.2.2.2.1, e7, e8, e6⟩
theorem RI_nd {F A : Nat → Nat → Int} {m k l : Int} (h : RI F A m k) (hm : m ≤ 39) (hk : 0 ≤ k) : RI (ndF F) (ndA F A l) (m + 1) k := by
  obtain ⟨hw, hp, hl, hm, hi, hu, hd⟩ := h
  have e9 : ndF F 71 29 = F 71 29 + 1 := u2_s
  have en : ∀ j, ¬ j = 29 → ndF F 71 j = F 71 j := fun j hj => u2_n (by omega)
  have w1 : ∀ i, ndA F A l 91 i = if i = (F 71 29).toNat then 0 else A 91 i := by
    intro i
    unfold ndA
    by_cases g : i = (F 71 29).toNat
    · rw [if_pos g, g, u2_s]
    · rw [if_neg g, u2_n (by omega), u2_n (by omega), u2_n (by omega)]
  have w2 : ∀ i, ndA F A l 89 i = if i = (F 71 29).toNat then F 71 27 else A 89 i := by
    intro i
    unfold ndA
    by_cases g : i = (F 71 29).toNat
    · rw [if_pos g, g, u2_n (by omega), u2_n (by omega), u2_s]
    · rw [if_neg g, u2_n (by omega), u2_n (by omega), u2_n (by omega)]
  unfold RI
  rw [e9, en 27 (by omega), en 28 (by omega), en 26 (by omega)]
  refine ⟨?_, ?_, ?_, by omega, by omega, hu, hd⟩
  · intro i
    have := hw i
    rw [w1]
    split <;> omega
  · intro i
    have := hp i
    rw [w2]
    split <;> omega
  · intro i g
    rw [w1, w2]
    by_cases g2 : i = (F 71 29).toNat
    · rw [if_pos g2, if_pos g2]
      omega
    · rw [if_neg g2, if_neg g2]
      exact hl i (by omega)
theorem RI_en {F A : Nat → Nat → Int} {m k n : Int} (h : RI F A m k) (hm : m ≤ 40) (hk : k ≤ 39) (hn : 0 ≤ n ∧ n < F 71 29) : RI (enF F A n) (enA A n) m (k + 1) := by
  have h0 := h
  obtain ⟨hw, hp, hl, hm, hi, hu, hd⟩ := h
  have hl2 := (hl n.toNat (by omega)).2
  have hp2 := hp n.toNat
  have e9 : enF F A n 71 29 = F 71 29 := by unfold enF; rw [u2_n (by omega), u2_n (by omega)]
  have e7 : enF F A n 71 27 = A 89 n.toNat := u2_s
  have e8 : enF F A n 71 28 = F 71 28 := by unfold enF; rw [u2_n (by omega), u2_n (by omega)]
  have e6 : enF F A n 71 26 = 0 := by unfold enF; rw [u2_n (by omega), u2_s]
  have h1 : RI (enF F A n) A m k := RI_f h0 e9 (by rw [e7]; omega) (by rw [e8]; omega) (by rw [e6]; omega)
  unfold enA
  by_cases g : A 89 n.toNat = -1
  · rw [if_pos g]
    exact RI_mono h1 (by omega) (by omega)
  · rw [if_neg g]
    have hl3 := (hl (A 89 n.toNat).toNat (by omega)).1
    have hw3 := hw (A 89 n.toNat).toNat
    refine ⟨?_, ?_, ?_, h1.2.2.2⟩
    · intro i
      have := hw i
      by_cases g2 : i = (A 89 n.toNat).toNat
      · rw [g2, u2_s]
        omega
      · rw [u2_n (by omega)]
        omega
    · intro i
      rw [u2_n (by omega)]
      exact hp i
    · intro i gi
      rw [e9] at gi
      have hl4 := hl i gi
      by_cases g2 : i = (A 89 n.toNat).toNat
      · rw [g2, u2_s, u2_n (by omega), ← g2]
        rw [← g2] at hl3
        omega
      · rw [u2_n (by omega), u2_n (by omega)]
        omega
theorem or_8m : ∀ a, a < 256 → ∀ k, k < 8 → a / 2 ^ k % 2 = 0 → a + 2 ^ k < 256 := by decide +kernel
theorem or_8r {a k : Int} (ha : 0 ≤ a ∧ a < 256) (hk : 0 ≤ k ∧ k < 8) (h : ibit a k.toNat = 0) : 0 ≤ a + 2 ^ k.toNat ∧ a + 2 ^ k.toNat < 256 := by
  obtain ⟨n, rfl⟩ := Int.eq_ofNat_of_zero_le ha.1
  have h1 : n / 2 ^ k.toNat % 2 = 0 := by
    have h2 : (((n / 2 ^ k.toNat % 2 : Nat)) : Int) = 0 := h
    omega
  have h3 := or_8m n (by omega) k.toNat (by omega) h1
  rw [pow_nat]
  generalize (2 : Nat) ^ k.toNat = y at h3
  omega
theorem RI_go {F A : Nat → Nat → Int} {k c : Int} (h : RI F A k k) (hk : 0 ≤ k ∧ k ≤ 39) : RI (goM F A c).2.1 (goM F A c).2.2 (k + 1) (k + 1) := by
  have base : RI F A (k + 1) (k + 1) := RI_mono h (by omega) (by omega)
  have h0 := h
  obtain ⟨hw, hp, hl, hm, hi, hu, hd⟩ := h
  unfold goM
  by_cases h1 : F 71 26 = 0
  · rw [if_neg (by omega)]
    by_cases h2 : F 71 27 = -1
    · rw [if_pos h2]
      exact base
    · rw [if_neg h2]
      by_cases h3 : c = 41 ∧ 1 < A 91 (F 71 27).toNat
      · rw [if_pos h3]
        exact RI_mono (RI_en h0 (by omega) (by omega) (by omega)) (by omega) (by omega)
      · rw [if_neg h3]
        dsimp only
        exact RI_f base (u2_n (by omega)) (by rw [u2_n (by omega)]; omega) (by rw [u2_n (by omega)]; omega) (by rw [u2_s]; omega)
  · rw [if_pos h1]
    by_cases h2 : c = 40
    · rw [if_pos h2]
      have g := RI_nd (l := -1) h0 (by omega) (by omega)
      have e9 : ndF F 71 29 = F 71 29 + 1 := u2_s
      dsimp only
      refine RI_mono (RI_f g (u2_n (by omega)) ?_ ?_ ?_) (by omega) (by omega)
      · rw [u2_s, e9]
        omega
      · rw [u2_n (by omega)]
        exact g.2.2.2.2.2.1
      · rw [u2_n (by omega)]
        exact g.2.2.2.2.2.2
    · rw [if_neg h2]
      by_cases h3 : (97 ≤ c ∧ c ≤ 104) ∧ ibit (F 71 28) (c - 97).toNat = 0
      · rw [if_pos h3]
        have u1 := or_8r hu (show 0 ≤ c - 97 ∧ c - 97 < 8 by omega) h3.2
        have g1 : RI (u2 F 71 28 (F 71 28 + 2 ^ (c - 97).toNat)) A k k := RI_f h0 (u2_n (by omega)) (by rw [u2_n (by omega)]; omega) (by rw [u2_s]; omega) (by rw [u2_n (by omega)]; omega)
        have g2 := RI_nd (l := c - 97) g1 (by omega) (by omega)
        have e3 : ndA (u2 F 71 28 (F 71 28 + 2 ^ (c - 97).toNat)) A (c - 97) = ndA F A (c - 97) := by
          unfold ndA
          rw [u2_n (by omega), u2_n (by omega)]
        rw [e3] at g2
        have e9 : ndF (u2 F 71 28 (F 71 28 + 2 ^ (c - 97).toNat)) 71 29 = F 71 29 + 1 := by
          unfold ndF
          rw [u2_s, u2_n (by omega)]
        dsimp only
        exact RI_en g2 (by omega) (by omega) (by rw [e9]; omega)
      · rw [if_neg h3]
        exact base
theorem goM_k {F A : Nat → Nat → Int} {c m : Int} {P : Nat → Int} (hF : F 71 21 = m) (hA : A 85 = P) : (goM F A c).2.1 71 21 = m ∧ (goM F A c).2.2 85 = P := by
  have n1 : ∀ F : Nat → Nat → Int, ndF F 71 21 = F 71 21 := fun F => u2_n (by omega)
  have n2 : ∀ (F A : Nat → Nat → Int) l, ndA F A l 85 = A 85 := fun F A l => by
    unfold ndA
    rw [u2_a (by omega), u2_a (by omega), u2_a (by omega)]
  have n3 : ∀ (F A : Nat → Nat → Int) n, enF F A n 71 21 = F 71 21 := fun F A n => by
    unfold enF
    rw [u2_n (by omega), u2_n (by omega)]
  have n4 : ∀ (A : Nat → Nat → Int) n, enA A n 85 = A 85 := fun A n => by
    unfold enA
    by_cases g : A 89 n.toNat = -1
    · rw [if_pos g]
    · rw [if_neg g, u2_a (by omega)]
  unfold goM
  repeat' split
  all_goals dsimp only
  · exact ⟨by rw [u2_n (by omega), n1, hF], by rw [n2, hA]⟩
  · exact ⟨by rw [n3, n1, u2_n (by omega), hF], by rw [n4, n2, hA]⟩
  · exact ⟨hF, hA⟩
  · exact ⟨hF, hA⟩
  · exact ⟨by rw [n3, hF], by rw [n4, hA]⟩
  · exact ⟨by rw [u2_n (by omega), hF], hA⟩
/-- the page read from letter i on, n of them: how far, and the state -/
def rdM (P : Nat → Int) : (Nat → Nat → Int) → (Nat → Nat → Int) → Nat → Nat → Nat × (Nat → Nat → Int) × (Nat → Nat → Int)
  | F, A, i, 0 => (i, F, A)
  | F, A, i, n + 1 => if (goM F A (P i)).1 = true then rdM P (goM F A (P i)).2.1 (goM F A (P i)).2.2 (i + 1) n else (i, (goM F A (P i)).2)
section M15
variable {d : Nat} {Q : Option Value → am_H → Prop}
variable {L : Nat} {xs : Nat → Int32} {F A : Nat → Nat → Int} {B : Nat → Int64} {hs : Int64} {t1 t2 : Nat}
theorem s_M_faultOf_22 {P : Nat → Int} (hP : ∀ i, 0 ≤ P i ∧ P i ≤ 255) {m : Int} (hm : 0 ≤ m ∧ m ≤ 40) :
    ∀ (n : Nat) (i : Int) (F A : Nat → Nat → Int), i + n = m → 0 ≤ i → RI F A i i → F 71 21 = m → A 85 = P → Rj (d + 3) 169 22 [.ref 71, .int (jI i)] [] (HW L xs F A B hs t1 t2) Q =
      Q (some (.int (jI ((rdM P F A i.toNat n).1 : Int)))) (HW L xs (rdM P F A i.toNat n).2.1 (rdM P F A i.toNat n).2.2 B hs t1 t2)
  | 0, i, F, A, hn, hi, hR, hF, hA => by
    rw [b_M_faultOf_22]
    simp (disch := omega) only [b_M_faultOf_49, rn_nil, rn_iconst, rn_ldc2, rn_iadd, rn_isub, rn_imul, rn_iand, rn_ior, rn_ixor, rn_ishl, rn_ishr, rn_iushr, rn_ineg, rn_ladd, rn_lsub, rn_lmul, rn_land, rn_lor, rn_lshl, rn_lushr, rn_lcmp, rn_i2l, rn_l2i, rn_dupI, rn_dupR, rn_popI, rn_dup2, rn_idiv, rn_irem, rn_ldiv, rn_lrem, rn_dadd, rn_dsub, rn_dmul, rn_objinit, rn_iload, rn_lload, rn_aload, rn_istore, rn_astore, rn_lstore, rn_iinc, rn_getfield, rn_iaload, rn_laload, rn_aaload, rn_arraylength, rn_putfield, rn_iastore, rn_lastore, rn_goto, rn_ifCond_eq, rn_if_icmp_eq, rn_ifCond_ne, rn_if_icmp_ne, rn_ifCond_lt, rn_if_icmp_lt, rn_ifCond_ge, rn_if_icmp_ge, rn_ifCond_gt, rn_if_icmp_gt, rn_ifCond_le, rn_if_icmp_le, rn_ireturn, rn_lreturn, rn_return, rL_I, rL_L, rL_R, rS_t, rI_t, rG_s, rG_i, rP_s, rP_i, kq_v, kq_s, ok_0, ok_1I, ok_1R, ok_1N, ok_s, rc8_0, rc8_1, rc8_2, rc8_3, rc8_4, List.getElem?_cons_zero, List.getElem?_cons_succ, List.set_cons_zero, List.set_cons_succ, true_and, and_true, if_true, if_false, Int.toNat_natCast, Int.reduceToNat, Int.reduceAdd, Int.reduceSub, Int.reduceMul, Int.reduceNeg, Nat.reduceAdd, Int.reduceLT, Int.reduceLE, Int.reduceEq, reduceIte, w_ck_71, w_g_71_0, w_p_71_0, w_g_71_1, w_g_71_2, w_g_71_3, w_g_71_4, w_p_71_4, w_g_71_5, w_g_71_6, w_g_71_7, w_g_71_8, w_p_71_8, w_g_71_9, w_g_71_10, w_g_71_11, w_p_71_11, w_g_71_12, w_g_71_13, w_g_71_14, w_p_71_14, w_g_71_15, w_g_71_16, w_g_71_17, w_p_71_17, w_g_71_18, w_p_71_18, w_g_71_19, w_g_71_20, w_g_71_21, w_p_71_21, w_g_71_22, w_p_71_22, w_g_71_23, w_g_71_24, w_g_71_25, w_g_71_26, w_p_71_26_0, w_p_71_26_1, w_g_71_27, w_p_71_27, w_g_71_28, w_p_71_28, w_g_71_29, w_p_71_29, w_g_71_30, w_g_71_31, w_g_71_32, w_g_71_33, w_g_71_34, w_g_71_35, w_g_71_36, w_p_71_36, w_g_71_37, w_g_71_38, w_g_71_39, w_g_71_40, w_g_71_41, w_r_72, w_l_72, w_w_72, w_r_73, w_l_73, w_w_73, w_r_74, w_l_74, w_w_74, w_r_75, w_l_75, w_w_75, w_r_76, w_l_76, w_w_76, w_r_77, w_l_77, w_w_77, w_r_78, w_l_78, w_w_78, w_r_79, w_l_79, w_w_79, w_r_80, w_l_80, w_w_80, w_r_81, w_l_81, w_w_81, w_r_82, w_l_82, w_w_82, w_r_83, w_l_83, w_w_83, w_r_84, w_l_84, w_w_84, w_r_85, w_l_85, w_w_85, w_r_86, w_l_86, w_w_86, w_r_87, w_l_87, w_w_87, w_r_88, w_l_88, w_w_88, w_r_89, w_l_89, w_w_89, w_r_90, w_l_90, w_w_90, w_r_91, w_l_91, w_w_91, w_r_92, w_l_92, w_w_92, w_r_93, w_l_93, w_w_93, w_r_94, w_l_94, w_w_94, w_r_95, w_l_95, w_w_95, w_r_96, w_l_96, w_w_96, w_r_97, w_l_97, w_w_97, w_r_98, w_l_98, w_w_98, jI_add, jI_sub, jI_mul, jI_neg, jI_eq, jI_le, jI_lt, jI_eq0, jI_eq1, jI_lt0, jI_0lt, jI_le0, jI_0le, jI_clamp, jI_inBT, kL_0, kL_1, kL_2, kL_5, kL_6, kL_7, kL_10, kL_11, kL_15, kL_23, kL_31, kL_39, kL_97, kL_99, kL_104, kL_255, kL_349, kL_999, kL_1771561, kL_16777215, kL_4294967295, kL_18446744073709551615, jI_toL, rn_zB, rn_z0, rn_z1, jIB_eq0, jIB_eq1, jIB_eqJ, jB_def, jB_not, jB_and, jB_or, jB_nand, jB_nor, jB_ite, mrg, Decidable.not_not, ite_not, u2_s, u2_n, Int.add_sub_cancel, Int.sub_add_cancel, hF]
    rw [if_pos (by omega), rdM, show (i.toNat : Int) = i by omega]
  | n + 1, i, F, A, hn, hi, hR, hF, hA => by
    have a1 := hP i.toNat
    have hN := RI_go (c := P i.toNat) hR (by omega)
    obtain ⟨hw, hp, hl, hm', hi', hu, hd⟩ := hR
    rw [b_M_faultOf_22]
    simp (disch := omega) only [b_M_faultOf_30, rn_nil, rn_iconst, rn_ldc2, rn_iadd, rn_isub, rn_imul, rn_iand, rn_ior, rn_ixor, rn_ishl, rn_ishr, rn_iushr, rn_ineg, rn_ladd, rn_lsub, rn_lmul, rn_land, rn_lor, rn_lshl, rn_lushr, rn_lcmp, rn_i2l, rn_l2i, rn_dupI, rn_dupR, rn_popI, rn_dup2, rn_idiv, rn_irem, rn_ldiv, rn_lrem, rn_dadd, rn_dsub, rn_dmul, rn_objinit, rn_iload, rn_lload, rn_aload, rn_istore, rn_astore, rn_lstore, rn_iinc, rn_getfield, rn_iaload, rn_laload, rn_aaload, rn_arraylength, rn_putfield, rn_iastore, rn_lastore, rn_goto, rn_ifCond_eq, rn_if_icmp_eq, rn_ifCond_ne, rn_if_icmp_ne, rn_ifCond_lt, rn_if_icmp_lt, rn_ifCond_ge, rn_if_icmp_ge, rn_ifCond_gt, rn_if_icmp_gt, rn_ifCond_le, rn_if_icmp_le, rn_ireturn, rn_lreturn, rn_return, rL_I, rL_L, rL_R, rS_t, rI_t, rG_s, rG_i, rP_s, rP_i, kq_v, kq_s, ok_0, ok_1I, ok_1R, ok_1N, ok_s, rc8_0, rc8_1, rc8_2, rc8_3, rc8_4, List.getElem?_cons_zero, List.getElem?_cons_succ, List.set_cons_zero, List.set_cons_succ, true_and, and_true, if_true, if_false, Int.toNat_natCast, Int.reduceToNat, Int.reduceAdd, Int.reduceSub, Int.reduceMul, Int.reduceNeg, Nat.reduceAdd, Int.reduceLT, Int.reduceLE, Int.reduceEq, reduceIte, w_ck_71, w_g_71_0, w_p_71_0, w_g_71_1, w_g_71_2, w_g_71_3, w_g_71_4, w_p_71_4, w_g_71_5, w_g_71_6, w_g_71_7, w_g_71_8, w_p_71_8, w_g_71_9, w_g_71_10, w_g_71_11, w_p_71_11, w_g_71_12, w_g_71_13, w_g_71_14, w_p_71_14, w_g_71_15, w_g_71_16, w_g_71_17, w_p_71_17, w_g_71_18, w_p_71_18, w_g_71_19, w_g_71_20, w_g_71_21, w_p_71_21, w_g_71_22, w_p_71_22, w_g_71_23, w_g_71_24, w_g_71_25, w_g_71_26, w_p_71_26_0, w_p_71_26_1, w_g_71_27, w_p_71_27, w_g_71_28, w_p_71_28, w_g_71_29, w_p_71_29, w_g_71_30, w_g_71_31, w_g_71_32, w_g_71_33, w_g_71_34, w_g_71_35, w_g_71_36, w_p_71_36, w_g_71_37, w_g_71_38, w_g_71_39, w_g_71_40, w_g_71_41, w_r_72, w_l_72, w_w_72, w_r_73, w_l_73, w_w_73, w_r_74, w_l_74, w_w_74, w_r_75, w_l_75, w_w_75, w_r_76, w_l_76, w_w_76, w_r_77, w_l_77, w_w_77, w_r_78, w_l_78, w_w_78, w_r_79, w_l_79, w_w_79, w_r_80, w_l_80, w_w_80, w_r_81, w_l_81, w_w_81, w_r_82, w_l_82, w_w_82, w_r_83, w_l_83, w_w_83, w_r_84, w_l_84, w_w_84, w_r_85, w_l_85, w_w_85, w_r_86, w_l_86, w_w_86, w_r_87, w_l_87, w_w_87, w_r_88, w_l_88, w_w_88, w_r_89, w_l_89, w_w_89, w_r_90, w_l_90, w_w_90, w_r_91, w_l_91, w_w_91, w_r_92, w_l_92, w_w_92, w_r_93, w_l_93, w_w_93, w_r_94, w_l_94, w_w_94, w_r_95, w_l_95, w_w_95, w_r_96, w_l_96, w_w_96, w_r_97, w_l_97, w_w_97, w_r_98, w_l_98, w_w_98, jI_add, jI_sub, jI_mul, jI_neg, jI_eq, jI_le, jI_lt, jI_eq0, jI_eq1, jI_lt0, jI_0lt, jI_le0, jI_0le, jI_clamp, jI_inBT, kL_0, kL_1, kL_2, kL_5, kL_6, kL_7, kL_10, kL_11, kL_15, kL_23, kL_31, kL_39, kL_97, kL_99, kL_104, kL_255, kL_349, kL_999, kL_1771561, kL_16777215, kL_4294967295, kL_18446744073709551615, jI_toL, rn_zB, rn_z0, rn_z1, jIB_eq0, jIB_eq1, jIB_eqJ, jB_def, jB_not, jB_and, jB_or, jB_nand, jB_nor, jB_ite, mrg, Decidable.not_not, ite_not, u2_s, u2_n, Int.add_sub_cancel, Int.sub_add_cancel, hF, hA, c_M_go]
    rw [if_neg (by omega), s_M_go hw hp (by omega) (by omega) hu hd (by omega)]
    simp (disch := omega) only [b_M_faultOf_43, b_M_faultOf_49, rn_nil, rn_iconst, rn_ldc2, rn_iadd, rn_isub, rn_imul, rn_iand, rn_ior, rn_ixor, rn_ishl, rn_ishr, rn_iushr, rn_ineg, rn_ladd, rn_lsub, rn_lmul, rn_land, rn_lor, rn_lshl, rn_lushr, rn_lcmp, rn_i2l, rn_l2i, rn_dupI, rn_dupR, rn_popI, rn_dup2, rn_idiv, rn_irem, rn_ldiv, rn_lrem, rn_dadd, rn_dsub, rn_dmul, rn_objinit, rn_iload, rn_lload, rn_aload, rn_istore, rn_astore, rn_lstore, rn_iinc, rn_getfield, rn_iaload, rn_laload, rn_aaload, rn_arraylength, rn_putfield, rn_iastore, rn_lastore, rn_goto, rn_ifCond_eq, rn_if_icmp_eq, rn_ifCond_ne, rn_if_icmp_ne, rn_ifCond_lt, rn_if_icmp_lt, rn_ifCond_ge, rn_if_icmp_ge, rn_ifCond_gt, rn_if_icmp_gt, rn_ifCond_le, rn_if_icmp_le, rn_ireturn, rn_lreturn, rn_return, rL_I, rL_L, rL_R, rS_t, rI_t, rG_s, rG_i, rP_s, rP_i, kq_v, kq_s, ok_0, ok_1I, ok_1R, ok_1N, ok_s, rc8_0, rc8_1, rc8_2, rc8_3, rc8_4, List.getElem?_cons_zero, List.getElem?_cons_succ, List.set_cons_zero, List.set_cons_succ, true_and, and_true, if_true, if_false, Int.toNat_natCast, Int.reduceToNat, Int.reduceAdd, Int.reduceSub, Int.reduceMul, Int.reduceNeg, Nat.reduceAdd, Int.reduceLT, Int.reduceLE, Int.reduceEq, reduceIte, w_ck_71, w_g_71_0, w_p_71_0, w_g_71_1, w_g_71_2, w_g_71_3, w_g_71_4, w_p_71_4, w_g_71_5, w_g_71_6, w_g_71_7, w_g_71_8, w_p_71_8, w_g_71_9, w_g_71_10, w_g_71_11, w_p_71_11, w_g_71_12, w_g_71_13, w_g_71_14, w_p_71_14, w_g_71_15, w_g_71_16, w_g_71_17, w_p_71_17, w_g_71_18, w_p_71_18, w_g_71_19, w_g_71_20, w_g_71_21, w_p_71_21, w_g_71_22, w_p_71_22, w_g_71_23, w_g_71_24, w_g_71_25, w_g_71_26, w_p_71_26_0, w_p_71_26_1, w_g_71_27, w_p_71_27, w_g_71_28, w_p_71_28, w_g_71_29, w_p_71_29, w_g_71_30, w_g_71_31, w_g_71_32, w_g_71_33, w_g_71_34, w_g_71_35, w_g_71_36, w_p_71_36, w_g_71_37, w_g_71_38, w_g_71_39, w_g_71_40, w_g_71_41, w_r_72, w_l_72, w_w_72, w_r_73, w_l_73, w_w_73, w_r_74, w_l_74, w_w_74, w_r_75, w_l_75, w_w_75, w_r_76, w_l_76, w_w_76, w_r_77, w_l_77, w_w_77, w_r_78, w_l_78, w_w_78, w_r_79, w_l_79, w_w_79, w_r_80, w_l_80, w_w_80, w_r_81, w_l_81, w_w_81, w_r_82, w_l_82, w_w_82, w_r_83, w_l_83, w_w_83, w_r_84, w_l_84, w_w_84, w_r_85, w_l_85, w_w_85, w_r_86, w_l_86, w_w_86, w_r_87, w_l_87, w_w_87, w_r_88, w_l_88, w_w_88, w_r_89, w_l_89, w_w_89, w_r_90, w_l_90, w_w_90, w_r_91, w_l_91, w_w_91, w_r_92, w_l_92, w_w_92, w_r_93, w_l_93, w_w_93, w_r_94, w_l_94, w_w_94, w_r_95, w_l_95, w_w_95, w_r_96, w_l_96, w_w_96, w_r_97, w_l_97, w_w_97, w_r_98, w_l_98, w_w_98, jI_add, jI_sub, jI_mul, jI_neg, jI_eq, jI_le, jI_lt, jI_eq0, jI_eq1, jI_lt0, jI_0lt, jI_le0, jI_0le, jI_clamp, jI_inBT, kL_0, kL_1, kL_2, kL_5, kL_6, kL_7, kL_10, kL_11, kL_15, kL_23, kL_31, kL_39, kL_97, kL_99, kL_104, kL_255, kL_349, kL_999, kL_1771561, kL_16777215, kL_4294967295, kL_18446744073709551615, jI_toL, rn_zB, rn_z0, rn_z1, jIB_eq0, jIB_eq1, jIB_eqJ, jB_def, jB_not, jB_and, jB_or, jB_nand, jB_nor, jB_ite, mrg, Decidable.not_not, ite_not, u2_s, u2_n, Int.add_sub_cancel, Int.sub_add_cancel]
    have eG : (goM F A (P i.toNat)).2.1 71 21 = m ∧ (goM F A (P i.toNat)).2.2 85 = P := goM_k hF hA
    rw [rdM]
    by_cases g : (goM F A (P i.toNat)).1 = true
    · rw [if_pos g, if_pos g, s_M_faultOf_22 hP hm n (i + 1) _ _ (by omega) (by omega) hN eG.1 eG.2, show (i + 1).toNat = i.toNat + 1 by omega]
    · rw [if_neg g, if_neg g, show (i.toNat : Int) = i by omega]
/-- the state before a page is read -/
def st0 (F : Nat → Nat → Int) : Nat → Nat → Int := u2 (u2 (u2 (u2 F 71 26 1) 71 27 (-1)) 71 28 0) 71 29 0
def fltM (F A : Nat → Nat → Int) : Nat × (Nat → Nat → Int) × (Nat → Nat → Int) := rdM (A 85) (st0 F) A 0 (F 71 21).toNat
theorem RI_st0 {F A : Nat → Nat → Int} (hw : ∀ i, 0 ≤ A 91 i ∧ A 91 i ≤ 40) (hp : ∀ i, -1 ≤ A 89 i ∧ A 89 i ≤ 39) : RI (st0 F) A 0 0 := by
  have e9 : st0 F 71 29 = 0 := u2_s
  have e8 : st0 F 71 28 = 0 := by unfold st0; rw [u2_n (by omega), u2_s]
  have e7 : st0 F 71 27 = -1 := by unfold st0; rw [u2_n (by omega), u2_n (by omega), u2_s]
  have e6 : st0 F 71 26 = 1 := by unfold st0; rw [u2_n (by omega), u2_n (by omega), u2_n (by omega), u2_s]
  unfold RI
  rw [e9, e8, e7, e6]
  exact ⟨hw, hp, fun i g => by omega, by omega, by omega, by omega, by omega⟩
theorem s_M_faultOf (hP : ∀ i, 0 ≤ A 85 i ∧ A 85 i ≤ 255) (hw : ∀ i, 0 ≤ A 91 i ∧ A 91 i ≤ 40) (hp : ∀ i, -1 ≤ A 89 i ∧ A 89 i ≤ 39) (hm : 0 ≤ F 71 21 ∧ F 71 21 ≤ 40) :
    Rj (d + 3) 169 0 [.ref 71, .null] [] (HW L xs F A B hs t1 t2) Q = Q (some (.int (jI ((fltM F A).1 : Int)))) (HW L xs (fltM F A).2.1 (fltM F A).2.2 B hs t1 t2) := by
  rw [b_M_faultOf_0]
  simp (disch := omega) only [rn_nil, rn_iconst, rn_ldc2, rn_iadd, rn_isub, rn_imul, rn_iand, rn_ior, rn_ixor, rn_ishl, rn_ishr, rn_iushr, rn_ineg, rn_ladd, rn_lsub, rn_lmul, rn_land, rn_lor, rn_lshl, rn_lushr, rn_lcmp, rn_i2l, rn_l2i, rn_dupI, rn_dupR, rn_popI, rn_dup2, rn_idiv, rn_irem, rn_ldiv, rn_lrem, rn_dadd, rn_dsub, rn_dmul, rn_objinit, rn_iload, rn_lload, rn_aload, rn_istore, rn_astore, rn_lstore, rn_iinc, rn_getfield, rn_iaload, rn_laload, rn_aaload, rn_arraylength, rn_putfield, rn_iastore, rn_lastore, rn_goto, rn_ifCond_eq, rn_if_icmp_eq, rn_ifCond_ne, rn_if_icmp_ne, rn_ifCond_lt, rn_if_icmp_lt, rn_ifCond_ge, rn_if_icmp_ge, rn_ifCond_gt, rn_if_icmp_gt, rn_ifCond_le, rn_if_icmp_le, rn_ireturn, rn_lreturn, rn_return, rL_I, rL_L, rL_R, rS_t, rI_t, rG_s, rG_i, rP_s, rP_i, kq_v, kq_s, ok_0, ok_1I, ok_1R, ok_1N, ok_s, rc8_0, rc8_1, rc8_2, rc8_3, rc8_4, List.getElem?_cons_zero, List.getElem?_cons_succ, List.set_cons_zero, List.set_cons_succ, true_and, and_true, if_true, if_false, Int.toNat_natCast, Int.reduceToNat, Int.reduceAdd, Int.reduceSub, Int.reduceMul, Int.reduceNeg, Nat.reduceAdd, Int.reduceLT, Int.reduceLE, Int.reduceEq, reduceIte, w_ck_71, w_g_71_0, w_p_71_0, w_g_71_1, w_g_71_2, w_g_71_3, w_g_71_4, w_p_71_4, w_g_71_5, w_g_71_6, w_g_71_7, w_g_71_8, w_p_71_8, w_g_71_9, w_g_71_10, w_g_71_11, w_p_71_11, w_g_71_12, w_g_71_13, w_g_71_14, w_p_71_14, w_g_71_15, w_g_71_16, w_g_71_17, w_p_71_17, w_g_71_18, w_p_71_18, w_g_71_19, w_g_71_20, w_g_71_21, w_p_71_21, w_g_71_22, w_p_71_22, w_g_71_23, w_g_71_24, w_g_71_25, w_g_71_26, w_p_71_26_0, w_p_71_26_1, w_g_71_27, w_p_71_27, w_g_71_28, w_p_71_28, w_g_71_29, w_p_71_29, w_g_71_30, w_g_71_31, w_g_71_32, w_g_71_33, w_g_71_34, w_g_71_35, w_g_71_36, w_p_71_36, w_g_71_37, w_g_71_38, w_g_71_39, w_g_71_40, w_g_71_41, w_r_72, w_l_72, w_w_72, w_r_73, w_l_73, w_w_73, w_r_74, w_l_74, w_w_74, w_r_75, w_l_75, w_w_75, w_r_76, w_l_76, w_w_76, w_r_77, w_l_77, w_w_77, w_r_78, w_l_78, w_w_78, w_r_79, w_l_79, w_w_79, w_r_80, w_l_80, w_w_80, w_r_81, w_l_81, w_w_81, w_r_82, w_l_82, w_w_82, w_r_83, w_l_83, w_w_83, w_r_84, w_l_84, w_w_84, w_r_85, w_l_85, w_w_85, w_r_86, w_l_86, w_w_86, w_r_87, w_l_87, w_w_87, w_r_88, w_l_88, w_w_88, w_r_89, w_l_89, w_w_89, w_r_90, w_l_90, w_w_90, w_r_91, w_l_91, w_w_91, w_r_92, w_l_92, w_w_92, w_r_93, w_l_93, w_w_93, w_r_94, w_l_94, w_w_94, w_r_95, w_l_95, w_w_95, w_r_96, w_l_96, w_w_96, w_r_97, w_l_97, w_w_97, w_r_98, w_l_98, w_w_98, jI_add, jI_sub, jI_mul, jI_neg, jI_eq, jI_le, jI_lt, jI_eq0, jI_eq1, jI_lt0, jI_0lt, jI_le0, jI_0le, jI_clamp, jI_inBT, kL_0, kL_1, kL_2, kL_5, kL_6, kL_7, kL_10, kL_11, kL_15, kL_23, kL_31, kL_39, kL_97, kL_99, kL_104, kL_255, kL_349, kL_999, kL_1771561, kL_16777215, kL_4294967295, kL_18446744073709551615, jI_toL, rn_zB, rn_z0, rn_z1, jIB_eq0, jIB_eq1, jIB_eqJ, jB_def, jB_not, jB_and, jB_or, jB_nand, jB_nor, jB_ite, mrg, Decidable.not_not, ite_not, u2_s, u2_n, Int.add_sub_cancel, Int.sub_add_cancel]
  rw [show u2 (u2 (u2 (u2 F 71 26 1) 71 27 (-1)) 71 28 0) 71 29 0 = st0 F from rfl]
  rw [s_M_faultOf_22 hP hm (F 71 21).toNat 0 _ _ (by omega) (by omega) (RI_st0 hw hp) (by unfold st0; rw [u2_n (by omega), u2_n (by omega), u2_n (by omega), u2_n (by omega)]) rfl]
  rfl
theorem s_M_fault (hP : ∀ i, 0 ≤ A 85 i ∧ A 85 i ≤ 255) (hw : ∀ i, 0 ≤ A 91 i ∧ A 91 i ≤ 40) (hp : ∀ i, -1 ≤ A 89 i ∧ A 89 i ≤ 39) (hm : 0 ≤ F 71 21 ∧ F 71 21 ≤ 40) :
    Rj (d + 4) 168 0 [.ref 71] [] (HW L xs F A B hs t1 t2) Q = Q (some (.int (jI ((fltM F A).1 : Int)))) (HW L xs (fltM F A).2.1 (fltM F A).2.2 B hs t1 t2) := by
  simp (disch := omega) only [b_M_fault_0, rn_nil, rn_iconst, rn_ldc2, rn_iadd, rn_isub, rn_imul, rn_iand, rn_ior, rn_ixor, rn_ishl, rn_ishr, rn_iushr, rn_ineg, rn_ladd, rn_lsub, rn_lmul, rn_land, rn_lor, rn_lshl, rn_lushr, rn_lcmp, rn_i2l, rn_l2i, rn_dupI, rn_dupR, rn_popI, rn_dup2, rn_idiv, rn_irem, rn_ldiv, rn_lrem, rn_dadd, rn_dsub, rn_dmul, rn_objinit, rn_iload, rn_lload, rn_aload, rn_istore, rn_astore, rn_lstore, rn_iinc, rn_getfield, rn_iaload, rn_laload, rn_aaload, rn_arraylength, rn_putfield, rn_iastore, rn_lastore, rn_goto, rn_ifCond_eq, rn_if_icmp_eq, rn_ifCond_ne, rn_if_icmp_ne, rn_ifCond_lt, rn_if_icmp_lt, rn_ifCond_ge, rn_if_icmp_ge, rn_ifCond_gt, rn_if_icmp_gt, rn_ifCond_le, rn_if_icmp_le, rn_ireturn, rn_lreturn, rn_return, rL_I, rL_L, rL_R, rS_t, rI_t, rG_s, rG_i, rP_s, rP_i, kq_v, kq_s, ok_0, ok_1I, ok_1R, ok_1N, ok_s, rc8_0, rc8_1, rc8_2, rc8_3, rc8_4, List.getElem?_cons_zero, List.getElem?_cons_succ, List.set_cons_zero, List.set_cons_succ, true_and, and_true, if_true, if_false, Int.toNat_natCast, Int.reduceToNat, Int.reduceAdd, Int.reduceSub, Int.reduceMul, Int.reduceNeg, Nat.reduceAdd, Int.reduceLT, Int.reduceLE, Int.reduceEq, reduceIte, w_ck_71, w_g_71_0, w_p_71_0, w_g_71_1, w_g_71_2, w_g_71_3, w_g_71_4, w_p_71_4, w_g_71_5, w_g_71_6, w_g_71_7, w_g_71_8, w_p_71_8, w_g_71_9, w_g_71_10, w_g_71_11, w_p_71_11, w_g_71_12, w_g_71_13, w_g_71_14, w_p_71_14, w_g_71_15, w_g_71_16, w_g_71_17, w_p_71_17, w_g_71_18, w_p_71_18, w_g_71_19, w_g_71_20, w_g_71_21, w_p_71_21, w_g_71_22, w_p_71_22, w_g_71_23, w_g_71_24, w_g_71_25, w_g_71_26, w_p_71_26_0, w_p_71_26_1, w_g_71_27, w_p_71_27, w_g_71_28, w_p_71_28, w_g_71_29, w_p_71_29, w_g_71_30, w_g_71_31, w_g_71_32, w_g_71_33, w_g_71_34, w_g_71_35, w_g_71_36, w_p_71_36, w_g_71_37, w_g_71_38, w_g_71_39, w_g_71_40, w_g_71_41, w_r_72, w_l_72, w_w_72, w_r_73, w_l_73, w_w_73, w_r_74, w_l_74, w_w_74, w_r_75, w_l_75, w_w_75, w_r_76, w_l_76, w_w_76, w_r_77, w_l_77, w_w_77, w_r_78, w_l_78, w_w_78, w_r_79, w_l_79, w_w_79, w_r_80, w_l_80, w_w_80, w_r_81, w_l_81, w_w_81, w_r_82, w_l_82, w_w_82, w_r_83, w_l_83, w_w_83, w_r_84, w_l_84, w_w_84, w_r_85, w_l_85, w_w_85, w_r_86, w_l_86, w_w_86, w_r_87, w_l_87, w_w_87, w_r_88, w_l_88, w_w_88, w_r_89, w_l_89, w_w_89, w_r_90, w_l_90, w_w_90, w_r_91, w_l_91, w_w_91, w_r_92, w_l_92, w_w_92, w_r_93, w_l_93, w_w_93, w_r_94, w_l_94, w_w_94, w_r_95, w_l_95, w_w_95, w_r_96, w_l_96, w_w_96, w_r_97, w_l_97, w_w_97, w_r_98, w_l_98, w_w_98, jI_add, jI_sub, jI_mul, jI_neg, jI_eq, jI_le, jI_lt, jI_eq0, jI_eq1, jI_lt0, jI_0lt, jI_le0, jI_0le, jI_clamp, jI_inBT, kL_0, kL_1, kL_2, kL_5, kL_6, kL_7, kL_10, kL_11, kL_15, kL_23, kL_31, kL_39, kL_97, kL_99, kL_104, kL_255, kL_349, kL_999, kL_1771561, kL_16777215, kL_4294967295, kL_18446744073709551615, jI_toL, rn_zB, rn_z0, rn_z1, jIB_eq0, jIB_eq1, jIB_eqJ, jB_def, jB_not, jB_and, jB_or, jB_nand, jB_nor, jB_ite, mrg, Decidable.not_not, ite_not, u2_s, u2_n, Int.add_sub_cancel, Int.sub_add_cancel, c_M_faultOf, s_M_faultOf hP hw hp]
/-- the tree told: copied from node i on, n of them -/
def cpT : (Nat → Nat → Int) → Nat → Nat → (Nat → Nat → Int)
  | A, _, 0 => A
  | A, i, n + 1 => cpT (u2 (u2 A 86 i (A 89 i)) 87 i (A 90 i)) (i + 1) n
theorem s_M_tree_39 {m : Int} (hm : 0 ≤ m ∧ m ≤ 40) :
    ∀ (n : Nat) (i : Int) (A : Nat → Nat → Int), i + n = m → 0 ≤ i → F 71 22 = m → Rj d 173 39 [.ref 71, .int (jI i)] [] (HW L xs F A B hs t1 t2) Q =
      Q (some (.int (jI m))) (HW L xs (u2 F 71 21 0) (cpT A i.toNat n) B hs t1 t2)
  | 0, i, A, hn, hi, hF => by
    rw [b_M_tree_39]
    simp (disch := omega) only [b_M_tree_77, rn_nil, rn_iconst, rn_ldc2, rn_iadd, rn_isub, rn_imul, rn_iand, rn_ior, rn_ixor, rn_ishl, rn_ishr, rn_iushr, rn_ineg, rn_ladd, rn_lsub, rn_lmul, rn_land, rn_lor, rn_lshl, rn_lushr, rn_lcmp, rn_i2l, rn_l2i, rn_dupI, rn_dupR, rn_popI, rn_dup2, rn_idiv, rn_irem, rn_ldiv, rn_lrem, rn_dadd, rn_dsub, rn_dmul, rn_objinit, rn_iload, rn_lload, rn_aload, rn_istore, rn_astore, rn_lstore, rn_iinc, rn_getfield, rn_iaload, rn_laload, rn_aaload, rn_arraylength, rn_putfield, rn_iastore, rn_lastore, rn_goto, rn_ifCond_eq, rn_if_icmp_eq, rn_ifCond_ne, rn_if_icmp_ne, rn_ifCond_lt, rn_if_icmp_lt, rn_ifCond_ge, rn_if_icmp_ge, rn_ifCond_gt, rn_if_icmp_gt, rn_ifCond_le, rn_if_icmp_le, rn_ireturn, rn_lreturn, rn_return, rL_I, rL_L, rL_R, rS_t, rI_t, rG_s, rG_i, rP_s, rP_i, kq_v, kq_s, ok_0, ok_1I, ok_1R, ok_1N, ok_s, rc8_0, rc8_1, rc8_2, rc8_3, rc8_4, List.getElem?_cons_zero, List.getElem?_cons_succ, List.set_cons_zero, List.set_cons_succ, true_and, and_true, if_true, if_false, Int.toNat_natCast, Int.reduceToNat, Int.reduceAdd, Int.reduceSub, Int.reduceMul, Int.reduceNeg, Nat.reduceAdd, Int.reduceLT, Int.reduceLE, Int.reduceEq, reduceIte, w_ck_71, w_g_71_0, w_p_71_0, w_g_71_1, w_g_71_2, w_g_71_3, w_g_71_4, w_p_71_4, w_g_71_5, w_g_71_6, w_g_71_7, w_g_71_8, w_p_71_8, w_g_71_9, w_g_71_10, w_g_71_11, w_p_71_11, w_g_71_12, w_g_71_13, w_g_71_14, w_p_71_14, w_g_71_15, w_g_71_16, w_g_71_17, w_p_71_17, w_g_71_18, w_p_71_18, w_g_71_19, w_g_71_20, w_g_71_21, w_p_71_21, w_g_71_22, w_p_71_22, w_g_71_23, w_g_71_24, w_g_71_25, w_g_71_26, w_p_71_26_0, w_p_71_26_1, w_g_71_27, w_p_71_27, w_g_71_28, w_p_71_28, w_g_71_29, w_p_71_29, w_g_71_30, w_g_71_31, w_g_71_32, w_g_71_33, w_g_71_34, w_g_71_35, w_g_71_36, w_p_71_36, w_g_71_37, w_g_71_38, w_g_71_39, w_g_71_40, w_g_71_41, w_r_72, w_l_72, w_w_72, w_r_73, w_l_73, w_w_73, w_r_74, w_l_74, w_w_74, w_r_75, w_l_75, w_w_75, w_r_76, w_l_76, w_w_76, w_r_77, w_l_77, w_w_77, w_r_78, w_l_78, w_w_78, w_r_79, w_l_79, w_w_79, w_r_80, w_l_80, w_w_80, w_r_81, w_l_81, w_w_81, w_r_82, w_l_82, w_w_82, w_r_83, w_l_83, w_w_83, w_r_84, w_l_84, w_w_84, w_r_85, w_l_85, w_w_85, w_r_86, w_l_86, w_w_86, w_r_87, w_l_87, w_w_87, w_r_88, w_l_88, w_w_88, w_r_89, w_l_89, w_w_89, w_r_90, w_l_90, w_w_90, w_r_91, w_l_91, w_w_91, w_r_92, w_l_92, w_w_92, w_r_93, w_l_93, w_w_93, w_r_94, w_l_94, w_w_94, w_r_95, w_l_95, w_w_95, w_r_96, w_l_96, w_w_96, w_r_97, w_l_97, w_w_97, w_r_98, w_l_98, w_w_98, jI_add, jI_sub, jI_mul, jI_neg, jI_eq, jI_le, jI_lt, jI_eq0, jI_eq1, jI_lt0, jI_0lt, jI_le0, jI_0le, jI_clamp, jI_inBT, kL_0, kL_1, kL_2, kL_5, kL_6, kL_7, kL_10, kL_11, kL_15, kL_23, kL_31, kL_39, kL_97, kL_99, kL_104, kL_255, kL_349, kL_999, kL_1771561, kL_16777215, kL_4294967295, kL_18446744073709551615, jI_toL, rn_zB, rn_z0, rn_z1, jIB_eq0, jIB_eq1, jIB_eqJ, jB_def, jB_not, jB_and, jB_or, jB_nand, jB_nor, jB_ite, mrg, Decidable.not_not, ite_not, u2_s, u2_n, Int.add_sub_cancel, Int.sub_add_cancel, hF]
    rw [if_pos (by omega), cpT]
  | n + 1, i, A, hn, hi, hF => by
    rw [b_M_tree_39]
    simp (disch := omega) only [b_M_tree_47, rn_nil, rn_iconst, rn_ldc2, rn_iadd, rn_isub, rn_imul, rn_iand, rn_ior, rn_ixor, rn_ishl, rn_ishr, rn_iushr, rn_ineg, rn_ladd, rn_lsub, rn_lmul, rn_land, rn_lor, rn_lshl, rn_lushr, rn_lcmp, rn_i2l, rn_l2i, rn_dupI, rn_dupR, rn_popI, rn_dup2, rn_idiv, rn_irem, rn_ldiv, rn_lrem, rn_dadd, rn_dsub, rn_dmul, rn_objinit, rn_iload, rn_lload, rn_aload, rn_istore, rn_astore, rn_lstore, rn_iinc, rn_getfield, rn_iaload, rn_laload, rn_aaload, rn_arraylength, rn_putfield, rn_iastore, rn_lastore, rn_goto, rn_ifCond_eq, rn_if_icmp_eq, rn_ifCond_ne, rn_if_icmp_ne, rn_ifCond_lt, rn_if_icmp_lt, rn_ifCond_ge, rn_if_icmp_ge, rn_ifCond_gt, rn_if_icmp_gt, rn_ifCond_le, rn_if_icmp_le, rn_ireturn, rn_lreturn, rn_return, rL_I, rL_L, rL_R, rS_t, rI_t, rG_s, rG_i, rP_s, rP_i, kq_v, kq_s, ok_0, ok_1I, ok_1R, ok_1N, ok_s, rc8_0, rc8_1, rc8_2, rc8_3, rc8_4, List.getElem?_cons_zero, List.getElem?_cons_succ, List.set_cons_zero, List.set_cons_succ, true_and, and_true, if_true, if_false, Int.toNat_natCast, Int.reduceToNat, Int.reduceAdd, Int.reduceSub, Int.reduceMul, Int.reduceNeg, Nat.reduceAdd, Int.reduceLT, Int.reduceLE, Int.reduceEq, reduceIte, w_ck_71, w_g_71_0, w_p_71_0, w_g_71_1, w_g_71_2, w_g_71_3, w_g_71_4, w_p_71_4, w_g_71_5, w_g_71_6, w_g_71_7, w_g_71_8, w_p_71_8, w_g_71_9, w_g_71_10, w_g_71_11, w_p_71_11, w_g_71_12, w_g_71_13, w_g_71_14, w_p_71_14, w_g_71_15, w_g_71_16, w_g_71_17, w_p_71_17, w_g_71_18, w_p_71_18, w_g_71_19, w_g_71_20, w_g_71_21, w_p_71_21, w_g_71_22, w_p_71_22, w_g_71_23, w_g_71_24, w_g_71_25, w_g_71_26, w_p_71_26_0, w_p_71_26_1, w_g_71_27, w_p_71_27, w_g_71_28, w_p_71_28, w_g_71_29, w_p_71_29, w_g_71_30, w_g_71_31, w_g_71_32, w_g_71_33, w_g_71_34, w_g_71_35, w_g_71_36, w_p_71_36, w_g_71_37, w_g_71_38, w_g_71_39, w_g_71_40, w_g_71_41, w_r_72, w_l_72, w_w_72, w_r_73, w_l_73, w_w_73, w_r_74, w_l_74, w_w_74, w_r_75, w_l_75, w_w_75, w_r_76, w_l_76, w_w_76, w_r_77, w_l_77, w_w_77, w_r_78, w_l_78, w_w_78, w_r_79, w_l_79, w_w_79, w_r_80, w_l_80, w_w_80, w_r_81, w_l_81, w_w_81, w_r_82, w_l_82, w_w_82, w_r_83, w_l_83, w_w_83, w_r_84, w_l_84, w_w_84, w_r_85, w_l_85, w_w_85, w_r_86, w_l_86, w_w_86, w_r_87, w_l_87, w_w_87, w_r_88, w_l_88, w_w_88, w_r_89, w_l_89, w_w_89, w_r_90, w_l_90, w_w_90, w_r_91, w_l_91, w_w_91, w_r_92, w_l_92, w_w_92, w_r_93, w_l_93, w_w_93, w_r_94, w_l_94, w_w_94, w_r_95, w_l_95, w_w_95, w_r_96, w_l_96, w_w_96, w_r_97, w_l_97, w_w_97, w_r_98, w_l_98, w_w_98, jI_add, jI_sub, jI_mul, jI_neg, jI_eq, jI_le, jI_lt, jI_eq0, jI_eq1, jI_lt0, jI_0lt, jI_le0, jI_0le, jI_clamp, jI_inBT, kL_0, kL_1, kL_2, kL_5, kL_6, kL_7, kL_10, kL_11, kL_15, kL_23, kL_31, kL_39, kL_97, kL_99, kL_104, kL_255, kL_349, kL_999, kL_1771561, kL_16777215, kL_4294967295, kL_18446744073709551615, jI_toL, rn_zB, rn_z0, rn_z1, jIB_eq0, jIB_eq1, jIB_eqJ, jB_def, jB_not, jB_and, jB_or, jB_nand, jB_nor, jB_ite, mrg, Decidable.not_not, ite_not, u2_s, u2_n, Int.add_sub_cancel, Int.sub_add_cancel, hF]
    trace_state
    rw [if_neg (by omega), s_M_tree_39 hm n (i + 1) _ (by omega) (by omega) hF, cpT, show (i + 1).toNat = i.toNat + 1 by omega]
end M15
