/-! THE REFERENCE: leastChanges, bounds -/
theorem minS_mono {f : Nat → Int} : ∀ (n i : Nat) (m m' : Int), m ≤ m' → minS f i n m ≤ minS f i n m'
  | 0, i, m, m', h => h
  | n + 1, i, m, m', h => minS_mono n (i + 1) _ _ (by split <;> split <;> omega)
theorem minS_le {f : Nat → Int} : ∀ (n i : Nat) (m : Int), minS f i n m ≤ m
  | 0, i, m => Int.le_refl _
  | n + 1, i, m => by
    rw [minS]
    exact Int.le_trans (minS_le n (i + 1) _) (by split <;> omega)
theorem minS_at {f : Nat → Int} : ∀ (n i w : Nat) (m : Int), i ≤ w → w < i + n → minS f i n m ≤ f w
  | 0, i, w, m, h1, h2 => by omega
  | n + 1, i, w, m, h1, h2 => by
    rw [minS]
    by_cases g : w = i
    · rw [g]
      exact Int.le_trans (minS_le n (i + 1) _) (by split <;> omega)
    · exact minS_at n (i + 1) w _ (by omega) (by omega)
/-- what a node costs at most -/
def cst (A : Nat → Nat → Int) (j : Nat) : Int := minS (fun w => A 92 (8 * j + w) + 1) 0 8 100001
theorem cst_0 {A : Nat → Nat → Int} (hW : ∀ i, 0 ≤ A 92 i ∧ A 92 i ≤ 100000) (j : Nat) : 0 ≤ cst A j := (minS_rng (lo := 0) (hi := 100001) (fun i => by have := hW (8 * j + i); omega) 8 0 100001 (by omega)).1
theorem lst_cst {A : Nat → Nat → Int} (hW : ∀ i, 0 ≤ A 92 i ∧ A 92 i ≤ 100000) (j v : Nat) : lstM A j v ≤ cst A j := minS_mono 8 0 _ _ (by have := hW (8 * j + v); omega)
theorem cst_congr {A A' : Nat → Nat → Int} {j : Nat} (h : ∀ i, 8 * j ≤ i → A 92 i = A' 92 i) : cst A j = cst A' j := by
  unfold cst
  rw [show (fun w => A 92 (8 * j + w) + 1) = (fun w => A' 92 (8 * j + w) + 1) from funext fun w => by rw [h _ (by omega)]]
/-- the costs of the nodes from j on, k of them, whose parent is before n -/
def pot (A : Nat → Nat → Int) (n : Nat) : Nat → Nat → Int
  | _, 0 => 0
  | j, k + 1 => (if A 86 j < n then cst A j else 0) + pot A n (j + 1) k
theorem pot_congr {A A' : Nat → Nat → Int} {n j0 : Nat} (hp : A 86 = A' 86) (h : ∀ i, 8 * j0 ≤ i → A 92 i = A' 92 i) : ∀ (k j : Nat), j0 ≤ j → pot A n j k = pot A' n j k
  | 0, j, hj => rfl
  | k + 1, j, hj => by
    rw [pot, pot, pot_congr hp h k (j + 1) (by omega), hp, cst_congr (fun i hi => h i (by omega))]
theorem pot_0 {A : Nat → Nat → Int} (hW : ∀ i, 0 ≤ A 92 i ∧ A 92 i ≤ 100000) {n : Nat} : ∀ (k j : Nat), 0 ≤ pot A n j k
  | 0, j => Int.le_refl _
  | k + 1, j => by
    have := pot_0 hW (n := n) k (j + 1)
    have := cst_0 hW j
    rw [pot]
    split <;> omega
theorem pot_step {A : Nat → Nat → Int} (hW : ∀ i, 0 ≤ A 92 i ∧ A 92 i ≤ 100000) {n v : Nat} : ∀ (k j : Nat), 0 ≤ blwM A n v j k ∧ blwM A n v j k + pot A n j k ≤ pot A (n + 1) j k
  | 0, j => by simp [blwM, pot]
  | k + 1, j => by
    have h1 := pot_step hW (n := n) (v := v) k (j + 1)
    have h2 := cst_0 hW j
    have h3 := lst_cst hW j v
    have h4 := (lstM_rng hW j v).1
    rw [blwM, pot, pot]
    by_cases g : A 86 j = n
    · rw [if_pos g, if_neg (by omega), if_pos (by omega)]
      omega
    · rw [if_neg g]
      by_cases g2 : A 86 j < n
      · rw [if_pos g2, if_pos (by omega)]
        omega
      · rw [if_neg g2, if_neg (by omega)]
        omega
theorem rowM_f {m n : Nat} {b : Int} {a i : Nat} (h : ¬ (a = 92 ∧ 8 * n ≤ i ∧ i < 8 * n + 8)) : ∀ (k v : Nat) (A : Nat → Nat → Int), v + k = 8 → rowM m n b A v k a i = A a i
  | 0, v, A, hv => rfl
  | k + 1, v, A, hv => by
    rw [rowM, rowM_f h k (v + 1) _ (by omega), u2_n (by omega)]
theorem rowM_at {m n : Nat} {b : Int} {w : Nat} : ∀ (k v : Nat) (A : Nat → Nat → Int), v + k = 8 → w < 8 → rowM m n b A v k 92 (8 * n + w) = if v ≤ w then basM b w + blwM A n w (n + 1) (m - (n + 1)) else A 92 (8 * n + w)
  | 0, v, A, hv, hw => by
    rw [rowM, if_neg (by omega)]
  | k + 1, v, A, hv, hw => by
    rw [rowM, rowM_at k (v + 1) _ (by omega) hw]
    have e1 : blwM (u2 A 92 (8 * n + v) (basM b v + blwM A n v (n + 1) (m - (n + 1)))) n w (n + 1) (m - (n + 1)) = blwM A n w (n + 1) (m - (n + 1)) :=
      blwM_congr (j0 := n + 1) (u2_a (by omega)) (fun i hi => u2_n (by omega)) _ _ (by omega)
    rw [e1]
    by_cases g : v = w
    · rw [if_neg (by omega), if_pos (by omega), g, u2_s]
    · by_cases g2 : v ≤ w
      · rw [if_pos (by omega), if_pos g2]
      · rw [if_neg (by omega), if_neg g2, u2_n (by omega)]
/-- the word of node n, or -1 -/
def lndM (A : Nat → Nat → Int) (n : Nat) : Int := if A 87 n = -1 then -1 else A 88 (A 87 n).toNat
/-- all rows laid, from node k - 1 down -/
def allR (m : Nat) : (Nat → Nat → Int) → Nat → (Nat → Nat → Int)
  | A, 0 => A
  | A, k + 1 => allR m (rowM m k (lndM A k) A 0 8) k
section M18
variable {d : Nat} {Q : Option Value → am_H → Prop}
variable {L : Nat} {xs : Nat → Int32} {F : Nat → Nat → Int} {B : Nat → Int64} {hs : Int64} {t1 t2 : Nat}
theorem s_M_lc_7 {m : Int} (hm : 0 ≤ m ∧ m ≤ 40) (hF : F 71 22 = m) :
    ∀ (k : Nat) (A : Nat → Nat → Int) (v2 v3 v4 v5 : Value), k ≤ m.toNat → (∀ i, 0 ≤ A 92 i ∧ A 92 i ≤ 100000) → (∀ i, -1 ≤ A 86 i ∧ A 86 i ≤ 39) → (∀ i, -1 ≤ A 87 i ∧ A 87 i ≤ 7) → (∀ i, -1 ≤ A 88 i ∧ A 88 i ≤ 7) → pot A k k (m.toNat - k) ≤ m.toNat - k → Rj (d + 1) 176 7 [.ref 71, .int (jI ((k : Int) - 1)), v2, v3, v4, v5] [] (HW L xs F A B hs t1 t2) Q =
      Q (some (.int (jI (minS (allR m.toNat A k 92) 0 8 1000)))) (HW L xs F (allR m.toNat A k) B hs t1 t2)
  | 0, A, v2, v3, v4, v5, hk, hW, hP, hL, hV, hp => by
    rw [b_M_leastChanges_7]
    simp (disch := omega) only [b_M_leastChanges_139, rn_nil, rn_iconst, rn_ldc2, rn_iadd, rn_isub, rn_imul, rn_iand, rn_ior, rn_ixor, rn_ishl, rn_ishr, rn_iushr, rn_ineg, rn_ladd, rn_lsub, rn_lmul, rn_land, rn_lor, rn_lshl, rn_lushr, rn_lcmp, rn_i2l, rn_l2i, rn_dupI, rn_dupR, rn_popI, rn_dup2, rn_idiv, rn_irem, rn_ldiv, rn_lrem, rn_dadd, rn_dsub, rn_dmul, rn_objinit, rn_iload, rn_lload, rn_aload, rn_istore, rn_astore, rn_lstore, rn_iinc, rn_getfield, rn_iaload, rn_laload, rn_aaload, rn_arraylength, rn_putfield, rn_iastore, rn_lastore, rn_goto, rn_ifCond_eq, rn_if_icmp_eq, rn_ifCond_ne, rn_if_icmp_ne, rn_ifCond_lt, rn_if_icmp_lt, rn_ifCond_ge, rn_if_icmp_ge, rn_ifCond_gt, rn_if_icmp_gt, rn_ifCond_le, rn_if_icmp_le, rn_ireturn, rn_lreturn, rn_return, rL_I, rL_L, rL_R, rS_t, rI_t, rG_s, rG_i, rP_s, rP_i, kq_v, kq_s, ok_0, ok_1I, ok_1R, ok_1N, ok_s, rc8_0, rc8_1, rc8_2, rc8_3, rc8_4, List.getElem?_cons_zero, List.getElem?_cons_succ, List.set_cons_zero, List.set_cons_succ, true_and, and_true, if_true, if_false, Int.toNat_natCast, Int.reduceToNat, Int.reduceAdd, Int.reduceSub, Int.reduceMul, Int.reduceNeg, Nat.reduceAdd, Int.reduceLT, Int.reduceLE, Int.reduceEq, reduceIte, w_ck_71, w_g_71_0, w_p_71_0, w_g_71_1, w_g_71_2, w_g_71_3, w_g_71_4, w_p_71_4, w_g_71_5, w_g_71_6, w_g_71_7, w_g_71_8, w_p_71_8, w_g_71_9, w_g_71_10, w_g_71_11, w_p_71_11, w_g_71_12, w_g_71_13, w_g_71_14, w_p_71_14, w_g_71_15, w_g_71_16, w_g_71_17, w_p_71_17, w_g_71_18, w_p_71_18, w_g_71_19, w_g_71_20, w_g_71_21, w_p_71_21, w_g_71_22, w_p_71_22, w_g_71_23, w_g_71_24, w_g_71_25, w_g_71_26, w_p_71_26_0, w_p_71_26_1, w_g_71_27, w_p_71_27, w_g_71_28, w_p_71_28, w_g_71_29, w_p_71_29, w_g_71_30, w_g_71_31, w_g_71_32, w_g_71_33, w_g_71_34, w_g_71_35, w_g_71_36, w_p_71_36, w_g_71_37, w_g_71_38, w_g_71_39, w_g_71_40, w_g_71_41, w_r_72, w_l_72, w_w_72, w_r_73, w_l_73, w_w_73, w_r_74, w_l_74, w_w_74, w_r_75, w_l_75, w_w_75, w_r_76, w_l_76, w_w_76, w_r_77, w_l_77, w_w_77, w_r_78, w_l_78, w_w_78, w_r_79, w_l_79, w_w_79, w_r_80, w_l_80, w_w_80, w_r_81, w_l_81, w_w_81, w_r_82, w_l_82, w_w_82, w_r_83, w_l_83, w_w_83, w_r_84, w_l_84, w_w_84, w_r_85, w_l_85, w_w_85, w_r_86, w_l_86, w_w_86, w_r_87, w_l_87, w_w_87, w_r_88, w_l_88, w_w_88, w_r_89, w_l_89, w_w_89, w_r_90, w_l_90, w_w_90, w_r_91, w_l_91, w_w_91, w_r_92, w_l_92, w_w_92, w_r_93, w_l_93, w_w_93, w_r_94, w_l_94, w_w_94, w_r_95, w_l_95, w_w_95, w_r_96, w_l_96, w_w_96, w_r_97, w_l_97, w_w_97, w_r_98, w_l_98, w_w_98, jI_add, jI_sub, jI_mul, jI_neg, jI_eq, jI_le, jI_lt, jI_eq0, jI_eq1, jI_lt0, jI_0lt, jI_le0, jI_0le, jI_clamp, jI_inBT, kL_0, kL_1, kL_2, kL_5, kL_6, kL_7, kL_10, kL_11, kL_15, kL_23, kL_31, kL_39, kL_97, kL_99, kL_104, kL_255, kL_349, kL_999, kL_1771561, kL_16777215, kL_4294967295, kL_18446744073709551615, jI_toL, rn_zB, rn_z0, rn_z1, jIB_eq0, jIB_eq1, jIB_eqJ, jB_def, jB_not, jB_and, jB_or, jB_nand, jB_nor, jB_ite, mrg, Decidable.not_not, ite_not, u2_s, u2_n, Int.add_sub_cancel, Int.sub_add_cancel]
    rw [if_pos (by omega), s_M_lc_145 hW 8 0 1000 (by omega) (by omega) (by omega), allR]
    rfl
  | k + 1, A, v2, v3, v4, v5, hk, hW, hP, hL, hV, hp => by
    have c1 := hL k
    have c2 := hV (A 87 k).toNat
    have e0 : ((k + 1 : Nat) : Int) - 1 = k := by omega
    have hb : -1 ≤ lndM A k ∧ lndM A k ≤ 7 := by
      unfold lndM
      split <;> omega
    have hB : ∀ w, 0 ≤ blwM A (k : Int).toNat w ((k : Int).toNat + 1) (m.toNat - ((k : Int).toNat + 1)) ∧ blwM A (k : Int).toNat w ((k : Int).toNat + 1) (m.toNat - ((k : Int).toNat + 1)) ≤ 39 := by
      intro w
      have := pot_step hW (n := k) (v := w) (m.toNat - (k + 1)) (k + 1)
      have := pot_0 hW (n := k) (m.toNat - (k + 1)) (k + 1)
      rw [Int.toNat_natCast]
      omega
    obtain ⟨v4', v5', e3⟩ := s_M_lc_39 (d := d) (Q := Q) (L := L) (xs := xs) (B := B) (hs := hs) (t1 := t1) (t2 := t2) (n := k) hm (by omega) hb hF 8 0 A v4 v5 hW hP hB (by omega) (by omega)
    rw [Int.toNat_natCast] at e3
    rw [e0, b_M_leastChanges_7]
    simp (disch := omega) only [b_M_leastChanges_11, b_M_leastChanges_21, b_M_leastChanges_25, rn_nil, rn_iconst, rn_ldc2, rn_iadd, rn_isub, rn_imul, rn_iand, rn_ior, rn_ixor, rn_ishl, rn_ishr, rn_iushr, rn_ineg, rn_ladd, rn_lsub, rn_lmul, rn_land, rn_lor, rn_lshl, rn_lushr, rn_lcmp, rn_i2l, rn_l2i, rn_dupI, rn_dupR, rn_popI, rn_dup2, rn_idiv, rn_irem, rn_ldiv, rn_lrem, rn_dadd, rn_dsub, rn_dmul, rn_objinit, rn_iload, rn_lload, rn_aload, rn_istore, rn_astore, rn_lstore, rn_iinc, rn_getfield, rn_iaload, rn_laload, rn_aaload, rn_arraylength, rn_putfield, rn_iastore, rn_lastore, rn_goto, rn_ifCond_eq, rn_if_icmp_eq, rn_ifCond_ne, rn_if_icmp_ne, rn_ifCond_lt, rn_if_icmp_lt, rn_ifCond_ge, rn_if_icmp_ge, rn_ifCond_gt, rn_if_icmp_gt, rn_ifCond_le, rn_if_icmp_le, rn_ireturn, rn_lreturn, rn_return, rL_I, rL_L, rL_R, rS_t, rI_t, rG_s, rG_i, rP_s, rP_i, kq_v, kq_s, ok_0, ok_1I, ok_1R, ok_1N, ok_s, rc8_0, rc8_1, rc8_2, rc8_3, rc8_4, List.getElem?_cons_zero, List.getElem?_cons_succ, List.set_cons_zero, List.set_cons_succ, true_and, and_true, if_true, if_false, Int.toNat_natCast, Int.reduceToNat, Int.reduceAdd, Int.reduceSub, Int.reduceMul, Int.reduceNeg, Nat.reduceAdd, Int.reduceLT, Int.reduceLE, Int.reduceEq, reduceIte, w_ck_71, w_g_71_0, w_p_71_0, w_g_71_1, w_g_71_2, w_g_71_3, w_g_71_4, w_p_71_4, w_g_71_5, w_g_71_6, w_g_71_7, w_g_71_8, w_p_71_8, w_g_71_9, w_g_71_10, w_g_71_11, w_p_71_11, w_g_71_12, w_g_71_13, w_g_71_14, w_p_71_14, w_g_71_15, w_g_71_16, w_g_71_17, w_p_71_17, w_g_71_18, w_p_71_18, w_g_71_19, w_g_71_20, w_g_71_21, w_p_71_21, w_g_71_22, w_p_71_22, w_g_71_23, w_g_71_24, w_g_71_25, w_g_71_26, w_p_71_26_0, w_p_71_26_1, w_g_71_27, w_p_71_27, w_g_71_28, w_p_71_28, w_g_71_29, w_p_71_29, w_g_71_30, w_g_71_31, w_g_71_32, w_g_71_33, w_g_71_34, w_g_71_35, w_g_71_36, w_p_71_36, w_g_71_37, w_g_71_38, w_g_71_39, w_g_71_40, w_g_71_41, w_r_72, w_l_72, w_w_72, w_r_73, w_l_73, w_w_73, w_r_74, w_l_74, w_w_74, w_r_75, w_l_75, w_w_75, w_r_76, w_l_76, w_w_76, w_r_77, w_l_77, w_w_77, w_r_78, w_l_78, w_w_78, w_r_79, w_l_79, w_w_79, w_r_80, w_l_80, w_w_80, w_r_81, w_l_81, w_w_81, w_r_82, w_l_82, w_w_82, w_r_83, w_l_83, w_w_83, w_r_84, w_l_84, w_w_84, w_r_85, w_l_85, w_w_85, w_r_86, w_l_86, w_w_86, w_r_87, w_l_87, w_w_87, w_r_88, w_l_88, w_w_88, w_r_89, w_l_89, w_w_89, w_r_90, w_l_90, w_w_90, w_r_91, w_l_91, w_w_91, w_r_92, w_l_92, w_w_92, w_r_93, w_l_93, w_w_93, w_r_94, w_l_94, w_w_94, w_r_95, w_l_95, w_w_95, w_r_96, w_l_96, w_w_96, w_r_97, w_l_97, w_w_97, w_r_98, w_l_98, w_w_98, jI_add, jI_sub, jI_mul, jI_neg, jI_eq, jI_le, jI_lt, jI_eq0, jI_eq1, jI_lt0, jI_0lt, jI_le0, jI_0le, jI_clamp, jI_inBT, kL_0, kL_1, kL_2, kL_5, kL_6, kL_7, kL_10, kL_11, kL_15, kL_23, kL_31, kL_39, kL_97, kL_99, kL_104, kL_255, kL_349, kL_999, kL_1771561, kL_16777215, kL_4294967295, kL_18446744073709551615, jI_toL, rn_zB, rn_z0, rn_z1, jIB_eq0, jIB_eq1, jIB_eqJ, jB_def, jB_not, jB_and, jB_or, jB_nand, jB_nor, jB_ite, mrg, Decidable.not_not, ite_not, u2_s, u2_n, Int.add_sub_cancel, Int.sub_add_cancel]
    rw [if_neg (by omega), show (if A 87 k = -1 then -1 else A 88 (A 87 k).toNat) = lndM A k from rfl, b_M_leastChanges_36]
    simp (disch := omega) only [rn_nil, rn_iconst, rn_ldc2, rn_iadd, rn_isub, rn_imul, rn_iand, rn_ior, rn_ixor, rn_ishl, rn_ishr, rn_iushr, rn_ineg, rn_ladd, rn_lsub, rn_lmul, rn_land, rn_lor, rn_lshl, rn_lushr, rn_lcmp, rn_i2l, rn_l2i, rn_dupI, rn_dupR, rn_popI, rn_dup2, rn_idiv, rn_irem, rn_ldiv, rn_lrem, rn_dadd, rn_dsub, rn_dmul, rn_objinit, rn_iload, rn_lload, rn_aload, rn_istore, rn_astore, rn_lstore, rn_iinc, rn_getfield, rn_iaload, rn_laload, rn_aaload, rn_arraylength, rn_putfield, rn_iastore, rn_lastore, rn_goto, rn_ifCond_eq, rn_if_icmp_eq, rn_ifCond_ne, rn_if_icmp_ne, rn_ifCond_lt, rn_if_icmp_lt, rn_ifCond_ge, rn_if_icmp_ge, rn_ifCond_gt, rn_if_icmp_gt, rn_ifCond_le, rn_if_icmp_le, rn_ireturn, rn_lreturn, rn_return, rL_I, rL_L, rL_R, rS_t, rI_t, rG_s, rG_i, rP_s, rP_i, kq_v, kq_s, ok_0, ok_1I, ok_1R, ok_1N, ok_s, rc8_0, rc8_1, rc8_2, rc8_3, rc8_4, List.getElem?_cons_zero, List.getElem?_cons_succ, List.set_cons_zero, List.set_cons_succ, true_and, and_true, if_true, if_false, Int.toNat_natCast, Int.reduceToNat, Int.reduceAdd, Int.reduceSub, Int.reduceMul, Int.reduceNeg, Nat.reduceAdd, Int.reduceLT, Int.reduceLE, Int.reduceEq, reduceIte, w_ck_71, w_g_71_0, w_p_71_0, w_g_71_1, w_g_71_2, w_g_71_3, w_g_71_4, w_p_71_4, w_g_71_5, w_g_71_6, w_g_71_7, w_g_71_8, w_p_71_8, w_g_71_9, w_g_71_10, w_g_71_11, w_p_71_11, w_g_71_12, w_g_71_13, w_g_71_14, w_p_71_14, w_g_71_15, w_g_71_16, w_g_71_17, w_p_71_17, w_g_71_18, w_p_71_18, w_g_71_19, w_g_71_20, w_g_71_21, w_p_71_21, w_g_71_22, w_p_71_22, w_g_71_23, w_g_71_24, w_g_71_25, w_g_71_26, w_p_71_26_0, w_p_71_26_1, w_g_71_27, w_p_71_27, w_g_71_28, w_p_71_28, w_g_71_29, w_p_71_29, w_g_71_30, w_g_71_31, w_g_71_32, w_g_71_33, w_g_71_34, w_g_71_35, w_g_71_36, w_p_71_36, w_g_71_37, w_g_71_38, w_g_71_39, w_g_71_40, w_g_71_41, w_r_72, w_l_72, w_w_72, w_r_73, w_l_73, w_w_73, w_r_74, w_l_74, w_w_74, w_r_75, w_l_75, w_w_75, w_r_76, w_l_76, w_w_76, w_r_77, w_l_77, w_w_77, w_r_78, w_l_78, w_w_78, w_r_79, w_l_79, w_w_79, w_r_80, w_l_80, w_w_80, w_r_81, w_l_81, w_w_81, w_r_82, w_l_82, w_w_82, w_r_83, w_l_83, w_w_83, w_r_84, w_l_84, w_w_84, w_r_85, w_l_85, w_w_85, w_r_86, w_l_86, w_w_86, w_r_87, w_l_87, w_w_87, w_r_88, w_l_88, w_w_88, w_r_89, w_l_89, w_w_89, w_r_90, w_l_90, w_w_90, w_r_91, w_l_91, w_w_91, w_r_92, w_l_92, w_w_92, w_r_93, w_l_93, w_w_93, w_r_94, w_l_94, w_w_94, w_r_95, w_l_95, w_w_95, w_r_96, w_l_96, w_w_96, w_r_97, w_l_97, w_w_97, w_r_98, w_l_98, w_w_98, jI_add, jI_sub, jI_mul, jI_neg, jI_eq, jI_le, jI_lt, jI_eq0, jI_eq1, jI_lt0, jI_0lt, jI_le0, jI_0le, jI_clamp, jI_inBT, kL_0, kL_1, kL_2, kL_5, kL_6, kL_7, kL_10, kL_11, kL_15, kL_23, kL_31, kL_39, kL_97, kL_99, kL_104, kL_255, kL_349, kL_999, kL_1771561, kL_16777215, kL_4294967295, kL_18446744073709551615, jI_toL, rn_zB, rn_z0, rn_z1, jIB_eq0, jIB_eq1, jIB_eqJ, jB_def, jB_not, jB_and, jB_or, jB_nand, jB_nor, jB_ite, mrg, Decidable.not_not, ite_not, u2_s, u2_n, Int.add_sub_cancel, Int.sub_add_cancel]
    rw [e3, b_M_leastChanges_133, show (0 : Int).toNat = 0 from rfl]
    simp (disch := omega) only [rn_nil, rn_iconst, rn_ldc2, rn_iadd, rn_isub, rn_imul, rn_iand, rn_ior, rn_ixor, rn_ishl, rn_ishr, rn_iushr, rn_ineg, rn_ladd, rn_lsub, rn_lmul, rn_land, rn_lor, rn_lshl, rn_lushr, rn_lcmp, rn_i2l, rn_l2i, rn_dupI, rn_dupR, rn_popI, rn_dup2, rn_idiv, rn_irem, rn_ldiv, rn_lrem, rn_dadd, rn_dsub, rn_dmul, rn_objinit, rn_iload, rn_lload, rn_aload, rn_istore, rn_astore, rn_lstore, rn_iinc, rn_getfield, rn_iaload, rn_laload, rn_aaload, rn_arraylength, rn_putfield, rn_iastore, rn_lastore, rn_goto, rn_ifCond_eq, rn_if_icmp_eq, rn_ifCond_ne, rn_if_icmp_ne, rn_ifCond_lt, rn_if_icmp_lt, rn_ifCond_ge, rn_if_icmp_ge, rn_ifCond_gt, rn_if_icmp_gt, rn_ifCond_le, rn_if_icmp_le, rn_ireturn, rn_lreturn, rn_return, rL_I, rL_L, rL_R, rS_t, rI_t, rG_s, rG_i, rP_s, rP_i, kq_v, kq_s, ok_0, ok_1I, ok_1R, ok_1N, ok_s, rc8_0, rc8_1, rc8_2, rc8_3, rc8_4, List.getElem?_cons_zero, List.getElem?_cons_succ, List.set_cons_zero, List.set_cons_succ, true_and, and_true, if_true, if_false, Int.toNat_natCast, Int.reduceToNat, Int.reduceAdd, Int.reduceSub, Int.reduceMul, Int.reduceNeg, Nat.reduceAdd, Int.reduceLT, Int.reduceLE, Int.reduceEq, reduceIte, w_ck_71, w_g_71_0, w_p_71_0, w_g_71_1, w_g_71_2, w_g_71_3, w_g_71_4, w_p_71_4, w_g_71_5, w_g_71_6, w_g_71_7, w_g_71_8, w_p_71_8, w_g_71_9, w_g_71_10, w_g_71_11, w_p_71_11, w_g_71_12, w_g_71_13, w_g_71_14, w_p_71_14, w_g_71_15, w_g_71_16, w_g_71_17, w_p_71_17, w_g_71_18, w_p_71_18, w_g_71_19, w_g_71_20, w_g_71_21, w_p_71_21, w_g_71_22, w_p_71_22, w_g_71_23, w_g_71_24, w_g_71_25, w_g_71_26, w_p_71_26_0, w_p_71_26_1, w_g_71_27, w_p_71_27, w_g_71_28, w_p_71_28, w_g_71_29, w_p_71_29, w_g_71_30, w_g_71_31, w_g_71_32, w_g_71_33, w_g_71_34, w_g_71_35, w_g_71_36, w_p_71_36, w_g_71_37, w_g_71_38, w_g_71_39, w_g_71_40, w_g_71_41, w_r_72, w_l_72, w_w_72, w_r_73, w_l_73, w_w_73, w_r_74, w_l_74, w_w_74, w_r_75, w_l_75, w_w_75, w_r_76, w_l_76, w_w_76, w_r_77, w_l_77, w_w_77, w_r_78, w_l_78, w_w_78, w_r_79, w_l_79, w_w_79, w_r_80, w_l_80, w_w_80, w_r_81, w_l_81, w_w_81, w_r_82, w_l_82, w_w_82, w_r_83, w_l_83, w_w_83, w_r_84, w_l_84, w_w_84, w_r_85, w_l_85, w_w_85, w_r_86, w_l_86, w_w_86, w_r_87, w_l_87, w_w_87, w_r_88, w_l_88, w_w_88, w_r_89, w_l_89, w_w_89, w_r_90, w_l_90, w_w_90, w_r_91, w_l_91, w_w_91, w_r_92, w_l_92, w_w_92, w_r_93, w_l_93, w_w_93, w_r_94, w_l_94, w_w_94, w_r_95, w_l_95, w_w_95, w_r_96, w_l_96, w_w_96, w_r_97, w_l_97, w_w_97, w_r_98, w_l_98, w_w_98, jI_add, jI_sub, jI_mul, jI_neg, jI_eq, jI_le, jI_lt, jI_eq0, jI_eq1, jI_lt0, jI_0lt, jI_le0, jI_0le, jI_clamp, jI_inBT, kL_0, kL_1, kL_2, kL_5, kL_6, kL_7, kL_10, kL_11, kL_15, kL_23, kL_31, kL_39, kL_97, kL_99, kL_104, kL_255, kL_349, kL_999, kL_1771561, kL_16777215, kL_4294967295, kL_18446744073709551615, jI_toL, rn_zB, rn_z0, rn_z1, jIB_eq0, jIB_eq1, jIB_eqJ, jB_def, jB_not, jB_and, jB_or, jB_nand, jB_nor, jB_ite, mrg, Decidable.not_not, ite_not, u2_s, u2_n, Int.add_sub_cancel, Int.sub_add_cancel]
    rw [Int.toNat_natCast] at hB
    have fr : ∀ a i, ¬ (a = 92 ∧ 8 * k ≤ i ∧ i < 8 * k + 8) → rowM m.toNat k (lndM A k) A 0 8 a i = A a i := fun a i h => rowM_f h 8 0 A (by omega)
    have at' : ∀ w, w < 8 → rowM m.toNat k (lndM A k) A 0 8 92 (8 * k + w) = basM (lndM A k) w + blwM A k w (k + 1) (m.toNat - (k + 1)) := fun w hw => by
      rw [rowM_at 8 0 A (by omega) hw, if_pos (by omega)]
    have f86 : rowM m.toNat k (lndM A k) A 0 8 86 = A 86 := funext fun i => fr 86 i (by omega)
    have hp' : pot (rowM m.toNat k (lndM A k) A 0 8) k k (m.toNat - k) ≤ m.toNat - k := by
      have g1 : pot (rowM m.toNat k (lndM A k) A 0 8) k (k + 1) (m.toNat - (k + 1)) = pot A k (k + 1) (m.toNat - (k + 1)) := pot_congr (j0 := k + 1) f86 (fun i hi => fr 92 i (by omega)) _ _ (by omega)
      have g2 : ∃ w : Nat, w < 8 ∧ basM (lndM A k) w = 0 := by
        by_cases g : lndM A k = -1
        · exact ⟨0, by omega, by unfold basM; rw [if_pos g]⟩
        · exact ⟨(lndM A k).toNat, by omega, by unfold basM; rw [if_neg g, if_pos (by omega)]⟩
      obtain ⟨w, hw, hw0⟩ := g2
      have g3 : cst (rowM m.toNat k (lndM A k) A 0 8) k ≤ rowM m.toNat k (lndM A k) A 0 8 92 (8 * k + w) + 1 := minS_at (f := fun w => rowM m.toNat k (lndM A k) A 0 8 92 (8 * k + w) + 1) 8 0 w _ (by omega) (by omega)
      rw [at' w hw, hw0] at g3
      have g4 := pot_step hW (n := k) (v := w) (m.toNat - (k + 1)) (k + 1)
      have g5 := (hB w).1
      rw [show m.toNat - k = (m.toNat - (k + 1)) + 1 by omega, pot, g1]
      split <;> omega
    rw [show (k : Int) + -1 = (k : Int) - 1 by omega, s_M_lc_7 hm hF k _ _ _ _ _ (by omega) ?_ (fun i => by rw [f86]; exact hP i) (fun i => by rw [fr 87 i (by omega)]; exact hL i) (fun i => by rw [fr 88 i (by omega)]; exact hV i) hp', allR]
    intro i
    by_cases g : 8 * k ≤ i ∧ i < 8 * k + 8
    · have h1 := at' (i - 8 * k) (by omega)
      have h2 := hB (i - 8 * k)
      have h3 := basM_rng (lndM A k) ((i - 8 * k : Nat) : Int)
      rw [show 8 * k + (i - 8 * k) = i by omega] at h1
      rw [h1]
      omega
    · rw [fr 92 i (by omega)]
      exact hW i
theorem s_M_leastChanges {A : Nat → Nat → Int} {m : Int} (hm : 0 ≤ m ∧ m ≤ 40) (hF : F 71 22 = m) (hW : ∀ i, 0 ≤ A 92 i ∧ A 92 i ≤ 100000) (hP : ∀ i, -1 ≤ A 86 i ∧ A 86 i ≤ 39) (hL : ∀ i, -1 ≤ A 87 i ∧ A 87 i ≤ 7) (hV : ∀ i, -1 ≤ A 88 i ∧ A 88 i ≤ 7) :
    Rj (d + 1) 176 0 [.ref 71, .null, .null, .null, .null, .null] [] (HW L xs F A B hs t1 t2) Q =
      Q (some (.int (jI (minS (allR m.toNat A m.toNat 92) 0 8 1000)))) (HW L xs F (allR m.toNat A m.toNat) B hs t1 t2) := by
  have e := s_M_lc_7 (d := d) (Q := Q) (L := L) (xs := xs) (B := B) (hs := hs) (t1 := t1) (t2 := t2) hm hF m.toNat A .null .null .null .null (by omega) hW hP hL hV (by rw [Nat.sub_self, pot]; omega)
  rw [show ((m.toNat : Nat) : Int) = m by omega] at e
  rw [b_M_leastChanges_0]
  simp (disch := omega) only [rn_nil, rn_iconst, rn_ldc2, rn_iadd, rn_isub, rn_imul, rn_iand, rn_ior, rn_ixor, rn_ishl, rn_ishr, rn_iushr, rn_ineg, rn_ladd, rn_lsub, rn_lmul, rn_land, rn_lor, rn_lshl, rn_lushr, rn_lcmp, rn_i2l, rn_l2i, rn_dupI, rn_dupR, rn_popI, rn_dup2, rn_idiv, rn_irem, rn_ldiv, rn_lrem, rn_dadd, rn_dsub, rn_dmul, rn_objinit, rn_iload, rn_lload, rn_aload, rn_istore, rn_astore, rn_lstore, rn_iinc, rn_getfield, rn_iaload, rn_laload, rn_aaload, rn_arraylength, rn_putfield, rn_iastore, rn_lastore, rn_goto, rn_ifCond_eq, rn_if_icmp_eq, rn_ifCond_ne, rn_if_icmp_ne, rn_ifCond_lt, rn_if_icmp_lt, rn_ifCond_ge, rn_if_icmp_ge, rn_ifCond_gt, rn_if_icmp_gt, rn_ifCond_le, rn_if_icmp_le, rn_ireturn, rn_lreturn, rn_return, rL_I, rL_L, rL_R, rS_t, rI_t, rG_s, rG_i, rP_s, rP_i, kq_v, kq_s, ok_0, ok_1I, ok_1R, ok_1N, ok_s, rc8_0, rc8_1, rc8_2, rc8_3, rc8_4, List.getElem?_cons_zero, List.getElem?_cons_succ, List.set_cons_zero, List.set_cons_succ, true_and, and_true, if_true, if_false, Int.toNat_natCast, Int.reduceToNat, Int.reduceAdd, Int.reduceSub, Int.reduceMul, Int.reduceNeg, Nat.reduceAdd, Int.reduceLT, Int.reduceLE, Int.reduceEq, reduceIte, w_ck_71, w_g_71_0, w_p_71_0, w_g_71_1, w_g_71_2, w_g_71_3, w_g_71_4, w_p_71_4, w_g_71_5, w_g_71_6, w_g_71_7, w_g_71_8, w_p_71_8, w_g_71_9, w_g_71_10, w_g_71_11, w_p_71_11, w_g_71_12, w_g_71_13, w_g_71_14, w_p_71_14, w_g_71_15, w_g_71_16, w_g_71_17, w_p_71_17, w_g_71_18, w_p_71_18, w_g_71_19, w_g_71_20, w_g_71_21, w_p_71_21, w_g_71_22, w_p_71_22, w_g_71_23, w_g_71_24, w_g_71_25, w_g_71_26, w_p_71_26_0, w_p_71_26_1, w_g_71_27, w_p_71_27, w_g_71_28, w_p_71_28, w_g_71_29, w_p_71_29, w_g_71_30, w_g_71_31, w_g_71_32, w_g_71_33, w_g_71_34, w_g_71_35, w_g_71_36, w_p_71_36, w_g_71_37, w_g_71_38, w_g_71_39, w_g_71_40, w_g_71_41, w_r_72, w_l_72, w_w_72, w_r_73, w_l_73, w_w_73, w_r_74, w_l_74, w_w_74, w_r_75, w_l_75, w_w_75, w_r_76, w_l_76, w_w_76, w_r_77, w_l_77, w_w_77, w_r_78, w_l_78, w_w_78, w_r_79, w_l_79, w_w_79, w_r_80, w_l_80, w_w_80, w_r_81, w_l_81, w_w_81, w_r_82, w_l_82, w_w_82, w_r_83, w_l_83, w_w_83, w_r_84, w_l_84, w_w_84, w_r_85, w_l_85, w_w_85, w_r_86, w_l_86, w_w_86, w_r_87, w_l_87, w_w_87, w_r_88, w_l_88, w_w_88, w_r_89, w_l_89, w_w_89, w_r_90, w_l_90, w_w_90, w_r_91, w_l_91, w_w_91, w_r_92, w_l_92, w_w_92, w_r_93, w_l_93, w_w_93, w_r_94, w_l_94, w_w_94, w_r_95, w_l_95, w_w_95, w_r_96, w_l_96, w_w_96, w_r_97, w_l_97, w_w_97, w_r_98, w_l_98, w_w_98, jI_add, jI_sub, jI_mul, jI_neg, jI_eq, jI_le, jI_lt, jI_eq0, jI_eq1, jI_lt0, jI_0lt, jI_le0, jI_0le, jI_clamp, jI_inBT, kL_0, kL_1, kL_2, kL_5, kL_6, kL_7, kL_10, kL_11, kL_15, kL_23, kL_31, kL_39, kL_97, kL_99, kL_104, kL_255, kL_349, kL_999, kL_1771561, kL_16777215, kL_4294967295, kL_18446744073709551615, jI_toL, rn_zB, rn_z0, rn_z1, jIB_eq0, jIB_eq1, jIB_eqJ, jB_def, jB_not, jB_and, jB_or, jB_nand, jB_nor, jB_ite, mrg, Decidable.not_not, ite_not, u2_s, u2_n, Int.add_sub_cancel, Int.sub_add_cancel, hF]
  exact e
end M18
