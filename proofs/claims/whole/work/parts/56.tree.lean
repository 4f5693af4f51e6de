/-! THE CLASS: trees -/
def TR (t : Nat) : Prop := t = 63 ∨ t = 67
section TRW
variable {d y nx : Nat} {is : List Instr} {ls st r : List Value} {Q : Option Value → am_H → Prop}
variable {L : Nat} {xs : Nat → Int32} {F A : Nat → Nat → Int} {B : Nat → Int64} {hs : Int64} {t1 t2 : Nat}
theorem w_ck_T {t : Nat} (h : TR t) : am_ck ((HW L xs F A B hs t1 t2).2.2 t) 10 = true := by
  rcases h with rfl | rfl
  · exact w_ck_63
  · exact w_ck_67
theorem w_g_T0 {t : Nat} (h : TR t) : am_get ((HW L xs F A B hs t1 t2).2.2 t) 640 r = some (.ref (t + 1) :: r) := by
  rcases h with rfl | rfl
  · exact w_g_63_0
  · exact w_g_67_0
theorem w_g_T1 {t : Nat} (h : TR t) : am_get ((HW L xs F A B hs t1 t2).2.2 t) 641 r = some (.ref (t + 2) :: r) := by
  rcases h with rfl | rfl
  · exact w_g_63_1
  · exact w_g_67_1
theorem w_g_T2 {t : Nat} (h : TR t) : am_get ((HW L xs F A B hs t1 t2).2.2 t) 642 r = some (.ref (t + 3) :: r) := by
  rcases h with rfl | rfl
  · exact w_g_63_2
  · exact w_g_67_2
theorem w_g_T3 {t : Nat} (h : TR t) : am_get ((HW L xs F A B hs t1 t2).2.2 t) 643 r = some (.int (jI (F t 3)) :: r) := by
  rcases h with rfl | rfl
  · exact w_g_63_3
  · exact w_g_67_3
theorem w_g_T4 {t : Nat} (h : TR t) : am_get ((HW L xs F A B hs t1 t2).2.2 t) 644 r = some (.int (jI (F t 4)) :: r) := by
  rcases h with rfl | rfl
  · exact w_g_63_4
  · exact w_g_67_4
theorem w_g_T5 {t : Nat} (h : TR t) : am_get ((HW L xs F A B hs t1 t2).2.2 t) 645 r = some (.int (jI (F t 5)) :: r) := by
  rcases h with rfl | rfl
  · exact w_g_63_5
  · exact w_g_67_5
theorem w_g_T6 {t : Nat} (h : TR t) : am_get ((HW L xs F A B hs t1 t2).2.2 t) 646 r = some (.int (jI (F t 6)) :: r) := by
  rcases h with rfl | rfl
  · exact w_g_63_6
  · exact w_g_67_6
theorem w_p_T3 {t : Nat} (h : TR t) {x : Int} : rP d y is nx ls r (HW L xs F A B hs t1 t2) t Q (am_wf ((HW L xs F A B hs t1 t2).2.2 t) 643 (.int (jI x))) = Rn d (y, is, nx, ls, r) (HW L xs (u2 F t 3 x) A B hs t1 t2) Q := by
  rcases h with rfl | rfl
  · exact w_p_63_3
  · exact w_p_67_3
theorem w_p_T4 {t : Nat} (h : TR t) {x : Int} : rP d y is nx ls r (HW L xs F A B hs t1 t2) t Q (am_wf ((HW L xs F A B hs t1 t2).2.2 t) 644 (.int (jI x))) = Rn d (y, is, nx, ls, r) (HW L xs (u2 F t 4 x) A B hs t1 t2) Q := by
  rcases h with rfl | rfl
  · exact w_p_63_4
  · exact w_p_67_4
theorem w_p_T5 {t : Nat} (h : TR t) {x : Int} : rP d y is nx ls r (HW L xs F A B hs t1 t2) t Q (am_wf ((HW L xs F A B hs t1 t2).2.2 t) 645 (.int (jI x))) = Rn d (y, is, nx, ls, r) (HW L xs (u2 F t 5 x) A B hs t1 t2) Q := by
  rcases h with rfl | rfl
  · exact w_p_63_5
  · exact w_p_67_5
theorem w_p_T6 {t : Nat} (h : TR t) (c : Prop) [Decidable c] : rP d y is nx ls r (HW L xs F A B hs t1 t2) t Q (am_wf ((HW L xs F A B hs t1 t2).2.2 t) 4742 (.int (jI (jB c)))) = Rn d (y, is, nx, ls, r) (HW L xs (u2 F t 6 (jB c)) A B hs t1 t2) Q := by
  rcases h with rfl | rfl
  · exact hw_wz (o := 63) (ci := 10) (q := 4742) (k := 6) rfl rfl rfl (by decide) (by decide) (jB_01 c)
  · exact hw_wz (o := 67) (ci := 10) (q := 4742) (k := 6) rfl rfl rfl (by decide) (by decide) (jB_01 c)
theorem w_p_T60 {t : Nat} (h : TR t) : rP d y is nx ls r (HW L xs F A B hs t1 t2) t Q (am_wf ((HW L xs F A B hs t1 t2).2.2 t) 4742 (.int (jI 0))) = Rn d (y, is, nx, ls, r) (HW L xs (u2 F t 6 0) A B hs t1 t2) Q := w_p_T6 h False
theorem w_p_T61 {t : Nat} (h : TR t) : rP d y is nx ls r (HW L xs F A B hs t1 t2) t Q (am_wf ((HW L xs F A B hs t1 t2).2.2 t) 4742 (.int (jI 1))) = Rn d (y, is, nx, ls, r) (HW L xs (u2 F t 6 1) A B hs t1 t2) Q := w_p_T6 h True
theorem w_r_T {t k : Nat} (h : TR t) (hk : k = 1 ∨ k = 2 ∨ k = 3) {i : Int32} : am_rd ((HW L xs F A B hs t1 t2).2.2 (t + k)) i r = if vp_inB i 40 = true then some (.int (jI (A (t + k) i.toNatClampNeg)) :: r) else none := by
  rcases h with rfl | rfl <;> rcases hk with rfl | rfl | rfl <;> exact hw_rd (n := 40) rfl
theorem w_w_T {t k : Nat} (h : TR t) (hk : k = 1 ∨ k = 2 ∨ k = 3) {i : Int32} {x : Int} : rP d y is nx ls r (HW L xs F A B hs t1 t2) (t + k) Q (am_wi ((HW L xs F A B hs t1 t2).2.2 (t + k)) i (jI x)) = (vp_inB i 40 = true ∧ Rn d (y, is, nx, ls, r) (HW L xs F (u2 A (t + k) i.toNatClampNeg x) B hs t1 t2) Q) := by
  rcases h with rfl | rfl <;> rcases hk with rfl | rfl | rfl <;> exact hw_wi (n := 40) rfl
theorem w_r_T1 {t : Nat} (h : TR t) {i : Int32} : am_rd ((HW L xs F A B hs t1 t2).2.2 (t + 1)) i r = if vp_inB i 40 = true then some (.int (jI (A (t + 1) i.toNatClampNeg)) :: r) else none := w_r_T h (by omega)
theorem w_r_T2 {t : Nat} (h : TR t) {i : Int32} : am_rd ((HW L xs F A B hs t1 t2).2.2 (t + 2)) i r = if vp_inB i 40 = true then some (.int (jI (A (t + 2) i.toNatClampNeg)) :: r) else none := w_r_T h (by omega)
theorem w_r_T3 {t : Nat} (h : TR t) {i : Int32} : am_rd ((HW L xs F A B hs t1 t2).2.2 (t + 3)) i r = if vp_inB i 40 = true then some (.int (jI (A (t + 3) i.toNatClampNeg)) :: r) else none := w_r_T h (by omega)
theorem w_w_T1 {t : Nat} (h : TR t) {i : Int32} {x : Int} : rP d y is nx ls r (HW L xs F A B hs t1 t2) (t + 1) Q (am_wi ((HW L xs F A B hs t1 t2).2.2 (t + 1)) i (jI x)) = (vp_inB i 40 = true ∧ Rn d (y, is, nx, ls, r) (HW L xs F (u2 A (t + 1) i.toNatClampNeg x) B hs t1 t2) Q) := w_w_T h (by omega)
theorem w_w_T2 {t : Nat} (h : TR t) {i : Int32} {x : Int} : rP d y is nx ls r (HW L xs F A B hs t1 t2) (t + 2) Q (am_wi ((HW L xs F A B hs t1 t2).2.2 (t + 2)) i (jI x)) = (vp_inB i 40 = true ∧ Rn d (y, is, nx, ls, r) (HW L xs F (u2 A (t + 2) i.toNatClampNeg x) B hs t1 t2) Q) := w_w_T h (by omega)
theorem w_w_T3 {t : Nat} (h : TR t) {i : Int32} {x : Int} : rP d y is nx ls r (HW L xs F A B hs t1 t2) (t + 3) Q (am_wi ((HW L xs F A B hs t1 t2).2.2 (t + 3)) i (jI x)) = (vp_inB i 40 = true ∧ Rn d (y, is, nx, ls, r) (HW L xs F (u2 A (t + 3) i.toNatClampNeg x) B hs t1 t2) Q) := w_w_T h (by omega)
end TRW
/-- a node begun -/
def bgA (t : Nat) (F A : Nat → Nat → Int) (l : Int) : Nat → Nat → Int :=
  if F t 5 = -1 then u2 (u2 (u2 A (t + 1) (F t 3).toNat (F t 5)) (t + 2) (F t 3).toNat l) (t + 3) (F t 3).toNat 0
  else u2 (u2 (u2 (u2 A (t + 1) (F t 3).toNat (F t 5)) (t + 2) (F t 3).toNat l) (t + 3) (F t 3).toNat 0) (t + 3) (F t 5).toNat (A (t + 3) (F t 5).toNat + 1)
/-- the ancestors of a node -/
def itr (p : Nat → Int) (x : Int) : Nat → Int
  | 0 => x
  | k + 1 => if itr p x k = -1 then -1 else p (itr p x k).toNat
theorem itr_s {p : Nat → Int} {x : Int} (hx : 0 ≤ x) : ∀ k, itr p x (k + 1) = itr p (p x.toNat) k
  | 0 => by
    show (if x = -1 then -1 else p x.toNat) = p x.toNat
    rw [if_neg (by omega)]
  | k + 1 => by
    rw [itr, itr_s hx k, itr]
theorem itr_m1 {p : Nat → Int} : ∀ k, itr p (-1) k = -1
  | 0 => rfl
  | k + 1 => by rw [itr, itr_m1 k, if_pos rfl]
/-- they fall -/
theorem itr_lt {p : Nat → Int} {n : Int} (hp : ∀ i : Nat, (i : Int) < n → -1 ≤ p i ∧ p i < i) {x : Int} (hx : -1 ≤ x ∧ x < n) : ∀ k, -1 ≤ itr p x k ∧ itr p x k < n ∧ itr p x k ≤ x ∧ (1 ≤ k → 0 ≤ x → itr p x k < x)
  | 0 => by
    show -1 ≤ x ∧ x < n ∧ x ≤ x ∧ (1 ≤ 0 → 0 ≤ x → x < x)
    omega
  | k + 1 => by
    have ih := itr_lt hp hx k
    rw [itr]
    split
    · omega
    · rename_i g
      have := hp (itr p x k).toNat (by omega)
      omega
theorem itr_cg {p q : Nat → Int} {n : Int} (hp : ∀ i : Nat, (i : Int) < n → -1 ≤ p i ∧ p i < i) {x : Int} (hx : -1 ≤ x ∧ x < n) (h : ∀ i : Nat, (i : Int) < n → q i = p i) : ∀ k, itr q x k = itr p x k
  | 0 => rfl
  | k + 1 => by
    have := itr_lt hp hx k
    rw [itr, itr, itr_cg hp hx h k]
    split
    · rfl
    · rw [h _ (by omega)]
/-- the class's tree t is the tree that the reference has read -/
def TRel (t : Nat) (F A G C : Nat → Nat → Int) : Prop := (F t 3 = G 71 29 ∧ F t 4 = G 71 28 ∧ F t 5 = G 71 27 ∧ F t 6 = G 71 26) ∧ (∀ x : Nat, (x : Int) < G 71 29 → A (t + 1) x = C 89 x ∧ A (t + 2) x = C 90 x) ∧ (∀ k : Nat, 0 ≤ itr (C 89) (G 71 27) k → A (t + 3) (itr (C 89) (G 71 27) k).toNat = C 91 (itr (C 89) (G 71 27) k).toNat + (if k = 0 then 0 else 1))
/-- nothing but tree t is touched -/
def TFr (t : Nat) (F A F' A' : Nat → Nat → Int) : Prop := (∀ o, ¬ o = t → F' o = F o) ∧ (∀ a, ¬ a = t + 1 → ¬ a = t + 2 → ¬ a = t + 3 → A' a = A a)
theorem TFr.trans {t : Nat} {F A F' A' F'' A'' : Nat → Nat → Int} (h : TFr t F A F' A') (g : TFr t F' A' F'' A'') : TFr t F A F'' A'' :=
  ⟨fun o ho => (g.1 o ho).trans (h.1 o ho), fun a h1 h2 h3 => (g.2 a h1 h2 h3).trans (h.2 a h1 h2 h3)⟩
theorem bgA_fr {t : Nat} {F A : Nat → Nat → Int} {l : Int} (a : Nat) (h1 : ¬ a = t + 1) (h2 : ¬ a = t + 2) (h3 : ¬ a = t + 3) : bgA t F A l a = A a := by
  unfold bgA
  split
  · rw [u2_a h3, u2_a h2, u2_a h1]
  · rw [u2_a h3, u2_a h3, u2_a h2, u2_a h1]
theorem bgA_1 {t : Nat} {F A : Nat → Nat → Int} {l : Int} (x : Nat) : bgA t F A l (t + 1) x = (if x = (F t 3).toNat then F t 5 else A (t + 1) x) ∧ bgA t F A l (t + 2) x = (if x = (F t 3).toNat then l else A (t + 2) x) := by
  unfold bgA
  split
  · constructor
    · rw [u2_n (by omega), u2_n (by omega)]
      simp [u2]
    · rw [u2_n (by omega)]
      simp only [u2, true_and]
      split
      · rfl
      · rw [if_neg (by omega)]
  · constructor
    · rw [u2_n (by omega), u2_n (by omega), u2_n (by omega)]
      simp [u2]
    · rw [u2_n (by omega), u2_n (by omega)]
      simp only [u2, true_and]
      split
      · rfl
      · rw [if_neg (by omega)]
theorem bgA_3 {t : Nat} {F A : Nat → Nat → Int} {l : Int} (hn : 0 ≤ F t 3) (ho : -1 ≤ F t 5 ∧ F t 5 < F t 3) (x : Nat) : bgA t F A l (t + 3) x = (if (x : Int) = F t 3 then 0 else if (x : Int) = F t 5 then A (t + 3) x + 1 else A (t + 3) x) := by
  unfold bgA
  split
  · rename_i g
    simp only [u2, true_and]
    by_cases g1 : x = (F t 3).toNat
    · rw [if_pos g1, if_pos (by omega)]
    · rw [if_neg g1, if_neg (by omega), if_neg (by omega), if_neg (by omega), if_neg (by omega)]
  · rename_i g
    simp only [u2, true_and]
    by_cases g1 : x = (F t 5).toNat
    · rw [if_pos g1, if_neg (by omega), if_pos (by omega), g1]
    · rw [if_neg g1]
      by_cases g2 : x = (F t 3).toNat
      · rw [if_pos g2, if_pos (by omega)]
      · rw [if_neg g2, if_neg (by omega), if_neg (by omega), if_neg (by omega), if_neg (by omega)]
section TRE
variable {d : Nat} {Q : Option Value → am_H → Prop}
variable {L : Nat} {xs : Nat → Int32} {F A : Nat → Nat → Int} {B : Nat → Int64} {hs : Int64} {t1 t2 : Nat}
theorem s_Tr_begin {t : Nat} (h : TR t) {l : Int} (hn : 0 ≤ F t 3 ∧ F t 3 ≤ 39) (ho : -1 ≤ F t 5 ∧ F t 5 < F t 3) :
    Rj d 74 0 [.ref t, .int (jI l)] [] (HW L xs F A B hs t1 t2) Q = Q (some (.int (jI (F t 3)))) (HW L xs (u2 F t 3 (F t 3 + 1)) (bgA t F A l) B hs t1 t2) := by
  unfold bgA
  by_cases g : F t 5 = -1
  · rw [if_pos g]
    simp (disch := omega) only [b_Tree_beginNode_0, b_Tree_beginNode_41, b_Tree_beginNode_54, rn_nil, rn_iconst, rn_ldc2, rn_iadd, rn_isub, rn_imul, rn_iand, rn_ior, rn_ixor, rn_ishl, rn_ishr, rn_iushr, rn_ineg, rn_ladd, rn_lsub, rn_lmul, rn_land, rn_lor, rn_lshl, rn_lushr, rn_lcmp, rn_i2l, rn_l2i, rn_dupI, rn_dupR, rn_popI, rn_dup2, rn_idiv, rn_irem, rn_ldiv, rn_lrem, rn_dadd, rn_dsub, rn_dmul, rn_objinit, rn_iload, rn_lload, rn_aload, rn_istore, rn_astore, rn_lstore, rn_iinc, rn_getfield, rn_iaload, rn_laload, rn_aaload, rn_arraylength, rn_putfield, rn_iastore, rn_lastore, rn_goto, rn_ifCond_eq, rn_if_icmp_eq, rn_ifCond_ne, rn_if_icmp_ne, rn_ifCond_lt, rn_if_icmp_lt, rn_ifCond_ge, rn_if_icmp_ge, rn_ifCond_gt, rn_if_icmp_gt, rn_ifCond_le, rn_if_icmp_le, rn_ireturn, rn_lreturn, rn_return, rL_I, rL_L, rL_R, rS_t, rI_t, rG_s, rG_i, rP_s, rP_i, kq_v, kq_s, ok_0, ok_1I, ok_1R, ok_1N, ok_s, rc8_0, rc8_1, rc8_2, rc8_3, rc8_4, List.getElem?_cons_zero, List.getElem?_cons_succ, List.set_cons_zero, List.set_cons_succ, true_and, and_true, if_true, if_false, Int.toNat_natCast, Int.reduceToNat, Int.reduceAdd, Int.reduceSub, Int.reduceMul, Int.reduceNeg, Nat.reduceAdd, Int.reduceLT, Int.reduceLE, Int.reduceEq, reduceIte, jI_add, jI_sub, jI_mul, jI_neg, jI_eq, jI_le, jI_lt, jI_eq0, jI_eq1, jI_lt0, jI_0lt, jI_le0, jI_0le, jI_clamp, jI_inBT, kL_0, kL_1, kL_2, kL_5, kL_6, kL_7, kL_10, kL_11, kL_15, kL_23, kL_31, kL_39, kL_97, kL_99, kL_104, kL_255, kL_349, kL_999, kL_1771561, kL_16777215, kL_4294967295, kL_18446744073709551615, jI_toL, rn_zB, rn_z0, rn_z1, jIB_eq0, jIB_eq1, jIB_eqJ, jB_def, jB_not, jB_and, jB_or, jB_nand, jB_nor, jB_ite, mrg, Decidable.not_not, ite_not, u2_s, u2_n, Int.add_sub_cancel, Int.sub_add_cancel, w_g_T0 h, w_g_T1 h, w_g_T2 h, w_g_T3 h, w_g_T5 h, w_p_T3 h, w_w_T1 h, w_w_T2 h, w_w_T3 h, w_r_T3 h, g]
  · rw [if_neg g]
    have e : u2 (u2 (u2 A (t + 1) (F t 3).toNat (F t 5)) (t + 2) (F t 3).toNat l) (t + 3) (F t 3).toNat 0 (t + 3) (F t 5).toNat = A (t + 3) (F t 5).toNat := by
      rw [u2_n (by omega), u2_n (by omega), u2_n (by omega)]
    simp (disch := omega) only [b_Tree_beginNode_0, b_Tree_beginNode_41, b_Tree_beginNode_54, rn_nil, rn_iconst, rn_ldc2, rn_iadd, rn_isub, rn_imul, rn_iand, rn_ior, rn_ixor, rn_ishl, rn_ishr, rn_iushr, rn_ineg, rn_ladd, rn_lsub, rn_lmul, rn_land, rn_lor, rn_lshl, rn_lushr, rn_lcmp, rn_i2l, rn_l2i, rn_dupI, rn_dupR, rn_popI, rn_dup2, rn_idiv, rn_irem, rn_ldiv, rn_lrem, rn_dadd, rn_dsub, rn_dmul, rn_objinit, rn_iload, rn_lload, rn_aload, rn_istore, rn_astore, rn_lstore, rn_iinc, rn_getfield, rn_iaload, rn_laload, rn_aaload, rn_arraylength, rn_putfield, rn_iastore, rn_lastore, rn_goto, rn_ifCond_eq, rn_if_icmp_eq, rn_ifCond_ne, rn_if_icmp_ne, rn_ifCond_lt, rn_if_icmp_lt, rn_ifCond_ge, rn_if_icmp_ge, rn_ifCond_gt, rn_if_icmp_gt, rn_ifCond_le, rn_if_icmp_le, rn_ireturn, rn_lreturn, rn_return, rL_I, rL_L, rL_R, rS_t, rI_t, rG_s, rG_i, rP_s, rP_i, kq_v, kq_s, ok_0, ok_1I, ok_1R, ok_1N, ok_s, rc8_0, rc8_1, rc8_2, rc8_3, rc8_4, List.getElem?_cons_zero, List.getElem?_cons_succ, List.set_cons_zero, List.set_cons_succ, true_and, and_true, if_true, if_false, Int.toNat_natCast, Int.reduceToNat, Int.reduceAdd, Int.reduceSub, Int.reduceMul, Int.reduceNeg, Nat.reduceAdd, Int.reduceLT, Int.reduceLE, Int.reduceEq, reduceIte, jI_add, jI_sub, jI_mul, jI_neg, jI_eq, jI_le, jI_lt, jI_eq0, jI_eq1, jI_lt0, jI_0lt, jI_le0, jI_0le, jI_clamp, jI_inBT, kL_0, kL_1, kL_2, kL_5, kL_6, kL_7, kL_10, kL_11, kL_15, kL_23, kL_31, kL_39, kL_97, kL_99, kL_104, kL_255, kL_349, kL_999, kL_1771561, kL_16777215, kL_4294967295, kL_18446744073709551615, jI_toL, rn_zB, rn_z0, rn_z1, jIB_eq0, jIB_eq1, jIB_eqJ, jB_def, jB_not, jB_and, jB_or, jB_nand, jB_nor, jB_ite, mrg, Decidable.not_not, ite_not, u2_s, u2_n, Int.add_sub_cancel, Int.sub_add_cancel, w_g_T0 h, w_g_T1 h, w_g_T2 h, w_g_T3 h, w_g_T5 h, w_p_T3 h, w_w_T1 h, w_w_T2 h, w_w_T3 h, w_r_T3 h, g, e]
end TRE
