/-! WHAT STAYS: the tables that are no scratch -/
def NS (a : Nat) : Prop := (4 ≤ a ∧ a ≤ 17) ∨ (23 ≤ a ∧ a ≤ 28) ∨ (30 ≤ a ∧ a ≤ 51) ∨ a = 62 ∨ (71 ≤ a ∧ a ≤ 79) ∨ (82 ≤ a ∧ a ≤ 88) ∨ a = 97
def NF (o k : Nat) : Prop := (o = 2 ∧ 12 ≤ k) ∨ o = 3 ∨ o = 13 ∨ o = 25 ∨ o = 38 ∨ o = 48 ∨ (o = 71 ∧ ¬ k = 17 ∧ ¬ (26 ≤ k ∧ k ≤ 29))
def EQ (A A' : Nat → Nat → Int) : Prop := ∀ a, NS a → A' a = A a
def EF (F F' : Nat → Nat → Int) : Prop := ∀ o k, NF o k → F' o k = F o k
theorem EQ.refl (A : Nat → Nat → Int) : EQ A A := fun _ _ => rfl
theorem EF.refl (F : Nat → Nat → Int) : EF F F := fun _ _ _ => rfl
theorem EQ.trans {A A' A'' : Nat → Nat → Int} (h : EQ A A') (g : EQ A' A'') : EQ A A'' := fun a ha => (g a ha).trans (h a ha)
theorem EF.trans {A A' A'' : Nat → Nat → Int} (h : EF A A') (g : EF A' A'') : EF A A'' := fun a k ha => (g a k ha).trans (h a k ha)
theorem EQ.u2 {A A' : Nat → Nat → Int} {a k : Nat} {x : Int} (h : EQ A A') (g : ¬ NS a) : EQ A (u2 A' a k x) := fun b hb => by
  have e : ¬ b = a := fun e => g (by rw [← e]; exact hb)
  rw [u2_a e]
  exact h b hb
theorem EF.u2 {A A' : Nat → Nat → Int} {a k : Nat} {x : Int} (h : EF A A') (g : ¬ NF a k) : EF A (u2 A' a k x) := fun b j hb => by
  rw [u2_n (fun e => g (by rw [← e.1, ← e.2]; exact hb))]
  exact h b j hb
theorem bM_cg {A A' : Nat → Nat → Int} (h : EQ A A') : bM A' = bM A := by
  funext s t o
  unfold bM
  rw [h 72 (by unfold NS; omega), h 73 (by unfold NS; omega), h 74 (by unfold NS; omega), h 75 (by unfold NS; omega), h 76 (by unfold NS; omega), h 77 (by unfold NS; omega)]
theorem okS_cg {A A' : Nat → Nat → Int} (h : EQ A A') : okS A' = okS A := by
  funext r t but op i
  unfold okS
  rw [bM_cg h, h 76 (by unfold NS; omega), h 79 (by unfold NS; omega)]
theorem ansS_cg {A A' : Nat → Nat → Int} (h : EQ A A') : ansS A' = ansS A := by
  funext r but op t
  unfold ansS
  rw [okS_cg h, h 78 (by unfold NS; omega)]
theorem ansM_cg {A A' : Nat → Nat → Int} (h : EQ A A') : ansM A' = ansM A := by
  funext r but o t
  rw [← ansS_M, ← ansS_M, ansS_cg h]
theorem hrM_cg {A A' : Nat → Nat → Int} (h : EQ A A') {th r : Nat} {p u : Int} : ∀ (n : Nat) (st : Int), hrM A' th r p u n st = hrM A th r p u n st
  | 0, st => rfl
  | n + 1, st => by rw [hrM, hrM, ansM_cg h, hrM_cg h n]
theorem hearsM_cg {A A' : Nat → Nat → Int} (h : EQ A A') : hearsM A' = hearsM A := by
  funext th hh r
  unfold hearsM
  rw [hrM_cg h, h 82 (by unfold NS; omega), h 83 (by unfold NS; omega)]
theorem fitB_cg {A A' : Nat → Nat → Int} (h : EQ A A') : fitB A' = fitB A := by
  funext s t i
  unfold fitB
  rw [h 72 (by unfold NS; omega), h 73 (by unfold NS; omega), h 74 (by unfold NS; omega), h 75 (by unfold NS; omega), h 76 (by unfold NS; omega), h 77 (by unfold NS; omega)]
theorem IMb_cg {A A' : Nat → Nat → Int} (h : EQ A A') (hI : IMb A) : IMb A' := by
  unfold IMb
  rw [h 72 (by unfold NS; omega), h 73 (by unfold NS; omega), h 74 (by unfold NS; omega), h 75 (by unfold NS; omega), h 76 (by unfold NS; omega), h 77 (by unfold NS; omega), h 78 (by unfold NS; omega), h 79 (by unfold NS; omega)]
  exact hI
theorem LC_cg {F F' A A' : Nat → Nat → Int} (hF : EF F F') (h : EQ A A') (hI : LC F A) : LC F' A' := by
  unfold LC
  rw [hF 71 0 (by unfold NF; omega), hF 71 4 (by unfold NF; omega), hF 3 0 (by unfold NF; omega), hF 3 1 (by unfold NF; omega), h 4 (by unfold NS; omega), h 5 (by unfold NS; omega), h 6 (by unfold NS; omega), h 7 (by unfold NS; omega), h 8 (by unfold NS; omega), h 9 (by unfold NS; omega), h 10 (by unfold NS; omega), h 11 (by unfold NS; omega), h 72 (by unfold NS; omega), h 73 (by unfold NS; omega), h 74 (by unfold NS; omega), h 75 (by unfold NS; omega), h 76 (by unfold NS; omega), h 77 (by unfold NS; omega)]
  exact ⟨IMb_cg h hI.1, hI.2⟩
theorem LI_cg {F F' A A' : Nat → Nat → Int} (hF : EF F F') (h : EQ A A') (hI : LI F A) : LI F' A' := by
  refine ⟨LC_cg hF h hI.1, ?_⟩
  rw [hF 71 0 (by unfold NF; omega), hF 71 4 (by unfold NF; omega), h 12 (by unfold NS; omega), fitB_cg h]
  exact hI.2
theorem RX_cg {F F' A A' : Nat → Nat → Int} (hF : EF F F') (h : EQ A A') (hI : RX F A) : RX F' A' := by
  unfold RX
  rw [hF 71 8 (by unfold NF; omega), hF 71 4 (by unfold NF; omega), hF 13 4 (by unfold NF; omega), h 16 (by unfold NS; omega), h 17 (by unfold NS; omega), h 78 (by unfold NS; omega), h 79 (by unfold NS; omega)]
  exact hI
theorem HX_cg {F F' A A' : Nat → Nat → Int} (hF : EF F F') (h : EQ A A') (hI : HX F A) : HX F' A' := by
  unfold HX
  rw [hF 71 14 (by unfold NF; omega), hF 25 5 (by unfold NF; omega), h 27 (by unfold NS; omega), h 28 (by unfold NS; omega), h 82 (by unfold NS; omega), h 83 (by unfold NS; omega)]
  obtain ⟨a1, a2, a3, a4, a5, a6, a7⟩ := hI
  refine ⟨a1, a2, a3, a4, a5, ?_, ?_⟩
  · intro st w h1 h2
    rw [h _ (by unfold NS; omega)]
    exact a6 st w h1 h2
  · intro st w h1
    rw [h _ (by unfold NS; omega)]
    exact a7 st w h1
section UP
variable {d : Nat} {Q : Option Value → am_H → Prop}
variable {L : Nat} {xs : Nat → Int32} {F : Nat → Nat → Int} {B : Nat → Int64} {hs : Int64} {t1 t2 : Nat}
theorem s_Hd_up_27 {A : Nat → Nat → Int} {r a : Int} (ha : 0 ≤ a ∧ a ≤ 5) (hr : ∀ i, -1 ≤ A 29 i ∧ A 29 i ≤ 11) :
    ∀ (n : Nat) (b s : Int), b + n = a → 0 ≤ b → 0 ≤ s ∧ s ≤ 100 + b → Rj d 17 27 [.ref 25, .int (jI r), .int (jI s), .int (jI a), .int (jI b)] [] (HW L xs F A B hs t1 t2) Q =
      Rj d 17 58 [.ref 25, .int (jI r), .int (jI (s + cntS (fun b => !decide (A 29 b = A 29 a.toNat)) b.toNat n)), .int (jI a), .int (jI a)] [] (HW L xs F A B hs t1 t2) Q
  | 0, b, s, hn, hb, hs' => by
    rw [b_Heads_unlikePairs_27]
    simp (disch := omega) only [rn_nil, rn_iconst, rn_ldc2, rn_iadd, rn_isub, rn_imul, rn_iand, rn_ior, rn_ixor, rn_ishl, rn_ishr, rn_iushr, rn_ineg, rn_ladd, rn_lsub, rn_lmul, rn_land, rn_lor, rn_lshl, rn_lushr, rn_lcmp, rn_i2l, rn_l2i, rn_dupI, rn_dupR, rn_popI, rn_dup2, rn_idiv, rn_irem, rn_ldiv, rn_lrem, rn_dadd, rn_dsub, rn_dmul, rn_objinit, rn_iload, rn_lload, rn_aload, rn_istore, rn_astore, rn_lstore, rn_iinc, rn_getfield, rn_iaload, rn_laload, rn_aaload, rn_arraylength, rn_putfield, rn_iastore, rn_lastore, rn_goto, rn_ifCond_eq, rn_if_icmp_eq, rn_ifCond_ne, rn_if_icmp_ne, rn_ifCond_lt, rn_if_icmp_lt, rn_ifCond_ge, rn_if_icmp_ge, rn_ifCond_gt, rn_if_icmp_gt, rn_ifCond_le, rn_if_icmp_le, rn_ireturn, rn_lreturn, rn_return, rL_I, rL_L, rL_R, rS_t, rI_t, rG_s, rG_i, rP_s, rP_i, kq_v, kq_s, ok_0, ok_1I, ok_1R, ok_1N, ok_s, rc8_0, rc8_1, rc8_2, rc8_3, rc8_4, List.getElem?_cons_zero, List.getElem?_cons_succ, List.set_cons_zero, List.set_cons_succ, true_and, and_true, if_true, if_false, Int.toNat_natCast, Int.reduceToNat, Int.reduceAdd, Int.reduceSub, Int.reduceMul, Int.reduceNeg, Nat.reduceAdd, Int.reduceLT, Int.reduceLE, Int.reduceEq, reduceIte, w_ck_25, w_g_25_0, w_g_25_1, w_g_25_2, w_g_25_3, w_g_25_4, w_g_25_5, w_p_25_5, w_r_27, w_l_27, w_w_27, w_r_28, w_l_28, w_w_28, w_r_29, w_l_29, w_w_29, jI_add, jI_sub, jI_mul, jI_neg, jI_eq, jI_le, jI_lt, jI_eq0, jI_eq1, jI_lt0, jI_0lt, jI_le0, jI_0le, jI_clamp, jI_inBT, kL_0, kL_1, kL_2, kL_5, kL_6, kL_7, kL_10, kL_11, kL_15, kL_23, kL_31, kL_39, kL_97, kL_99, kL_104, kL_255, kL_349, kL_999, kL_1771561, kL_16777215, kL_4294967295, kL_18446744073709551615, jI_toL, rn_zB, rn_z0, rn_z1, jIB_eq0, jIB_eq1, jIB_eqJ, jB_def, jB_not, jB_and, jB_or, jB_nand, jB_nor, jB_ite, mrg, Decidable.not_not, ite_not, u2_s, u2_n, Int.add_sub_cancel, Int.sub_add_cancel]
    rw [if_pos (by omega), cntS, Int.add_zero, show b = a by omega]
  | n + 1, b, s, hn, hb, hs' => by
    have h1 := hr b.toNat
    have h2 := hr a.toNat
    rw [b_Heads_unlikePairs_27]
    simp (disch := omega) only [b_Heads_unlikePairs_33, b_Heads_unlikePairs_49, b_Heads_unlikePairs_52, rn_nil, rn_iconst, rn_ldc2, rn_iadd, rn_isub, rn_imul, rn_iand, rn_ior, rn_ixor, rn_ishl, rn_ishr, rn_iushr, rn_ineg, rn_ladd, rn_lsub, rn_lmul, rn_land, rn_lor, rn_lshl, rn_lushr, rn_lcmp, rn_i2l, rn_l2i, rn_dupI, rn_dupR, rn_popI, rn_dup2, rn_idiv, rn_irem, rn_ldiv, rn_lrem, rn_dadd, rn_dsub, rn_dmul, rn_objinit, rn_iload, rn_lload, rn_aload, rn_istore, rn_astore, rn_lstore, rn_iinc, rn_getfield, rn_iaload, rn_laload, rn_aaload, rn_arraylength, rn_putfield, rn_iastore, rn_lastore, rn_goto, rn_ifCond_eq, rn_if_icmp_eq, rn_ifCond_ne, rn_if_icmp_ne, rn_ifCond_lt, rn_if_icmp_lt, rn_ifCond_ge, rn_if_icmp_ge, rn_ifCond_gt, rn_if_icmp_gt, rn_ifCond_le, rn_if_icmp_le, rn_ireturn, rn_lreturn, rn_return, rL_I, rL_L, rL_R, rS_t, rI_t, rG_s, rG_i, rP_s, rP_i, kq_v, kq_s, ok_0, ok_1I, ok_1R, ok_1N, ok_s, rc8_0, rc8_1, rc8_2, rc8_3, rc8_4, List.getElem?_cons_zero, List.getElem?_cons_succ, List.set_cons_zero, List.set_cons_succ, true_and, and_true, if_true, if_false, Int.toNat_natCast, Int.reduceToNat, Int.reduceAdd, Int.reduceSub, Int.reduceMul, Int.reduceNeg, Nat.reduceAdd, Int.reduceLT, Int.reduceLE, Int.reduceEq, reduceIte, w_ck_25, w_g_25_0, w_g_25_1, w_g_25_2, w_g_25_3, w_g_25_4, w_g_25_5, w_p_25_5, w_r_27, w_l_27, w_w_27, w_r_28, w_l_28, w_w_28, w_r_29, w_l_29, w_w_29, jI_add, jI_sub, jI_mul, jI_neg, jI_eq, jI_le, jI_lt, jI_eq0, jI_eq1, jI_lt0, jI_0lt, jI_le0, jI_0le, jI_clamp, jI_inBT, kL_0, kL_1, kL_2, kL_5, kL_6, kL_7, kL_10, kL_11, kL_15, kL_23, kL_31, kL_39, kL_97, kL_99, kL_104, kL_255, kL_349, kL_999, kL_1771561, kL_16777215, kL_4294967295, kL_18446744073709551615, jI_toL, rn_zB, rn_z0, rn_z1, jIB_eq0, jIB_eq1, jIB_eqJ, jB_def, jB_not, jB_and, jB_or, jB_nand, jB_nor, jB_ite, mrg, Decidable.not_not, ite_not, u2_s, u2_n, Int.add_sub_cancel, Int.sub_add_cancel]
    rw [if_neg (by omega), s_Hd_up_27 ha hr n (b + 1) _ (by omega) (by omega) (by omega), s_Hd_up_27 ha hr n (b + 1) _ (by omega) (by omega) (by omega), cntS, show (b + 1).toNat = b.toNat + 1 by omega]
    by_cases g : A 29 b.toNat = A 29 a.toNat
    · simp only [g, if_true, decide_true, Bool.not_true, Bool.false_eq_true, if_false, Int.zero_add]
    · simp only [g, if_false, decide_false, Bool.not_false, if_true, Int.add_assoc]
theorem cntS_ext {p q : Nat → Bool} : ∀ (n i : Nat), (∀ j, i ≤ j → j < i + n → p j = q j) → cntS p i n = cntS q i n
  | 0, i, _ => rfl
  | n + 1, i, h => by rw [cntS, cntS, h i (Nat.le_refl i) (by omega), cntS_ext n (i + 1) (fun j h1 h2 => h j (by omega) (by omega))]
/-- unlike pairs: the tables behind it differ in 'heard' alone -/
theorem s_Hd_up_4 {A0 : Nat → Nat → Int} (hI : LI F A0) (hR : RX F A0) (hH : HX F A0) {r : Int} (hr : 0 ≤ r ∧ r < F 71 8) :
    ∀ (n : Nat) (a s : Int) (A : Nat → Nat → Int) (v4 : Value), a + n = F 71 14 → 0 ≤ a → 0 ≤ s ∧ s ≤ 6 * a → EQ A0 A → (∀ i, -1 ≤ A 29 i ∧ A 29 i ≤ 11) → (∀ b : Nat, (b : Int) < a → A 29 b = (hearsM A0 (F 71 0).toNat b r.toNat).1) →
      ∃ A', EQ A0 A' ∧ (∀ b, ¬ b = 29 → A' b = A b) ∧ (∀ i, -1 ≤ A' 29 i ∧ A' 29 i ≤ 11) ∧ Rj (d + 5) 17 4 [.ref 25, .int (jI r), .int (jI s), .int (jI a), v4] [] (HW L xs F A B hs t1 t2) Q =
      Q (some (.int (jI (s + prS A0 (F 71 0).toNat r.toNat a.toNat n)))) (HW L xs F A' B hs t1 t2)
  | 0, a, s, A, v4, hn, ha, hs', hE, hG, hb => by
    have e0 := hH.1
    have i4 := hH.2.1
    refine ⟨A, hE, fun _ _ => rfl, hG, ?_⟩
    rw [b_Heads_unlikePairs_4]
    simp (disch := omega) only [b_Heads_unlikePairs_64, rn_nil, rn_iconst, rn_ldc2, rn_iadd, rn_isub, rn_imul, rn_iand, rn_ior, rn_ixor, rn_ishl, rn_ishr, rn_iushr, rn_ineg, rn_ladd, rn_lsub, rn_lmul, rn_land, rn_lor, rn_lshl, rn_lushr, rn_lcmp, rn_i2l, rn_l2i, rn_dupI, rn_dupR, rn_popI, rn_dup2, rn_idiv, rn_irem, rn_ldiv, rn_lrem, rn_dadd, rn_dsub, rn_dmul, rn_objinit, rn_iload, rn_lload, rn_aload, rn_istore, rn_astore, rn_lstore, rn_iinc, rn_getfield, rn_iaload, rn_laload, rn_aaload, rn_arraylength, rn_putfield, rn_iastore, rn_lastore, rn_goto, rn_ifCond_eq, rn_if_icmp_eq, rn_ifCond_ne, rn_if_icmp_ne, rn_ifCond_lt, rn_if_icmp_lt, rn_ifCond_ge, rn_if_icmp_ge, rn_ifCond_gt, rn_if_icmp_gt, rn_ifCond_le, rn_if_icmp_le, rn_ireturn, rn_lreturn, rn_return, rL_I, rL_L, rL_R, rS_t, rI_t, rG_s, rG_i, rP_s, rP_i, kq_v, kq_s, ok_0, ok_1I, ok_1R, ok_1N, ok_s, rc8_0, rc8_1, rc8_2, rc8_3, rc8_4, List.getElem?_cons_zero, List.getElem?_cons_succ, List.set_cons_zero, List.set_cons_succ, true_and, and_true, if_true, if_false, Int.toNat_natCast, Int.reduceToNat, Int.reduceAdd, Int.reduceSub, Int.reduceMul, Int.reduceNeg, Nat.reduceAdd, Int.reduceLT, Int.reduceLE, Int.reduceEq, reduceIte, w_ck_25, w_g_25_0, w_g_25_1, w_g_25_2, w_g_25_3, w_g_25_4, w_g_25_5, w_p_25_5, w_r_27, w_l_27, w_w_27, w_r_28, w_l_28, w_w_28, w_r_29, w_l_29, w_w_29, jI_add, jI_sub, jI_mul, jI_neg, jI_eq, jI_le, jI_lt, jI_eq0, jI_eq1, jI_lt0, jI_0lt, jI_le0, jI_0le, jI_clamp, jI_inBT, kL_0, kL_1, kL_2, kL_5, kL_6, kL_7, kL_10, kL_11, kL_15, kL_23, kL_31, kL_39, kL_97, kL_99, kL_104, kL_255, kL_349, kL_999, kL_1771561, kL_16777215, kL_4294967295, kL_18446744073709551615, jI_toL, rn_zB, rn_z0, rn_z1, jIB_eq0, jIB_eq1, jIB_eqJ, jB_def, jB_not, jB_and, jB_or, jB_nand, jB_nor, jB_ite, mrg, Decidable.not_not, ite_not, u2_s, u2_n, Int.add_sub_cancel, Int.sub_add_cancel, e0]
    rw [if_pos (by omega), prS, Int.add_zero]
  | n + 1, a, s, A, v4, hn, ha, hs', hE, hG, hb => by
    have e0 := hH.1
    have i4 := hH.2.1
    have h1 := hI.1.2.1
    have pu := hH.2.2.2.2.1
    have hI' := LI_cg (EF.refl F) hE hI
    have hR' := RX_cg (EF.refl F) hE hR
    have hH' := HX_cg (EF.refl F) hE hH
    have hm := (hearsM_rng (A := A0) (th := (F 71 0).toNat) (h := a.toNat) (r := r.toNat) (by omega) pu).1
    have hE2 : EQ A0 (u2 A 29 a.toNat (hearsM A0 (F 71 0).toNat a.toNat r.toNat).1) := hE.u2 (by unfold NS; omega)
    have hG2 : ∀ i, -1 ≤ u2 A 29 a.toNat (hearsM A0 (F 71 0).toNat a.toNat r.toNat).1 29 i ∧ u2 A 29 a.toNat (hearsM A0 (F 71 0).toNat a.toNat r.toNat).1 29 i ≤ 11 := by
      intro i
      by_cases g : i = a.toNat
      · rw [g, u2_s]; exact hm
      · rw [u2_n (by omega)]; exact hG i
    have hb2 : ∀ b : Nat, (b : Int) < a + 1 → u2 A 29 a.toNat (hearsM A0 (F 71 0).toNat a.toNat r.toNat).1 29 b = (hearsM A0 (F 71 0).toNat b r.toNat).1 := by
      intro b h
      by_cases g : b = a.toNat
      · rw [g, u2_s]
      · rw [u2_n (by omega)]; exact hb b (by omega)
    have hc := cntS_rng (unlP A0 (F 71 0).toNat r.toNat a.toNat) a.toNat 0
    obtain ⟨A', f1, f2, f3, f4⟩ := s_Hd_up_4 hI hR hH hr n (a + 1) (s + cntS (unlP A0 (F 71 0).toNat r.toNat a.toNat) 0 a.toNat) _ (.int (jI a)) (by omega) (by omega) (by omega) hE2 hG2 hb2
    refine ⟨A', f1, fun b hb => by rw [f2 b hb, u2_a hb], f3, ?_⟩
    rw [b_Heads_unlikePairs_4]
    simp (disch := omega) only [b_Heads_unlikePairs_12, rn_nil, rn_iconst, rn_ldc2, rn_iadd, rn_isub, rn_imul, rn_iand, rn_ior, rn_ixor, rn_ishl, rn_ishr, rn_iushr, rn_ineg, rn_ladd, rn_lsub, rn_lmul, rn_land, rn_lor, rn_lshl, rn_lushr, rn_lcmp, rn_i2l, rn_l2i, rn_dupI, rn_dupR, rn_popI, rn_dup2, rn_idiv, rn_irem, rn_ldiv, rn_lrem, rn_dadd, rn_dsub, rn_dmul, rn_objinit, rn_iload, rn_lload, rn_aload, rn_istore, rn_astore, rn_lstore, rn_iinc, rn_getfield, rn_iaload, rn_laload, rn_aaload, rn_arraylength, rn_putfield, rn_iastore, rn_lastore, rn_goto, rn_ifCond_eq, rn_if_icmp_eq, rn_ifCond_ne, rn_if_icmp_ne, rn_ifCond_lt, rn_if_icmp_lt, rn_ifCond_ge, rn_if_icmp_ge, rn_ifCond_gt, rn_if_icmp_gt, rn_ifCond_le, rn_if_icmp_le, rn_ireturn, rn_lreturn, rn_return, rL_I, rL_L, rL_R, rS_t, rI_t, rG_s, rG_i, rP_s, rP_i, kq_v, kq_s, ok_0, ok_1I, ok_1R, ok_1N, ok_s, rc8_0, rc8_1, rc8_2, rc8_3, rc8_4, List.getElem?_cons_zero, List.getElem?_cons_succ, List.set_cons_zero, List.set_cons_succ, true_and, and_true, if_true, if_false, Int.toNat_natCast, Int.reduceToNat, Int.reduceAdd, Int.reduceSub, Int.reduceMul, Int.reduceNeg, Nat.reduceAdd, Int.reduceLT, Int.reduceLE, Int.reduceEq, reduceIte, w_ck_25, w_g_25_0, w_g_25_1, w_g_25_2, w_g_25_3, w_g_25_4, w_g_25_5, w_p_25_5, w_r_27, w_l_27, w_w_27, w_r_28, w_l_28, w_w_28, w_r_29, w_l_29, w_w_29, jI_add, jI_sub, jI_mul, jI_neg, jI_eq, jI_le, jI_lt, jI_eq0, jI_eq1, jI_lt0, jI_0lt, jI_le0, jI_0le, jI_clamp, jI_inBT, kL_0, kL_1, kL_2, kL_5, kL_6, kL_7, kL_10, kL_11, kL_15, kL_23, kL_31, kL_39, kL_97, kL_99, kL_104, kL_255, kL_349, kL_999, kL_1771561, kL_16777215, kL_4294967295, kL_18446744073709551615, jI_toL, rn_zB, rn_z0, rn_z1, jIB_eq0, jIB_eq1, jIB_eqJ, jB_def, jB_not, jB_and, jB_or, jB_nand, jB_nor, jB_ite, mrg, Decidable.not_not, ite_not, u2_s, u2_n, Int.add_sub_cancel, Int.sub_add_cancel, e0, c_Heads_answerOf, s_Hd_answerOf hI' hR' hH', hearsM_cg hE]
    rw [if_neg (by omega), s_Hd_up_27 (by omega) hG2 a.toNat 0 s (by omega) (by omega) (by omega), b_Heads_unlikePairs_58]
    have ec : cntS (fun b => !decide (u2 A 29 a.toNat (hearsM A0 (F 71 0).toNat a.toNat r.toNat).1 29 b = u2 A 29 a.toNat (hearsM A0 (F 71 0).toNat a.toNat r.toNat).1 29 a.toNat)) (0 : Int).toNat a.toNat = cntS (unlP A0 (F 71 0).toNat r.toNat a.toNat) 0 a.toNat := by
      apply cntS_ext
      intro j h1 h2
      rw [hb2 j (by omega), u2_s]
      unfold unlP
      congr 1
      apply decide_eq_decide.mpr
      exact ⟨fun e => e.symm, fun e => e.symm⟩
    rw [ec]
    simp (disch := omega) only [rn_nil, rn_iconst, rn_ldc2, rn_iadd, rn_isub, rn_imul, rn_iand, rn_ior, rn_ixor, rn_ishl, rn_ishr, rn_iushr, rn_ineg, rn_ladd, rn_lsub, rn_lmul, rn_land, rn_lor, rn_lshl, rn_lushr, rn_lcmp, rn_i2l, rn_l2i, rn_dupI, rn_dupR, rn_popI, rn_dup2, rn_idiv, rn_irem, rn_ldiv, rn_lrem, rn_dadd, rn_dsub, rn_dmul, rn_objinit, rn_iload, rn_lload, rn_aload, rn_istore, rn_astore, rn_lstore, rn_iinc, rn_getfield, rn_iaload, rn_laload, rn_aaload, rn_arraylength, rn_putfield, rn_iastore, rn_lastore, rn_goto, rn_ifCond_eq, rn_if_icmp_eq, rn_ifCond_ne, rn_if_icmp_ne, rn_ifCond_lt, rn_if_icmp_lt, rn_ifCond_ge, rn_if_icmp_ge, rn_ifCond_gt, rn_if_icmp_gt, rn_ifCond_le, rn_if_icmp_le, rn_ireturn, rn_lreturn, rn_return, rL_I, rL_L, rL_R, rS_t, rI_t, rG_s, rG_i, rP_s, rP_i, kq_v, kq_s, ok_0, ok_1I, ok_1R, ok_1N, ok_s, rc8_0, rc8_1, rc8_2, rc8_3, rc8_4, List.getElem?_cons_zero, List.getElem?_cons_succ, List.set_cons_zero, List.set_cons_succ, true_and, and_true, if_true, if_false, Int.toNat_natCast, Int.reduceToNat, Int.reduceAdd, Int.reduceSub, Int.reduceMul, Int.reduceNeg, Nat.reduceAdd, Int.reduceLT, Int.reduceLE, Int.reduceEq, reduceIte, w_ck_25, w_g_25_0, w_g_25_1, w_g_25_2, w_g_25_3, w_g_25_4, w_g_25_5, w_p_25_5, w_r_27, w_l_27, w_w_27, w_r_28, w_l_28, w_w_28, w_r_29, w_l_29, w_w_29, jI_add, jI_sub, jI_mul, jI_neg, jI_eq, jI_le, jI_lt, jI_eq0, jI_eq1, jI_lt0, jI_0lt, jI_le0, jI_0le, jI_clamp, jI_inBT, kL_0, kL_1, kL_2, kL_5, kL_6, kL_7, kL_10, kL_11, kL_15, kL_23, kL_31, kL_39, kL_97, kL_99, kL_104, kL_255, kL_349, kL_999, kL_1771561, kL_16777215, kL_4294967295, kL_18446744073709551615, jI_toL, rn_zB, rn_z0, rn_z1, jIB_eq0, jIB_eq1, jIB_eqJ, jB_def, jB_not, jB_and, jB_or, jB_nand, jB_nor, jB_ite, mrg, Decidable.not_not, ite_not, u2_s, u2_n, Int.add_sub_cancel, Int.sub_add_cancel]
    rw [f4, prS, show (a + 1).toNat = a.toNat + 1 by omega, Int.add_assoc]
theorem s_Hd_up {A : Nat → Nat → Int} (hI : LI F A) (hR : RX F A) (hH : HX F A) (hG : ∀ i, -1 ≤ A 29 i ∧ A 29 i ≤ 11) {r : Int} (hr : 0 ≤ r ∧ r < F 71 8) :
    ∃ A', EQ A A' ∧ (∀ b, ¬ b = 29 → A' b = A b) ∧ (∀ i, -1 ≤ A' 29 i ∧ A' 29 i ≤ 11) ∧ Rj (d + 5) 17 0 [.ref 25, .int (jI r), .null, .null, .null] [] (HW L xs F A B hs t1 t2) Q =
      Q (some (.int (jI (prS A (F 71 0).toNat r.toNat 0 (F 71 14).toNat)))) (HW L xs F A' B hs t1 t2) := by
  have i4 := hH.2.1
  obtain ⟨A', f1, f2, f3, f4⟩ := s_Hd_up_4 (d := d) (Q := Q) (L := L) (xs := xs) (B := B) (hs := hs) (t1 := t1) (t2 := t2) hI hR hH hr (F 71 14).toNat 0 0 A .null (by omega) (by omega) (by omega) (EQ.refl A) hG (fun b h => by omega)
  refine ⟨A', f1, f2, f3, ?_⟩
  rw [b_Heads_unlikePairs_0]
  simp (disch := omega) only [rn_nil, rn_iconst, rn_ldc2, rn_iadd, rn_isub, rn_imul, rn_iand, rn_ior, rn_ixor, rn_ishl, rn_ishr, rn_iushr, rn_ineg, rn_ladd, rn_lsub, rn_lmul, rn_land, rn_lor, rn_lshl, rn_lushr, rn_lcmp, rn_i2l, rn_l2i, rn_dupI, rn_dupR, rn_popI, rn_dup2, rn_idiv, rn_irem, rn_ldiv, rn_lrem, rn_dadd, rn_dsub, rn_dmul, rn_objinit, rn_iload, rn_lload, rn_aload, rn_istore, rn_astore, rn_lstore, rn_iinc, rn_getfield, rn_iaload, rn_laload, rn_aaload, rn_arraylength, rn_putfield, rn_iastore, rn_lastore, rn_goto, rn_ifCond_eq, rn_if_icmp_eq, rn_ifCond_ne, rn_if_icmp_ne, rn_ifCond_lt, rn_if_icmp_lt, rn_ifCond_ge, rn_if_icmp_ge, rn_ifCond_gt, rn_if_icmp_gt, rn_ifCond_le, rn_if_icmp_le, rn_ireturn, rn_lreturn, rn_return, rL_I, rL_L, rL_R, rS_t, rI_t, rG_s, rG_i, rP_s, rP_i, kq_v, kq_s, ok_0, ok_1I, ok_1R, ok_1N, ok_s, rc8_0, rc8_1, rc8_2, rc8_3, rc8_4, List.getElem?_cons_zero, List.getElem?_cons_succ, List.set_cons_zero, List.set_cons_succ, true_and, and_true, if_true, if_false, Int.toNat_natCast, Int.reduceToNat, Int.reduceAdd, Int.reduceSub, Int.reduceMul, Int.reduceNeg, Nat.reduceAdd, Int.reduceLT, Int.reduceLE, Int.reduceEq, reduceIte, w_ck_25, w_g_25_0, w_g_25_1, w_g_25_2, w_g_25_3, w_g_25_4, w_g_25_5, w_p_25_5, w_r_27, w_l_27, w_w_27, w_r_28, w_l_28, w_w_28, w_r_29, w_l_29, w_w_29, jI_add, jI_sub, jI_mul, jI_neg, jI_eq, jI_le, jI_lt, jI_eq0, jI_eq1, jI_lt0, jI_0lt, jI_le0, jI_0le, jI_clamp, jI_inBT, kL_0, kL_1, kL_2, kL_5, kL_6, kL_7, kL_10, kL_11, kL_15, kL_23, kL_31, kL_39, kL_97, kL_99, kL_104, kL_255, kL_349, kL_999, kL_1771561, kL_16777215, kL_4294967295, kL_18446744073709551615, jI_toL, rn_zB, rn_z0, rn_z1, jIB_eq0, jIB_eq1, jIB_eqJ, jB_def, jB_not, jB_and, jB_or, jB_nand, jB_nor, jB_ite, mrg, Decidable.not_not, ite_not, u2_s, u2_n, Int.add_sub_cancel, Int.sub_add_cancel]
  rw [f4, Int.zero_add]
  rfl
end UP
