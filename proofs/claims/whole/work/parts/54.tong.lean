/-! THE CLASS: tongues -/
def TX (F A : Nat → Nat → Int) : Prop := F 38 2 = F 71 18 ∧ (0 ≤ F 71 18 ∧ F 71 18 ≤ 4) ∧ (∀ i, 0 ≤ A 84 i ∧ A 84 i ≤ 7) ∧ (∀ g w : Nat, g < 4 → w < 16 → A (40 + 2 * g + 1) w = 7 - A 84 (16 * g + w)) ∧ (∀ g w : Nat, g < 4 → 0 ≤ A (40 + 2 * g + 1) w ∧ A (40 + 2 * g + 1) w ≤ 7)
theorem TX_cg {F F' A A' : Nat → Nat → Int} (hF : EF F F') (h : EQ A A') (hI : TX F A) : TX F' A' := by
  unfold TX
  rw [hF 71 18 (by unfold NF; omega), hF 38 2 (by unfold NF; omega), h 84 (by unfold NS; omega)]
  obtain ⟨a1, a2, a3, a4, a5⟩ := hI
  refine ⟨a1, a2, a3, ?_, ?_⟩
  · intro st w h1 h2
    rw [h _ (by unfold NS; omega)]
    exact a4 st w h1 h2
  · intro st w h1
    rw [h _ (by unfold NS; omega)]
    exact a5 st w h1
theorem i8_7e : ∀ l : Fin 8, iandn 7 (l.val : Int) = 7 - (l.val : Int) := by decide +kernel
theorem i8_7s {l : Int} (h : 0 ≤ l ∧ l ≤ 7) : iandn 7 l = 7 - l := by
  obtain ⟨n, rfl⟩ := Int.eq_ofNat_of_zero_le h.1
  exact i8_7e ⟨n, by omega⟩
theorem okS_lack {F A : Nat → Nat → Int} (hI : IMb A) (hT : TX F A) {r t g : Nat} (hg : g < 4) (i : Nat) : (!okS A r t (-1) (A (40 + 2 * g + 1)) i) = lackP A r t g i := by
  have w5 := hI.2.2.2.2.1 (A 79 (6 * r + i)).toNat
  unfold okS lackP
  rw [hT.2.2.2.1 g _ hg (by omega), i8_7s (hT.2.2.1 _)]
  have : ¬ (i : Int) = -1 := by omega
  simp only [this, decide_false, Bool.false_or, Bool.not_not]
theorem all_cnt {p : Nat → Bool} : ∀ (n i : Nat), allB p i n = decide (cntS (fun i => !p i) i n = 0)
  | 0, i => by simp [allB, cntS]
  | n + 1, i => by
    have h := cntS_rng (fun i => !p i) n (i + 1)
    rw [allB, cntS, all_cnt n (i + 1)]
    cases hp : p i
    · simp
      omega
    · simp
theorem allB_iff {p : Nat → Bool} : ∀ (n i : Nat), allB p i n = true ↔ ∀ j, i ≤ j → j < i + n → p j = true
  | 0, i => by
    simp only [allB, true_iff]
    intro j h1 h2
    omega
  | n + 1, i => by
    rw [allB, Bool.and_eq_true, allB_iff n (i + 1)]
    constructor
    · rintro ⟨h1, h2⟩ j h3 h4
      by_cases g : j = i
      · rw [g]; exact h1
      · exact h2 j (by omega) (by omega)
    · intro h
      exact ⟨h i (Nat.le_refl i) (by omega), fun j h1 h2 => h j (by omega) (by omega)⟩
theorem ansS_lack {F A : Nat → Nat → Int} (hI : IMb A) (hT : TX F A) {r g : Nat} (hg : g < 4) (t : Nat) : ansS A r (-1) (A (40 + 2 * g + 1)) t = decide (lacksM A r t g = 0) := by
  unfold ansS lacksM
  rw [all_cnt]
  rw [cntS_ext (q := lackP A r t g) _ _ (fun j _ _ => okS_lack hI hT hg j)]
theorem set_goes {p : Nat → Bool} {th t : Nat} (ht : t < th) : (setS p 0 th = 2 ^ t) ↔ allB (fun x => decide ((x : Int) = (t : Int)) == p x) 0 th = true := by
  rw [← setS_one ht, allB_iff]
  constructor
  · intro h j h1 h2
    have := setS_inj h j (by omega)
    rw [this]
    simp
    omega
  · intro h
    apply setS_ext
    intro j h1 h2
    have := h j h1 h2
    simp at this
    rw [← this]
    apply decide_eq_decide.mpr
    omega
section TG
variable {d : Nat} {Q : Option Value → am_H → Prop}
variable {L : Nat} {xs : Nat → Int32} {F A : Nat → Nat → Int} {B : Nat → Int64} {hs : Int64} {t1 t2 : Nat}
theorem s_Tg_lacking (hI : LI F A) (hR : RX F A) (hT : TX F A) {g r t : Int} (hg : 0 ≤ g ∧ g ≤ 3) (hr : 0 ≤ r ∧ r < F 71 8) (ht : 0 ≤ t ∧ t < F 71 0) :
    Rj (d + 2) 68 0 [.ref 38, .int (jI g), .int (jI r), .int (jI t)] [] (HW L xs F A B hs t1 t2) Q = Q (some (.int (jI (lacksM A r.toNat t.toNat g.toNat)))) (HW L xs F A B hs t1 t2) := by
  have sg : SG (40 + 2 * g.toNat) := by unfold SG; omega
  have ho : ∀ w, 0 ≤ A (40 + 2 * g.toNat + 1) w ∧ A (40 + 2 * g.toNat + 1) w ≤ 7 := fun w => hT.2.2.2.2 g.toNat w (by omega)
  rw [b_Tongues_lacking_0]
  simp (disch := omega) only [rn_nil, rn_iconst, rn_ldc2, rn_iadd, rn_isub, rn_imul, rn_iand, rn_ior, rn_ixor, rn_ishl, rn_ishr, rn_iushr, rn_ineg, rn_ladd, rn_lsub, rn_lmul, rn_land, rn_lor, rn_lshl, rn_lushr, rn_lcmp, rn_i2l, rn_l2i, rn_dupI, rn_dupR, rn_popI, rn_dup2, rn_idiv, rn_irem, rn_ldiv, rn_lrem, rn_dadd, rn_dsub, rn_dmul, rn_objinit, rn_iload, rn_lload, rn_aload, rn_istore, rn_astore, rn_lstore, rn_iinc, rn_getfield, rn_iaload, rn_laload, rn_aaload, rn_arraylength, rn_putfield, rn_iastore, rn_lastore, rn_goto, rn_ifCond_eq, rn_if_icmp_eq, rn_ifCond_ne, rn_if_icmp_ne, rn_ifCond_lt, rn_if_icmp_lt, rn_ifCond_ge, rn_if_icmp_ge, rn_ifCond_gt, rn_if_icmp_gt, rn_ifCond_le, rn_if_icmp_le, rn_ireturn, rn_lreturn, rn_return, rL_I, rL_L, rL_R, rS_t, rI_t, rG_s, rG_i, rP_s, rP_i, kq_v, kq_s, ok_0, ok_1I, ok_1R, ok_1N, ok_s, rc8_0, rc8_1, rc8_2, rc8_3, rc8_4, List.getElem?_cons_zero, List.getElem?_cons_succ, List.set_cons_zero, List.set_cons_succ, true_and, and_true, if_true, if_false, Int.toNat_natCast, Int.reduceToNat, Int.reduceAdd, Int.reduceSub, Int.reduceMul, Int.reduceNeg, Nat.reduceAdd, Int.reduceLT, Int.reduceLE, Int.reduceEq, reduceIte, w_ck_38, w_g_38_0, w_g_38_1, w_g_38_2, w_p_38_2, jI_add, jI_sub, jI_mul, jI_neg, jI_eq, jI_le, jI_lt, jI_eq0, jI_eq1, jI_lt0, jI_0lt, jI_le0, jI_0le, jI_clamp, jI_inBT, kL_0, kL_1, kL_2, kL_5, kL_6, kL_7, kL_10, kL_11, kL_15, kL_23, kL_31, kL_39, kL_97, kL_99, kL_104, kL_255, kL_349, kL_999, kL_1771561, kL_16777215, kL_4294967295, kL_18446744073709551615, jI_toL, rn_zB, rn_z0, rn_z1, jIB_eq0, jIB_eq1, jIB_eqJ, jB_def, jB_not, jB_and, jB_or, jB_nand, jB_nor, jB_ite, mrg, Decidable.not_not, ite_not, u2_s, u2_n, Int.add_sub_cancel, Int.sub_add_cancel, w_a_39, w_ck_13, c_Riddles_unfitCount, s_Ri_unfit hI hR sg ho]
  unfold lacksM
  rw [cntS_ext (q := lackP A r.toNat t.toNat g.toNat) _ _ (fun j _ _ => okS_lack hI.1.1 hT (by omega) j)]
theorem s_Tg_carries (hI : LI F A) (hR : RX F A) (hT : TX F A) {g r t : Int} (hg : 0 ≤ g ∧ g ≤ 3) (hr : 0 ≤ r ∧ r < F 71 8) (ht : 0 ≤ t ∧ t < F 71 0) :
    Rj (d + 2) 67 0 [.ref 38, .int (jI g), .int (jI r), .int (jI t)] [] (HW L xs F A B hs t1 t2) Q = Q (some (.int (jI (jB (goesM A (F 71 0).toNat r.toNat t g.toNat = true))))) (HW L xs F A B hs t1 t2) := by
  have h1 := hI.1.2.1
  have sg : SG (40 + 2 * g.toNat) := by unfold SG; omega
  have ho : ∀ w, 0 ≤ A (40 + 2 * g.toNat + 1) w ∧ A (40 + 2 * g.toNat + 1) w ≤ 7 := fun w => hT.2.2.2.2 g.toNat w (by omega)
  have q1 := setS_12 (ansS A r.toNat (-1) (A (40 + 2 * g.toNat + 1))) (n := (F 71 0).toNat) (by omega)
  have p1 := pow_12 t.toNat (by omega)
  have p2 := pow_pos2 t.toNat
  rw [b_Tongues_carries_0]
  simp (disch := omega) only [b_Tongues_carries_21, b_Tongues_carries_25, rn_nil, rn_iconst, rn_ldc2, rn_iadd, rn_isub, rn_imul, rn_iand, rn_ior, rn_ixor, rn_ishl, rn_ishr, rn_iushr, rn_ineg, rn_ladd, rn_lsub, rn_lmul, rn_land, rn_lor, rn_lshl, rn_lushr, rn_lcmp, rn_i2l, rn_l2i, rn_dupI, rn_dupR, rn_popI, rn_dup2, rn_idiv, rn_irem, rn_ldiv, rn_lrem, rn_dadd, rn_dsub, rn_dmul, rn_objinit, rn_iload, rn_lload, rn_aload, rn_istore, rn_astore, rn_lstore, rn_iinc, rn_getfield, rn_iaload, rn_laload, rn_aaload, rn_arraylength, rn_putfield, rn_iastore, rn_lastore, rn_goto, rn_ifCond_eq, rn_if_icmp_eq, rn_ifCond_ne, rn_if_icmp_ne, rn_ifCond_lt, rn_if_icmp_lt, rn_ifCond_ge, rn_if_icmp_ge, rn_ifCond_gt, rn_if_icmp_gt, rn_ifCond_le, rn_if_icmp_le, rn_ireturn, rn_lreturn, rn_return, rL_I, rL_L, rL_R, rS_t, rI_t, rG_s, rG_i, rP_s, rP_i, kq_v, kq_s, ok_0, ok_1I, ok_1R, ok_1N, ok_s, rc8_0, rc8_1, rc8_2, rc8_3, rc8_4, List.getElem?_cons_zero, List.getElem?_cons_succ, List.set_cons_zero, List.set_cons_succ, true_and, and_true, if_true, if_false, Int.toNat_natCast, Int.reduceToNat, Int.reduceAdd, Int.reduceSub, Int.reduceMul, Int.reduceNeg, Nat.reduceAdd, Int.reduceLT, Int.reduceLE, Int.reduceEq, reduceIte, w_ck_38, w_g_38_0, w_g_38_1, w_g_38_2, w_p_38_2, jI_add, jI_sub, jI_mul, jI_neg, jI_eq, jI_le, jI_lt, jI_eq0, jI_eq1, jI_lt0, jI_0lt, jI_le0, jI_0le, jI_clamp, jI_inBT, kL_0, kL_1, kL_2, kL_5, kL_6, kL_7, kL_10, kL_11, kL_15, kL_23, kL_31, kL_39, kL_97, kL_99, kL_104, kL_255, kL_349, kL_999, kL_1771561, kL_16777215, kL_4294967295, kL_18446744073709551615, jI_toL, rn_zB, rn_z0, rn_z1, jIB_eq0, jIB_eq1, jIB_eqJ, jB_def, jB_not, jB_and, jB_or, jB_nand, jB_nor, jB_ite, mrg, Decidable.not_not, ite_not, u2_s, u2_n, Int.add_sub_cancel, Int.sub_add_cancel, w_a_39, w_ck_13, c_Riddles_fittingWithout, s_Ri_fw hI hR sg ho, jI_shl1]
  rw [b_Tongues_carries_26]
  simp (disch := omega) only [rn_nil, rn_iconst, rn_ldc2, rn_iadd, rn_isub, rn_imul, rn_iand, rn_ior, rn_ixor, rn_ishl, rn_ishr, rn_iushr, rn_ineg, rn_ladd, rn_lsub, rn_lmul, rn_land, rn_lor, rn_lshl, rn_lushr, rn_lcmp, rn_i2l, rn_l2i, rn_dupI, rn_dupR, rn_popI, rn_dup2, rn_idiv, rn_irem, rn_ldiv, rn_lrem, rn_dadd, rn_dsub, rn_dmul, rn_objinit, rn_iload, rn_lload, rn_aload, rn_istore, rn_astore, rn_lstore, rn_iinc, rn_getfield, rn_iaload, rn_laload, rn_aaload, rn_arraylength, rn_putfield, rn_iastore, rn_lastore, rn_goto, rn_ifCond_eq, rn_if_icmp_eq, rn_ifCond_ne, rn_if_icmp_ne, rn_ifCond_lt, rn_if_icmp_lt, rn_ifCond_ge, rn_if_icmp_ge, rn_ifCond_gt, rn_if_icmp_gt, rn_ifCond_le, rn_if_icmp_le, rn_ireturn, rn_lreturn, rn_return, rL_I, rL_L, rL_R, rS_t, rI_t, rG_s, rG_i, rP_s, rP_i, kq_v, kq_s, ok_0, ok_1I, ok_1R, ok_1N, ok_s, rc8_0, rc8_1, rc8_2, rc8_3, rc8_4, List.getElem?_cons_zero, List.getElem?_cons_succ, List.set_cons_zero, List.set_cons_succ, true_and, and_true, if_true, if_false, Int.toNat_natCast, Int.reduceToNat, Int.reduceAdd, Int.reduceSub, Int.reduceMul, Int.reduceNeg, Nat.reduceAdd, Int.reduceLT, Int.reduceLE, Int.reduceEq, reduceIte, w_ck_38, w_g_38_0, w_g_38_1, w_g_38_2, w_p_38_2, jI_add, jI_sub, jI_mul, jI_neg, jI_eq, jI_le, jI_lt, jI_eq0, jI_eq1, jI_lt0, jI_0lt, jI_le0, jI_0le, jI_clamp, jI_inBT, kL_0, kL_1, kL_2, kL_5, kL_6, kL_7, kL_10, kL_11, kL_15, kL_23, kL_31, kL_39, kL_97, kL_99, kL_104, kL_255, kL_349, kL_999, kL_1771561, kL_16777215, kL_4294967295, kL_18446744073709551615, jI_toL, rn_zB, rn_z0, rn_z1, jIB_eq0, jIB_eq1, jIB_eqJ, jB_def, jB_not, jB_and, jB_or, jB_nand, jB_nor, jB_ite, mrg, Decidable.not_not, ite_not, u2_s, u2_n, Int.add_sub_cancel, Int.sub_add_cancel]
  rw [jB_congr (set_goes (p := ansS A r.toNat (-1) (A (40 + 2 * g.toNat + 1))) (th := (F 71 0).toNat) (t := t.toNat) (by omega))]
  unfold goesM
  rw [allB_ext (q := goesP A r.toNat t g.toNat) (F 71 0).toNat 0]
  intro j _ _
  unfold goesP
  rw [ansS_lack hI.1.1 hT (by omega), show ((t.toNat : Nat) : Int) = t by omega]
theorem lowM_7 {v : Nat → Int} (h : ∀ i, v i ≤ 6) : ∀ n i, (lowM v i n (-1, 7)).1 = (lowM v i n (-1, 1000)).1
  | 0, i => rfl
  | n + 1, i => by
    have := h i
    rw [lowM, lowM, if_neg (show ¬ (-1, (7 : Int)).2 ≤ v i by simp; omega), if_neg (show ¬ (-1, (1000 : Int)).2 ≤ v i by simp; omega)]
theorem s_Tg_least_9 (hI : LI F A) (hR : RX F A) (hT : TX F A) {r t : Int} (hr : 0 ≤ r ∧ r < F 71 8) (ht : 0 ≤ t ∧ t < F 71 0) :
    ∀ (n : Nat) (g b m : Int) (v6 : Value), g + n = F 71 18 → 0 ≤ g → 0 ≤ m ∧ m ≤ 7 → Rj (d + 3) 69 9 [.ref 38, .int (jI r), .int (jI t), .int (jI b), .int (jI m), .int (jI g), v6] [] (HW L xs F A B hs t1 t2) Q =
      Q (some (.int (jI (lowM (fun g => lacksM A r.toNat t.toNat g) g.toNat n (b, m)).1))) (HW L xs F A B hs t1 t2)
  | 0, g, b, m, v6, hn, hg, hm => by
    have e0 := hT.1
    have i4 := hT.2.1
    rw [b_Tongues_leastLacking_9]
    simp (disch := omega) only [b_Tongues_leastLacking_48, rn_nil, rn_iconst, rn_ldc2, rn_iadd, rn_isub, rn_imul, rn_iand, rn_ior, rn_ixor, rn_ishl, rn_ishr, rn_iushr, rn_ineg, rn_ladd, rn_lsub, rn_lmul, rn_land, rn_lor, rn_lshl, rn_lushr, rn_lcmp, rn_i2l, rn_l2i, rn_dupI, rn_dupR, rn_popI, rn_dup2, rn_idiv, rn_irem, rn_ldiv, rn_lrem, rn_dadd, rn_dsub, rn_dmul, rn_objinit, rn_iload, rn_lload, rn_aload, rn_istore, rn_astore, rn_lstore, rn_iinc, rn_getfield, rn_iaload, rn_laload, rn_aaload, rn_arraylength, rn_putfield, rn_iastore, rn_lastore, rn_goto, rn_ifCond_eq, rn_if_icmp_eq, rn_ifCond_ne, rn_if_icmp_ne, rn_ifCond_lt, rn_if_icmp_lt, rn_ifCond_ge, rn_if_icmp_ge, rn_ifCond_gt, rn_if_icmp_gt, rn_ifCond_le, rn_if_icmp_le, rn_ireturn, rn_lreturn, rn_return, rL_I, rL_L, rL_R, rS_t, rI_t, rG_s, rG_i, rP_s, rP_i, kq_v, kq_s, ok_0, ok_1I, ok_1R, ok_1N, ok_s, rc8_0, rc8_1, rc8_2, rc8_3, rc8_4, List.getElem?_cons_zero, List.getElem?_cons_succ, List.set_cons_zero, List.set_cons_succ, true_and, and_true, if_true, if_false, Int.toNat_natCast, Int.reduceToNat, Int.reduceAdd, Int.reduceSub, Int.reduceMul, Int.reduceNeg, Nat.reduceAdd, Int.reduceLT, Int.reduceLE, Int.reduceEq, reduceIte, w_ck_38, w_g_38_0, w_g_38_1, w_g_38_2, w_p_38_2, jI_add, jI_sub, jI_mul, jI_neg, jI_eq, jI_le, jI_lt, jI_eq0, jI_eq1, jI_lt0, jI_0lt, jI_le0, jI_0le, jI_clamp, jI_inBT, kL_0, kL_1, kL_2, kL_5, kL_6, kL_7, kL_10, kL_11, kL_15, kL_23, kL_31, kL_39, kL_97, kL_99, kL_104, kL_255, kL_349, kL_999, kL_1771561, kL_16777215, kL_4294967295, kL_18446744073709551615, jI_toL, rn_zB, rn_z0, rn_z1, jIB_eq0, jIB_eq1, jIB_eqJ, jB_def, jB_not, jB_and, jB_or, jB_nand, jB_nor, jB_ite, mrg, Decidable.not_not, ite_not, u2_s, u2_n, Int.add_sub_cancel, Int.sub_add_cancel, e0]
    rw [if_pos (by omega)]
    rfl
  | n + 1, g, b, m, v6, hn, hg, hm => by
    have e0 := hT.1
    have i4 := hT.2.1
    have hl := lacksM_rng hI.1.1 r.toNat t.toNat g.toNat
    rw [b_Tongues_leastLacking_9]
    simp (disch := omega) only [b_Tongues_leastLacking_18, b_Tongues_leastLacking_35, b_Tongues_leastLacking_42, rn_nil, rn_iconst, rn_ldc2, rn_iadd, rn_isub, rn_imul, rn_iand, rn_ior, rn_ixor, rn_ishl, rn_ishr, rn_iushr, rn_ineg, rn_ladd, rn_lsub, rn_lmul, rn_land, rn_lor, rn_lshl, rn_lushr, rn_lcmp, rn_i2l, rn_l2i, rn_dupI, rn_dupR, rn_popI, rn_dup2, rn_idiv, rn_irem, rn_ldiv, rn_lrem, rn_dadd, rn_dsub, rn_dmul, rn_objinit, rn_iload, rn_lload, rn_aload, rn_istore, rn_astore, rn_lstore, rn_iinc, rn_getfield, rn_iaload, rn_laload, rn_aaload, rn_arraylength, rn_putfield, rn_iastore, rn_lastore, rn_goto, rn_ifCond_eq, rn_if_icmp_eq, rn_ifCond_ne, rn_if_icmp_ne, rn_ifCond_lt, rn_if_icmp_lt, rn_ifCond_ge, rn_if_icmp_ge, rn_ifCond_gt, rn_if_icmp_gt, rn_ifCond_le, rn_if_icmp_le, rn_ireturn, rn_lreturn, rn_return, rL_I, rL_L, rL_R, rS_t, rI_t, rG_s, rG_i, rP_s, rP_i, kq_v, kq_s, ok_0, ok_1I, ok_1R, ok_1N, ok_s, rc8_0, rc8_1, rc8_2, rc8_3, rc8_4, List.getElem?_cons_zero, List.getElem?_cons_succ, List.set_cons_zero, List.set_cons_succ, true_and, and_true, if_true, if_false, Int.toNat_natCast, Int.reduceToNat, Int.reduceAdd, Int.reduceSub, Int.reduceMul, Int.reduceNeg, Nat.reduceAdd, Int.reduceLT, Int.reduceLE, Int.reduceEq, reduceIte, w_ck_38, w_g_38_0, w_g_38_1, w_g_38_2, w_p_38_2, jI_add, jI_sub, jI_mul, jI_neg, jI_eq, jI_le, jI_lt, jI_eq0, jI_eq1, jI_lt0, jI_0lt, jI_le0, jI_0le, jI_clamp, jI_inBT, kL_0, kL_1, kL_2, kL_5, kL_6, kL_7, kL_10, kL_11, kL_15, kL_23, kL_31, kL_39, kL_97, kL_99, kL_104, kL_255, kL_349, kL_999, kL_1771561, kL_16777215, kL_4294967295, kL_18446744073709551615, jI_toL, rn_zB, rn_z0, rn_z1, jIB_eq0, jIB_eq1, jIB_eqJ, jB_def, jB_not, jB_and, jB_or, jB_nand, jB_nor, jB_ite, mrg, Decidable.not_not, ite_not, u2_s, u2_n, Int.add_sub_cancel, Int.sub_add_cancel, e0, c_Tongues_lacking, s_Tg_lacking hI hR hT]
    rw [if_neg (by omega), s_Tg_least_9 hI hR hT hr ht n (g + 1) _ _ _ (by omega) (by omega) (by omega), s_Tg_least_9 hI hR hT hr ht n (g + 1) _ _ _ (by omega) (by omega) (by omega), lowM, show (g + 1).toNat = g.toNat + 1 by omega, show ((g.toNat : Nat) : Int) = g by omega]
    by_cases c : m ≤ lacksM A r.toNat t.toNat g.toNat
    · rw [if_pos c, if_pos c]
    · rw [if_neg c, if_neg c]
theorem s_Tg_least (hI : LI F A) (hR : RX F A) (hT : TX F A) {r t : Int} (hr : 0 ≤ r ∧ r < F 71 8) (ht : 0 ≤ t ∧ t < F 71 0) :
    Rj (d + 3) 69 0 [.ref 38, .int (jI r), .int (jI t), .null, .null, .null, .null] [] (HW L xs F A B hs t1 t2) Q = Q (some (.int (jI (lowM (fun g => lacksM A r.toNat t.toNat g) 0 (F 71 18).toNat (-1, 1000)).1))) (HW L xs F A B hs t1 t2) := by
  have i4 := hT.2.1
  rw [b_Tongues_leastLacking_0]
  simp (disch := omega) only [rn_nil, rn_iconst, rn_ldc2, rn_iadd, rn_isub, rn_imul, rn_iand, rn_ior, rn_ixor, rn_ishl, rn_ishr, rn_iushr, rn_ineg, rn_ladd, rn_lsub, rn_lmul, rn_land, rn_lor, rn_lshl, rn_lushr, rn_lcmp, rn_i2l, rn_l2i, rn_dupI, rn_dupR, rn_popI, rn_dup2, rn_idiv, rn_irem, rn_ldiv, rn_lrem, rn_dadd, rn_dsub, rn_dmul, rn_objinit, rn_iload, rn_lload, rn_aload, rn_istore, rn_astore, rn_lstore, rn_iinc, rn_getfield, rn_iaload, rn_laload, rn_aaload, rn_arraylength, rn_putfield, rn_iastore, rn_lastore, rn_goto, rn_ifCond_eq, rn_if_icmp_eq, rn_ifCond_ne, rn_if_icmp_ne, rn_ifCond_lt, rn_if_icmp_lt, rn_ifCond_ge, rn_if_icmp_ge, rn_ifCond_gt, rn_if_icmp_gt, rn_ifCond_le, rn_if_icmp_le, rn_ireturn, rn_lreturn, rn_return, rL_I, rL_L, rL_R, rS_t, rI_t, rG_s, rG_i, rP_s, rP_i, kq_v, kq_s, ok_0, ok_1I, ok_1R, ok_1N, ok_s, rc8_0, rc8_1, rc8_2, rc8_3, rc8_4, List.getElem?_cons_zero, List.getElem?_cons_succ, List.set_cons_zero, List.set_cons_succ, true_and, and_true, if_true, if_false, Int.toNat_natCast, Int.reduceToNat, Int.reduceAdd, Int.reduceSub, Int.reduceMul, Int.reduceNeg, Nat.reduceAdd, Int.reduceLT, Int.reduceLE, Int.reduceEq, reduceIte, w_ck_38, w_g_38_0, w_g_38_1, w_g_38_2, w_p_38_2, jI_add, jI_sub, jI_mul, jI_neg, jI_eq, jI_le, jI_lt, jI_eq0, jI_eq1, jI_lt0, jI_0lt, jI_le0, jI_0le, jI_clamp, jI_inBT, kL_0, kL_1, kL_2, kL_5, kL_6, kL_7, kL_10, kL_11, kL_15, kL_23, kL_31, kL_39, kL_97, kL_99, kL_104, kL_255, kL_349, kL_999, kL_1771561, kL_16777215, kL_4294967295, kL_18446744073709551615, jI_toL, rn_zB, rn_z0, rn_z1, jIB_eq0, jIB_eq1, jIB_eqJ, jB_def, jB_not, jB_and, jB_or, jB_nand, jB_nor, jB_ite, mrg, Decidable.not_not, ite_not, u2_s, u2_n, Int.add_sub_cancel, Int.sub_add_cancel]
  rw [s_Tg_least_9 hI hR hT hr ht (F 71 18).toNat 0 (-1) 7 _ (by omega) (by omega) (by omega), ← lowM_7 (fun i => (lacksM_rng hI.1.1 _ _ _).2)]
  rfl
end TG
