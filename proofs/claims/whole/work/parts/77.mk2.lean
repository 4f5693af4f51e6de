/-! THE CLASS: the maker -/
def FB (F : Nat → Nat → Int) (m b : Int) : Nat → Nat → Int := u2 (u2 F 18 7 m) 18 8 b
theorem FB_7 {F : Nat → Nat → Int} {m b : Int} : FB F m b 18 7 = m := by unfold FB; rw [u2_n (by omega), u2_s]
theorem FB_8 {F : Nat → Nat → Int} {m b : Int} : FB F m b 18 8 = b := u2_s
theorem FB_o {F : Nat → Nat → Int} {m b : Int} {o j : Nat} (h : ¬ (o = 18 ∧ 7 ≤ j ∧ j ≤ 8)) : FB F m b o j = F o j := by unfold FB; rw [u2_n (by omega), u2_n (by omega)]
theorem FB_u {F : Nat → Nat → Int} {m b m' b' : Int} : u2 (u2 (FB F m b) 18 7 m') 18 8 b' = FB F m' b' := by
  funext o j
  unfold FB u2
  by_cases g : o = 18 ∧ j = 8
  · rw [if_pos g, if_pos g]
  · rw [if_neg g, if_neg g]
    by_cases g2 : o = 18 ∧ j = 7
    · rw [if_pos g2, if_neg g, if_pos g2]
    · rw [if_neg g2, if_neg g, if_neg g2, if_neg g2]
/-- what the maker has gathered -/
def MK (F A : Nat → Nat → Int) (f : Nat → Nat → Bool) (tu : Nat → Int) (n th t : Nat) (g : Nat → Nat) (k : Nat) : Prop := GE g k n (fun s => f s t) ∧ F 18 5 = k ∧ F 18 6 = 2 ^ t ∧ (n ≤ 20 ∧ th ≤ 12 ∧ t < th ∧ k ≤ n) ∧ (∀ i, i < k → A 19 i = setS (f (g i)) 0 th ∧ A 20 i = tu (g i) ∧ A 21 i = 2 ^ g i) ∧ (∀ i, i ≤ k → A 22 i = setS (fun z => allB (fun j => f (g j) z) i (k - i)) 0 th) ∧ (∀ s, 0 ≤ tu s ∧ tu s ≤ 1)
section MKM
variable {L : Nat} {xs : Nat → Int32} {F A : Nat → Nat → Int} {B : Nat → Int64} {hs : Int64} {t1 t2 : Nat}
theorem s_Mk_consider {d : Nat} {Q : Option Value → am_H → Prop} {T c m b : Int} (hT : 0 ≤ T ∧ T ≤ 1000) (hc : 0 ≤ c ∧ c < 2147483648) (hm : -1 ≤ m ∧ m ≤ 1000) (hb : -1 ≤ b ∧ b < 2147483648) :
    Rj d 38 0 [.ref 18, .int (jI T), .int (jI c)] [] (HW L xs (FB F m b) A B hs t1 t2) Q = Q none (HW L xs (FB F (if T < m ∨ (T = m ∧ b < c) then m else T) (if T < m ∨ (T = m ∧ b < c) then b else c)) A B hs t1 t2) := by
  simp (disch := omega) only [b_Maker_consider_0, b_Maker_consider_8, b_Maker_consider_16, b_Maker_consider_24, b_Maker_consider_25, rn_nil, rn_iconst, rn_ldc2, rn_iadd, rn_isub, rn_imul, rn_iand, rn_ior, rn_ixor, rn_ishl, rn_ishr, rn_iushr, rn_ineg, rn_ladd, rn_lsub, rn_lmul, rn_land, rn_lor, rn_lshl, rn_lushr, rn_lcmp, rn_i2l, rn_l2i, rn_dupI, rn_dupR, rn_popI, rn_dup2, rn_idiv, rn_irem, rn_ldiv, rn_lrem, rn_dadd, rn_dsub, rn_dmul, rn_objinit, rn_iload, rn_lload, rn_aload, rn_istore, rn_astore, rn_lstore, rn_iinc, rn_getfield, rn_iaload, rn_laload, rn_aaload, rn_arraylength, rn_putfield, rn_iastore, rn_lastore, rn_goto, rn_ifCond_eq, rn_if_icmp_eq, rn_ifCond_ne, rn_if_icmp_ne, rn_ifCond_lt, rn_if_icmp_lt, rn_ifCond_ge, rn_if_icmp_ge, rn_ifCond_gt, rn_if_icmp_gt, rn_ifCond_le, rn_if_icmp_le, rn_ireturn, rn_lreturn, rn_return, rL_I, rL_L, rL_R, rS_t, rI_t, rG_s, rG_i, rP_s, rP_i, kq_v, kq_s, ok_0, ok_1I, ok_1R, ok_1N, ok_s, rc8_0, rc8_1, rc8_2, rc8_3, rc8_4, List.getElem?_cons_zero, List.getElem?_cons_succ, List.set_cons_zero, List.set_cons_succ, true_and, and_true, if_true, if_false, Int.toNat_natCast, Int.reduceToNat, Int.reduceAdd, Int.reduceSub, Int.reduceMul, Int.reduceNeg, Nat.reduceAdd, Int.reduceLT, Int.reduceLE, Int.reduceEq, reduceIte, w_ck_18, w_g_18_0, w_g_18_1, w_g_18_2, w_g_18_3, w_g_18_4, w_g_18_5, w_p_18_5, w_g_18_6, w_p_18_6, w_g_18_7, w_p_18_7, w_g_18_8, w_p_18_8, w_r_19, w_l_19, w_w_19, w_r_20, w_l_20, w_w_20, w_r_21, w_l_21, w_w_21, w_r_22, w_l_22, w_w_22, jI_add, jI_sub, jI_mul, jI_neg, jI_eq, jI_le, jI_lt, jI_eq0, jI_eq1, jI_lt0, jI_0lt, jI_le0, jI_0le, jI_clamp, jI_inBT, kL_0, kL_1, kL_2, kL_5, kL_6, kL_7, kL_10, kL_11, kL_15, kL_23, kL_31, kL_39, kL_97, kL_99, kL_104, kL_255, kL_349, kL_999, kL_1771561, kL_16777215, kL_4294967295, kL_18446744073709551615, jI_toL, rn_zB, rn_z0, rn_z1, jIB_eq0, jIB_eq1, jIB_eqJ, jB_def, jB_not, jB_and, jB_or, jB_nand, jB_nor, jB_ite, mrg, Decidable.not_not, ite_not, u2_s, u2_n, Int.add_sub_cancel, Int.sub_add_cancel, FB_7, FB_8, FB_u]
  by_cases g1 : T < m
  · rw [if_pos g1, if_pos (by omega), if_pos (by omega)]
  · rw [if_neg g1]
    by_cases g2 : T = m
    · rw [if_pos g2]
      by_cases g3 : c ≤ b
      · rw [if_pos g3, if_neg (by omega), if_neg (by omega)]
      · rw [if_neg g3, if_pos (by omega), if_pos (by omega)]
    · rw [if_neg g2, if_neg (by omega), if_neg (by omega)]
theorem Best_m {P : Nat → Prop} {tn : Nat → Int} {b m : Int} {N : Nat} (h0 : ∀ x, 0 ≤ tn x ∧ tn x ≤ 20) (hP : ∀ x, P x → x < N) (h : Best P tn b m) : (-1 ≤ m ∧ m ≤ 20) ∧ -1 ≤ b ∧ b < (N : Int) := by
  rcases h with ⟨h1, h2, h3⟩ | ⟨x, h1, h2, h3, h4⟩
  · omega
  · have := h0 x
    have := hP x h1
    omega
theorem bit_lt {c a n : Nat} (hc : c < 2 ^ n) (ha : a < n) : c ||| 2 ^ a < 2 ^ n := Nat.or_lt_two_pow hc (Nat.pow_lt_pow_right (by omega) ha)
theorem mk_zero {f : Nat → Nat → Bool} {n th t : Nat} {g : Nat → Nat} {k : Nat} (hG : GE g k n (fun s => f s t)) {i c x : Nat} (hc : ∀ s, gx g k n i ≤ s → c.testBit s = false) (hx : mkC f n th t g k i 0 c x) : x = c := by
  obtain ⟨h1, h2, h3, h4⟩ := hx
  have hgn : gx g k n i ≤ n := by
    by_cases c1 : i < k
    · rw [gx_lt c1]; have := (hG.1 i c1).1; omega
    · rw [gx_k (by omega)]; exact Nat.le_refl n
  have a1 : pcV n x = cntS (fun s => x.testBit s) 0 (gx g k n i) + cntS (fun s => x.testBit s) (gx g k n i) (n - gx g k n i) := by
    unfold pcV
    have := cnt_app (fun s => x.testBit s) (gx g k n i) (n - gx g k n i) 0
    rw [show gx g k n i + (n - gx g k n i) = n by omega, Nat.zero_add] at this
    exact this
  have a2 : pcV n c = cntS (fun s => c.testBit s) 0 (gx g k n i) := by
    unfold pcV
    have := cnt_app (fun s => c.testBit s) (gx g k n i) (n - gx g k n i) 0
    rw [show gx g k n i + (n - gx g k n i) = n by omega, Nat.zero_add, cnt_none (p := fun s => c.testBit s) (n - gx g k n i) (gx g k n i) (fun j j1 j2 => hc j j1), Int.add_zero] at this
    exact this
  have a3 : cntS (fun s => x.testBit s) 0 (gx g k n i) = cntS (fun s => c.testBit s) 0 (gx g k n i) := cntS_ext _ _ (fun j _ h => h3 j (by omega))
  have a4 := cnt0 (p := fun s => x.testBit s) (n - gx g k n i) (gx g k n i) (by omega)
  apply Nat.eq_of_testBit_eq
  intro s
  by_cases b1 : s < gx g k n i
  · exact h3 s b1
  · rw [hc s (by omega)]
    by_cases b2 : s < n
    · exact a4 s (by omega) (by omega)
    · exact Nat.testBit_lt_two_pow (Nat.lt_of_lt_of_le h1 (Nat.pow_le_pow_right (by omega) (by omega)))
/-- the maker looks at all that may be chosen -/
theorem s_Mk_choose {f : Nat → Nat → Bool} {tu : Nat → Int} {n th t : Nat} {g : Nat → Nat} {k : Nat} (hM : MK F A f tu n th t g k) :
    ∀ (left : Nat) (i c : Nat) (m b : Int) (P : Nat → Prop), 1 ≤ left → left ≤ 6 → i ≤ k → c < 2 ^ n → (∀ s, gx g k n i ≤ s → c.testBit s = false) → (∀ s, s < n → c.testBit s = true → f s t = true) → (∀ x, P x → x < 2 ^ n) → Best P (tnV tu n) b m →
      ∃ m' b', Best (fun x => P x ∨ mkC f n th t g k i left c x) (tnV tu n) b' m' ∧ ∀ d Q, Rj (d + left) 37 0 [.ref 18, .int (jI i), .int (jI left), .int (jI (setS (intP f n c) 0 th)), .int (jI (tnV tu n c)), .int (jI c), .null, .null] [] (HW L xs (FB F m b) A B hs t1 t2) Q = Q none (HW L xs (FB F m' b') A B hs t1 t2) := by
  obtain ⟨hG, hk5, hk6, ⟨hn, hth, ht, hkn⟩, hA, hR, htu⟩ := hM
  have pn := pow20 hn
  have pt := pow_pos2 t
  have pt2 := pow_12 t (by omega)
  have f5 : ∀ m b, FB F m b 18 5 = k := fun m b => by rw [FB_o (by omega)]; exact hk5
  have f6 : ∀ m b, FB F m b 18 6 = 2 ^ t := fun m b => by rw [FB_o (by omega)]; exact hk6
  have t20 : ∀ x, 0 ≤ tnV tu n x ∧ tnV tu n x ≤ 20 := fun x => by have := tn_rng htu n x; omega
  intro left
  induction left with
  | zero => intro i c m b P h1; omega
  | succ left ihL =>
    have loop : ∀ (w : Nat) (j c : Nat) (m b : Int) (P : Nat → Prop) (v7 : Value), j + w = k → c < 2 ^ n → (∀ s, gx g k n j ≤ s → c.testBit s = false) → (∀ s, s < n → c.testBit s = true → f s t = true) → (∀ x, P x → x < 2 ^ n) → left + 1 ≤ 6 → Best P (tnV tu n) b m → ∀ (i0 : Int),
        ∃ m' b', Best (fun x => P x ∨ mkC f n th t g k j ((left + 1 : Nat) : Int) c x) (tnV tu n) b' m' ∧ ∀ d Q, Rj (d + (left + 1)) 37 19 [.ref 18, .int (jI i0), .int (jI ((left + 1 : Nat) : Int)), .int (jI (setS (intP f n c) 0 th)), .int (jI (tnV tu n c)), .int (jI c), .int (jI j), v7] [] (HW L xs (FB F m b) A B hs t1 t2) Q = Q none (HW L xs (FB F m' b') A B hs t1 t2) := by
      intro w
      induction w with
      | zero =>
        intro j c m b P v7 hw hc hcb hcf hP h6 hB i0
        refine ⟨m, b, Best_iff hB (fun x => ⟨Or.inl, fun h => h.elim id (fun h => absurd h (mk_empty hG ht (by omega) (by omega) hcb x))⟩), fun d Q => ?_⟩
        rw [b_Maker_choose_19]
        simp (disch := omega) only [b_Maker_choose_121, rn_nil, rn_iconst, rn_ldc2, rn_iadd, rn_isub, rn_imul, rn_iand, rn_ior, rn_ixor, rn_ishl, rn_ishr, rn_iushr, rn_ineg, rn_ladd, rn_lsub, rn_lmul, rn_land, rn_lor, rn_lshl, rn_lushr, rn_lcmp, rn_i2l, rn_l2i, rn_dupI, rn_dupR, rn_popI, rn_dup2, rn_idiv, rn_irem, rn_ldiv, rn_lrem, rn_dadd, rn_dsub, rn_dmul, rn_objinit, rn_iload, rn_lload, rn_aload, rn_istore, rn_astore, rn_lstore, rn_iinc, rn_getfield, rn_iaload, rn_laload, rn_aaload, rn_arraylength, rn_putfield, rn_iastore, rn_lastore, rn_goto, rn_ifCond_eq, rn_if_icmp_eq, rn_ifCond_ne, rn_if_icmp_ne, rn_ifCond_lt, rn_if_icmp_lt, rn_ifCond_ge, rn_if_icmp_ge, rn_ifCond_gt, rn_if_icmp_gt, rn_ifCond_le, rn_if_icmp_le, rn_ireturn, rn_lreturn, rn_return, rL_I, rL_L, rL_R, rS_t, rI_t, rG_s, rG_i, rP_s, rP_i, kq_v, kq_s, ok_0, ok_1I, ok_1R, ok_1N, ok_s, rc8_0, rc8_1, rc8_2, rc8_3, rc8_4, List.getElem?_cons_zero, List.getElem?_cons_succ, List.set_cons_zero, List.set_cons_succ, true_and, and_true, if_true, if_false, Int.toNat_natCast, Int.reduceToNat, Int.reduceAdd, Int.reduceSub, Int.reduceMul, Int.reduceNeg, Nat.reduceAdd, Int.reduceLT, Int.reduceLE, Int.reduceEq, reduceIte, w_ck_18, w_g_18_0, w_g_18_1, w_g_18_2, w_g_18_3, w_g_18_4, w_g_18_5, w_p_18_5, w_g_18_6, w_p_18_6, w_g_18_7, w_p_18_7, w_g_18_8, w_p_18_8, w_r_19, w_l_19, w_w_19, w_r_20, w_l_20, w_w_20, w_r_21, w_l_21, w_w_21, w_r_22, w_l_22, w_w_22, jI_add, jI_sub, jI_mul, jI_neg, jI_eq, jI_le, jI_lt, jI_eq0, jI_eq1, jI_lt0, jI_0lt, jI_le0, jI_0le, jI_clamp, jI_inBT, kL_0, kL_1, kL_2, kL_5, kL_6, kL_7, kL_10, kL_11, kL_15, kL_23, kL_31, kL_39, kL_97, kL_99, kL_104, kL_255, kL_349, kL_999, kL_1771561, kL_16777215, kL_4294967295, kL_18446744073709551615, jI_toL, rn_zB, rn_z0, rn_z1, jIB_eq0, jIB_eq1, jIB_eqJ, jB_def, jB_not, jB_and, jB_or, jB_nand, jB_nor, jB_ite, mrg, Decidable.not_not, ite_not, u2_s, u2_n, Int.add_sub_cancel, Int.sub_add_cancel, f5]
        rw [if_pos (by omega)]
      | succ w ihw =>
        intro j c m b P v7 hw hc hcb hcf hP h6 hB i0
        by_cases gl : k < j + (left + 1)
        · refine ⟨m, b, Best_iff hB (fun x => ⟨Or.inl, fun h => h.elim id (fun h => absurd h (mk_empty hG ht (by omega) (by omega) hcb x))⟩), fun d Q => ?_⟩
          rw [b_Maker_choose_19]
          simp (disch := omega) only [b_Maker_choose_121, rn_nil, rn_iconst, rn_ldc2, rn_iadd, rn_isub, rn_imul, rn_iand, rn_ior, rn_ixor, rn_ishl, rn_ishr, rn_iushr, rn_ineg, rn_ladd, rn_lsub, rn_lmul, rn_land, rn_lor, rn_lshl, rn_lushr, rn_lcmp, rn_i2l, rn_l2i, rn_dupI, rn_dupR, rn_popI, rn_dup2, rn_idiv, rn_irem, rn_ldiv, rn_lrem, rn_dadd, rn_dsub, rn_dmul, rn_objinit, rn_iload, rn_lload, rn_aload, rn_istore, rn_astore, rn_lstore, rn_iinc, rn_getfield, rn_iaload, rn_laload, rn_aaload, rn_arraylength, rn_putfield, rn_iastore, rn_lastore, rn_goto, rn_ifCond_eq, rn_if_icmp_eq, rn_ifCond_ne, rn_if_icmp_ne, rn_ifCond_lt, rn_if_icmp_lt, rn_ifCond_ge, rn_if_icmp_ge, rn_ifCond_gt, rn_if_icmp_gt, rn_ifCond_le, rn_if_icmp_le, rn_ireturn, rn_lreturn, rn_return, rL_I, rL_L, rL_R, rS_t, rI_t, rG_s, rG_i, rP_s, rP_i, kq_v, kq_s, ok_0, ok_1I, ok_1R, ok_1N, ok_s, rc8_0, rc8_1, rc8_2, rc8_3, rc8_4, List.getElem?_cons_zero, List.getElem?_cons_succ, List.set_cons_zero, List.set_cons_succ, true_and, and_true, if_true, if_false, Int.toNat_natCast, Int.reduceToNat, Int.reduceAdd, Int.reduceSub, Int.reduceMul, Int.reduceNeg, Nat.reduceAdd, Int.reduceLT, Int.reduceLE, Int.reduceEq, reduceIte, w_ck_18, w_g_18_0, w_g_18_1, w_g_18_2, w_g_18_3, w_g_18_4, w_g_18_5, w_p_18_5, w_g_18_6, w_p_18_6, w_g_18_7, w_p_18_7, w_g_18_8, w_p_18_8, w_r_19, w_l_19, w_w_19, w_r_20, w_l_20, w_w_20, w_r_21, w_l_21, w_w_21, w_r_22, w_l_22, w_w_22, jI_add, jI_sub, jI_mul, jI_neg, jI_eq, jI_le, jI_lt, jI_eq0, jI_eq1, jI_lt0, jI_0lt, jI_le0, jI_0le, jI_clamp, jI_inBT, kL_0, kL_1, kL_2, kL_5, kL_6, kL_7, kL_10, kL_11, kL_15, kL_23, kL_31, kL_39, kL_97, kL_99, kL_104, kL_255, kL_349, kL_999, kL_1771561, kL_16777215, kL_4294967295, kL_18446744073709551615, jI_toL, rn_zB, rn_z0, rn_z1, jIB_eq0, jIB_eq1, jIB_eqJ, jB_def, jB_not, jB_and, jB_or, jB_nand, jB_nor, jB_ite, mrg, Decidable.not_not, ite_not, u2_s, u2_n, Int.add_sub_cancel, Int.sub_add_cancel, f5]
          rw [if_pos (by omega)]
        · have hj : j < k := by omega
          have e0 := gx_lt (g := g) (n := n) hj
          have s0 := gx_s hG hj
          have gi := hG.1 j hj
          have cg : c.testBit (g j) = false := hcb _ (by omega)
          have aj := hA j hj
          have c' := bit_lt hc gi.1
          have e1 : iand (setS (intP f n c) 0 th) (setS (f (g j)) 0 th) = setS (intP f n (c ||| 2 ^ g j)) 0 th := by
            rw [and_SS]
            apply setS_ext
            intro z _ _
            rw [int_or gi.1]
          have e2 : tnV tu n c + tu (g j) = tnV tu n (c ||| 2 ^ g j) := (tn_or gi.1 cg).symm
          have e3 : ior (c : Int) (2 ^ g j) = ((c ||| 2 ^ g j : Nat) : Int) := ior_N c (g j)
          have tc := t20 c
          have tc' := t20 (c ||| 2 ^ g j)
          have tj := htu (g j)
          have bm := Best_m t20 hP hB
          have q1 := setS_12 (intP f n c) (n := th) hth
          have q2 := setS_12 (f (g j)) (n := th) hth
          have q3 := setS_12 (intP f n (c ||| 2 ^ g j)) (n := th) hth
          have pg := pow_pos2 (g j)
          have hcb' : ∀ s, gx g k n (j + 1) ≤ s → (c ||| 2 ^ g j).testBit s = false := by
            intro s hs
            rw [tb_or, hcb s (by omega), show decide (g j = s) = false by simp; omega]; rfl
          have hcb2 : ∀ s, gx g k n (j + 1) ≤ s → c.testBit s = false := fun s hs => hcb s (by omega)
          have hcf' : ∀ s, s < n → (c ||| 2 ^ g j).testBit s = true → f s t = true := by
            intro s hs e
            rw [tb_or] at e
            by_cases c1 : g j = s
            · rw [← c1]; exact gi.2
            · simp [c1] at e
              exact hcf s hs e
          have spl := fun (lf : Int) x => mk_split (left := lf) hG ht hj hcb x
          -- one more saying, and then the rest
          have step : ∃ m1 b1, Best (fun x => P x ∨ mkC f n th t g k (j + 1) (left : Int) (c ||| 2 ^ g j) x) (tnV tu n) b1 m1 ∧ ∀ d Q, Rj (d + (left + 1)) 37 19 [.ref 18, .int (jI i0), .int (jI ((left + 1 : Nat) : Int)), .int (jI (setS (intP f n c) 0 th)), .int (jI (tnV tu n c)), .int (jI c), .int (jI j), v7] [] (HW L xs (FB F m b) A B hs t1 t2) Q = Rj (d + (left + 1)) 37 115 [.ref 18, .int (jI i0), .int (jI ((left + 1 : Nat) : Int)), .int (jI (setS (intP f n c) 0 th)), .int (jI (tnV tu n c)), .int (jI c), .int (jI j), .int (jI (setS (intP f n (c ||| 2 ^ g j)) 0 th))] [] (HW L xs (FB F m1 b1) A B hs t1 t2) Q := by
            cases left with
            | zero =>
              by_cases cv : vldP f n th t (c ||| 2 ^ g j)
              · refine ⟨_, _, Best_iff (Best_add (fun x => (t20 x).1) hB (c ||| 2 ^ g j)) (fun x => ?_), fun d Q => ?_⟩
                · constructor
                  · rintro (h | h)
                    · exact Or.inl h
                    · right
                      rw [h]
                      exact ⟨c', cv, fun s _ => rfl, by simp⟩
                  · rintro (h | ⟨h1, h2, h3, h4⟩)
                    · exact Or.inl h
                    · right
                      exact mk_zero hG hcb' ⟨h1, h2, h3, by simpa using h4⟩
                · have ev := (vld_iff ht).mpr cv
                  rw [b_Maker_choose_19]
                  simp (disch := omega) only [b_Maker_choose_30, b_Maker_choose_82, b_Maker_choose_91, rn_nil, rn_iconst, rn_ldc2, rn_iadd, rn_isub, rn_imul, rn_iand, rn_ior, rn_ixor, rn_ishl, rn_ishr, rn_iushr, rn_ineg, rn_ladd, rn_lsub, rn_lmul, rn_land, rn_lor, rn_lshl, rn_lushr, rn_lcmp, rn_i2l, rn_l2i, rn_dupI, rn_dupR, rn_popI, rn_dup2, rn_idiv, rn_irem, rn_ldiv, rn_lrem, rn_dadd, rn_dsub, rn_dmul, rn_objinit, rn_iload, rn_lload, rn_aload, rn_istore, rn_astore, rn_lstore, rn_iinc, rn_getfield, rn_iaload, rn_laload, rn_aaload, rn_arraylength, rn_putfield, rn_iastore, rn_lastore, rn_goto, rn_ifCond_eq, rn_if_icmp_eq, rn_ifCond_ne, rn_if_icmp_ne, rn_ifCond_lt, rn_if_icmp_lt, rn_ifCond_ge, rn_if_icmp_ge, rn_ifCond_gt, rn_if_icmp_gt, rn_ifCond_le, rn_if_icmp_le, rn_ireturn, rn_lreturn, rn_return, rL_I, rL_L, rL_R, rS_t, rI_t, rG_s, rG_i, rP_s, rP_i, kq_v, kq_s, ok_0, ok_1I, ok_1R, ok_1N, ok_s, rc8_0, rc8_1, rc8_2, rc8_3, rc8_4, List.getElem?_cons_zero, List.getElem?_cons_succ, List.set_cons_zero, List.set_cons_succ, true_and, and_true, if_true, if_false, Int.toNat_natCast, Int.reduceToNat, Int.reduceAdd, Int.reduceSub, Int.reduceMul, Int.reduceNeg, Nat.reduceAdd, Int.reduceLT, Int.reduceLE, Int.reduceEq, reduceIte, w_ck_18, w_g_18_0, w_g_18_1, w_g_18_2, w_g_18_3, w_g_18_4, w_g_18_5, w_p_18_5, w_g_18_6, w_p_18_6, w_g_18_7, w_p_18_7, w_g_18_8, w_p_18_8, w_r_19, w_l_19, w_w_19, w_r_20, w_l_20, w_w_20, w_r_21, w_l_21, w_w_21, w_r_22, w_l_22, w_w_22, jI_add, jI_sub, jI_mul, jI_neg, jI_eq, jI_le, jI_lt, jI_eq0, jI_eq1, jI_lt0, jI_0lt, jI_le0, jI_0le, jI_clamp, jI_inBT, kL_0, kL_1, kL_2, kL_5, kL_6, kL_7, kL_10, kL_11, kL_15, kL_23, kL_31, kL_39, kL_97, kL_99, kL_104, kL_255, kL_349, kL_999, kL_1771561, kL_16777215, kL_4294967295, kL_18446744073709551615, jI_toL, rn_zB, rn_z0, rn_z1, jIB_eq0, jIB_eq1, jIB_eqJ, jB_def, jB_not, jB_and, jB_or, jB_nand, jB_nor, jB_ite, mrg, Decidable.not_not, ite_not, u2_s, u2_n, Int.add_sub_cancel, Int.sub_add_cancel, f5, f6, aj.1, aj.2.1, aj.2.2, jI_and, e1, e2, jI_or, e3, ev, c_Maker_consider]
                  rw [if_neg (by omega), s_Mk_consider (by omega) (by omega) (by omega) (by omega)]
                  simp (disch := omega) only [rn_nil, rn_iconst, rn_ldc2, rn_iadd, rn_isub, rn_imul, rn_iand, rn_ior, rn_ixor, rn_ishl, rn_ishr, rn_iushr, rn_ineg, rn_ladd, rn_lsub, rn_lmul, rn_land, rn_lor, rn_lshl, rn_lushr, rn_lcmp, rn_i2l, rn_l2i, rn_dupI, rn_dupR, rn_popI, rn_dup2, rn_idiv, rn_irem, rn_ldiv, rn_lrem, rn_dadd, rn_dsub, rn_dmul, rn_objinit, rn_iload, rn_lload, rn_aload, rn_istore, rn_astore, rn_lstore, rn_iinc, rn_getfield, rn_iaload, rn_laload, rn_aaload, rn_arraylength, rn_putfield, rn_iastore, rn_lastore, rn_goto, rn_ifCond_eq, rn_if_icmp_eq, rn_ifCond_ne, rn_if_icmp_ne, rn_ifCond_lt, rn_if_icmp_lt, rn_ifCond_ge, rn_if_icmp_ge, rn_ifCond_gt, rn_if_icmp_gt, rn_ifCond_le, rn_if_icmp_le, rn_ireturn, rn_lreturn, rn_return, rL_I, rL_L, rL_R, rS_t, rI_t, rG_s, rG_i, rP_s, rP_i, kq_v, kq_s, ok_0, ok_1I, ok_1R, ok_1N, ok_s, rc8_0, rc8_1, rc8_2, rc8_3, rc8_4, List.getElem?_cons_zero, List.getElem?_cons_succ, List.set_cons_zero, List.set_cons_succ, true_and, and_true, if_true, if_false, Int.toNat_natCast, Int.reduceToNat, Int.reduceAdd, Int.reduceSub, Int.reduceMul, Int.reduceNeg, Nat.reduceAdd, Int.reduceLT, Int.reduceLE, Int.reduceEq, reduceIte, w_ck_18, w_g_18_0, w_g_18_1, w_g_18_2, w_g_18_3, w_g_18_4, w_g_18_5, w_p_18_5, w_g_18_6, w_p_18_6, w_g_18_7, w_p_18_7, w_g_18_8, w_p_18_8, w_r_19, w_l_19, w_w_19, w_r_20, w_l_20, w_w_20, w_r_21, w_l_21, w_w_21, w_r_22, w_l_22, w_w_22, jI_add, jI_sub, jI_mul, jI_neg, jI_eq, jI_le, jI_lt, jI_eq0, jI_eq1, jI_lt0, jI_0lt, jI_le0, jI_0le, jI_clamp, jI_inBT, kL_0, kL_1, kL_2, kL_5, kL_6, kL_7, kL_10, kL_11, kL_15, kL_23, kL_31, kL_39, kL_97, kL_99, kL_104, kL_255, kL_349, kL_999, kL_1771561, kL_16777215, kL_4294967295, kL_18446744073709551615, jI_toL, rn_zB, rn_z0, rn_z1, jIB_eq0, jIB_eq1, jIB_eqJ, jB_def, jB_not, jB_and, jB_or, jB_nand, jB_nor, jB_ite, mrg, Decidable.not_not, ite_not, u2_s, u2_n, Int.add_sub_cancel, Int.sub_add_cancel]
                  rw [if_pos (by omega)]
              · have ev : ¬ setS (intP f n (c ||| 2 ^ g j)) 0 th = 2 ^ t := fun h => cv ((vld_iff ht).mp h)
                refine ⟨m, b, Best_iff hB (fun x => ⟨Or.inl, fun h => h.elim id (fun h => ?_)⟩), fun d Q => ?_⟩
                · exfalso
                  have := mk_zero hG hcb' (by simpa using h)
                  rw [this] at h
                  exact cv h.2.1
                · rw [b_Maker_choose_19]
                  simp (disch := omega) only [b_Maker_choose_30, b_Maker_choose_82, rn_nil, rn_iconst, rn_ldc2, rn_iadd, rn_isub, rn_imul, rn_iand, rn_ior, rn_ixor, rn_ishl, rn_ishr, rn_iushr, rn_ineg, rn_ladd, rn_lsub, rn_lmul, rn_land, rn_lor, rn_lshl, rn_lushr, rn_lcmp, rn_i2l, rn_l2i, rn_dupI, rn_dupR, rn_popI, rn_dup2, rn_idiv, rn_irem, rn_ldiv, rn_lrem, rn_dadd, rn_dsub, rn_dmul, rn_objinit, rn_iload, rn_lload, rn_aload, rn_istore, rn_astore, rn_lstore, rn_iinc, rn_getfield, rn_iaload, rn_laload, rn_aaload, rn_arraylength, rn_putfield, rn_iastore, rn_lastore, rn_goto, rn_ifCond_eq, rn_if_icmp_eq, rn_ifCond_ne, rn_if_icmp_ne, rn_ifCond_lt, rn_if_icmp_lt, rn_ifCond_ge, rn_if_icmp_ge, rn_ifCond_gt, rn_if_icmp_gt, rn_ifCond_le, rn_if_icmp_le, rn_ireturn, rn_lreturn, rn_return, rL_I, rL_L, rL_R, rS_t, rI_t, rG_s, rG_i, rP_s, rP_i, kq_v, kq_s, ok_0, ok_1I, ok_1R, ok_1N, ok_s, rc8_0, rc8_1, rc8_2, rc8_3, rc8_4, List.getElem?_cons_zero, List.getElem?_cons_succ, List.set_cons_zero, List.set_cons_succ, true_and, and_true, if_true, if_false, Int.toNat_natCast, Int.reduceToNat, Int.reduceAdd, Int.reduceSub, Int.reduceMul, Int.reduceNeg, Nat.reduceAdd, Int.reduceLT, Int.reduceLE, Int.reduceEq, reduceIte, w_ck_18, w_g_18_0, w_g_18_1, w_g_18_2, w_g_18_3, w_g_18_4, w_g_18_5, w_p_18_5, w_g_18_6, w_p_18_6, w_g_18_7, w_p_18_7, w_g_18_8, w_p_18_8, w_r_19, w_l_19, w_w_19, w_r_20, w_l_20, w_w_20, w_r_21, w_l_21, w_w_21, w_r_22, w_l_22, w_w_22, jI_add, jI_sub, jI_mul, jI_neg, jI_eq, jI_le, jI_lt, jI_eq0, jI_eq1, jI_lt0, jI_0lt, jI_le0, jI_0le, jI_clamp, jI_inBT, kL_0, kL_1, kL_2, kL_5, kL_6, kL_7, kL_10, kL_11, kL_15, kL_23, kL_31, kL_39, kL_97, kL_99, kL_104, kL_255, kL_349, kL_999, kL_1771561, kL_16777215, kL_4294967295, kL_18446744073709551615, jI_toL, rn_zB, rn_z0, rn_z1, jIB_eq0, jIB_eq1, jIB_eqJ, jB_def, jB_not, jB_and, jB_or, jB_nand, jB_nor, jB_ite, mrg, Decidable.not_not, ite_not, u2_s, u2_n, Int.add_sub_cancel, Int.sub_add_cancel, f5, f6, aj.1, jI_and, e1, ev]
                  rw [if_neg (by omega), if_pos (by omega)]
            | succ left =>
              obtain ⟨m1, b1, hB1, hr1⟩ := ihL (j + 1) (c ||| 2 ^ g j) m b P (by omega) (by omega) (by omega) c' hcb' hcf' hP hB
              refine ⟨m1, b1, hB1, fun d Q => ?_⟩
              rw [show d + (left + 1 + 1) = (d + (left + 1)) + 1 from rfl, b_Maker_choose_19]
              simp (disch := omega) only [b_Maker_choose_30, b_Maker_choose_46, rn_nil, rn_iconst, rn_ldc2, rn_iadd, rn_isub, rn_imul, rn_iand, rn_ior, rn_ixor, rn_ishl, rn_ishr, rn_iushr, rn_ineg, rn_ladd, rn_lsub, rn_lmul, rn_land, rn_lor, rn_lshl, rn_lushr, rn_lcmp, rn_i2l, rn_l2i, rn_dupI, rn_dupR, rn_popI, rn_dup2, rn_idiv, rn_irem, rn_ldiv, rn_lrem, rn_dadd, rn_dsub, rn_dmul, rn_objinit, rn_iload, rn_lload, rn_aload, rn_istore, rn_astore, rn_lstore, rn_iinc, rn_getfield, rn_iaload, rn_laload, rn_aaload, rn_arraylength, rn_putfield, rn_iastore, rn_lastore, rn_goto, rn_ifCond_eq, rn_if_icmp_eq, rn_ifCond_ne, rn_if_icmp_ne, rn_ifCond_lt, rn_if_icmp_lt, rn_ifCond_ge, rn_if_icmp_ge, rn_ifCond_gt, rn_if_icmp_gt, rn_ifCond_le, rn_if_icmp_le, rn_ireturn, rn_lreturn, rn_return, rL_I, rL_L, rL_R, rS_t, rI_t, rG_s, rG_i, rP_s, rP_i, kq_v, kq_s, ok_0, ok_1I, ok_1R, ok_1N, ok_s, rc8_0, rc8_1, rc8_2, rc8_3, rc8_4, List.getElem?_cons_zero, List.getElem?_cons_succ, List.set_cons_zero, List.set_cons_succ, true_and, and_true, if_true, if_false, Int.toNat_natCast, Int.reduceToNat, Int.reduceAdd, Int.reduceSub, Int.reduceMul, Int.reduceNeg, Nat.reduceAdd, Int.reduceLT, Int.reduceLE, Int.reduceEq, reduceIte, w_ck_18, w_g_18_0, w_g_18_1, w_g_18_2, w_g_18_3, w_g_18_4, w_g_18_5, w_p_18_5, w_g_18_6, w_p_18_6, w_g_18_7, w_p_18_7, w_g_18_8, w_p_18_8, w_r_19, w_l_19, w_w_19, w_r_20, w_l_20, w_w_20, w_r_21, w_l_21, w_w_21, w_r_22, w_l_22, w_w_22, jI_add, jI_sub, jI_mul, jI_neg, jI_eq, jI_le, jI_lt, jI_eq0, jI_eq1, jI_lt0, jI_0lt, jI_le0, jI_0le, jI_clamp, jI_inBT, kL_0, kL_1, kL_2, kL_5, kL_6, kL_7, kL_10, kL_11, kL_15, kL_23, kL_31, kL_39, kL_97, kL_99, kL_104, kL_255, kL_349, kL_999, kL_1771561, kL_16777215, kL_4294967295, kL_18446744073709551615, jI_toL, rn_zB, rn_z0, rn_z1, jIB_eq0, jIB_eq1, jIB_eqJ, jB_def, jB_not, jB_and, jB_or, jB_nand, jB_nor, jB_ite, mrg, Decidable.not_not, ite_not, u2_s, u2_n, Int.add_sub_cancel, Int.sub_add_cancel, f5, f6, aj.1, aj.2.1, aj.2.2, jI_and, e1, e2, jI_or, e3, c_Maker_choose]
              rw [if_neg (by omega), if_neg (by omega), show (j : Int) + 1 = ((j + 1 : Nat) : Int) by omega, show ((left + 1 + 1 : Nat) : Int) - 1 = ((left + 1 : Nat) : Int) by omega, hr1]
              simp (disch := omega) only [rn_nil, rn_iconst, rn_ldc2, rn_iadd, rn_isub, rn_imul, rn_iand, rn_ior, rn_ixor, rn_ishl, rn_ishr, rn_iushr, rn_ineg, rn_ladd, rn_lsub, rn_lmul, rn_land, rn_lor, rn_lshl, rn_lushr, rn_lcmp, rn_i2l, rn_l2i, rn_dupI, rn_dupR, rn_popI, rn_dup2, rn_idiv, rn_irem, rn_ldiv, rn_lrem, rn_dadd, rn_dsub, rn_dmul, rn_objinit, rn_iload, rn_lload, rn_aload, rn_istore, rn_astore, rn_lstore, rn_iinc, rn_getfield, rn_iaload, rn_laload, rn_aaload, rn_arraylength, rn_putfield, rn_iastore, rn_lastore, rn_goto, rn_ifCond_eq, rn_if_icmp_eq, rn_ifCond_ne, rn_if_icmp_ne, rn_ifCond_lt, rn_if_icmp_lt, rn_ifCond_ge, rn_if_icmp_ge, rn_ifCond_gt, rn_if_icmp_gt, rn_ifCond_le, rn_if_icmp_le, rn_ireturn, rn_lreturn, rn_return, rL_I, rL_L, rL_R, rS_t, rI_t, rG_s, rG_i, rP_s, rP_i, kq_v, kq_s, ok_0, ok_1I, ok_1R, ok_1N, ok_s, rc8_0, rc8_1, rc8_2, rc8_3, rc8_4, List.getElem?_cons_zero, List.getElem?_cons_succ, List.set_cons_zero, List.set_cons_succ, true_and, and_true, if_true, if_false, Int.toNat_natCast, Int.reduceToNat, Int.reduceAdd, Int.reduceSub, Int.reduceMul, Int.reduceNeg, Nat.reduceAdd, Int.reduceLT, Int.reduceLE, Int.reduceEq, reduceIte, w_ck_18, w_g_18_0, w_g_18_1, w_g_18_2, w_g_18_3, w_g_18_4, w_g_18_5, w_p_18_5, w_g_18_6, w_p_18_6, w_g_18_7, w_p_18_7, w_g_18_8, w_p_18_8, w_r_19, w_l_19, w_w_19, w_r_20, w_l_20, w_w_20, w_r_21, w_l_21, w_w_21, w_r_22, w_l_22, w_w_22, jI_add, jI_sub, jI_mul, jI_neg, jI_eq, jI_le, jI_lt, jI_eq0, jI_eq1, jI_lt0, jI_0lt, jI_le0, jI_0le, jI_clamp, jI_inBT, kL_0, kL_1, kL_2, kL_5, kL_6, kL_7, kL_10, kL_11, kL_15, kL_23, kL_31, kL_39, kL_97, kL_99, kL_104, kL_255, kL_349, kL_999, kL_1771561, kL_16777215, kL_4294967295, kL_18446744073709551615, jI_toL, rn_zB, rn_z0, rn_z1, jIB_eq0, jIB_eq1, jIB_eqJ, jB_def, jB_not, jB_and, jB_or, jB_nand, jB_nor, jB_ite, mrg, Decidable.not_not, ite_not, u2_s, u2_n, Int.add_sub_cancel, Int.sub_add_cancel]
          obtain ⟨m1, b1, hB1, hr1⟩ := step
          obtain ⟨m2, b2, hB2, hr2⟩ := ihw (j + 1) c m1 b1 _ (.int (jI (setS (intP f n (c ||| 2 ^ g j)) 0 th))) (by omega) hc hcb2 hcf (fun x hx => hx.elim (hP x) (fun h => h.1)) h6 hB1 i0
          refine ⟨m2, b2, Best_iff hB2 (fun x => ?_), fun d Q => ?_⟩
          · rw [spl, show ((left + 1 : Nat) : Int) - 1 = (left : Int) by omega, or_assoc]
          · rw [hr1, b_Maker_choose_115]
            simp (disch := omega) only [rn_nil, rn_iconst, rn_ldc2, rn_iadd, rn_isub, rn_imul, rn_iand, rn_ior, rn_ixor, rn_ishl, rn_ishr, rn_iushr, rn_ineg, rn_ladd, rn_lsub, rn_lmul, rn_land, rn_lor, rn_lshl, rn_lushr, rn_lcmp, rn_i2l, rn_l2i, rn_dupI, rn_dupR, rn_popI, rn_dup2, rn_idiv, rn_irem, rn_ldiv, rn_lrem, rn_dadd, rn_dsub, rn_dmul, rn_objinit, rn_iload, rn_lload, rn_aload, rn_istore, rn_astore, rn_lstore, rn_iinc, rn_getfield, rn_iaload, rn_laload, rn_aaload, rn_arraylength, rn_putfield, rn_iastore, rn_lastore, rn_goto, rn_ifCond_eq, rn_if_icmp_eq, rn_ifCond_ne, rn_if_icmp_ne, rn_ifCond_lt, rn_if_icmp_lt, rn_ifCond_ge, rn_if_icmp_ge, rn_ifCond_gt, rn_if_icmp_gt, rn_ifCond_le, rn_if_icmp_le, rn_ireturn, rn_lreturn, rn_return, rL_I, rL_L, rL_R, rS_t, rI_t, rG_s, rG_i, rP_s, rP_i, kq_v, kq_s, ok_0, ok_1I, ok_1R, ok_1N, ok_s, rc8_0, rc8_1, rc8_2, rc8_3, rc8_4, List.getElem?_cons_zero, List.getElem?_cons_succ, List.set_cons_zero, List.set_cons_succ, true_and, and_true, if_true, if_false, Int.toNat_natCast, Int.reduceToNat, Int.reduceAdd, Int.reduceSub, Int.reduceMul, Int.reduceNeg, Nat.reduceAdd, Int.reduceLT, Int.reduceLE, Int.reduceEq, reduceIte, w_ck_18, w_g_18_0, w_g_18_1, w_g_18_2, w_g_18_3, w_g_18_4, w_g_18_5, w_p_18_5, w_g_18_6, w_p_18_6, w_g_18_7, w_p_18_7, w_g_18_8, w_p_18_8, w_r_19, w_l_19, w_w_19, w_r_20, w_l_20, w_w_20, w_r_21, w_l_21, w_w_21, w_r_22, w_l_22, w_w_22, jI_add, jI_sub, jI_mul, jI_neg, jI_eq, jI_le, jI_lt, jI_eq0, jI_eq1, jI_lt0, jI_0lt, jI_le0, jI_0le, jI_clamp, jI_inBT, kL_0, kL_1, kL_2, kL_5, kL_6, kL_7, kL_10, kL_11, kL_15, kL_23, kL_31, kL_39, kL_97, kL_99, kL_104, kL_255, kL_349, kL_999, kL_1771561, kL_16777215, kL_4294967295, kL_18446744073709551615, jI_toL, rn_zB, rn_z0, rn_z1, jIB_eq0, jIB_eq1, jIB_eqJ, jB_def, jB_not, jB_and, jB_or, jB_nand, jB_nor, jB_ite, mrg, Decidable.not_not, ite_not, u2_s, u2_n, Int.add_sub_cancel, Int.sub_add_cancel]
            rw [show (j : Int) + 1 = ((j + 1 : Nat) : Int) by omega]
            exact hr2 d Q
    intro i c m b P h1 h6 hi hc hcb hcf hP hB
    have q1 := setS_12 (intP f n c) (n := th) hth
    have q2 := setS_12 (fun z => allB (fun j => f (g j) z) i (k - i)) (n := th) hth
    have q3 := setS_12 (fun z => intP f n c z && allB (fun j => f (g j) z) i (k - i)) (n := th) hth
    have aR := hR i hi
    by_cases cp : setS (fun z => intP f n c z && allB (fun j => f (g j) z) i (k - i)) 0 th = 2 ^ t
    · obtain ⟨m2, b2, hB2, hr2⟩ := loop (k - i) i c m b P .null (by omega) hc hcb hcf hP h6 hB i
      refine ⟨m2, b2, hB2, fun d Q => ?_⟩
      rw [b_Maker_choose_0]
      simp (disch := omega) only [b_Maker_choose_16, rn_nil, rn_iconst, rn_ldc2, rn_iadd, rn_isub, rn_imul, rn_iand, rn_ior, rn_ixor, rn_ishl, rn_ishr, rn_iushr, rn_ineg, rn_ladd, rn_lsub, rn_lmul, rn_land, rn_lor, rn_lshl, rn_lushr, rn_lcmp, rn_i2l, rn_l2i, rn_dupI, rn_dupR, rn_popI, rn_dup2, rn_idiv, rn_irem, rn_ldiv, rn_lrem, rn_dadd, rn_dsub, rn_dmul, rn_objinit, rn_iload, rn_lload, rn_aload, rn_istore, rn_astore, rn_lstore, rn_iinc, rn_getfield, rn_iaload, rn_laload, rn_aaload, rn_arraylength, rn_putfield, rn_iastore, rn_lastore, rn_goto, rn_ifCond_eq, rn_if_icmp_eq, rn_ifCond_ne, rn_if_icmp_ne, rn_ifCond_lt, rn_if_icmp_lt, rn_ifCond_ge, rn_if_icmp_ge, rn_ifCond_gt, rn_if_icmp_gt, rn_ifCond_le, rn_if_icmp_le, rn_ireturn, rn_lreturn, rn_return, rL_I, rL_L, rL_R, rS_t, rI_t, rG_s, rG_i, rP_s, rP_i, kq_v, kq_s, ok_0, ok_1I, ok_1R, ok_1N, ok_s, rc8_0, rc8_1, rc8_2, rc8_3, rc8_4, List.getElem?_cons_zero, List.getElem?_cons_succ, List.set_cons_zero, List.set_cons_succ, true_and, and_true, if_true, if_false, Int.toNat_natCast, Int.reduceToNat, Int.reduceAdd, Int.reduceSub, Int.reduceMul, Int.reduceNeg, Nat.reduceAdd, Int.reduceLT, Int.reduceLE, Int.reduceEq, reduceIte, w_ck_18, w_g_18_0, w_g_18_1, w_g_18_2, w_g_18_3, w_g_18_4, w_g_18_5, w_p_18_5, w_g_18_6, w_p_18_6, w_g_18_7, w_p_18_7, w_g_18_8, w_p_18_8, w_r_19, w_l_19, w_w_19, w_r_20, w_l_20, w_w_20, w_r_21, w_l_21, w_w_21, w_r_22, w_l_22, w_w_22, jI_add, jI_sub, jI_mul, jI_neg, jI_eq, jI_le, jI_lt, jI_eq0, jI_eq1, jI_lt0, jI_0lt, jI_le0, jI_0le, jI_clamp, jI_inBT, kL_0, kL_1, kL_2, kL_5, kL_6, kL_7, kL_10, kL_11, kL_15, kL_23, kL_31, kL_39, kL_97, kL_99, kL_104, kL_255, kL_349, kL_999, kL_1771561, kL_16777215, kL_4294967295, kL_18446744073709551615, jI_toL, rn_zB, rn_z0, rn_z1, jIB_eq0, jIB_eq1, jIB_eqJ, jB_def, jB_not, jB_and, jB_or, jB_nand, jB_nor, jB_ite, mrg, Decidable.not_not, ite_not, u2_s, u2_n, Int.add_sub_cancel, Int.sub_add_cancel, f6, aR, jI_and, and_SS, cp, Int.toNat_natCast]
      exact hr2 d Q
    · refine ⟨m, b, Best_iff hB (fun x => ⟨Or.inl, fun h => h.elim id (fun h => ?_)⟩), fun d Q => ?_⟩
      · exfalso
        apply cp
        rw [← setS_one ht]
        apply setS_ext
        intro z _ hz
        exact mk_prune hG ht hi hcb hcf h z (by omega)
      · rw [b_Maker_choose_0]
        simp (disch := omega) only [b_Maker_choose_15, rn_nil, rn_iconst, rn_ldc2, rn_iadd, rn_isub, rn_imul, rn_iand, rn_ior, rn_ixor, rn_ishl, rn_ishr, rn_iushr, rn_ineg, rn_ladd, rn_lsub, rn_lmul, rn_land, rn_lor, rn_lshl, rn_lushr, rn_lcmp, rn_i2l, rn_l2i, rn_dupI, rn_dupR, rn_popI, rn_dup2, rn_idiv, rn_irem, rn_ldiv, rn_lrem, rn_dadd, rn_dsub, rn_dmul, rn_objinit, rn_iload, rn_lload, rn_aload, rn_istore, rn_astore, rn_lstore, rn_iinc, rn_getfield, rn_iaload, rn_laload, rn_aaload, rn_arraylength, rn_putfield, rn_iastore, rn_lastore, rn_goto, rn_ifCond_eq, rn_if_icmp_eq, rn_ifCond_ne, rn_if_icmp_ne, rn_ifCond_lt, rn_if_icmp_lt, rn_ifCond_ge, rn_if_icmp_ge, rn_ifCond_gt, rn_if_icmp_gt, rn_ifCond_le, rn_if_icmp_le, rn_ireturn, rn_lreturn, rn_return, rL_I, rL_L, rL_R, rS_t, rI_t, rG_s, rG_i, rP_s, rP_i, kq_v, kq_s, ok_0, ok_1I, ok_1R, ok_1N, ok_s, rc8_0, rc8_1, rc8_2, rc8_3, rc8_4, List.getElem?_cons_zero, List.getElem?_cons_succ, List.set_cons_zero, List.set_cons_succ, true_and, and_true, if_true, if_false, Int.toNat_natCast, Int.reduceToNat, Int.reduceAdd, Int.reduceSub, Int.reduceMul, Int.reduceNeg, Nat.reduceAdd, Int.reduceLT, Int.reduceLE, Int.reduceEq, reduceIte, w_ck_18, w_g_18_0, w_g_18_1, w_g_18_2, w_g_18_3, w_g_18_4, w_g_18_5, w_p_18_5, w_g_18_6, w_p_18_6, w_g_18_7, w_p_18_7, w_g_18_8, w_p_18_8, w_r_19, w_l_19, w_w_19, w_r_20, w_l_20, w_w_20, w_r_21, w_l_21, w_w_21, w_r_22, w_l_22, w_w_22, jI_add, jI_sub, jI_mul, jI_neg, jI_eq, jI_le, jI_lt, jI_eq0, jI_eq1, jI_lt0, jI_0lt, jI_le0, jI_0le, jI_clamp, jI_inBT, kL_0, kL_1, kL_2, kL_5, kL_6, kL_7, kL_10, kL_11, kL_15, kL_23, kL_31, kL_39, kL_97, kL_99, kL_104, kL_255, kL_349, kL_999, kL_1771561, kL_16777215, kL_4294967295, kL_18446744073709551615, jI_toL, rn_zB, rn_z0, rn_z1, jIB_eq0, jIB_eq1, jIB_eqJ, jB_def, jB_not, jB_and, jB_or, jB_nand, jB_nor, jB_ite, mrg, Decidable.not_not, ite_not, u2_s, u2_n, Int.add_sub_cancel, Int.sub_add_cancel, f6, aR, jI_and, and_SS, cp, Int.toNat_natCast]
end MKM
