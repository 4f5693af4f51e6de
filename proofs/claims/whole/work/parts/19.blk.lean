/-! BLOCKS AND CALLS, by program -/
theorem am_rcv_ck {k ci : Nat} {as : List Value} {h : am_H} : am_rcv ci (.ref k :: as) h = am_ck (h.2.2 k) ci := by
  unfold am_ck am_rcv
  rfl
theorem cl_take (as r : List Value) (n : Nat) (hn : as.length = n) : ((as.reverse ++ r).take n).reverse = as ∧ (as.reverse ++ r).drop n = r ∧ ¬ (as.reverse ++ r).length < n := by
  subst hn
  refine ⟨?_, ?_, ?_⟩
  · rw [List.take_left' (by simp), List.reverse_reverse]
  · rw [List.drop_left' (by simp)]
  · simp
theorem cl_V {q k rc : Nat} {as r : List Value} {h : am_H} (hm : as.length + 1 = (am_m q).2.1) (hr : (am_m q).2.2.2 = rc) : am_call (.invokevirtual q) ((.ref k :: as).reverse ++ r) h = if am_ck (h.2.2 k) rc = true then some (q, .ref k :: as, r) else none := by
  obtain ⟨e1, e2, e3⟩ := cl_take (.ref k :: as) r (am_m q).2.1 (by simpa using hm)
  simp only [am_call]
  rw [e1, e2, hr, am_rcv_ck]
  by_cases hk : am_ck (h.2.2 k) rc = true
  · rw [if_pos hk, if_neg]
    intro z
    rcases z with z | z
    · exact e3 z
    · rw [hk] at z; cases z
  · rw [if_neg hk, if_pos (Or.inr (by simpa using hk))]
theorem cl_I {q k rc : Nat} {as r : List Value} {h : am_H} (hm : as.length + 1 = (am_m q).2.1) (hr : (am_m q).2.2.2 = rc) : am_call (.invokespecial q) ((.ref k :: as).reverse ++ r) h = if am_ck (h.2.2 k) rc = true then some (q, .ref k :: as, r) else none := by
  obtain ⟨e1, e2, e3⟩ := cl_take (.ref k :: as) r (am_m q).2.1 (by simpa using hm)
  simp only [am_call]
  rw [e1, e2, hr, am_rcv_ck]
  by_cases hk : am_ck (h.2.2 k) rc = true
  · rw [if_pos hk, if_neg]
    intro z
    rcases z with z | z
    · exact e3 z
    · rw [hk] at z; cases z
  · rw [if_neg hk, if_pos (Or.inr (by simpa using hk))]
theorem cl_S {q : Nat} {as r : List Value} {h : am_H} (hm : as.length = (am_m q).2.1) (hr : (am_m q).2.2.2 = 99) : am_call (.invokestatic q) (as.reverse ++ r) h = if True then some (q, as, r) else none := by
  obtain ⟨e1, e2, e3⟩ := cl_take as r (am_m q).2.1 hm
  simp only [am_call]
  rw [e1, e2, if_neg, if_pos trivial]
  intro z
  rcases z with z | z
  · exact e3 z
  · exact z hr
section BLK
variable {d y nx : Nat} {is : List Instr} {ls st r : List Value} {h : am_H} {Q : Option Value → am_H → Prop}
theorem b_Changes_init_0 : Rj d 0 0 ls st h Q = Rn d (0, [.aload 0, .monitorenter, .aload 0, .iconst 320, .newarray .int, .putfield 8192, .aload 0, .iconst 320, .newarray .int, .putfield 8193, .aload 0, .iconst 8, .newarray .int, .putfield 8194, .return_], 0, ls, st) h Q := rn_blk rfl
theorem b_Changes_least_0 : Rj d 1 0 ls st h Q = Rn d (1, [.aload 0, .aload 1, .aload 2, .invokevirtual 2, .aload 0, .getfield 0, .iconst 0, .invokestatic 4, .ireturn], 0, ls, st) h Q := rn_blk rfl
theorem b_Changes_weighBelow_0 : Rj d 2 0 ls st h Q = Rn d (2, [.iconst 0, .istore 3], 2, ls, st) h Q := rn_blk rfl
theorem b_Changes_weighBelow_2 : Rj d 2 2 ls st h Q = Rn d (2, [.iload 3, .aload 1, .getfield 643, .if_icmp .ge 88], 10, ls, st) h Q := rn_blk rfl
theorem b_Changes_weighBelow_10 : Rj d 2 10 ls st h Q = Rn d (2, [.aload 1, .getfield 641, .iload 3, .iaload, .istore 4, .iload 4, .iconst (-1), .if_icmp .ne 28], 24, ls, st) h Q := rn_blk rfl
theorem b_Changes_weighBelow_24 : Rj d 2 24 ls st h Q = Rn d (2, [.iconst (-1), .goto 32], 0, ls, st) h Q := rn_blk rfl
theorem b_Changes_weighBelow_28 : Rj d 2 28 ls st h Q = Rn d (2, [.aload 2, .iload 4, .iaload], 32, ls, st) h Q := rn_blk rfl
theorem b_Changes_weighBelow_32 : Rj d 2 32 ls st h Q = Rn d (2, [.istore 5, .iconst 0, .istore 6], 37, ls, st) h Q := rn_blk rfl
theorem b_Changes_weighBelow_37 : Rj d 2 37 ls st h Q = Rn d (2, [.iload 6, .iconst 8, .if_icmp .ge 82], 44, ls, st) h Q := rn_blk rfl
theorem b_Changes_weighBelow_44 : Rj d 2 44 ls st h Q = Rn d (2, [.aload 0, .getfield 0, .iload 3, .iconst 8, .imul, .iload 6, .iadd, .iload 5, .iconst (-1), .if_icmp .eq 68], 61, ls, st) h Q := rn_blk rfl
theorem b_Changes_weighBelow_61 : Rj d 2 61 ls st h Q = Rn d (2, [.iload 5, .iload 6, .if_icmp .ne 72], 68, ls, st) h Q := rn_blk rfl
theorem b_Changes_weighBelow_68 : Rj d 2 68 ls st h Q = Rn d (2, [.iconst 0, .goto 75], 0, ls, st) h Q := rn_blk rfl
theorem b_Changes_weighBelow_72 : Rj d 2 72 ls st h Q = Rn d (2, [.iconst 1000], 75, ls, st) h Q := rn_blk rfl
theorem b_Changes_weighBelow_75 : Rj d 2 75 ls st h Q = Rn d (2, [.iastore, .iinc 6 1, .goto 37], 0, ls, st) h Q := rn_blk rfl
theorem b_Changes_weighBelow_82 : Rj d 2 82 ls st h Q = Rn d (2, [.iinc 3 1, .goto 2], 0, ls, st) h Q := rn_blk rfl
theorem b_Changes_weighBelow_88 : Rj d 2 88 ls st h Q = Rn d (2, [.aload 1, .getfield 643, .iconst 1, .isub, .istore 3], 95, ls, st) h Q := rn_blk rfl
theorem b_Changes_weighBelow_95 : Rj d 2 95 ls st h Q = Rn d (2, [.iload 3, .ifCond .le 116], 99, ls, st) h Q := rn_blk rfl
theorem b_Changes_weighBelow_99 : Rj d 2 99 ls st h Q = Rn d (2, [.aload 0, .iload 3, .aload 1, .getfield 640, .iload 3, .iaload, .invokevirtual 3, .iinc 3 (-1), .goto 95], 0, ls, st) h Q := rn_blk rfl
theorem b_Changes_weighBelow_116 : Rj d 2 116 ls st h Q = Rn d (2, [.return_], 0, ls, st) h Q := rn_blk rfl
theorem b_Changes_addToAbove_0 : Rj d 3 0 ls st h Q = Rn d (3, [.aload 0, .getfield 0, .iload 1, .iconst 8, .imul, .invokestatic 4, .iconst 1, .iadd, .istore 3, .iconst 0, .istore 4], 17, ls, st) h Q := rn_blk rfl
theorem b_Changes_addToAbove_17 : Rj d 3 17 ls st h Q = Rn d (3, [.iload 4, .iconst 8, .if_icmp .ge 61], 24, ls, st) h Q := rn_blk rfl
theorem b_Changes_addToAbove_24 : Rj d 3 24 ls st h Q = Rn d (3, [.aload 0, .getfield 0, .iload 2, .iconst 8, .imul, .iload 4, .iadd, .dup2, .iaload, .aload 0, .getfield 0, .iload 1, .iconst 8, .imul, .iload 4, .iadd, .iaload, .iload 3, .dadd, .iadd, .iastore, .iinc 4 1, .goto 17], 0, ls, st) h Q := rn_blk rfl
theorem b_Changes_addToAbove_61 : Rj d 3 61 ls st h Q = Rn d (3, [.return_], 0, ls, st) h Q := rn_blk rfl
theorem b_Changes_leastOf_0 : Rj d 4 0 ls st h Q = Rn d (4, [.aload 0, .iload 1, .iaload, .istore 2, .iconst 1, .istore 3], 6, ls, st) h Q := rn_blk rfl
theorem b_Changes_leastOf_6 : Rj d 4 6 ls st h Q = Rn d (4, [.iload 3, .iconst 8, .if_icmp .ge 33], 12, ls, st) h Q := rn_blk rfl
theorem b_Changes_leastOf_12 : Rj d 4 12 ls st h Q = Rn d (4, [.aload 0, .iload 1, .iload 3, .iadd, .iaload, .iload 2, .if_icmp .ge 27], 21, ls, st) h Q := rn_blk rfl
theorem b_Changes_leastOf_21 : Rj d 4 21 ls st h Q = Rn d (4, [.aload 0, .iload 1, .iload 3, .iadd, .iaload, .istore 2], 27, ls, st) h Q := rn_blk rfl
theorem b_Changes_leastOf_27 : Rj d 4 27 ls st h Q = Rn d (4, [.iinc 3 1, .goto 6], 0, ls, st) h Q := rn_blk rfl
theorem b_Changes_leastOf_33 : Rj d 4 33 ls st h Q = Rn d (4, [.iload 2, .ireturn], 0, ls, st) h Q := rn_blk rfl
theorem b_Changes_weighAll_0 : Rj d 5 0 ls st h Q = Rn d (5, [.aload 0, .aload 1, .aload 2, .invokevirtual 2, .aload 0, .getfield 0, .iconst 0, .aload 0, .getfield 1, .iconst 0, .iconst 8, .invokedynamic 0, .iconst 1, .istore 3], 23, ls, st) h Q := rn_blk rfl
theorem b_Changes_weighAll_23 : Rj d 5 23 ls st h Q = Rn d (5, [.iload 3, .aload 1, .getfield 643, .if_icmp .ge 48], 31, ls, st) h Q := rn_blk rfl
theorem b_Changes_weighAll_31 : Rj d 5 31 ls st h Q = Rn d (5, [.aload 0, .iload 3, .aload 1, .getfield 640, .iload 3, .iaload, .invokevirtual 6, .iinc 3 1, .goto 23], 0, ls, st) h Q := rn_blk rfl
theorem b_Changes_weighAll_48 : Rj d 5 48 ls st h Q = Rn d (5, [.return_], 0, ls, st) h Q := rn_blk rfl
theorem b_Changes_weighWhole_0 : Rj d 6 0 ls st h Q = Rn d (6, [.aload 0, .getfield 0, .iload 1, .iconst 8, .imul, .invokestatic 4, .iconst 1, .iadd, .istore 3, .iconst 0, .istore 4], 17, ls, st) h Q := rn_blk rfl
theorem b_Changes_weighWhole_17 : Rj d 6 17 ls st h Q = Rn d (6, [.iload 4, .iconst 8, .if_icmp .ge 70], 24, ls, st) h Q := rn_blk rfl
theorem b_Changes_weighWhole_24 : Rj d 6 24 ls st h Q = Rn d (6, [.aload 0, .getfield 0, .iload 1, .iconst 8, .imul, .iload 4, .iadd, .iaload, .iload 3, .dadd, .istore 5, .aload 0, .getfield 2, .iload 4, .aload 0, .getfield 1, .iload 2, .iconst 8, .imul, .iload 4, .iadd, .iaload, .iload 5, .isub, .iastore, .iinc 4 1, .goto 17], 0, ls, st) h Q := rn_blk rfl
theorem b_Changes_weighWhole_70 : Rj d 6 70 ls st h Q = Rn d (6, [.aload 0, .getfield 2, .iconst 0, .invokestatic 4, .iconst 1, .iadd, .istore 4, .iconst 0, .istore 5], 85, ls, st) h Q := rn_blk rfl
theorem b_Changes_weighWhole_85 : Rj d 6 85 ls st h Q = Rn d (6, [.iload 5, .iconst 8, .if_icmp .ge 135], 92, ls, st) h Q := rn_blk rfl
theorem b_Changes_weighWhole_92 : Rj d 6 92 ls st h Q = Rn d (6, [.aload 0, .getfield 1, .iload 1, .iconst 8, .imul, .iload 5, .iadd, .aload 0, .getfield 0, .iload 1, .iconst 8, .imul, .iload 5, .iadd, .iaload, .aload 0, .getfield 2, .iload 5, .iaload, .iload 4, .dadd, .iadd, .iastore, .iinc 5 1, .goto 85], 0, ls, st) h Q := rn_blk rfl
theorem b_Changes_weighWhole_135 : Rj d 6 135 ls st h Q = Rn d (6, [.return_], 0, ls, st) h Q := rn_blk rfl
theorem b_Changes_sureOf_0 : Rj d 7 0 ls st h Q = Rn d (7, [.aload 0, .getfield 1, .iload 1, .iconst 8, .imul, .invokestatic 4, .istore 2, .iconst (-1), .istore 3, .iconst 0, .istore 4], 17, ls, st) h Q := rn_blk rfl
theorem b_Changes_sureOf_17 : Rj d 7 17 ls st h Q = Rn d (7, [.iload 4, .iconst 8, .if_icmp .ge 56], 24, ls, st) h Q := rn_blk rfl
theorem b_Changes_sureOf_24 : Rj d 7 24 ls st h Q = Rn d (7, [.aload 0, .getfield 1, .iload 1, .iconst 8, .imul, .iload 4, .iadd, .iaload, .iload 2, .if_icmp .ne 50], 40, ls, st) h Q := rn_blk rfl
theorem b_Changes_sureOf_40 : Rj d 7 40 ls st h Q = Rn d (7, [.iload 3, .iconst (-1), .if_icmp .eq 47], 45, ls, st) h Q := rn_blk rfl
theorem b_Changes_sureOf_45 : Rj d 7 45 ls st h Q = Rn d (7, [.iconst (-1), .ireturn], 0, ls, st) h Q := rn_blk rfl
theorem b_Changes_sureOf_47 : Rj d 7 47 ls st h Q = Rn d (7, [.iload 4, .istore 3], 50, ls, st) h Q := rn_blk rfl
theorem b_Changes_sureOf_50 : Rj d 7 50 ls st h Q = Rn d (7, [.iinc 4 1, .goto 17], 0, ls, st) h Q := rn_blk rfl
theorem b_Changes_sureOf_56 : Rj d 7 56 ls st h Q = Rn d (7, [.iload 3, .ireturn], 0, ls, st) h Q := rn_blk rfl
theorem b_Deal_init_0 : Rj d 8 0 ls st h Q = Rn d (8, [.aload 0, .monitorenter, .aload 0, .iconst 8, .newarray .int, .putfield 8256, .aload 0, .iconst 8, .newarray .int, .putfield 8257, .aload 0, .iconst 8, .newarray .int, .putfield 8258, .aload 0, .iconst 8, .newarray .int, .putfield 8259, .return_], 0, ls, st) h Q := rn_blk rfl
theorem b_Deal_countWays_0 : Rj d 9 0 ls st h Q = Rn d (9, [.aload 0, .getfield 66, .iconst 0, .invokestatic 191, .aload 0, .iconst 0, .putfield 68, .iconst 0, .istore 4], 16, ls, st) h Q := rn_blk rfl
theorem b_Deal_countWays_16 : Rj d 9 16 ls st h Q = Rn d (9, [.iload 4, .iconst 8, .if_icmp .ge 94], 23, ls, st) h Q := rn_blk rfl
theorem b_Deal_countWays_23 : Rj d 9 23 ls st h Q = Rn d (9, [.aload 0, .getfield 64, .iload 4, .aload 2, .iload 4, .iaload, .iastore, .aload 1, .getfield 644, .iload 4, .ishr, .iconst 1, .iand, .ifCond .eq 88], 46, ls, st) h Q := rn_blk rfl
theorem b_Deal_countWays_46 : Rj d 9 46 ls st h Q = Rn d (9, [.aload 2, .iload 4, .iaload, .iconst (-1), .if_icmp .eq 88], 54, ls, st) h Q := rn_blk rfl
theorem b_Deal_countWays_54 : Rj d 9 54 ls st h Q = Rn d (9, [.aload 0, .getfield 65, .aload 0, .getfield 68, .iload 4, .iastore, .aload 0, .dup, .getfield 68, .iconst 1, .iadd, .putfield 68, .aload 0, .getfield 66, .aload 2, .iload 4, .iaload, .dup2, .iaload, .iconst 1, .iadd, .iastore], 88, ls, st) h Q := rn_blk rfl
theorem b_Deal_countWays_88 : Rj d 9 88 ls st h Q = Rn d (9, [.iinc 4 1, .goto 16], 0, ls, st) h Q := rn_blk rfl
theorem b_Deal_countWays_94 : Rj d 9 94 ls st h Q = Rn d (9, [.aload 0, .getfield 66, .iconst 0, .aload 0, .getfield 67, .iconst 0, .iconst 8, .invokedynamic 0, .aload 0, .aload 3, .aload 1, .aload 2, .invokevirtual 1, .putfield 69, .aload 0, .iconst 0, .putfield 70, .aload 0, .iconst 0, .putfield 71, .aload 0, .iconst 0, .aload 1, .aload 3, .invokestatic 10, .return_], 0, ls, st) h Q := rn_blk rfl
theorem b_Deal_dealFrom_0 : Rj d 10 0 ls st h Q = Rn d (10, [.iload 1, .aload 0, .getfield 68, .if_icmp .lt 45], 8, ls, st) h Q := rn_blk rfl
theorem b_Deal_dealFrom_8 : Rj d 10 8 ls st h Q = Rn d (10, [.aload 0, .dup, .getfield 70, .iconst 1, .iadd, .putfield 70, .aload 3, .aload 2, .aload 0, .getfield 64, .invokevirtual 1, .aload 0, .getfield 69, .if_icmp .gt 44], 34, ls, st) h Q := rn_blk rfl
theorem b_Deal_dealFrom_34 : Rj d 10 34 ls st h Q = Rn d (10, [.aload 0, .dup, .getfield 71, .iconst 1, .iadd, .putfield 71], 44, ls, st) h Q := rn_blk rfl
theorem b_Deal_dealFrom_44 : Rj d 10 44 ls st h Q = Rn d (10, [.return_], 0, ls, st) h Q := rn_blk rfl
theorem b_Deal_dealFrom_45 : Rj d 10 45 ls st h Q = Rn d (10, [.iconst 0, .istore 4], 48, ls, st) h Q := rn_blk rfl
theorem b_Deal_dealFrom_48 : Rj d 10 48 ls st h Q = Rn d (10, [.iload 4, .iconst 8, .if_icmp .ge 124], 55, ls, st) h Q := rn_blk rfl
theorem b_Deal_dealFrom_55 : Rj d 10 55 ls st h Q = Rn d (10, [.aload 0, .getfield 67, .iload 4, .iaload, .ifCond .le 118], 65, ls, st) h Q := rn_blk rfl
theorem b_Deal_dealFrom_65 : Rj d 10 65 ls st h Q = Rn d (10, [.aload 0, .iload 4, .invokevirtual 11, .ifCond .ne 118], 74, ls, st) h Q := rn_blk rfl
theorem b_Deal_dealFrom_74 : Rj d 10 74 ls st h Q = Rn d (10, [.aload 0, .getfield 67, .iload 4, .dup2, .iaload, .iconst 1, .isub, .iastore, .aload 0, .getfield 64, .aload 0, .getfield 65, .iload 1, .iaload, .iload 4, .iastore, .aload 0, .iload 1, .iconst 1, .iadd, .aload 2, .aload 3, .invokestatic 10, .aload 0, .getfield 67, .iload 4, .dup2, .iaload, .iconst 1, .iadd, .iastore], 118, ls, st) h Q := rn_blk rfl
theorem b_Deal_dealFrom_118 : Rj d 10 118 ls st h Q = Rn d (10, [.iinc 4 1, .goto 48], 0, ls, st) h Q := rn_blk rfl
theorem b_Deal_dealFrom_124 : Rj d 10 124 ls st h Q = Rn d (10, [.return_], 0, ls, st) h Q := rn_blk rfl
theorem b_Deal_hasTwinBefore_0 : Rj d 11 0 ls st h Q = Rn d (11, [.aload 0, .getfield 67, .iload 1, .iaload, .aload 0, .getfield 66, .iload 1, .iaload, .if_icmp .ge 17], 15, ls, st) h Q := rn_blk rfl
theorem b_Deal_hasTwinBefore_15 : Rj d 11 15 ls st h Q = Rn d (11, [.iconst 0, .freturn], 0, ls, st) h Q := rn_blk rfl
theorem b_Deal_hasTwinBefore_17 : Rj d 11 17 ls st h Q = Rn d (11, [.iconst 0, .istore 2], 19, ls, st) h Q := rn_blk rfl
theorem b_Deal_hasTwinBefore_19 : Rj d 11 19 ls st h Q = Rn d (11, [.iload 2, .iload 1, .if_icmp .ge 62], 24, ls, st) h Q := rn_blk rfl
theorem b_Deal_hasTwinBefore_24 : Rj d 11 24 ls st h Q = Rn d (11, [.aload 0, .getfield 66, .iload 2, .iaload, .aload 0, .getfield 66, .iload 1, .iaload, .if_icmp .ne 56], 39, ls, st) h Q := rn_blk rfl
theorem b_Deal_hasTwinBefore_39 : Rj d 11 39 ls st h Q = Rn d (11, [.aload 0, .getfield 67, .iload 2, .iaload, .aload 0, .getfield 66, .iload 2, .iaload, .if_icmp .ne 56], 54, ls, st) h Q := rn_blk rfl
theorem b_Deal_hasTwinBefore_54 : Rj d 11 54 ls st h Q = Rn d (11, [.iconst 1, .freturn], 0, ls, st) h Q := rn_blk rfl
theorem b_Deal_hasTwinBefore_56 : Rj d 11 56 ls st h Q = Rn d (11, [.iinc 2 1, .goto 19], 0, ls, st) h Q := rn_blk rfl
theorem b_Deal_hasTwinBefore_62 : Rj d 11 62 ls st h Q = Rn d (11, [.iconst 0, .freturn], 0, ls, st) h Q := rn_blk rfl
theorem b_Heads_init_0 : Rj d 12 0 ls st h Q = Rn d (12, [.aload 0, .monitorenter, .aload 0, .iconst 4, .anewarray 2, .putfield 8321, .aload 0, .iconst 6, .newarray .int, .putfield 8322, .aload 0, .iconst 6, .newarray .int, .putfield 8323, .aload 0, .iconst 6, .newarray .int, .putfield 8324, .aload 0, .iconst 0, .putfield 133, .aload 0, .aload 1, .putfield 8320, .iconst 0, .istore 2], 48, ls, st) h Q := rn_blk rfl
theorem b_Heads_init_48 : Rj d 12 48 ls st h Q = Rn d (12, [.iload 2, .iconst 4, .if_icmp .ge 77], 53, ls, st) h Q := rn_blk rfl
theorem b_Heads_init_53 : Rj d 12 53 ls st h Q = Rn d (12, [.aload 0, .getfield 129, .iload 2, .new 7, .dup, .iconst 1, .iload 2, .ishl, .iconst 1, .isub, .invokespecial 55, .aastore, .iinc 2 1, .goto 48], 0, ls, st) h Q := rn_blk rfl
theorem b_Heads_init_77 : Rj d 12 77 ls st h Q = Rn d (12, [.return_], 0, ls, st) h Q := rn_blk rfl
theorem b_Heads_add_0 : Rj d 13 0 ls st h Q = Rn d (13, [.aload 0, .getfield 130, .aload 0, .getfield 133, .iload 1, .iastore, .aload 0, .getfield 131, .aload 0, .getfield 133, .iload 2, .iastore, .aload 0, .dup, .getfield 133, .iconst 1, .iadd, .putfield 133, .aload 0, .getfield 133, .iconst 1, .isub, .ireturn], 0, ls, st) h Q := rn_blk rfl
theorem b_Heads_stageOfAnswer_0 : Rj d 14 0 ls st h Q = Rn d (14, [.iconst 0, .istore 3], 2, ls, st) h Q := rn_blk rfl
theorem b_Heads_stageOfAnswer_2 : Rj d 14 2 ls st h Q = Rn d (14, [.iload 3, .iconst 4, .if_icmp .ge 59], 7, ls, st) h Q := rn_blk rfl
theorem b_Heads_stageOfAnswer_7 : Rj d 14 7 ls st h Q = Rn d (14, [.iload 3, .iconst 3, .if_icmp .eq 29], 12, ls, st) h Q := rn_blk rfl
theorem b_Heads_stageOfAnswer_12 : Rj d 14 12 ls st h Q = Rn d (14, [.aload 0, .iload 3, .iconst 1, .iadd, .iload 1, .invokevirtual 15, .aload 0, .iload 3, .iload 1, .invokevirtual 15, .if_icmp .le 33], 29, ls, st) h Q := rn_blk rfl
theorem b_Heads_stageOfAnswer_29 : Rj d 14 29 ls st h Q = Rn d (14, [.iconst 1, .goto 34], 0, ls, st) h Q := rn_blk rfl
theorem b_Heads_stageOfAnswer_33 : Rj d 14 33 ls st h Q = Rn d (14, [.iconst 0], 34, ls, st) h Q := rn_blk rfl
theorem b_Heads_stageOfAnswer_34 : Rj d 14 34 ls st h Q = Rn d (14, [.istore 4, .iload 4, .ifCond .eq 53], 41, ls, st) h Q := rn_blk rfl
theorem b_Heads_stageOfAnswer_41 : Rj d 14 41 ls st h Q = Rn d (14, [.aload 0, .iload 3, .iload 2, .invokevirtual 16, .iconst (-1), .if_icmp .eq 53], 51, ls, st) h Q := rn_blk rfl
theorem b_Heads_stageOfAnswer_51 : Rj d 14 51 ls st h Q = Rn d (14, [.iload 3, .ireturn], 0, ls, st) h Q := rn_blk rfl
theorem b_Heads_stageOfAnswer_53 : Rj d 14 53 ls st h Q = Rn d (14, [.iinc 3 1, .goto 2], 0, ls, st) h Q := rn_blk rfl
theorem b_Heads_stageOfAnswer_59 : Rj d 14 59 ls st h Q = Rn d (14, [.iconst (-1), .ireturn], 0, ls, st) h Q := rn_blk rfl
theorem b_Heads_secondOf_0 : Rj d 15 0 ls st h Q = Rn d (15, [.iload 1, .iconst (-1), .if_icmp .ne 7], 5, ls, st) h Q := rn_blk rfl
theorem b_Heads_secondOf_5 : Rj d 15 5 ls st h Q = Rn d (15, [.iconst (-1), .ireturn], 0, ls, st) h Q := rn_blk rfl
theorem b_Heads_secondOf_7 : Rj d 15 7 ls st h Q = Rn d (15, [.iload 1, .ifCond .ne 15], 11, ls, st) h Q := rn_blk rfl
theorem b_Heads_secondOf_11 : Rj d 15 11 ls st h Q = Rn d (15, [.iconst 0, .goto 32], 0, ls, st) h Q := rn_blk rfl
theorem b_Heads_secondOf_15 : Rj d 15 15 ls st h Q = Rn d (15, [.aload 0, .getfield 130, .iload 2, .iaload, .iload 1, .iconst 1, .isub, .aload 0, .getfield 131, .iload 2, .iaload, .imul, .iadd], 32, ls, st) h Q := rn_blk rfl
theorem b_Heads_secondOf_32 : Rj d 15 32 ls st h Q = Rn d (15, [.ireturn], 0, ls, st) h Q := rn_blk rfl
theorem b_Heads_answerIn_0 : Rj d 16 0 ls st h Q = Rn d (16, [.iload 1, .iconst (-1), .if_icmp .ne 7], 5, ls, st) h Q := rn_blk rfl
theorem b_Heads_answerIn_5 : Rj d 16 5 ls st h Q = Rn d (16, [.iconst (-1), .ireturn], 0, ls, st) h Q := rn_blk rfl
theorem b_Heads_answerIn_7 : Rj d 16 7 ls st h Q = Rn d (16, [.aload 0, .getfield 128, .iload 2, .iconst (-1), .aload 0, .getfield 129, .iload 1, .aaload, .invokevirtual 50, .istore 3, .iload 3, .invokestatic 192, .iconst 1, .if_icmp .ne 40], 31, ls, st) h Q := rn_blk rfl
theorem b_Heads_answerIn_31 : Rj d 16 31 ls st h Q = Rn d (16, [.iload 3, .iconst 1, .isub, .invokestatic 192, .goto 41], 0, ls, st) h Q := rn_blk rfl
theorem b_Heads_answerIn_40 : Rj d 16 40 ls st h Q = Rn d (16, [.iconst (-1)], 41, ls, st) h Q := rn_blk rfl
theorem b_Heads_answerIn_41 : Rj d 16 41 ls st h Q = Rn d (16, [.ireturn], 0, ls, st) h Q := rn_blk rfl
theorem b_Heads_unlikePairs_0 : Rj d 17 0 ls st h Q = Rn d (17, [.iconst 0, .istore 2, .iconst 0, .istore 3], 4, ls, st) h Q := rn_blk rfl
theorem b_Heads_unlikePairs_4 : Rj d 17 4 ls st h Q = Rn d (17, [.iload 3, .aload 0, .getfield 133, .if_icmp .ge 64], 12, ls, st) h Q := rn_blk rfl
theorem b_Heads_unlikePairs_12 : Rj d 17 12 ls st h Q = Rn d (17, [.aload 0, .getfield 132, .iload 3, .aload 0, .iload 3, .iload 1, .invokevirtual 18, .iastore, .iconst 0, .istore 4], 27, ls, st) h Q := rn_blk rfl
theorem b_Heads_unlikePairs_27 : Rj d 17 27 ls st h Q = Rn d (17, [.iload 4, .iload 3, .if_icmp .ge 58], 33, ls, st) h Q := rn_blk rfl
theorem b_Heads_unlikePairs_33 : Rj d 17 33 ls st h Q = Rn d (17, [.aload 0, .getfield 132, .iload 4, .iaload, .aload 0, .getfield 132, .iload 3, .iaload, .if_icmp .eq 52], 49, ls, st) h Q := rn_blk rfl
theorem b_Heads_unlikePairs_49 : Rj d 17 49 ls st h Q = Rn d (17, [.iinc 2 1], 52, ls, st) h Q := rn_blk rfl
theorem b_Heads_unlikePairs_52 : Rj d 17 52 ls st h Q = Rn d (17, [.iinc 4 1, .goto 27], 0, ls, st) h Q := rn_blk rfl
theorem b_Heads_unlikePairs_58 : Rj d 17 58 ls st h Q = Rn d (17, [.iinc 3 1, .goto 4], 0, ls, st) h Q := rn_blk rfl
theorem b_Heads_unlikePairs_64 : Rj d 17 64 ls st h Q = Rn d (17, [.iload 2, .ireturn], 0, ls, st) h Q := rn_blk rfl
theorem b_Heads_answerOf_0 : Rj d 18 0 ls st h Q = Rn d (18, [.aload 0, .aload 0, .iload 1, .iload 2, .invokevirtual 14, .iload 2, .invokevirtual 16, .ireturn], 0, ls, st) h Q := rn_blk rfl
theorem b_Heads_answeringOther_0 : Rj d 19 0 ls st h Q = Rn d (19, [.iconst 0, .istore 3, .iconst 0, .istore 4], 5, ls, st) h Q := rn_blk rfl
theorem b_Heads_answeringOther_5 : Rj d 19 5 ls st h Q = Rn d (19, [.iload 4, .aload 0, .getfield 133, .if_icmp .ge 34], 14, ls, st) h Q := rn_blk rfl
theorem b_Heads_answeringOther_14 : Rj d 19 14 ls st h Q = Rn d (19, [.aload 0, .iload 4, .iload 1, .invokevirtual 18, .iload 2, .if_icmp .eq 28], 25, ls, st) h Q := rn_blk rfl
theorem b_Heads_answeringOther_25 : Rj d 19 25 ls st h Q = Rn d (19, [.iinc 3 1], 28, ls, st) h Q := rn_blk rfl
theorem b_Heads_answeringOther_28 : Rj d 19 28 ls st h Q = Rn d (19, [.iinc 4 1, .goto 5], 0, ls, st) h Q := rn_blk rfl
theorem b_Heads_answeringOther_34 : Rj d 19 34 ls st h Q = Rn d (19, [.iload 3, .ireturn], 0, ls, st) h Q := rn_blk rfl
theorem b_Lore_init_0 : Rj d 20 0 ls st h Q = Rn d (20, [.aload 0, .monitorenter, .aload 0, .iconst 0, .putfield 192, .aload 0, .iconst 0, .putfield 193, .aload 0, .iconst 12, .newarray .int, .putfield 8386, .aload 0, .iconst 24, .newarray .int, .putfield 8387, .aload 0, .iconst 24, .newarray .int, .putfield 8388, .aload 0, .iconst 48, .newarray .int, .putfield 8389, .aload 0, .iconst 16, .newarray .int, .putfield 8390, .aload 0, .iconst 20, .newarray .int, .putfield 8391, .aload 0, .iconst 20, .newarray .int, .putfield 8392, .aload 0, .iconst 20, .newarray .int, .putfield 8393, .aload 0, .iconst 60, .newarray .int, .putfield 8394, .return_], 0, ls, st) h Q := rn_blk rfl
theorem b_Lore_addThing_0 : Rj d 21 0 ls st h Q = Rn d (21, [.iconst 1, .aload 0, .getfield 192, .ishl, .istore 2, .iload 1, .invokestatic 192, .istore 3, .iconst 0, .istore 4], 15, ls, st) h Q := rn_blk rfl
theorem b_Lore_addThing_15 : Rj d 21 15 ls st h Q = Rn d (21, [.iload 4, .iconst 24, .if_icmp .ge 48], 22, ls, st) h Q := rn_blk rfl
theorem b_Lore_addThing_22 : Rj d 21 22 ls st h Q = Rn d (21, [.iload 1, .iload 4, .ishr, .iconst 1, .iand, .ifCond .eq 42], 31, ls, st) h Q := rn_blk rfl
theorem b_Lore_addThing_31 : Rj d 21 31 ls st h Q = Rn d (21, [.aload 0, .getfield 195, .iload 4, .dup2, .iaload, .iload 2, .ior, .iastore], 42, ls, st) h Q := rn_blk rfl
theorem b_Lore_addThing_42 : Rj d 21 42 ls st h Q = Rn d (21, [.iinc 4 1, .goto 15], 0, ls, st) h Q := rn_blk rfl
theorem b_Lore_addThing_48 : Rj d 21 48 ls st h Q = Rn d (21, [.iconst 0, .istore 4], 51, ls, st) h Q := rn_blk rfl
theorem b_Lore_addThing_51 : Rj d 21 51 ls st h Q = Rn d (21, [.iload 4, .iconst 23, .if_icmp .gt 81], 58, ls, st) h Q := rn_blk rfl
theorem b_Lore_addThing_58 : Rj d 21 58 ls st h Q = Rn d (21, [.iload 4, .iload 3, .if_icmp .gt 81], 64, ls, st) h Q := rn_blk rfl
theorem b_Lore_addThing_64 : Rj d 21 64 ls st h Q = Rn d (21, [.aload 0, .getfield 196, .iload 4, .dup2, .iaload, .iload 2, .ior, .iastore, .iinc 4 1, .goto 51], 0, ls, st) h Q := rn_blk rfl
theorem b_Lore_addThing_81 : Rj d 21 81 ls st h Q = Rn d (21, [.aload 0, .getfield 194, .aload 0, .getfield 192, .iload 1, .iastore, .aload 0, .dup, .getfield 192, .iconst 1, .iadd, .putfield 192, .aload 0, .invokevirtual 22, .aload 0, .getfield 192, .iconst 1, .isub, .ireturn], 0, ls, st) h Q := rn_blk rfl
theorem b_Lore_fitAnew_0 : Rj d 22 0 ls st h Q = Rn d (22, [.iconst 0, .istore 1], 2, ls, st) h Q := rn_blk rfl
theorem b_Lore_fitAnew_2 : Rj d 22 2 ls st h Q = Rn d (22, [.iload 1, .aload 0, .getfield 193, .if_icmp .ge 45], 10, ls, st) h Q := rn_blk rfl
theorem b_Lore_fitAnew_10 : Rj d 22 10 ls st h Q = Rn d (22, [.iconst 0, .istore 2], 12, ls, st) h Q := rn_blk rfl
theorem b_Lore_fitAnew_12 : Rj d 22 12 ls st h Q = Rn d (22, [.iload 2, .iconst 3, .if_icmp .ge 39], 17, ls, st) h Q := rn_blk rfl
theorem b_Lore_fitAnew_17 : Rj d 22 17 ls st h Q = Rn d (22, [.aload 0, .getfield 202, .iload 1, .iconst 3, .imul, .iload 2, .iadd, .aload 0, .iload 1, .iload 2, .invokevirtual 23, .iastore, .iinc 2 1, .goto 12], 0, ls, st) h Q := rn_blk rfl
theorem b_Lore_fitAnew_39 : Rj d 22 39 ls st h Q = Rn d (22, [.iinc 1 1, .goto 2], 0, ls, st) h Q := rn_blk rfl
theorem b_Lore_fitAnew_45 : Rj d 22 45 ls st h Q = Rn d (22, [.return_], 0, ls, st) h Q := rn_blk rfl
theorem b_Lore_tryOut_0 : Rj d 23 0 ls st h Q = Rn d (23, [.aload 0, .getfield 200, .iload 1, .iaload, .istore 3, .aload 0, .getfield 201, .iload 1, .iaload, .istore 4, .aload 0, .getfield 199, .iload 1, .iaload, .tableswitch 147 1 5 #[56, 71, 86, 110, 125]], 0, ls, st) h Q := rn_blk rfl
theorem b_Lore_tryOut_56 : Rj d 23 56 ls st h Q = Rn d (23, [.iload 2, .ifCond .ne 69], 60, ls, st) h Q := rn_blk rfl
theorem b_Lore_tryOut_60 : Rj d 23 60 ls st h Q = Rn d (23, [.aload 0, .iload 3, .iload 2, .invokevirtual 24, .goto 70], 0, ls, st) h Q := rn_blk rfl
theorem b_Lore_tryOut_69 : Rj d 23 69 ls st h Q = Rn d (23, [.iconst 0], 70, ls, st) h Q := rn_blk rfl
theorem b_Lore_tryOut_70 : Rj d 23 70 ls st h Q = Rn d (23, [.ireturn], 0, ls, st) h Q := rn_blk rfl
theorem b_Lore_tryOut_71 : Rj d 23 71 ls st h Q = Rn d (23, [.iload 2, .ifCond .le 84], 75, ls, st) h Q := rn_blk rfl
theorem b_Lore_tryOut_75 : Rj d 23 75 ls st h Q = Rn d (23, [.aload 0, .iload 3, .iload 2, .invokevirtual 24, .goto 85], 0, ls, st) h Q := rn_blk rfl
theorem b_Lore_tryOut_84 : Rj d 23 84 ls st h Q = Rn d (23, [.iconst 0], 85, ls, st) h Q := rn_blk rfl
theorem b_Lore_tryOut_85 : Rj d 23 85 ls st h Q = Rn d (23, [.ireturn], 0, ls, st) h Q := rn_blk rfl
theorem b_Lore_tryOut_86 : Rj d 23 86 ls st h Q = Rn d (23, [.iload 2, .ifCond .le 108], 90, ls, st) h Q := rn_blk rfl
theorem b_Lore_tryOut_90 : Rj d 23 90 ls st h Q = Rn d (23, [.aload 0, .iload 3, .iload 2, .invokevirtual 24, .aload 0, .iload 3, .iconst 0, .invokevirtual 24, .iconst (-1), .ixor, .iand, .goto 109], 0, ls, st) h Q := rn_blk rfl
theorem b_Lore_tryOut_108 : Rj d 23 108 ls st h Q = Rn d (23, [.iconst 0], 109, ls, st) h Q := rn_blk rfl
theorem b_Lore_tryOut_109 : Rj d 23 109 ls st h Q = Rn d (23, [.ireturn], 0, ls, st) h Q := rn_blk rfl
theorem b_Lore_tryOut_110 : Rj d 23 110 ls st h Q = Rn d (23, [.aload 0, .iload 3, .iload 2, .invokevirtual 24, .aload 0, .getfield 196, .iload 4, .iaload, .iand, .ireturn], 0, ls, st) h Q := rn_blk rfl
theorem b_Lore_tryOut_125 : Rj d 23 125 ls st h Q = Rn d (23, [.iload 2, .ifCond .ne 145], 129, ls, st) h Q := rn_blk rfl
theorem b_Lore_tryOut_129 : Rj d 23 129 ls st h Q = Rn d (23, [.iload 4, .aload 0, .getfield 192, .if_icmp .ge 145], 138, ls, st) h Q := rn_blk rfl
theorem b_Lore_tryOut_138 : Rj d 23 138 ls st h Q = Rn d (23, [.iconst 1, .iload 4, .ishl, .goto 146], 0, ls, st) h Q := rn_blk rfl
theorem b_Lore_tryOut_145 : Rj d 23 145 ls st h Q = Rn d (23, [.iconst 0], 146, ls, st) h Q := rn_blk rfl
theorem b_Lore_tryOut_146 : Rj d 23 146 ls st h Q = Rn d (23, [.ireturn], 0, ls, st) h Q := rn_blk rfl
theorem b_Lore_tryOut_147 : Rj d 23 147 ls st h Q = Rn d (23, [.aload 0, .iload 3, .iload 2, .invokevirtual 24, .ireturn], 0, ls, st) h Q := rn_blk rfl
theorem b_Lore_havingSense_0 : Rj d 24 0 ls st h Q = Rn d (24, [.iload 2, .aload 0, .getfield 198, .iload 1, .iaload, .if_icmp .ge 24], 10, ls, st) h Q := rn_blk rfl
theorem b_Lore_havingSense_10 : Rj d 24 10 ls st h Q = Rn d (24, [.aload 0, .getfield 195, .aload 0, .iload 1, .iload 2, .invokevirtual 25, .iaload, .goto 25], 0, ls, st) h Q := rn_blk rfl
theorem b_Lore_havingSense_24 : Rj d 24 24 ls st h Q = Rn d (24, [.iconst 0], 25, ls, st) h Q := rn_blk rfl
theorem b_Lore_havingSense_25 : Rj d 24 25 ls st h Q = Rn d (24, [.ireturn], 0, ls, st) h Q := rn_blk rfl
theorem b_Lore_traitOf_0 : Rj d 25 0 ls st h Q = Rn d (25, [.aload 0, .getfield 197, .iload 1, .iconst 3, .imul, .iload 2, .iadd, .iaload, .ireturn], 0, ls, st) h Q := rn_blk rfl
theorem b_Lore_hasSense_0 : Rj d 26 0 ls st h Q = Rn d (26, [.iconst 0, .istore 3], 2, ls, st) h Q := rn_blk rfl
theorem b_Lore_hasSense_2 : Rj d 26 2 ls st h Q = Rn d (26, [.iload 3, .aload 0, .getfield 198, .iload 1, .iaload, .if_icmp .ge 30], 12, ls, st) h Q := rn_blk rfl
theorem b_Lore_hasSense_12 : Rj d 26 12 ls st h Q = Rn d (26, [.aload 0, .iload 1, .iload 3, .invokevirtual 25, .iload 2, .if_icmp .ne 24], 22, ls, st) h Q := rn_blk rfl
theorem b_Lore_hasSense_22 : Rj d 26 22 ls st h Q = Rn d (26, [.iconst 1, .freturn], 0, ls, st) h Q := rn_blk rfl
theorem b_Lore_hasSense_24 : Rj d 26 24 ls st h Q = Rn d (26, [.iinc 3 1, .goto 2], 0, ls, st) h Q := rn_blk rfl
theorem b_Lore_hasSense_30 : Rj d 26 30 ls st h Q = Rn d (26, [.iconst 0, .freturn], 0, ls, st) h Q := rn_blk rfl
theorem b_Lore_addSense_0 : Rj d 27 0 ls st h Q = Rn d (27, [.aload 0, .getfield 197, .iload 1, .iconst 3, .imul, .aload 0, .getfield 198, .iload 1, .iaload, .iadd, .iload 2, .iastore, .aload 0, .getfield 198, .iload 1, .dup2, .iaload, .iconst 1, .iadd, .iastore, .aload 0, .invokevirtual 22, .aload 0, .getfield 198, .iload 1, .iaload, .ireturn], 0, ls, st) h Q := rn_blk rfl
theorem b_Lore_addSaying_0 : Rj d 28 0 ls st h Q = Rn d (28, [.aload 0, .getfield 199, .aload 0, .getfield 193, .iload 1, .iastore, .aload 0, .getfield 200, .aload 0, .getfield 193, .iload 2, .iastore, .aload 0, .getfield 201, .aload 0, .getfield 193, .iload 3, .iastore, .aload 0, .dup, .getfield 193, .iconst 1, .iadd, .putfield 193, .aload 0, .invokevirtual 22, .aload 0, .getfield 193, .iconst 1, .isub, .ireturn], 0, ls, st) h Q := rn_blk rfl
theorem b_Lore_isOfKind_0 : Rj d 29 0 ls st h Q = Rn d (29, [.aload 0, .getfield 199, .iload 1, .iaload, .istore 3, .iload 2, .ifCond .eq 26], 11, ls, st) h Q := rn_blk rfl
theorem b_Lore_isOfKind_11 : Rj d 29 11 ls st h Q = Rn d (29, [.iload 2, .iload 3, .if_icmp .eq 26], 16, ls, st) h Q := rn_blk rfl
theorem b_Lore_isOfKind_16 : Rj d 29 16 ls st h Q = Rn d (29, [.iload 2, .iconst 2, .if_icmp .ne 30], 21, ls, st) h Q := rn_blk rfl
theorem b_Lore_isOfKind_21 : Rj d 29 21 ls st h Q = Rn d (29, [.iload 3, .iconst 3, .if_icmp .ne 30], 26, ls, st) h Q := rn_blk rfl
theorem b_Lore_isOfKind_26 : Rj d 29 26 ls st h Q = Rn d (29, [.iconst 1, .goto 31], 0, ls, st) h Q := rn_blk rfl
theorem b_Lore_isOfKind_30 : Rj d 29 30 ls st h Q = Rn d (29, [.iconst 0], 31, ls, st) h Q := rn_blk rfl
theorem b_Lore_isOfKind_31 : Rj d 29 31 ls st h Q = Rn d (29, [.freturn], 0, ls, st) h Q := rn_blk rfl
theorem b_Lore_leastSense_0 : Rj d 30 0 ls st h Q = Rn d (30, [.iconst 0, .istore 3], 2, ls, st) h Q := rn_blk rfl
theorem b_Lore_leastSense_2 : Rj d 30 2 ls st h Q = Rn d (30, [.iload 3, .iconst 3, .if_icmp .ge 32], 7, ls, st) h Q := rn_blk rfl
theorem b_Lore_leastSense_7 : Rj d 30 7 ls st h Q = Rn d (30, [.aload 0, .getfield 202, .iload 1, .iconst 3, .imul, .iload 3, .iadd, .iaload, .iload 2, .ishr, .iconst 1, .iand, .ifCond .eq 26], 24, ls, st) h Q := rn_blk rfl
theorem b_Lore_leastSense_24 : Rj d 30 24 ls st h Q = Rn d (30, [.iload 3, .ireturn], 0, ls, st) h Q := rn_blk rfl
theorem b_Lore_leastSense_26 : Rj d 30 26 ls st h Q = Rn d (30, [.iinc 3 1, .goto 2], 0, ls, st) h Q := rn_blk rfl
theorem b_Lore_leastSense_32 : Rj d 30 32 ls st h Q = Rn d (30, [.iconst (-1), .ireturn], 0, ls, st) h Q := rn_blk rfl
theorem b_Lore_allThings_0 : Rj d 31 0 ls st h Q = Rn d (31, [.iconst 1, .aload 0, .getfield 192, .ishl, .iconst 1, .isub, .ireturn], 0, ls, st) h Q := rn_blk rfl
theorem b_Lore_fittingBySight_0 : Rj d 32 0 ls st h Q = Rn d (32, [.aload 0, .getfield 199, .iload 1, .iaload, .iconst 5, .if_icmp .ne 15], 10, ls, st) h Q := rn_blk rfl
theorem b_Lore_fittingBySight_10 : Rj d 32 10 ls st h Q = Rn d (32, [.iconst 7, .goto 26], 0, ls, st) h Q := rn_blk rfl
theorem b_Lore_fittingBySight_15 : Rj d 32 15 ls st h Q = Rn d (32, [.aload 2, .getfield 448, .aload 0, .getfield 200, .iload 1, .iaload, .iaload], 26, ls, st) h Q := rn_blk rfl
theorem b_Lore_fittingBySight_26 : Rj d 32 26 ls st h Q = Rn d (32, [.istore 3, .iconst 0, .istore 4, .iconst 0, .istore 5], 33, ls, st) h Q := rn_blk rfl
theorem b_Lore_fittingBySight_33 : Rj d 32 33 ls st h Q = Rn d (32, [.iload 5, .iconst 3, .if_icmp .ge 70], 39, ls, st) h Q := rn_blk rfl
theorem b_Lore_fittingBySight_39 : Rj d 32 39 ls st h Q = Rn d (32, [.iload 3, .iload 5, .ishr, .iconst 1, .iand, .ifCond .eq 64], 48, ls, st) h Q := rn_blk rfl
theorem b_Lore_fittingBySight_48 : Rj d 32 48 ls st h Q = Rn d (32, [.iload 4, .aload 0, .getfield 202, .iload 1, .iconst 3, .imul, .iload 5, .iadd, .iaload, .ior, .istore 4], 64, ls, st) h Q := rn_blk rfl
theorem b_Lore_fittingBySight_64 : Rj d 32 64 ls st h Q = Rn d (32, [.iinc 5 1, .goto 33], 0, ls, st) h Q := rn_blk rfl
theorem b_Lore_fittingBySight_70 : Rj d 32 70 ls st h Q = Rn d (32, [.iload 4, .ireturn], 0, ls, st) h Q := rn_blk rfl
theorem b_Lore_senseCount_0 : Rj d 33 0 ls st h Q = Rn d (33, [.iconst 0, .istore 1, .iconst 0, .istore 2], 4, ls, st) h Q := rn_blk rfl
theorem b_Lore_senseCount_4 : Rj d 33 4 ls st h Q = Rn d (33, [.iload 2, .iconst 16, .if_icmp .ge 25], 10, ls, st) h Q := rn_blk rfl
theorem b_Lore_senseCount_10 : Rj d 33 10 ls st h Q = Rn d (33, [.iload 1, .aload 0, .getfield 198, .iload 2, .iaload, .iadd, .istore 1, .iinc 2 1, .goto 4], 0, ls, st) h Q := rn_blk rfl
theorem b_Lore_senseCount_25 : Rj d 33 25 ls st h Q = Rn d (33, [.iload 1, .ireturn], 0, ls, st) h Q := rn_blk rfl
theorem b_Maker_init_0 : Rj d 34 0 ls st h Q = Rn d (34, [.aload 0, .monitorenter, .aload 0, .iconst 20, .newarray .int, .putfield 8448, .aload 0, .iconst 20, .newarray .int, .putfield 8449, .aload 0, .iconst 20, .newarray .int, .putfield 8450, .aload 0, .iconst 21, .newarray .int, .putfield 8451, .aload 0, .new 7, .dup, .iconst 7, .invokespecial 55, .putfield 8452, .return_], 0, ls, st) h Q := rn_blk rfl
theorem b_Maker_fewest_0 : Rj d 35 0 ls st h Q = Rn d (35, [.aload 0, .aload 1, .iload 2, .invokevirtual 36, .aload 0, .iconst (-1), .putfield 263, .aload 0, .iconst (-1), .putfield 264, .iconst 1, .istore 4], 19, ls, st) h Q := rn_blk rfl
theorem b_Maker_fewest_19 : Rj d 35 19 ls st h Q = Rn d (35, [.iload 4, .iload 3, .if_icmp .gt 52], 25, ls, st) h Q := rn_blk rfl
theorem b_Maker_fewest_25 : Rj d 35 25 ls st h Q = Rn d (35, [.aload 0, .getfield 264, .iconst (-1), .if_icmp .ne 52], 33, ls, st) h Q := rn_blk rfl
theorem b_Maker_fewest_33 : Rj d 35 33 ls st h Q = Rn d (35, [.aload 0, .iconst 0, .iload 4, .aload 1, .invokevirtual 31, .iconst 0, .iconst 0, .invokestatic 37, .iinc 4 1, .goto 19], 0, ls, st) h Q := rn_blk rfl
theorem b_Maker_fewest_52 : Rj d 35 52 ls st h Q = Rn d (35, [.aload 0, .getfield 264, .ireturn], 0, ls, st) h Q := rn_blk rfl
theorem b_Maker_gather_0 : Rj d 36 0 ls st h Q = Rn d (36, [.aload 0, .iconst 0, .putfield 261, .aload 0, .iconst 1, .iload 2, .ishl, .putfield 262, .iconst 0, .istore 3], 14, ls, st) h Q := rn_blk rfl
theorem b_Maker_gather_14 : Rj d 36 14 ls st h Q = Rn d (36, [.iload 3, .aload 1, .getfield 193, .if_icmp .ge 101], 22, ls, st) h Q := rn_blk rfl
theorem b_Maker_gather_22 : Rj d 36 22 ls st h Q = Rn d (36, [.aload 1, .iload 3, .iload 2, .invokevirtual 30, .istore 4, .iload 4, .iconst (-1), .if_icmp .eq 95], 36, ls, st) h Q := rn_blk rfl
theorem b_Maker_gather_36 : Rj d 36 36 ls st h Q = Rn d (36, [.aload 0, .getfield 256, .aload 0, .getfield 261, .aload 1, .iload 3, .aload 0, .getfield 260, .invokevirtual 32, .iastore, .aload 0, .getfield 257, .aload 0, .getfield 261, .iload 4, .ifCond .le 71], 67, ls, st) h Q := rn_blk rfl
theorem b_Maker_gather_67 : Rj d 36 67 ls st h Q = Rn d (36, [.iconst 1, .goto 72], 0, ls, st) h Q := rn_blk rfl
theorem b_Maker_gather_71 : Rj d 36 71 ls st h Q = Rn d (36, [.iconst 0], 72, ls, st) h Q := rn_blk rfl
theorem b_Maker_gather_72 : Rj d 36 72 ls st h Q = Rn d (36, [.iastore, .aload 0, .getfield 258, .aload 0, .getfield 261, .iconst 1, .iload 3, .ishl, .iastore, .aload 0, .dup, .getfield 261, .iconst 1, .iadd, .putfield 261], 95, ls, st) h Q := rn_blk rfl
theorem b_Maker_gather_95 : Rj d 36 95 ls st h Q = Rn d (36, [.iinc 3 1, .goto 14], 0, ls, st) h Q := rn_blk rfl
theorem b_Maker_gather_101 : Rj d 36 101 ls st h Q = Rn d (36, [.aload 0, .getfield 259, .aload 0, .getfield 261, .aload 1, .invokevirtual 31, .iastore, .aload 0, .getfield 261, .iconst 1, .isub, .istore 3], 121, ls, st) h Q := rn_blk rfl
theorem b_Maker_gather_121 : Rj d 36 121 ls st h Q = Rn d (36, [.iload 3, .ifCond .lt 152], 125, ls, st) h Q := rn_blk rfl
theorem b_Maker_gather_125 : Rj d 36 125 ls st h Q = Rn d (36, [.aload 0, .getfield 259, .iload 3, .aload 0, .getfield 259, .iload 3, .iconst 1, .iadd, .iaload, .aload 0, .getfield 256, .iload 3, .iaload, .iand, .iastore, .iinc 3 (-1), .goto 121], 0, ls, st) h Q := rn_blk rfl
theorem b_Maker_gather_152 : Rj d 36 152 ls st h Q = Rn d (36, [.return_], 0, ls, st) h Q := rn_blk rfl
theorem b_Maker_choose_0 : Rj d 37 0 ls st h Q = Rn d (37, [.iload 3, .aload 0, .getfield 259, .iload 1, .iaload, .iand, .aload 0, .getfield 262, .if_icmp .eq 16], 15, ls, st) h Q := rn_blk rfl
theorem b_Maker_choose_15 : Rj d 37 15 ls st h Q = Rn d (37, [.return_], 0, ls, st) h Q := rn_blk rfl
theorem b_Maker_choose_16 : Rj d 37 16 ls st h Q = Rn d (37, [.iload 1, .istore 6], 19, ls, st) h Q := rn_blk rfl
theorem b_Maker_choose_19 : Rj d 37 19 ls st h Q = Rn d (37, [.iload 6, .iload 2, .iadd, .aload 0, .getfield 261, .if_icmp .gt 121], 30, ls, st) h Q := rn_blk rfl
theorem b_Maker_choose_30 : Rj d 37 30 ls st h Q = Rn d (37, [.iload 3, .aload 0, .getfield 256, .iload 6, .iaload, .iand, .istore 7, .iload 2, .iconst 1, .if_icmp .le 82], 46, ls, st) h Q := rn_blk rfl
theorem b_Maker_choose_46 : Rj d 37 46 ls st h Q = Rn d (37, [.aload 0, .iload 6, .iconst 1, .iadd, .iload 2, .iconst 1, .isub, .iload 7, .iload 4, .aload 0, .getfield 257, .iload 6, .iaload, .iadd, .iload 5, .aload 0, .getfield 258, .iload 6, .iaload, .ior, .invokestatic 37, .goto 115], 0, ls, st) h Q := rn_blk rfl
theorem b_Maker_choose_82 : Rj d 37 82 ls st h Q = Rn d (37, [.iload 7, .aload 0, .getfield 262, .if_icmp .ne 115], 91, ls, st) h Q := rn_blk rfl
theorem b_Maker_choose_91 : Rj d 37 91 ls st h Q = Rn d (37, [.aload 0, .iload 4, .aload 0, .getfield 257, .iload 6, .iaload, .iadd, .iload 5, .aload 0, .getfield 258, .iload 6, .iaload, .ior, .invokevirtual 38], 115, ls, st) h Q := rn_blk rfl
theorem b_Maker_choose_115 : Rj d 37 115 ls st h Q = Rn d (37, [.iinc 6 1, .goto 19], 0, ls, st) h Q := rn_blk rfl
theorem b_Maker_choose_121 : Rj d 37 121 ls st h Q = Rn d (37, [.return_], 0, ls, st) h Q := rn_blk rfl
theorem b_Maker_consider_0 : Rj d 38 0 ls st h Q = Rn d (38, [.iload 1, .aload 0, .getfield 263, .if_icmp .lt 24], 8, ls, st) h Q := rn_blk rfl
theorem b_Maker_consider_8 : Rj d 38 8 ls st h Q = Rn d (38, [.iload 1, .aload 0, .getfield 263, .if_icmp .ne 25], 16, ls, st) h Q := rn_blk rfl
theorem b_Maker_consider_16 : Rj d 38 16 ls st h Q = Rn d (38, [.iload 2, .aload 0, .getfield 264, .if_icmp .le 25], 24, ls, st) h Q := rn_blk rfl
theorem b_Maker_consider_24 : Rj d 38 24 ls st h Q = Rn d (38, [.return_], 0, ls, st) h Q := rn_blk rfl
theorem b_Maker_consider_25 : Rj d 38 25 ls st h Q = Rn d (38, [.aload 0, .iload 1, .putfield 263, .aload 0, .iload 2, .putfield 264, .return_], 0, ls, st) h Q := rn_blk rfl
theorem b_Page_init_0 : Rj d 39 0 ls st h Q = Rn d (39, [.aload 0, .monitorenter, .aload 0, .iconst 40, .newarray .int, .putfield 8512, .aload 0, .iconst 0, .putfield 321, .return_], 0, ls, st) h Q := rn_blk rfl
theorem b_Page_areLetters_0 : Rj d 40 0 ls st h Q = Rn d (40, [.lload 0, .invokestatic 41, .istore 2, .iconst 0, .istore 3], 7, ls, st) h Q := rn_blk rfl
theorem b_Page_areLetters_7 : Rj d 40 7 ls st h Q = Rn d (40, [.iload 3, .iconst 8, .if_icmp .ge 45], 13, ls, st) h Q := rn_blk rfl
theorem b_Page_areLetters_13 : Rj d 40 13 ls st h Q = Rn d (40, [.lload 0, .iload 3, .invokestatic 42, .istore 4, .iload 4, .iconst 126, .if_icmp .gt 37], 27, ls, st) h Q := rn_blk rfl
theorem b_Page_areLetters_27 : Rj d 40 27 ls st h Q = Rn d (40, [.iload 3, .iload 2, .if_icmp .le 39], 32, ls, st) h Q := rn_blk rfl
theorem b_Page_areLetters_32 : Rj d 40 32 ls st h Q = Rn d (40, [.iload 4, .ifCond .eq 39], 37, ls, st) h Q := rn_blk rfl
theorem b_Page_areLetters_37 : Rj d 40 37 ls st h Q = Rn d (40, [.iconst 0, .freturn], 0, ls, st) h Q := rn_blk rfl
theorem b_Page_areLetters_39 : Rj d 40 39 ls st h Q = Rn d (40, [.iinc 3 1, .goto 7], 0, ls, st) h Q := rn_blk rfl
theorem b_Page_areLetters_45 : Rj d 40 45 ls st h Q = Rn d (40, [.iconst 1, .freturn], 0, ls, st) h Q := rn_blk rfl
theorem b_Page_lettersIn_0 : Rj d 41 0 ls st h Q = Rn d (41, [.iconst 0, .istore 2], 2, ls, st) h Q := rn_blk rfl
theorem b_Page_lettersIn_2 : Rj d 41 2 ls st h Q = Rn d (41, [.iload 2, .iconst 8, .if_icmp .ge 22], 8, ls, st) h Q := rn_blk rfl
theorem b_Page_lettersIn_8 : Rj d 41 8 ls st h Q = Rn d (41, [.lload 0, .iload 2, .invokestatic 42, .ifCond .eq 22], 16, ls, st) h Q := rn_blk rfl
theorem b_Page_lettersIn_16 : Rj d 41 16 ls st h Q = Rn d (41, [.iinc 2 1, .goto 2], 0, ls, st) h Q := rn_blk rfl
theorem b_Page_lettersIn_22 : Rj d 41 22 ls st h Q = Rn d (41, [.iload 2, .ireturn], 0, ls, st) h Q := rn_blk rfl
theorem b_Page_codeAt_0 : Rj d 42 0 ls st h Q = Rn d (42, [.lload 0, .iconst 8, .iload 2, .imul, .lushr, .l2i, .iconst 255, .iand, .ireturn], 0, ls, st) h Q := rn_blk rfl
theorem b_Page_append_0 : Rj d 43 0 ls st h Q = Rn d (43, [.lload 1, .invokestatic 41, .istore 3, .iconst 0, .istore 4], 8, ls, st) h Q := rn_blk rfl
theorem b_Page_append_8 : Rj d 43 8 ls st h Q = Rn d (43, [.iload 4, .iload 3, .if_icmp .ge 54], 14, ls, st) h Q := rn_blk rfl
theorem b_Page_append_14 : Rj d 43 14 ls st h Q = Rn d (43, [.aload 0, .getfield 321, .iconst 40, .if_icmp .ge 54], 23, ls, st) h Q := rn_blk rfl
theorem b_Page_append_23 : Rj d 43 23 ls st h Q = Rn d (43, [.aload 0, .getfield 320, .aload 0, .getfield 321, .lload 1, .iload 4, .invokestatic 42, .iastore, .aload 0, .dup, .getfield 321, .iconst 1, .iadd, .putfield 321, .iinc 4 1, .goto 8], 0, ls, st) h Q := rn_blk rfl
theorem b_Page_append_54 : Rj d 43 54 ls st h Q = Rn d (43, [.aload 0, .getfield 321, .ireturn], 0, ls, st) h Q := rn_blk rfl
theorem b_Page_empty_0 : Rj d 44 0 ls st h Q = Rn d (44, [.aload 0, .getfield 321, .istore 1, .aload 0, .iconst 0, .putfield 321, .iload 1, .ireturn], 0, ls, st) h Q := rn_blk rfl
theorem b_Riddles_init_0 : Rj d 45 0 ls st h Q = Rn d (45, [.aload 0, .monitorenter, .aload 0, .new 7, .dup, .iconst 7, .invokespecial 55, .putfield 8577, .aload 0, .iconst 60, .newarray .int, .putfield 8578, .aload 0, .iconst 10, .newarray .int, .putfield 8579, .aload 0, .iconst 0, .putfield 388, .aload 0, .aload 1, .putfield 8576, .return_], 0, ls, st) h Q := rn_blk rfl
theorem b_Riddles_begin_0 : Rj d 46 0 ls st h Q = Rn d (46, [.aload 0, .aload 0, .getfield 388, .iload 1, .invokevirtual 47, .pop, .aload 0, .dup, .getfield 388, .iconst 1, .iadd, .putfield 388, .aload 0, .getfield 388, .iconst 1, .isub, .ireturn], 0, ls, st) h Q := rn_blk rfl
theorem b_Riddles_append_0 : Rj d 47 0 ls st h Q = Rn d (47, [.aload 0, .getfield 386, .iload 1, .iconst 6, .imul, .aload 0, .getfield 387, .iload 1, .iaload, .iadd, .iload 2, .iastore, .aload 0, .getfield 387, .iload 1, .dup2, .iaload, .iconst 1, .iadd, .iastore, .aload 0, .getfield 387, .iload 1, .iaload, .ireturn], 0, ls, st) h Q := rn_blk rfl
theorem b_Riddles_sayingAt_0 : Rj d 48 0 ls st h Q = Rn d (48, [.aload 0, .getfield 386, .iload 1, .iconst 6, .imul, .iload 2, .iadd, .iaload, .ireturn], 0, ls, st) h Q := rn_blk rfl
theorem b_Riddles_fitting_0 : Rj d 49 0 ls st h Q = Rn d (49, [.aload 0, .iload 1, .iconst (-1), .aload 0, .getfield 385, .invokevirtual 50, .ireturn], 0, ls, st) h Q := rn_blk rfl
theorem b_Riddles_fittingWithout_0 : Rj d 50 0 ls st h Q = Rn d (50, [.aload 0, .getfield 384, .invokevirtual 31, .istore 4, .iconst 0, .istore 5], 12, ls, st) h Q := rn_blk rfl
theorem b_Riddles_fittingWithout_12 : Rj d 50 12 ls st h Q = Rn d (50, [.iload 5, .aload 0, .getfield 387, .iload 1, .iaload, .if_icmp .ge 55], 23, ls, st) h Q := rn_blk rfl
theorem b_Riddles_fittingWithout_23 : Rj d 50 23 ls st h Q = Rn d (50, [.iload 5, .iload 2, .if_icmp .eq 49], 29, ls, st) h Q := rn_blk rfl
theorem b_Riddles_fittingWithout_29 : Rj d 50 29 ls st h Q = Rn d (50, [.iload 4, .aload 0, .getfield 384, .aload 0, .iload 1, .iload 5, .invokevirtual 48, .aload 3, .invokevirtual 32, .iand, .istore 4], 49, ls, st) h Q := rn_blk rfl
theorem b_Riddles_fittingWithout_49 : Rj d 50 49 ls st h Q = Rn d (50, [.iinc 5 1, .goto 12], 0, ls, st) h Q := rn_blk rfl
theorem b_Riddles_fittingWithout_55 : Rj d 50 55 ls st h Q = Rn d (50, [.iload 4, .ireturn], 0, ls, st) h Q := rn_blk rfl
theorem b_Riddles_turnedOnes_0 : Rj d 51 0 ls st h Q = Rn d (51, [.iconst 0, .istore 3, .iconst 0, .istore 4], 5, ls, st) h Q := rn_blk rfl
theorem b_Riddles_turnedOnes_5 : Rj d 51 5 ls st h Q = Rn d (51, [.iload 4, .aload 0, .getfield 387, .iload 1, .iaload, .if_icmp .ge 55], 16, ls, st) h Q := rn_blk rfl
theorem b_Riddles_turnedOnes_16 : Rj d 51 16 ls st h Q = Rn d (51, [.aload 0, .getfield 384, .aload 0, .iload 1, .iload 4, .invokevirtual 48, .iload 2, .invokevirtual 30, .istore 5, .iload 5, .iconst (-1), .if_icmp .ne 41], 39, ls, st) h Q := rn_blk rfl
theorem b_Riddles_turnedOnes_39 : Rj d 51 39 ls st h Q = Rn d (51, [.iconst (-1), .ireturn], 0, ls, st) h Q := rn_blk rfl
theorem b_Riddles_turnedOnes_41 : Rj d 51 41 ls st h Q = Rn d (51, [.iload 5, .ifCond .le 49], 46, ls, st) h Q := rn_blk rfl
theorem b_Riddles_turnedOnes_46 : Rj d 51 46 ls st h Q = Rn d (51, [.iinc 3 1], 49, ls, st) h Q := rn_blk rfl
theorem b_Riddles_turnedOnes_49 : Rj d 51 49 ls st h Q = Rn d (51, [.iinc 4 1, .goto 5], 0, ls, st) h Q := rn_blk rfl
theorem b_Riddles_turnedOnes_55 : Rj d 51 55 ls st h Q = Rn d (51, [.iload 3, .ireturn], 0, ls, st) h Q := rn_blk rfl
theorem b_Riddles_misleadingPlace_0 : Rj d 52 0 ls st h Q = Rn d (52, [.iconst 0, .istore 2, .iconst (-1), .istore 3, .iconst 0, .istore 4], 7, ls, st) h Q := rn_blk rfl
theorem b_Riddles_misleadingPlace_7 : Rj d 52 7 ls st h Q = Rn d (52, [.iload 4, .aload 0, .getfield 387, .iload 1, .iaload, .if_icmp .ge 45], 18, ls, st) h Q := rn_blk rfl
theorem b_Riddles_misleadingPlace_18 : Rj d 52 18 ls st h Q = Rn d (52, [.aload 0, .iload 1, .iload 4, .invokevirtual 53, .istore 5, .iload 5, .iload 3, .if_icmp .le 39], 33, ls, st) h Q := rn_blk rfl
theorem b_Riddles_misleadingPlace_33 : Rj d 52 33 ls st h Q = Rn d (52, [.iload 4, .istore 2, .iload 5, .istore 3], 39, ls, st) h Q := rn_blk rfl
theorem b_Riddles_misleadingPlace_39 : Rj d 52 39 ls st h Q = Rn d (52, [.iinc 4 1, .goto 7], 0, ls, st) h Q := rn_blk rfl
theorem b_Riddles_misleadingPlace_45 : Rj d 52 45 ls st h Q = Rn d (52, [.iload 2, .ireturn], 0, ls, st) h Q := rn_blk rfl
theorem b_Riddles_countWithout_0 : Rj d 53 0 ls st h Q = Rn d (53, [.aload 0, .iload 1, .iload 2, .aload 0, .getfield 385, .invokevirtual 50, .invokestatic 192, .ireturn], 0, ls, st) h Q := rn_blk rfl
theorem b_Riddles_unfitCount_0 : Rj d 54 0 ls st h Q = Rn d (54, [.iconst 0, .istore 4, .iconst 0, .istore 5], 6, ls, st) h Q := rn_blk rfl
theorem b_Riddles_unfitCount_6 : Rj d 54 6 ls st h Q = Rn d (54, [.iload 5, .aload 0, .getfield 387, .iload 1, .iaload, .if_icmp .ge 48], 17, ls, st) h Q := rn_blk rfl
theorem b_Riddles_unfitCount_17 : Rj d 54 17 ls st h Q = Rn d (54, [.aload 0, .getfield 384, .aload 0, .iload 1, .iload 5, .invokevirtual 48, .aload 3, .invokevirtual 32, .iload 2, .ishr, .iconst 1, .iand, .ifCond .ne 42], 39, ls, st) h Q := rn_blk rfl
theorem b_Riddles_unfitCount_39 : Rj d 54 39 ls st h Q = Rn d (54, [.iinc 4 1], 42, ls, st) h Q := rn_blk rfl
theorem b_Riddles_unfitCount_42 : Rj d 54 42 ls st h Q = Rn d (54, [.iinc 5 1, .goto 6], 0, ls, st) h Q := rn_blk rfl
theorem b_Riddles_unfitCount_48 : Rj d 54 48 ls st h Q = Rn d (54, [.iload 4, .ireturn], 0, ls, st) h Q := rn_blk rfl
theorem b_Sight_init_0 : Rj d 55 0 ls st h Q = Rn d (55, [.aload 0, .monitorenter, .aload 0, .iconst 16, .newarray .int, .putfield 8640, .aload 0, .getfield 448, .iload 1, .iconst 7, .iand, .invokestatic 191, .return_], 0, ls, st) h Q := rn_blk rfl
theorem b_Sight_sees_0 : Rj d 56 0 ls st h Q = Rn d (56, [.aload 0, .getfield 448, .iload 1, .iaload, .iload 2, .ishr, .iconst 1, .iand, .ifCond .eq 17], 13, ls, st) h Q := rn_blk rfl
theorem b_Sight_sees_13 : Rj d 56 13 ls st h Q = Rn d (56, [.iconst 1, .goto 18], 0, ls, st) h Q := rn_blk rfl
theorem b_Sight_sees_17 : Rj d 56 17 ls st h Q = Rn d (56, [.iconst 0], 18, ls, st) h Q := rn_blk rfl
theorem b_Sight_sees_18 : Rj d 56 18 ls st h Q = Rn d (56, [.freturn], 0, ls, st) h Q := rn_blk rfl
theorem b_Sight_set_0 : Rj d 57 0 ls st h Q = Rn d (57, [.iload 3, .ifCond .eq 19], 4, ls, st) h Q := rn_blk rfl
theorem b_Sight_set_4 : Rj d 57 4 ls st h Q = Rn d (57, [.aload 0, .getfield 448, .iload 1, .dup2, .iaload, .iconst 1, .iload 2, .ishl, .ior, .iastore, .goto 33], 0, ls, st) h Q := rn_blk rfl
theorem b_Sight_set_19 : Rj d 57 19 ls st h Q = Rn d (57, [.aload 0, .getfield 448, .iload 1, .dup2, .iaload, .iconst 1, .iload 2, .ishl, .iconst (-1), .ixor, .iand, .iastore], 33, ls, st) h Q := rn_blk rfl
theorem b_Sight_set_33 : Rj d 57 33 ls st h Q = Rn d (57, [.return_], 0, ls, st) h Q := rn_blk rfl
theorem b_Stakes_init_0 : Rj d 58 0 ls st h Q = Rn d (58, [.aload 0, .monitorenter, .aload 0, .iconst 60, .newarray .int, .putfield 8704, .aload 0, .iconst 64, .newarray .long, .putfield 8705, .return_], 0, ls, st) h Q := rn_blk rfl
theorem b_Stakes_put_0 : Rj d 59 0 ls st h Q = Rn d (59, [.aload 0, .iload 1, .iload 2, .invokevirtual 60, .istore 4, .aload 0, .getfield 512, .iload 1, .iconst 10, .imul, .iload 2, .iadd, .iload 3, .iastore, .iload 4, .ireturn], 0, ls, st) h Q := rn_blk rfl
theorem b_Stakes_of_0 : Rj d 60 0 ls st h Q = Rn d (60, [.aload 0, .getfield 512, .iload 1, .iconst 10, .imul, .iload 2, .iadd, .iaload, .ireturn], 0, ls, st) h Q := rn_blk rfl
theorem b_Stakes_best_0 : Rj d 61 0 ls st h Q = Rn d (61, [.iconst 1, .iload 1, .ishl, .istore 3, .aload 0, .getfield 513, .ldc2_w 0, .invokestatic 193, .iconst 0, .istore 4], 15, ls, st) h Q := rn_blk rfl
theorem b_Stakes_best_15 : Rj d 61 15 ls st h Q = Rn d (61, [.iload 4, .iload 2, .if_icmp .ge 52], 21, ls, st) h Q := rn_blk rfl
theorem b_Stakes_best_21 : Rj d 61 21 ls st h Q = Rn d (61, [.iload 3, .iconst 1, .isub, .istore 5], 26, ls, st) h Q := rn_blk rfl
theorem b_Stakes_best_26 : Rj d 61 26 ls st h Q = Rn d (61, [.iload 5, .ifCond .le 46], 31, ls, st) h Q := rn_blk rfl
theorem b_Stakes_best_31 : Rj d 61 31 ls st h Q = Rn d (61, [.aload 0, .iload 4, .iload 5, .iload 1, .invokevirtual 62, .iinc 5 (-1), .goto 26], 0, ls, st) h Q := rn_blk rfl
theorem b_Stakes_best_46 : Rj d 61 46 ls st h Q = Rn d (61, [.iinc 4 1, .goto 15], 0, ls, st) h Q := rn_blk rfl
theorem b_Stakes_best_52 : Rj d 61 52 ls st h Q = Rn d (61, [.aload 0, .getfield 513, .iload 3, .iconst 1, .isub, .laload, .lreturn], 0, ls, st) h Q := rn_blk rfl
theorem b_Stakes_giveRiddle_0 : Rj d 62 0 ls st h Q = Rn d (62, [.iconst 0, .istore 4], 3, ls, st) h Q := rn_blk rfl
theorem b_Stakes_giveRiddle_3 : Rj d 62 3 ls st h Q = Rn d (62, [.iload 4, .iload 3, .if_icmp .ge 80], 9, ls, st) h Q := rn_blk rfl
theorem b_Stakes_giveRiddle_9 : Rj d 62 9 ls st h Q = Rn d (62, [.iload 2, .iload 4, .ishr, .iconst 1, .iand, .ifCond .eq 74], 18, ls, st) h Q := rn_blk rfl
theorem b_Stakes_giveRiddle_18 : Rj d 62 18 ls st h Q = Rn d (62, [.aload 0, .iload 4, .iload 1, .invokevirtual 60, .i2l, .ldc2_w 1771561, .lmul, .iconst 10, .iload 1, .isub, .i2l, .getstatic 0, .iload 4, .laload, .lmul, .ladd, .lstore 5, .aload 0, .getfield 513, .iload 2, .aload 0, .getfield 513, .iload 2, .laload, .aload 0, .getfield 513, .iload 2, .iconst 1, .iload 4, .ishl, .ixor, .laload, .lload 5, .ladd, .dmul, .lastore], 74, ls, st) h Q := rn_blk rfl
theorem b_Stakes_giveRiddle_74 : Rj d 62 74 ls st h Q = Rn d (62, [.iinc 4 1, .goto 3], 0, ls, st) h Q := rn_blk rfl
theorem b_Stakes_giveRiddle_80 : Rj d 62 80 ls st h Q = Rn d (62, [.return_], 0, ls, st) h Q := rn_blk rfl
theorem b_Stakes_sumIn_0 : Rj d 63 0 ls st h Q = Rn d (63, [.lload 0, .ldc2_w 1771561, .ldiv, .l2i, .ireturn], 0, ls, st) h Q := rn_blk rfl
theorem b_Stakes_riddleIn_0 : Rj d 64 0 ls st h Q = Rn d (64, [.lload 0, .getstatic 0, .iload 2, .laload, .ldiv, .ldc2_w 11, .lrem, .l2i, .istore 3, .iload 3, .ifCond .ne 21], 17, ls, st) h Q := rn_blk rfl
theorem b_Stakes_riddleIn_17 : Rj d 64 17 ls st h Q = Rn d (64, [.iconst (-1), .goto 25], 0, ls, st) h Q := rn_blk rfl
theorem b_Stakes_riddleIn_21 : Rj d 64 21 ls st h Q = Rn d (64, [.iconst 10, .iload 3, .isub], 25, ls, st) h Q := rn_blk rfl
theorem b_Stakes_riddleIn_25 : Rj d 64 25 ls st h Q = Rn d (64, [.ireturn], 0, ls, st) h Q := rn_blk rfl
theorem b_Tongues_init_0 : Rj d 65 0 ls st h Q = Rn d (65, [.aload 0, .monitorenter, .aload 0, .iconst 4, .anewarray 2, .putfield 8769, .aload 0, .iconst 0, .putfield 578, .aload 0, .aload 1, .putfield 8768, .iconst 0, .istore 2], 24, ls, st) h Q := rn_blk rfl
theorem b_Tongues_init_24 : Rj d 65 24 ls st h Q = Rn d (65, [.iload 2, .iconst 4, .if_icmp .ge 50], 29, ls, st) h Q := rn_blk rfl
theorem b_Tongues_init_29 : Rj d 65 29 ls st h Q = Rn d (65, [.aload 0, .getfield 577, .iload 2, .new 7, .dup, .iconst 7, .invokespecial 55, .aastore, .iinc 2 1, .goto 24], 0, ls, st) h Q := rn_blk rfl
theorem b_Tongues_init_50 : Rj d 65 50 ls st h Q = Rn d (65, [.return_], 0, ls, st) h Q := rn_blk rfl
theorem b_Tongues_add_0 : Rj d 66 0 ls st h Q = Rn d (66, [.aload 0, .dup, .getfield 578, .iconst 1, .iadd, .putfield 578, .aload 0, .getfield 578, .iconst 1, .isub, .ireturn], 0, ls, st) h Q := rn_blk rfl
theorem b_Tongues_carries_0 : Rj d 67 0 ls st h Q = Rn d (67, [.aload 0, .getfield 576, .iload 2, .iconst (-1), .aload 0, .getfield 577, .iload 1, .aaload, .invokevirtual 50, .iconst 1, .iload 3, .ishl, .if_icmp .ne 25], 21, ls, st) h Q := rn_blk rfl
theorem b_Tongues_carries_21 : Rj d 67 21 ls st h Q = Rn d (67, [.iconst 1, .goto 26], 0, ls, st) h Q := rn_blk rfl
theorem b_Tongues_carries_25 : Rj d 67 25 ls st h Q = Rn d (67, [.iconst 0], 26, ls, st) h Q := rn_blk rfl
theorem b_Tongues_carries_26 : Rj d 67 26 ls st h Q = Rn d (67, [.ireturn], 0, ls, st) h Q := rn_blk rfl
theorem b_Tongues_lacking_0 : Rj d 68 0 ls st h Q = Rn d (68, [.aload 0, .getfield 576, .iload 2, .iload 3, .aload 0, .getfield 577, .iload 1, .aaload, .invokevirtual 54, .ireturn], 0, ls, st) h Q := rn_blk rfl
theorem b_Tongues_leastLacking_0 : Rj d 69 0 ls st h Q = Rn d (69, [.iconst (-1), .istore 3, .iconst 7, .istore 4, .iconst 0, .istore 5], 9, ls, st) h Q := rn_blk rfl
theorem b_Tongues_leastLacking_9 : Rj d 69 9 ls st h Q = Rn d (69, [.iload 5, .aload 0, .getfield 578, .if_icmp .ge 48], 18, ls, st) h Q := rn_blk rfl
theorem b_Tongues_leastLacking_18 : Rj d 69 18 ls st h Q = Rn d (69, [.aload 0, .iload 5, .iload 1, .iload 2, .invokevirtual 68, .istore 6, .iload 6, .iload 4, .if_icmp .ge 42], 35, ls, st) h Q := rn_blk rfl
theorem b_Tongues_leastLacking_35 : Rj d 69 35 ls st h Q = Rn d (69, [.iload 5, .istore 3, .iload 6, .istore 4], 42, ls, st) h Q := rn_blk rfl
theorem b_Tongues_leastLacking_42 : Rj d 69 42 ls st h Q = Rn d (69, [.iinc 5 1, .goto 9], 0, ls, st) h Q := rn_blk rfl
theorem b_Tongues_leastLacking_48 : Rj d 69 48 ls st h Q = Rn d (69, [.iload 3, .ireturn], 0, ls, st) h Q := rn_blk rfl
theorem b_Tree_init_0 : Rj d 70 0 ls st h Q = Rn d (70, [.aload 0, .monitorenter, .aload 0, .iconst 40, .newarray .int, .putfield 8832, .aload 0, .iconst 40, .newarray .int, .putfield 8833, .aload 0, .iconst 40, .newarray .int, .putfield 8834, .aload 0, .iconst 0, .putfield 643, .aload 0, .iconst 0, .putfield 644, .aload 0, .iconst (-1), .putfield 645, .aload 0, .iconst 1, .putfield 4742, .return_], 0, ls, st) h Q := rn_blk rfl
theorem b_Tree_read_0 : Rj d 71 0 ls st h Q = Rn d (71, [.aload 0, .iconst 0, .putfield 643, .aload 0, .iconst 0, .putfield 644, .aload 0, .iconst (-1), .putfield 645, .aload 0, .iconst 1, .putfield 4742, .iconst 0, .istore 2], 22, ls, st) h Q := rn_blk rfl
theorem b_Tree_read_22 : Rj d 71 22 ls st h Q = Rn d (71, [.iload 2, .aload 1, .getfield 321, .if_icmp .ge 51], 30, ls, st) h Q := rn_blk rfl
theorem b_Tree_read_30 : Rj d 71 30 ls st h Q = Rn d (71, [.aload 0, .aload 1, .getfield 320, .iload 2, .iaload, .invokevirtual 72, .ifCond .ne 45], 43, ls, st) h Q := rn_blk rfl
theorem b_Tree_read_43 : Rj d 71 43 ls st h Q = Rn d (71, [.iload 2, .ireturn], 0, ls, st) h Q := rn_blk rfl
theorem b_Tree_read_45 : Rj d 71 45 ls st h Q = Rn d (71, [.iinc 2 1, .goto 22], 0, ls, st) h Q := rn_blk rfl
theorem b_Tree_read_51 : Rj d 71 51 ls st h Q = Rn d (71, [.aload 1, .getfield 321, .ireturn], 0, ls, st) h Q := rn_blk rfl
theorem b_Tree_take_0 : Rj d 72 0 ls st h Q = Rn d (72, [.aload 0, .getfield 646, .ifCond .eq 29], 7, ls, st) h Q := rn_blk rfl
theorem b_Tree_take_7 : Rj d 72 7 ls st h Q = Rn d (72, [.iload 1, .iconst 40, .if_icmp .ne 20], 13, ls, st) h Q := rn_blk rfl
theorem b_Tree_take_13 : Rj d 72 13 ls st h Q = Rn d (72, [.aload 0, .invokevirtual 73, .goto 28], 0, ls, st) h Q := rn_blk rfl
theorem b_Tree_take_20 : Rj d 72 20 ls st h Q = Rn d (72, [.aload 0, .iload 1, .iconst 97, .isub, .invokevirtual 75], 28, ls, st) h Q := rn_blk rfl
theorem b_Tree_take_28 : Rj d 72 28 ls st h Q = Rn d (72, [.freturn], 0, ls, st) h Q := rn_blk rfl
theorem b_Tree_take_29 : Rj d 72 29 ls st h Q = Rn d (72, [.aload 0, .getfield 645, .iconst (-1), .if_icmp .ne 39], 37, ls, st) h Q := rn_blk rfl
theorem b_Tree_take_37 : Rj d 72 37 ls st h Q = Rn d (72, [.iconst 0, .freturn], 0, ls, st) h Q := rn_blk rfl
theorem b_Tree_take_39 : Rj d 72 39 ls st h Q = Rn d (72, [.iload 1, .iconst 44, .if_icmp .ne 50], 45, ls, st) h Q := rn_blk rfl
theorem b_Tree_take_45 : Rj d 72 45 ls st h Q = Rn d (72, [.aload 0, .invokevirtual 76, .freturn], 0, ls, st) h Q := rn_blk rfl
theorem b_Tree_take_50 : Rj d 72 50 ls st h Q = Rn d (72, [.iload 1, .iconst 41, .if_icmp .ne 67], 56, ls, st) h Q := rn_blk rfl
theorem b_Tree_take_56 : Rj d 72 56 ls st h Q = Rn d (72, [.aload 0, .invokevirtual 77, .ifCond .eq 67], 63, ls, st) h Q := rn_blk rfl
theorem b_Tree_take_63 : Rj d 72 63 ls st h Q = Rn d (72, [.iconst 1, .goto 68], 0, ls, st) h Q := rn_blk rfl
theorem b_Tree_take_67 : Rj d 72 67 ls st h Q = Rn d (72, [.iconst 0], 68, ls, st) h Q := rn_blk rfl
theorem b_Tree_take_68 : Rj d 72 68 ls st h Q = Rn d (72, [.freturn], 0, ls, st) h Q := rn_blk rfl
theorem b_Tree_openNode_0 : Rj d 73 0 ls st h Q = Rn d (73, [.aload 0, .aload 0, .iconst (-1), .invokevirtual 74, .putfield 645, .iconst 1, .freturn], 0, ls, st) h Q := rn_blk rfl
theorem b_Tree_beginNode_0 : Rj d 74 0 ls st h Q = Rn d (74, [.aload 0, .getfield 640, .aload 0, .getfield 643, .aload 0, .getfield 645, .iastore, .aload 0, .getfield 641, .aload 0, .getfield 643, .iload 1, .iastore, .aload 0, .getfield 642, .aload 0, .getfield 643, .iconst 0, .iastore, .aload 0, .getfield 645, .iconst (-1), .if_icmp .eq 54], 41, ls, st) h Q := rn_blk rfl
theorem b_Tree_beginNode_41 : Rj d 74 41 ls st h Q = Rn d (74, [.aload 0, .getfield 642, .aload 0, .getfield 645, .dup2, .iaload, .iconst 1, .iadd, .iastore], 54, ls, st) h Q := rn_blk rfl
theorem b_Tree_beginNode_54 : Rj d 74 54 ls st h Q = Rn d (74, [.aload 0, .dup, .getfield 643, .iconst 1, .iadd, .putfield 643, .aload 0, .getfield 643, .iconst 1, .isub, .ireturn], 0, ls, st) h Q := rn_blk rfl
theorem b_Tree_landNode_0 : Rj d 75 0 ls st h Q = Rn d (75, [.iload 1, .ifCond .lt 21], 4, ls, st) h Q := rn_blk rfl
theorem b_Tree_landNode_4 : Rj d 75 4 ls st h Q = Rn d (75, [.iload 1, .iconst 8, .if_icmp .ge 21], 10, ls, st) h Q := rn_blk rfl
theorem b_Tree_landNode_10 : Rj d 75 10 ls st h Q = Rn d (75, [.aload 0, .getfield 644, .iload 1, .ishr, .iconst 1, .iand, .ifCond .eq 23], 21, ls, st) h Q := rn_blk rfl
theorem b_Tree_landNode_21 : Rj d 75 21 ls st h Q = Rn d (75, [.iconst 0, .freturn], 0, ls, st) h Q := rn_blk rfl
theorem b_Tree_landNode_23 : Rj d 75 23 ls st h Q = Rn d (75, [.aload 0, .dup, .getfield 644, .iconst 1, .iload 1, .ishl, .ior, .putfield 644, .aload 0, .iload 1, .invokevirtual 74, .pop, .aload 0, .iconst 0, .putfield 4742, .iconst 1, .freturn], 0, ls, st) h Q := rn_blk rfl
theorem b_Tree_awaitNext_0 : Rj d 76 0 ls st h Q = Rn d (76, [.aload 0, .aload 0, .getfield 642, .aload 0, .getfield 645, .iaload, .iconst 4, .if_icmp .ge 18], 14, ls, st) h Q := rn_blk rfl
theorem b_Tree_awaitNext_14 : Rj d 76 14 ls st h Q = Rn d (76, [.iconst 1, .goto 19], 0, ls, st) h Q := rn_blk rfl
theorem b_Tree_awaitNext_18 : Rj d 76 18 ls st h Q = Rn d (76, [.iconst 0], 19, ls, st) h Q := rn_blk rfl
theorem b_Tree_awaitNext_19 : Rj d 76 19 ls st h Q = Rn d (76, [.putfield 4742, .aload 0, .getfield 646, .freturn], 0, ls, st) h Q := rn_blk rfl
theorem b_Tree_closeNode_0 : Rj d 77 0 ls st h Q = Rn d (77, [.aload 0, .getfield 642, .aload 0, .getfield 645, .iaload, .iconst 2, .if_icmp .ge 15], 13, ls, st) h Q := rn_blk rfl
theorem b_Tree_closeNode_13 : Rj d 77 13 ls st h Q = Rn d (77, [.iconst 0, .freturn], 0, ls, st) h Q := rn_blk rfl
theorem b_Tree_closeNode_15 : Rj d 77 15 ls st h Q = Rn d (77, [.aload 0, .aload 0, .getfield 640, .aload 0, .getfield 645, .iaload, .putfield 645, .iconst 1, .freturn], 0, ls, st) h Q := rn_blk rfl
theorem b_Tree_isWhole_0 : Rj d 78 0 ls st h Q = Rn d (78, [.aload 0, .getfield 646, .ifCond .ne 19], 7, ls, st) h Q := rn_blk rfl
theorem b_Tree_isWhole_7 : Rj d 78 7 ls st h Q = Rn d (78, [.aload 0, .getfield 645, .iconst (-1), .if_icmp .ne 19], 15, ls, st) h Q := rn_blk rfl
theorem b_Tree_isWhole_15 : Rj d 78 15 ls st h Q = Rn d (78, [.iconst 1, .goto 20], 0, ls, st) h Q := rn_blk rfl
theorem b_Tree_isWhole_19 : Rj d 78 19 ls st h Q = Rn d (78, [.iconst 0], 20, ls, st) h Q := rn_blk rfl
theorem b_Tree_isWhole_20 : Rj d 78 20 ls st h Q = Rn d (78, [.freturn], 0, ls, st) h Q := rn_blk rfl
theorem b_X_init_0 : Rj d 79 0 ls st h Q = Rn d (79, [.aload 0, .monitorenter, .aload 0, .new 3, .dup, .invokespecial 20, .putfield 8896, .aload 0, .new 6, .dup, .aload 0, .getfield 704, .invokespecial 45, .putfield 8897, .aload 0, .new 4, .dup, .invokespecial 34, .putfield 8898, .aload 0, .new 2, .dup, .aload 0, .getfield 705, .invokespecial 12, .putfield 8899, .aload 0, .new 9, .dup, .aload 0, .getfield 705, .invokespecial 65, .putfield 8900, .aload 0, .new 5, .dup, .invokespecial 39, .putfield 8901, .aload 0, .new 8, .dup, .invokespecial 58, .putfield 8902, .aload 0, .new 0, .dup, .invokespecial 0, .putfield 8903, .aload 0, .new 1, .dup, .invokespecial 8, .putfield 8904, .aload 0, .iconst 8, .newarray .int, .putfield 8905, .aload 0, .new 10, .dup, .invokespecial 70, .putfield 8906, .aload 0, .new 10, .dup, .invokespecial 70, .putfield 8907, .aload 0, .iconst 0, .putfield 716, .aload 0, .iconst 0, .putfield 717, .aload 0, .getfield 713, .iconst (-1), .invokestatic 191, .return_], 0, ls, st) h Q := rn_blk rfl
theorem b_X_thing_0 : Rj d 80 0 ls st h Q = Rn d (80, [.iload 1, .ifCond .lt 10], 4, ls, st) h Q := rn_blk rfl
theorem b_X_thing_4 : Rj d 80 4 ls st h Q = Rn d (80, [.iload 1, .iconst 16777216, .if_icmp .lt 13], 10, ls, st) h Q := rn_blk rfl
theorem b_X_thing_10 : Rj d 80 10 ls st h Q = Rn d (80, [.iconst (-102), .ireturn], 0, ls, st) h Q := rn_blk rfl
theorem b_X_thing_13 : Rj d 80 13 ls st h Q = Rn d (80, [.aload 0, .getfield 704, .getfield 192, .iconst 12, .if_icmp .lt 28], 25, ls, st) h Q := rn_blk rfl
theorem b_X_thing_25 : Rj d 80 25 ls st h Q = Rn d (80, [.iconst (-104), .ireturn], 0, ls, st) h Q := rn_blk rfl
theorem b_X_thing_28 : Rj d 80 28 ls st h Q = Rn d (80, [.aload 0, .getfield 704, .iload 1, .invokevirtual 21, .ireturn], 0, ls, st) h Q := rn_blk rfl
theorem b_X_sense_0 : Rj d 81 0 ls st h Q = Rn d (81, [.iload 1, .invokestatic 82, .ifCond .ne 10], 7, ls, st) h Q := rn_blk rfl
theorem b_X_sense_7 : Rj d 81 7 ls st h Q = Rn d (81, [.iconst (-101), .ireturn], 0, ls, st) h Q := rn_blk rfl
theorem b_X_sense_10 : Rj d 81 10 ls st h Q = Rn d (81, [.iload 2, .ifCond .lt 32], 14, ls, st) h Q := rn_blk rfl
theorem b_X_sense_14 : Rj d 81 14 ls st h Q = Rn d (81, [.iload 2, .iconst 24, .if_icmp .ge 32], 20, ls, st) h Q := rn_blk rfl
theorem b_X_sense_20 : Rj d 81 20 ls st h Q = Rn d (81, [.aload 0, .getfield 704, .iload 1, .iload 2, .invokevirtual 26, .ifCond .eq 35], 32, ls, st) h Q := rn_blk rfl
theorem b_X_sense_32 : Rj d 81 32 ls st h Q = Rn d (81, [.iconst (-102), .ireturn], 0, ls, st) h Q := rn_blk rfl
theorem b_X_sense_35 : Rj d 81 35 ls st h Q = Rn d (81, [.aload 0, .getfield 704, .getfield 198, .iload 1, .iaload, .iconst 3, .if_icmp .lt 51], 48, ls, st) h Q := rn_blk rfl
theorem b_X_sense_48 : Rj d 81 48 ls st h Q = Rn d (81, [.iconst (-104), .ireturn], 0, ls, st) h Q := rn_blk rfl
theorem b_X_sense_51 : Rj d 81 51 ls st h Q = Rn d (81, [.aload 0, .getfield 704, .iload 1, .iload 2, .invokevirtual 27, .ireturn], 0, ls, st) h Q := rn_blk rfl
theorem b_X_isWord_0 : Rj d 82 0 ls st h Q = Rn d (82, [.iload 0, .ifCond .lt 14], 4, ls, st) h Q := rn_blk rfl
theorem b_X_isWord_4 : Rj d 82 4 ls st h Q = Rn d (82, [.iload 0, .iconst 16, .if_icmp .ge 14], 10, ls, st) h Q := rn_blk rfl
theorem b_X_isWord_10 : Rj d 82 10 ls st h Q = Rn d (82, [.iconst 1, .goto 15], 0, ls, st) h Q := rn_blk rfl
theorem b_X_isWord_14 : Rj d 82 14 ls st h Q = Rn d (82, [.iconst 0], 15, ls, st) h Q := rn_blk rfl
theorem b_X_isWord_15 : Rj d 82 15 ls st h Q = Rn d (82, [.freturn], 0, ls, st) h Q := rn_blk rfl
theorem b_X_senseOf_0 : Rj d 83 0 ls st h Q = Rn d (83, [.iload 1, .invokestatic 82, .ifCond .ne 10], 7, ls, st) h Q := rn_blk rfl
theorem b_X_senseOf_7 : Rj d 83 7 ls st h Q = Rn d (83, [.iconst (-101), .ireturn], 0, ls, st) h Q := rn_blk rfl
theorem b_X_senseOf_10 : Rj d 83 10 ls st h Q = Rn d (83, [.iload 2, .ifCond .lt 27], 14, ls, st) h Q := rn_blk rfl
theorem b_X_senseOf_14 : Rj d 83 14 ls st h Q = Rn d (83, [.iload 2, .aload 0, .getfield 704, .getfield 198, .iload 1, .iaload, .if_icmp .lt 29], 27, ls, st) h Q := rn_blk rfl
theorem b_X_senseOf_27 : Rj d 83 27 ls st h Q = Rn d (83, [.iconst (-1), .ireturn], 0, ls, st) h Q := rn_blk rfl
theorem b_X_senseOf_29 : Rj d 83 29 ls st h Q = Rn d (83, [.aload 0, .getfield 704, .iload 1, .iload 2, .invokevirtual 25, .ireturn], 0, ls, st) h Q := rn_blk rfl
theorem b_X_saying_0 : Rj d 84 0 ls st h Q = Rn d (84, [.iload 1, .invokestatic 85, .ifCond .eq 17], 7, ls, st) h Q := rn_blk rfl
theorem b_X_saying_7 : Rj d 84 7 ls st h Q = Rn d (84, [.iload 3, .ifCond .lt 17], 11, ls, st) h Q := rn_blk rfl
theorem b_X_saying_11 : Rj d 84 11 ls st h Q = Rn d (84, [.iload 3, .iconst 23, .if_icmp .le 20], 17, ls, st) h Q := rn_blk rfl
theorem b_X_saying_17 : Rj d 84 17 ls st h Q = Rn d (84, [.iconst (-102), .ireturn], 0, ls, st) h Q := rn_blk rfl
theorem b_X_saying_20 : Rj d 84 20 ls st h Q = Rn d (84, [.iload 2, .invokestatic 82, .ifCond .ne 30], 27, ls, st) h Q := rn_blk rfl
theorem b_X_saying_27 : Rj d 84 27 ls st h Q = Rn d (84, [.iconst (-101), .ireturn], 0, ls, st) h Q := rn_blk rfl
theorem b_X_saying_30 : Rj d 84 30 ls st h Q = Rn d (84, [.aload 0, .getfield 704, .getfield 193, .iconst 20, .if_icmp .lt 45], 42, ls, st) h Q := rn_blk rfl
theorem b_X_saying_42 : Rj d 84 42 ls st h Q = Rn d (84, [.iconst (-104), .ireturn], 0, ls, st) h Q := rn_blk rfl
theorem b_X_saying_45 : Rj d 84 45 ls st h Q = Rn d (84, [.aload 0, .getfield 704, .iload 1, .iload 2, .iload 3, .invokevirtual 28, .ireturn], 0, ls, st) h Q := rn_blk rfl
theorem b_X_isKind_0 : Rj d 85 0 ls st h Q = Rn d (85, [.iload 0, .ifCond .lt 14], 4, ls, st) h Q := rn_blk rfl
theorem b_X_isKind_4 : Rj d 85 4 ls st h Q = Rn d (85, [.iload 0, .iconst 6, .if_icmp .ge 14], 10, ls, st) h Q := rn_blk rfl
theorem b_X_isKind_10 : Rj d 85 10 ls st h Q = Rn d (85, [.iconst 1, .goto 15], 0, ls, st) h Q := rn_blk rfl
theorem b_X_isKind_14 : Rj d 85 14 ls st h Q = Rn d (85, [.iconst 0], 15, ls, st) h Q := rn_blk rfl
theorem b_X_isKind_15 : Rj d 85 15 ls st h Q = Rn d (85, [.freturn], 0, ls, st) h Q := rn_blk rfl
theorem b_X_as_0 : Rj d 86 0 ls st h Q = Rn d (86, [.aload 0, .iload 1, .invokevirtual 87, .ifCond .ne 11], 8, ls, st) h Q := rn_blk rfl
theorem b_X_as_8 : Rj d 86 8 ls st h Q = Rn d (86, [.iconst (-101), .ireturn], 0, ls, st) h Q := rn_blk rfl
theorem b_X_as_11 : Rj d 86 11 ls st h Q = Rn d (86, [.iload 2, .invokestatic 85, .ifCond .ne 21], 18, ls, st) h Q := rn_blk rfl
theorem b_X_as_18 : Rj d 86 18 ls st h Q = Rn d (86, [.iconst (-102), .ireturn], 0, ls, st) h Q := rn_blk rfl
theorem b_X_as_21 : Rj d 86 21 ls st h Q = Rn d (86, [.aload 0, .getfield 704, .iload 1, .iload 2, .invokevirtual 29, .ifCond .eq 37], 33, ls, st) h Q := rn_blk rfl
theorem b_X_as_33 : Rj d 86 33 ls st h Q = Rn d (86, [.iload 1, .goto 38], 0, ls, st) h Q := rn_blk rfl
theorem b_X_as_37 : Rj d 86 37 ls st h Q = Rn d (86, [.iconst (-1)], 38, ls, st) h Q := rn_blk rfl
theorem b_X_as_38 : Rj d 86 38 ls st h Q = Rn d (86, [.ireturn], 0, ls, st) h Q := rn_blk rfl
theorem b_X_isSaying_0 : Rj d 87 0 ls st h Q = Rn d (87, [.iload 1, .ifCond .lt 19], 4, ls, st) h Q := rn_blk rfl
theorem b_X_isSaying_4 : Rj d 87 4 ls st h Q = Rn d (87, [.iload 1, .aload 0, .getfield 704, .getfield 193, .if_icmp .ge 19], 15, ls, st) h Q := rn_blk rfl
theorem b_X_isSaying_15 : Rj d 87 15 ls st h Q = Rn d (87, [.iconst 1, .goto 20], 0, ls, st) h Q := rn_blk rfl
theorem b_X_isSaying_19 : Rj d 87 19 ls st h Q = Rn d (87, [.iconst 0], 20, ls, st) h Q := rn_blk rfl
theorem b_X_isSaying_20 : Rj d 87 20 ls st h Q = Rn d (87, [.freturn], 0, ls, st) h Q := rn_blk rfl
theorem b_X_fits_0 : Rj d 88 0 ls st h Q = Rn d (88, [.aload 0, .iload 1, .invokevirtual 87, .ifCond .eq 16], 8, ls, st) h Q := rn_blk rfl
theorem b_X_fits_8 : Rj d 88 8 ls st h Q = Rn d (88, [.aload 0, .iload 2, .invokevirtual 89, .ifCond .ne 19], 16, ls, st) h Q := rn_blk rfl
theorem b_X_fits_16 : Rj d 88 16 ls st h Q = Rn d (88, [.iconst (-101), .ireturn], 0, ls, st) h Q := rn_blk rfl
theorem b_X_fits_19 : Rj d 88 19 ls st h Q = Rn d (88, [.aload 0, .getfield 704, .iload 1, .iload 2, .invokevirtual 30, .ireturn], 0, ls, st) h Q := rn_blk rfl
theorem b_X_isThing_0 : Rj d 89 0 ls st h Q = Rn d (89, [.iload 1, .ifCond .lt 19], 4, ls, st) h Q := rn_blk rfl
theorem b_X_isThing_4 : Rj d 89 4 ls st h Q = Rn d (89, [.iload 1, .aload 0, .getfield 704, .getfield 192, .if_icmp .ge 19], 15, ls, st) h Q := rn_blk rfl
theorem b_X_isThing_15 : Rj d 89 15 ls st h Q = Rn d (89, [.iconst 1, .goto 20], 0, ls, st) h Q := rn_blk rfl
theorem b_X_isThing_19 : Rj d 89 19 ls st h Q = Rn d (89, [.iconst 0], 20, ls, st) h Q := rn_blk rfl
theorem b_X_isThing_20 : Rj d 89 20 ls st h Q = Rn d (89, [.freturn], 0, ls, st) h Q := rn_blk rfl
theorem b_X_riddle_0 : Rj d 90 0 ls st h Q = Rn d (90, [.aload 0, .iload 1, .invokevirtual 87, .ifCond .ne 11], 8, ls, st) h Q := rn_blk rfl
theorem b_X_riddle_8 : Rj d 90 8 ls st h Q = Rn d (90, [.iconst (-101), .ireturn], 0, ls, st) h Q := rn_blk rfl
theorem b_X_riddle_11 : Rj d 90 11 ls st h Q = Rn d (90, [.aload 0, .getfield 705, .getfield 388, .iconst 10, .if_icmp .lt 26], 23, ls, st) h Q := rn_blk rfl
theorem b_X_riddle_23 : Rj d 90 23 ls st h Q = Rn d (90, [.iconst (-104), .ireturn], 0, ls, st) h Q := rn_blk rfl
theorem b_X_riddle_26 : Rj d 90 26 ls st h Q = Rn d (90, [.aload 0, .getfield 705, .iload 1, .invokevirtual 46, .ireturn], 0, ls, st) h Q := rn_blk rfl
theorem b_X_more_0 : Rj d 91 0 ls st h Q = Rn d (91, [.aload 0, .iload 1, .invokevirtual 92, .ifCond .eq 16], 8, ls, st) h Q := rn_blk rfl
theorem b_X_more_8 : Rj d 91 8 ls st h Q = Rn d (91, [.aload 0, .iload 2, .invokevirtual 87, .ifCond .ne 19], 16, ls, st) h Q := rn_blk rfl
theorem b_X_more_16 : Rj d 91 16 ls st h Q = Rn d (91, [.iconst (-101), .ireturn], 0, ls, st) h Q := rn_blk rfl
theorem b_X_more_19 : Rj d 91 19 ls st h Q = Rn d (91, [.aload 0, .getfield 705, .getfield 387, .iload 1, .iaload, .iconst 6, .if_icmp .lt 36], 33, ls, st) h Q := rn_blk rfl
theorem b_X_more_33 : Rj d 91 33 ls st h Q = Rn d (91, [.iconst (-104), .ireturn], 0, ls, st) h Q := rn_blk rfl
theorem b_X_more_36 : Rj d 91 36 ls st h Q = Rn d (91, [.aload 0, .getfield 705, .iload 1, .iload 2, .invokevirtual 47, .ireturn], 0, ls, st) h Q := rn_blk rfl
theorem b_X_isRiddle_0 : Rj d 92 0 ls st h Q = Rn d (92, [.iload 1, .ifCond .lt 19], 4, ls, st) h Q := rn_blk rfl
theorem b_X_isRiddle_4 : Rj d 92 4 ls st h Q = Rn d (92, [.iload 1, .aload 0, .getfield 705, .getfield 388, .if_icmp .ge 19], 15, ls, st) h Q := rn_blk rfl
theorem b_X_isRiddle_15 : Rj d 92 15 ls st h Q = Rn d (92, [.iconst 1, .goto 20], 0, ls, st) h Q := rn_blk rfl
theorem b_X_isRiddle_19 : Rj d 92 19 ls st h Q = Rn d (92, [.iconst 0], 20, ls, st) h Q := rn_blk rfl
theorem b_X_isRiddle_20 : Rj d 92 20 ls st h Q = Rn d (92, [.freturn], 0, ls, st) h Q := rn_blk rfl
theorem b_X_said_0 : Rj d 93 0 ls st h Q = Rn d (93, [.aload 0, .iload 1, .invokevirtual 92, .ifCond .ne 11], 8, ls, st) h Q := rn_blk rfl
theorem b_X_said_8 : Rj d 93 8 ls st h Q = Rn d (93, [.iconst (-101), .ireturn], 0, ls, st) h Q := rn_blk rfl
theorem b_X_said_11 : Rj d 93 11 ls st h Q = Rn d (93, [.iload 2, .ifCond .lt 28], 15, ls, st) h Q := rn_blk rfl
theorem b_X_said_15 : Rj d 93 15 ls st h Q = Rn d (93, [.iload 2, .aload 0, .getfield 705, .getfield 387, .iload 1, .iaload, .if_icmp .lt 30], 28, ls, st) h Q := rn_blk rfl
theorem b_X_said_28 : Rj d 93 28 ls st h Q = Rn d (93, [.iconst (-1), .ireturn], 0, ls, st) h Q := rn_blk rfl
theorem b_X_said_30 : Rj d 93 30 ls st h Q = Rn d (93, [.aload 0, .getfield 705, .iload 1, .iload 2, .invokevirtual 48, .ireturn], 0, ls, st) h Q := rn_blk rfl
theorem b_X_answers_0 : Rj d 94 0 ls st h Q = Rn d (94, [.aload 0, .iload 1, .invokevirtual 92, .ifCond .ne 11], 8, ls, st) h Q := rn_blk rfl
theorem b_X_answers_8 : Rj d 94 8 ls st h Q = Rn d (94, [.iconst (-101), .ireturn], 0, ls, st) h Q := rn_blk rfl
theorem b_X_answers_11 : Rj d 94 11 ls st h Q = Rn d (94, [.aload 0, .getfield 705, .iload 1, .invokevirtual 49, .ireturn], 0, ls, st) h Q := rn_blk rfl
theorem b_X_turns_0 : Rj d 95 0 ls st h Q = Rn d (95, [.aload 0, .iload 1, .invokevirtual 92, .ifCond .eq 16], 8, ls, st) h Q := rn_blk rfl
theorem b_X_turns_8 : Rj d 95 8 ls st h Q = Rn d (95, [.aload 0, .iload 2, .invokevirtual 89, .ifCond .ne 19], 16, ls, st) h Q := rn_blk rfl
theorem b_X_turns_16 : Rj d 95 16 ls st h Q = Rn d (95, [.iconst (-101), .ireturn], 0, ls, st) h Q := rn_blk rfl
theorem b_X_turns_19 : Rj d 95 19 ls st h Q = Rn d (95, [.aload 0, .getfield 705, .iload 1, .iload 2, .invokevirtual 51, .ireturn], 0, ls, st) h Q := rn_blk rfl
theorem b_X_judge_0 : Rj d 96 0 ls st h Q = Rn d (96, [.aload 0, .iload 1, .invokevirtual 92, .ifCond .eq 24], 8, ls, st) h Q := rn_blk rfl
theorem b_X_judge_8 : Rj d 96 8 ls st h Q = Rn d (96, [.aload 0, .iload 2, .invokevirtual 89, .ifCond .eq 24], 16, ls, st) h Q := rn_blk rfl
theorem b_X_judge_16 : Rj d 96 16 ls st h Q = Rn d (96, [.aload 0, .iload 3, .invokevirtual 89, .ifCond .ne 27], 24, ls, st) h Q := rn_blk rfl
theorem b_X_judge_24 : Rj d 96 24 ls st h Q = Rn d (96, [.iconst (-101), .ireturn], 0, ls, st) h Q := rn_blk rfl
theorem b_X_judge_27 : Rj d 96 27 ls st h Q = Rn d (96, [.iload 2, .iload 3, .dadd, .istore 4, .iload 2, .iload 3, .dsub, .istore 5, .aload 0, .getfield 705, .iload 1, .iload 4, .invokevirtual 51, .istore 6, .aload 0, .getfield 705, .iload 1, .iload 5, .invokevirtual 51, .istore 7, .iload 7, .iconst (-1), .if_icmp .ne 84], 71, ls, st) h Q := rn_blk rfl
theorem b_X_judge_71 : Rj d 96 71 ls st h Q = Rn d (96, [.iload 6, .iconst (-1), .if_icmp .ne 81], 77, ls, st) h Q := rn_blk rfl
theorem b_X_judge_77 : Rj d 96 77 ls st h Q = Rn d (96, [.iconst (-1), .goto 83], 0, ls, st) h Q := rn_blk rfl
theorem b_X_judge_81 : Rj d 96 81 ls st h Q = Rn d (96, [.iload 4], 83, ls, st) h Q := rn_blk rfl
theorem b_X_judge_83 : Rj d 96 83 ls st h Q = Rn d (96, [.ireturn], 0, ls, st) h Q := rn_blk rfl
theorem b_X_judge_84 : Rj d 96 84 ls st h Q = Rn d (96, [.iload 6, .iconst (-1), .if_icmp .eq 97], 90, ls, st) h Q := rn_blk rfl
theorem b_X_judge_90 : Rj d 96 90 ls st h Q = Rn d (96, [.iload 7, .iload 6, .if_icmp .ge 102], 97, ls, st) h Q := rn_blk rfl
theorem b_X_judge_97 : Rj d 96 97 ls st h Q = Rn d (96, [.iload 5, .goto 104], 0, ls, st) h Q := rn_blk rfl
theorem b_X_judge_102 : Rj d 96 102 ls st h Q = Rn d (96, [.iload 4], 104, ls, st) h Q := rn_blk rfl
theorem b_X_judge_104 : Rj d 96 104 ls st h Q = Rn d (96, [.ireturn], 0, ls, st) h Q := rn_blk rfl
theorem b_X_astray_0 : Rj d 97 0 ls st h Q = Rn d (97, [.aload 0, .iload 1, .invokevirtual 92, .ifCond .ne 11], 8, ls, st) h Q := rn_blk rfl
theorem b_X_astray_8 : Rj d 97 8 ls st h Q = Rn d (97, [.iconst (-101), .ireturn], 0, ls, st) h Q := rn_blk rfl
theorem b_X_astray_11 : Rj d 97 11 ls st h Q = Rn d (97, [.iload 2, .ifCond .lt 20], 15, ls, st) h Q := rn_blk rfl
theorem b_X_astray_15 : Rj d 97 15 ls st h Q = Rn d (97, [.iload 2, .iconst 1, .if_icmp .le 23], 20, ls, st) h Q := rn_blk rfl
theorem b_X_astray_20 : Rj d 97 20 ls st h Q = Rn d (97, [.iconst (-102), .ireturn], 0, ls, st) h Q := rn_blk rfl
theorem b_X_astray_23 : Rj d 97 23 ls st h Q = Rn d (97, [.aload 0, .getfield 705, .iload 1, .invokevirtual 52, .istore 3, .iload 2, .ifCond .ne 40], 36, ls, st) h Q := rn_blk rfl
theorem b_X_astray_36 : Rj d 97 36 ls st h Q = Rn d (97, [.iload 3, .goto 49], 0, ls, st) h Q := rn_blk rfl
theorem b_X_astray_40 : Rj d 97 40 ls st h Q = Rn d (97, [.aload 0, .getfield 705, .iload 1, .iload 3, .invokevirtual 53], 49, ls, st) h Q := rn_blk rfl
theorem b_X_astray_49 : Rj d 97 49 ls st h Q = Rn d (97, [.ireturn], 0, ls, st) h Q := rn_blk rfl
theorem b_X_made_0 : Rj d 98 0 ls st h Q = Rn d (98, [.aload 0, .iload 1, .invokevirtual 89, .ifCond .ne 11], 8, ls, st) h Q := rn_blk rfl
theorem b_X_made_8 : Rj d 98 8 ls st h Q = Rn d (98, [.iconst (-101), .ireturn], 0, ls, st) h Q := rn_blk rfl
theorem b_X_made_11 : Rj d 98 11 ls st h Q = Rn d (98, [.iload 2, .iconst 1, .if_icmp .lt 22], 16, ls, st) h Q := rn_blk rfl
theorem b_X_made_16 : Rj d 98 16 ls st h Q = Rn d (98, [.iload 2, .iconst 6, .if_icmp .le 25], 22, ls, st) h Q := rn_blk rfl
theorem b_X_made_22 : Rj d 98 22 ls st h Q = Rn d (98, [.iconst (-102), .ireturn], 0, ls, st) h Q := rn_blk rfl
theorem b_X_made_25 : Rj d 98 25 ls st h Q = Rn d (98, [.aload 0, .getfield 716, .iconst 20, .if_icmp .lt 37], 34, ls, st) h Q := rn_blk rfl
theorem b_X_made_34 : Rj d 98 34 ls st h Q = Rn d (98, [.iconst (-103), .ireturn], 0, ls, st) h Q := rn_blk rfl
theorem b_X_made_37 : Rj d 98 37 ls st h Q = Rn d (98, [.aload 0, .dup, .getfield 716, .iconst 1, .iadd, .putfield 716, .aload 0, .getfield 706, .aload 0, .getfield 704, .iload 1, .iload 2, .invokevirtual 35, .ireturn], 0, ls, st) h Q := rn_blk rfl
theorem b_X_head_0 : Rj d 99 0 ls st h Q = Rn d (99, [.iload 1, .ifCond .lt 20], 4, ls, st) h Q := rn_blk rfl
theorem b_X_head_4 : Rj d 99 4 ls st h Q = Rn d (99, [.iload 1, .iconst 99, .if_icmp .gt 20], 10, ls, st) h Q := rn_blk rfl
theorem b_X_head_10 : Rj d 99 10 ls st h Q = Rn d (99, [.iload 2, .ifCond .lt 20], 14, ls, st) h Q := rn_blk rfl
theorem b_X_head_14 : Rj d 99 14 ls st h Q = Rn d (99, [.iload 2, .iconst 99, .if_icmp .le 23], 20, ls, st) h Q := rn_blk rfl
theorem b_X_head_20 : Rj d 99 20 ls st h Q = Rn d (99, [.iconst (-102), .ireturn], 0, ls, st) h Q := rn_blk rfl
theorem b_X_head_23 : Rj d 99 23 ls st h Q = Rn d (99, [.aload 0, .getfield 707, .getfield 133, .iconst 6, .if_icmp .lt 38], 35, ls, st) h Q := rn_blk rfl
theorem b_X_head_35 : Rj d 99 35 ls st h Q = Rn d (99, [.iconst (-104), .ireturn], 0, ls, st) h Q := rn_blk rfl
theorem b_X_head_38 : Rj d 99 38 ls st h Q = Rn d (99, [.aload 0, .getfield 707, .iload 1, .iload 2, .invokevirtual 13, .ireturn], 0, ls, st) h Q := rn_blk rfl
theorem b_X_hears_0 : Rj d 100 0 ls st h Q = Rn d (100, [.aload 0, .iload 1, .invokevirtual 101, .ifCond .eq 16], 8, ls, st) h Q := rn_blk rfl
theorem b_X_hears_8 : Rj d 100 8 ls st h Q = Rn d (100, [.aload 0, .iload 2, .invokevirtual 92, .ifCond .ne 19], 16, ls, st) h Q := rn_blk rfl
theorem b_X_hears_16 : Rj d 100 16 ls st h Q = Rn d (100, [.iconst (-101), .ireturn], 0, ls, st) h Q := rn_blk rfl
theorem b_X_hears_19 : Rj d 100 19 ls st h Q = Rn d (100, [.iload 3, .ifCond .lt 28], 23, ls, st) h Q := rn_blk rfl
theorem b_X_hears_23 : Rj d 100 23 ls st h Q = Rn d (100, [.iload 3, .iconst 1, .if_icmp .le 31], 28, ls, st) h Q := rn_blk rfl
theorem b_X_hears_28 : Rj d 100 28 ls st h Q = Rn d (100, [.iconst (-102), .ireturn], 0, ls, st) h Q := rn_blk rfl
theorem b_X_hears_31 : Rj d 100 31 ls st h Q = Rn d (100, [.aload 0, .getfield 707, .iload 1, .iload 2, .invokevirtual 14, .istore 4, .iload 3, .ifCond .ne 59], 46, ls, st) h Q := rn_blk rfl
theorem b_X_hears_46 : Rj d 100 46 ls st h Q = Rn d (100, [.aload 0, .getfield 707, .iload 4, .iload 2, .invokevirtual 16, .goto 69], 0, ls, st) h Q := rn_blk rfl
theorem b_X_hears_59 : Rj d 100 59 ls st h Q = Rn d (100, [.aload 0, .getfield 707, .iload 4, .iload 1, .invokevirtual 15], 69, ls, st) h Q := rn_blk rfl
theorem b_X_hears_69 : Rj d 100 69 ls st h Q = Rn d (100, [.ireturn], 0, ls, st) h Q := rn_blk rfl
theorem b_X_isHead_0 : Rj d 101 0 ls st h Q = Rn d (101, [.iload 1, .ifCond .lt 19], 4, ls, st) h Q := rn_blk rfl
theorem b_X_isHead_4 : Rj d 101 4 ls st h Q = Rn d (101, [.iload 1, .aload 0, .getfield 707, .getfield 133, .if_icmp .ge 19], 15, ls, st) h Q := rn_blk rfl
theorem b_X_isHead_15 : Rj d 101 15 ls st h Q = Rn d (101, [.iconst 1, .goto 20], 0, ls, st) h Q := rn_blk rfl
theorem b_X_isHead_19 : Rj d 101 19 ls st h Q = Rn d (101, [.iconst 0], 20, ls, st) h Q := rn_blk rfl
theorem b_X_isHead_20 : Rj d 101 20 ls st h Q = Rn d (101, [.freturn], 0, ls, st) h Q := rn_blk rfl
theorem b_X_parts_0 : Rj d 102 0 ls st h Q = Rn d (102, [.iload 1, .ifCond .lt 9], 4, ls, st) h Q := rn_blk rfl
theorem b_X_parts_4 : Rj d 102 4 ls st h Q = Rn d (102, [.iload 1, .iconst 1, .if_icmp .le 12], 9, ls, st) h Q := rn_blk rfl
theorem b_X_parts_9 : Rj d 102 9 ls st h Q = Rn d (102, [.iconst (-102), .ireturn], 0, ls, st) h Q := rn_blk rfl
theorem b_X_parts_12 : Rj d 102 12 ls st h Q = Rn d (102, [.iconst (-1), .istore 2, .iconst (-1), .istore 3, .iconst 0, .istore 4], 19, ls, st) h Q := rn_blk rfl
theorem b_X_parts_19 : Rj d 102 19 ls st h Q = Rn d (102, [.iload 4, .aload 0, .getfield 705, .getfield 388, .if_icmp .ge 60], 31, ls, st) h Q := rn_blk rfl
theorem b_X_parts_31 : Rj d 102 31 ls st h Q = Rn d (102, [.aload 0, .getfield 707, .iload 4, .invokevirtual 17, .istore 5, .iload 5, .iload 3, .if_icmp .le 54], 48, ls, st) h Q := rn_blk rfl
theorem b_X_parts_48 : Rj d 102 48 ls st h Q = Rn d (102, [.iload 4, .istore 2, .iload 5, .istore 3], 54, ls, st) h Q := rn_blk rfl
theorem b_X_parts_54 : Rj d 102 54 ls st h Q = Rn d (102, [.iinc 4 1, .goto 19], 0, ls, st) h Q := rn_blk rfl
theorem b_X_parts_60 : Rj d 102 60 ls st h Q = Rn d (102, [.iload 1, .ifCond .ne 68], 64, ls, st) h Q := rn_blk rfl
theorem b_X_parts_64 : Rj d 102 64 ls st h Q = Rn d (102, [.iload 2, .goto 69], 0, ls, st) h Q := rn_blk rfl
theorem b_X_parts_68 : Rj d 102 68 ls st h Q = Rn d (102, [.iload 3], 69, ls, st) h Q := rn_blk rfl
theorem b_X_parts_69 : Rj d 102 69 ls st h Q = Rn d (102, [.ireturn], 0, ls, st) h Q := rn_blk rfl
theorem b_X_blind_0 : Rj d 103 0 ls st h Q = Rn d (103, [.aload 0, .iload 1, .invokevirtual 92, .ifCond .eq 16], 8, ls, st) h Q := rn_blk rfl
theorem b_X_blind_8 : Rj d 103 8 ls st h Q = Rn d (103, [.aload 0, .iload 2, .invokevirtual 89, .ifCond .ne 19], 16, ls, st) h Q := rn_blk rfl
theorem b_X_blind_16 : Rj d 103 16 ls st h Q = Rn d (103, [.iconst (-101), .ireturn], 0, ls, st) h Q := rn_blk rfl
theorem b_X_blind_19 : Rj d 103 19 ls st h Q = Rn d (103, [.aload 0, .getfield 707, .iload 1, .iload 2, .invokevirtual 19, .ireturn], 0, ls, st) h Q := rn_blk rfl
theorem b_X_tongue_0 : Rj d 104 0 ls st h Q = Rn d (104, [.aload 0, .getfield 708, .getfield 578, .iconst 4, .if_icmp .lt 14], 11, ls, st) h Q := rn_blk rfl
theorem b_X_tongue_11 : Rj d 104 11 ls st h Q = Rn d (104, [.iconst (-104), .ireturn], 0, ls, st) h Q := rn_blk rfl
theorem b_X_tongue_14 : Rj d 104 14 ls st h Q = Rn d (104, [.aload 0, .getfield 708, .invokevirtual 66, .ireturn], 0, ls, st) h Q := rn_blk rfl
theorem b_X_lack_0 : Rj d 105 0 ls st h Q = Rn d (105, [.aload 0, .iload 1, .invokevirtual 106, .ifCond .eq 15], 8, ls, st) h Q := rn_blk rfl
theorem b_X_lack_8 : Rj d 105 8 ls st h Q = Rn d (105, [.iload 2, .invokestatic 82, .ifCond .ne 18], 15, ls, st) h Q := rn_blk rfl
theorem b_X_lack_15 : Rj d 105 15 ls st h Q = Rn d (105, [.iconst (-101), .ireturn], 0, ls, st) h Q := rn_blk rfl
theorem b_X_lack_18 : Rj d 105 18 ls st h Q = Rn d (105, [.iload 3, .ifCond .lt 27], 22, ls, st) h Q := rn_blk rfl
theorem b_X_lack_22 : Rj d 105 22 ls st h Q = Rn d (105, [.iload 3, .iconst 3, .if_icmp .lt 30], 27, ls, st) h Q := rn_blk rfl
theorem b_X_lack_27 : Rj d 105 27 ls st h Q = Rn d (105, [.iconst (-102), .ireturn], 0, ls, st) h Q := rn_blk rfl
theorem b_X_lack_30 : Rj d 105 30 ls st h Q = Rn d (105, [.aload 0, .getfield 708, .getfield 577, .iload 1, .aaload, .iload 2, .iload 3, .invokevirtual 56, .ifCond .ne 51], 47, ls, st) h Q := rn_blk rfl
theorem b_X_lack_47 : Rj d 105 47 ls st h Q = Rn d (105, [.iconst 1, .goto 52], 0, ls, st) h Q := rn_blk rfl
theorem b_X_lack_51 : Rj d 105 51 ls st h Q = Rn d (105, [.iconst 0], 52, ls, st) h Q := rn_blk rfl
theorem b_X_lack_52 : Rj d 105 52 ls st h Q = Rn d (105, [.istore 5, .aload 0, .getfield 708, .getfield 577, .iload 1, .aaload, .iload 2, .iload 3, .iload 4, .ifCond .ne 74], 70, ls, st) h Q := rn_blk rfl
theorem b_X_lack_70 : Rj d 105 70 ls st h Q = Rn d (105, [.iconst 1, .goto 75], 0, ls, st) h Q := rn_blk rfl
theorem b_X_lack_74 : Rj d 105 74 ls st h Q = Rn d (105, [.iconst 0], 75, ls, st) h Q := rn_blk rfl
theorem b_X_lack_75 : Rj d 105 75 ls st h Q = Rn d (105, [.invokevirtual 57, .iload 5, .ifCond .eq 87], 83, ls, st) h Q := rn_blk rfl
theorem b_X_lack_83 : Rj d 105 83 ls st h Q = Rn d (105, [.iconst 1, .goto 88], 0, ls, st) h Q := rn_blk rfl
theorem b_X_lack_87 : Rj d 105 87 ls st h Q = Rn d (105, [.iconst 0], 88, ls, st) h Q := rn_blk rfl
theorem b_X_lack_88 : Rj d 105 88 ls st h Q = Rn d (105, [.ireturn], 0, ls, st) h Q := rn_blk rfl
theorem b_X_isTongue_0 : Rj d 106 0 ls st h Q = Rn d (106, [.iload 1, .ifCond .lt 19], 4, ls, st) h Q := rn_blk rfl
theorem b_X_isTongue_4 : Rj d 106 4 ls st h Q = Rn d (106, [.iload 1, .aload 0, .getfield 708, .getfield 578, .if_icmp .ge 19], 15, ls, st) h Q := rn_blk rfl
theorem b_X_isTongue_15 : Rj d 106 15 ls st h Q = Rn d (106, [.iconst 1, .goto 20], 0, ls, st) h Q := rn_blk rfl
theorem b_X_isTongue_19 : Rj d 106 19 ls st h Q = Rn d (106, [.iconst 0], 20, ls, st) h Q := rn_blk rfl
theorem b_X_isTongue_20 : Rj d 106 20 ls st h Q = Rn d (106, [.freturn], 0, ls, st) h Q := rn_blk rfl
theorem b_X_goes_0 : Rj d 107 0 ls st h Q = Rn d (107, [.aload 0, .iload 1, .invokevirtual 92, .ifCond .eq 24], 8, ls, st) h Q := rn_blk rfl
theorem b_X_goes_8 : Rj d 107 8 ls st h Q = Rn d (107, [.aload 0, .iload 2, .invokevirtual 89, .ifCond .eq 24], 16, ls, st) h Q := rn_blk rfl
theorem b_X_goes_16 : Rj d 107 16 ls st h Q = Rn d (107, [.aload 0, .iload 3, .invokevirtual 106, .ifCond .ne 27], 24, ls, st) h Q := rn_blk rfl
theorem b_X_goes_24 : Rj d 107 24 ls st h Q = Rn d (107, [.iconst (-101), .ireturn], 0, ls, st) h Q := rn_blk rfl
theorem b_X_goes_27 : Rj d 107 27 ls st h Q = Rn d (107, [.iload 4, .ifCond .lt 38], 32, ls, st) h Q := rn_blk rfl
theorem b_X_goes_32 : Rj d 107 32 ls st h Q = Rn d (107, [.iload 4, .iconst 1, .if_icmp .le 41], 38, ls, st) h Q := rn_blk rfl
theorem b_X_goes_38 : Rj d 107 38 ls st h Q = Rn d (107, [.iconst (-102), .ireturn], 0, ls, st) h Q := rn_blk rfl
theorem b_X_goes_41 : Rj d 107 41 ls st h Q = Rn d (107, [.iload 4, .ifCond .ne 59], 46, ls, st) h Q := rn_blk rfl
theorem b_X_goes_46 : Rj d 107 46 ls st h Q = Rn d (107, [.aload 0, .getfield 708, .iload 3, .iload 1, .iload 2, .invokevirtual 67, .goto 69], 0, ls, st) h Q := rn_blk rfl
theorem b_X_goes_59 : Rj d 107 59 ls st h Q = Rn d (107, [.aload 0, .getfield 708, .iload 3, .iload 1, .iload 2, .invokevirtual 68], 69, ls, st) h Q := rn_blk rfl
theorem b_X_goes_69 : Rj d 107 69 ls st h Q = Rn d (107, [.ireturn], 0, ls, st) h Q := rn_blk rfl
theorem b_X_nearest_0 : Rj d 108 0 ls st h Q = Rn d (108, [.aload 0, .iload 1, .invokevirtual 92, .ifCond .eq 16], 8, ls, st) h Q := rn_blk rfl
theorem b_X_nearest_8 : Rj d 108 8 ls st h Q = Rn d (108, [.aload 0, .iload 2, .invokevirtual 89, .ifCond .ne 19], 16, ls, st) h Q := rn_blk rfl
theorem b_X_nearest_16 : Rj d 108 16 ls st h Q = Rn d (108, [.iconst (-101), .ireturn], 0, ls, st) h Q := rn_blk rfl
theorem b_X_nearest_19 : Rj d 108 19 ls st h Q = Rn d (108, [.aload 0, .getfield 708, .iload 1, .iload 2, .invokevirtual 69, .ireturn], 0, ls, st) h Q := rn_blk rfl
theorem b_X_letters_0 : Rj d 109 0 ls st h Q = Rn d (109, [.lload 1, .invokestatic 40, .ifCond .ne 10], 7, ls, st) h Q := rn_blk rfl
theorem b_X_letters_7 : Rj d 109 7 ls st h Q = Rn d (109, [.iconst (-102), .ireturn], 0, ls, st) h Q := rn_blk rfl
theorem b_X_letters_10 : Rj d 109 10 ls st h Q = Rn d (109, [.aload 0, .getfield 709, .getfield 321, .lload 1, .invokestatic 41, .iadd, .iconst 40, .if_icmp .le 30], 27, ls, st) h Q := rn_blk rfl
theorem b_X_letters_27 : Rj d 109 27 ls st h Q = Rn d (109, [.iconst (-104), .ireturn], 0, ls, st) h Q := rn_blk rfl
theorem b_X_letters_30 : Rj d 109 30 ls st h Q = Rn d (109, [.aload 0, .getfield 709, .lload 1, .invokevirtual 43, .ireturn], 0, ls, st) h Q := rn_blk rfl
theorem b_X_blank_0 : Rj d 110 0 ls st h Q = Rn d (110, [.aload 0, .getfield 709, .invokevirtual 44, .ireturn], 0, ls, st) h Q := rn_blk rfl
theorem b_X_fault_0 : Rj d 111 0 ls st h Q = Rn d (111, [.aload 0, .getfield 715, .aload 0, .getfield 709, .invokevirtual 71, .ireturn], 0, ls, st) h Q := rn_blk rfl
theorem b_X_tree_0 : Rj d 112 0 ls st h Q = Rn d (112, [.aload 0, .getfield 715, .aload 0, .getfield 709, .invokevirtual 71, .aload 0, .getfield 709, .getfield 321, .if_icmp .lt 31], 21, ls, st) h Q := rn_blk rfl
theorem b_X_tree_21 : Rj d 112 21 ls st h Q = Rn d (112, [.aload 0, .getfield 715, .invokevirtual 78, .ifCond .ne 34], 31, ls, st) h Q := rn_blk rfl
theorem b_X_tree_31 : Rj d 112 31 ls st h Q = Rn d (112, [.iconst (-103), .ireturn], 0, ls, st) h Q := rn_blk rfl
theorem b_X_tree_34 : Rj d 112 34 ls st h Q = Rn d (112, [.aload 0, .getfield 714, .astore 1, .aload 0, .aload 0, .getfield 715, .putfield 8906, .aload 0, .aload 1, .putfield 8907, .aload 0, .getfield 709, .invokevirtual 44, .pop, .aload 0, .getfield 714, .getfield 643, .ireturn], 0, ls, st) h Q := rn_blk rfl
theorem b_X_variant_0 : Rj d 113 0 ls st h Q = Rn d (113, [.iload 1, .ifCond .lt 10], 4, ls, st) h Q := rn_blk rfl
theorem b_X_variant_4 : Rj d 113 4 ls st h Q = Rn d (113, [.iload 1, .iconst 8, .if_icmp .lt 13], 10, ls, st) h Q := rn_blk rfl
theorem b_X_variant_10 : Rj d 113 10 ls st h Q = Rn d (113, [.iconst (-101), .ireturn], 0, ls, st) h Q := rn_blk rfl
theorem b_X_variant_13 : Rj d 113 13 ls st h Q = Rn d (113, [.iload 2, .iconst (-1), .if_icmp .eq 31], 18, ls, st) h Q := rn_blk rfl
theorem b_X_variant_18 : Rj d 113 18 ls st h Q = Rn d (113, [.iload 2, .ifCond .lt 28], 22, ls, st) h Q := rn_blk rfl
theorem b_X_variant_22 : Rj d 113 22 ls st h Q = Rn d (113, [.iload 2, .iconst 8, .if_icmp .lt 31], 28, ls, st) h Q := rn_blk rfl
theorem b_X_variant_28 : Rj d 113 28 ls st h Q = Rn d (113, [.iconst (-102), .ireturn], 0, ls, st) h Q := rn_blk rfl
theorem b_X_variant_31 : Rj d 113 31 ls st h Q = Rn d (113, [.aload 0, .getfield 713, .iload 1, .iaload, .istore 3, .aload 0, .getfield 713, .iload 1, .iload 2, .iastore, .iload 3, .ireturn], 0, ls, st) h Q := rn_blk rfl
theorem b_X_changes_0 : Rj d 114 0 ls st h Q = Rn d (114, [.iload 1, .ifCond .eq 19], 4, ls, st) h Q := rn_blk rfl
theorem b_X_changes_4 : Rj d 114 4 ls st h Q = Rn d (114, [.iload 1, .iconst 10, .if_icmp .lt 16], 10, ls, st) h Q := rn_blk rfl
theorem b_X_changes_10 : Rj d 114 10 ls st h Q = Rn d (114, [.iload 1, .iconst 39, .if_icmp .le 19], 16, ls, st) h Q := rn_blk rfl
theorem b_X_changes_16 : Rj d 114 16 ls st h Q = Rn d (114, [.iconst (-102), .ireturn], 0, ls, st) h Q := rn_blk rfl
theorem b_X_changes_19 : Rj d 114 19 ls st h Q = Rn d (114, [.aload 0, .getfield 714, .invokevirtual 78, .ifCond .ne 32], 29, ls, st) h Q := rn_blk rfl
theorem b_X_changes_29 : Rj d 114 29 ls st h Q = Rn d (114, [.iconst (-103), .ireturn], 0, ls, st) h Q := rn_blk rfl
theorem b_X_changes_32 : Rj d 114 32 ls st h Q = Rn d (114, [.iload 1, .ifCond .ne 52], 36, ls, st) h Q := rn_blk rfl
theorem b_X_changes_36 : Rj d 114 36 ls st h Q = Rn d (114, [.aload 0, .getfield 711, .aload 0, .getfield 714, .aload 0, .getfield 713, .invokevirtual 1, .ireturn], 0, ls, st) h Q := rn_blk rfl
theorem b_X_changes_52 : Rj d 114 52 ls st h Q = Rn d (114, [.iload 1, .iconst 10, .isub, .aload 0, .getfield 714, .getfield 643, .if_icmp .lt 68], 66, ls, st) h Q := rn_blk rfl
theorem b_X_changes_66 : Rj d 114 66 ls st h Q = Rn d (114, [.iconst (-1), .ireturn], 0, ls, st) h Q := rn_blk rfl
theorem b_X_changes_68 : Rj d 114 68 ls st h Q = Rn d (114, [.aload 0, .getfield 711, .aload 0, .getfield 714, .aload 0, .getfield 713, .invokevirtual 5, .aload 0, .getfield 711, .iload 1, .iconst 10, .isub, .invokevirtual 7, .ireturn], 0, ls, st) h Q := rn_blk rfl
theorem b_X_chance_0 : Rj d 115 0 ls st h Q = Rn d (115, [.iload 1, .ifCond .lt 9], 4, ls, st) h Q := rn_blk rfl
theorem b_X_chance_4 : Rj d 115 4 ls st h Q = Rn d (115, [.iload 1, .iconst 1, .if_icmp .le 12], 9, ls, st) h Q := rn_blk rfl
theorem b_X_chance_9 : Rj d 115 9 ls st h Q = Rn d (115, [.iconst (-102), .ireturn], 0, ls, st) h Q := rn_blk rfl
theorem b_X_chance_12 : Rj d 115 12 ls st h Q = Rn d (115, [.aload 0, .getfield 714, .invokevirtual 78, .ifCond .eq 31], 22, ls, st) h Q := rn_blk rfl
theorem b_X_chance_22 : Rj d 115 22 ls st h Q = Rn d (115, [.aload 0, .getfield 717, .iconst 12, .if_icmp .lt 34], 31, ls, st) h Q := rn_blk rfl
theorem b_X_chance_31 : Rj d 115 31 ls st h Q = Rn d (115, [.iconst (-103), .ireturn], 0, ls, st) h Q := rn_blk rfl
theorem b_X_chance_34 : Rj d 115 34 ls st h Q = Rn d (115, [.aload 0, .dup, .getfield 717, .iconst 1, .iadd, .putfield 717, .aload 0, .getfield 712, .aload 0, .getfield 714, .aload 0, .getfield 713, .aload 0, .getfield 711, .invokevirtual 9, .aload 0, .getfield 712, .getfield 70, .aload 0, .getfield 712, .getfield 71, .invokestatic 116, .istore 2, .iload 1, .ifCond .ne 95], 85, ls, st) h Q := rn_blk rfl
theorem b_X_chance_85 : Rj d 115 85 ls st h Q = Rn d (115, [.aload 0, .getfield 712, .getfield 71, .goto 102], 0, ls, st) h Q := rn_blk rfl
theorem b_X_chance_95 : Rj d 115 95 ls st h Q = Rn d (115, [.aload 0, .getfield 712, .getfield 70], 102, ls, st) h Q := rn_blk rfl
theorem b_X_chance_102 : Rj d 115 102 ls st h Q = Rn d (115, [.iload 2, .idiv, .ireturn], 0, ls, st) h Q := rn_blk rfl
theorem b_X_greatestDivisor_0 : Rj d 116 0 ls st h Q = Rn d (116, [.iload 0, .istore 2, .iload 1, .istore 3, .iconst 0, .istore 4], 7, ls, st) h Q := rn_blk rfl
theorem b_X_greatestDivisor_7 : Rj d 116 7 ls st h Q = Rn d (116, [.iload 4, .iconst 64, .if_icmp .ge 34], 14, ls, st) h Q := rn_blk rfl
theorem b_X_greatestDivisor_14 : Rj d 116 14 ls st h Q = Rn d (116, [.iload 3, .ifCond .eq 34], 18, ls, st) h Q := rn_blk rfl
theorem b_X_greatestDivisor_18 : Rj d 116 18 ls st h Q = Rn d (116, [.iload 2, .iload 3, .irem, .istore 5, .iload 3, .istore 2, .iload 5, .istore 3, .iinc 4 1, .goto 7], 0, ls, st) h Q := rn_blk rfl
theorem b_X_greatestDivisor_34 : Rj d 116 34 ls st h Q = Rn d (116, [.iload 2, .iconst 1, .dsub, .ireturn], 0, ls, st) h Q := rn_blk rfl
theorem b_X_stake_0 : Rj d 117 0 ls st h Q = Rn d (117, [.aload 0, .iload 1, .invokevirtual 101, .ifCond .eq 16], 8, ls, st) h Q := rn_blk rfl
theorem b_X_stake_8 : Rj d 117 8 ls st h Q = Rn d (117, [.aload 0, .iload 2, .invokevirtual 92, .ifCond .ne 19], 16, ls, st) h Q := rn_blk rfl
theorem b_X_stake_16 : Rj d 117 16 ls st h Q = Rn d (117, [.iconst (-101), .ireturn], 0, ls, st) h Q := rn_blk rfl
theorem b_X_stake_19 : Rj d 117 19 ls st h Q = Rn d (117, [.iload 3, .ifCond .lt 30], 23, ls, st) h Q := rn_blk rfl
theorem b_X_stake_23 : Rj d 117 23 ls st h Q = Rn d (117, [.iload 3, .iconst 999, .if_icmp .le 33], 30, ls, st) h Q := rn_blk rfl
theorem b_X_stake_30 : Rj d 117 30 ls st h Q = Rn d (117, [.iconst (-102), .ireturn], 0, ls, st) h Q := rn_blk rfl
theorem b_X_stake_33 : Rj d 117 33 ls st h Q = Rn d (117, [.aload 0, .getfield 710, .iload 1, .iload 2, .iload 3, .invokevirtual 59, .ireturn], 0, ls, st) h Q := rn_blk rfl
theorem b_X_whom_0 : Rj d 118 0 ls st h Q = Rn d (118, [.iload 1, .iconst (-1), .if_icmp .eq 16], 5, ls, st) h Q := rn_blk rfl
theorem b_X_whom_5 : Rj d 118 5 ls st h Q = Rn d (118, [.aload 0, .iload 1, .invokevirtual 101, .ifCond .ne 16], 13, ls, st) h Q := rn_blk rfl
theorem b_X_whom_13 : Rj d 118 13 ls st h Q = Rn d (118, [.iconst (-101), .ireturn], 0, ls, st) h Q := rn_blk rfl
theorem b_X_whom_16 : Rj d 118 16 ls st h Q = Rn d (118, [.aload 0, .getfield 710, .aload 0, .getfield 707, .getfield 133, .aload 0, .getfield 705, .getfield 388, .invokevirtual 61, .lstore 2, .iload 1, .iconst (-1), .if_icmp .ne 50], 43, ls, st) h Q := rn_blk rfl
theorem b_X_whom_43 : Rj d 118 43 ls st h Q = Rn d (118, [.lload 2, .invokestatic 63, .goto 55], 0, ls, st) h Q := rn_blk rfl
theorem b_X_whom_50 : Rj d 118 50 ls st h Q = Rn d (118, [.lload 2, .iload 1, .invokestatic 64], 55, ls, st) h Q := rn_blk rfl
theorem b_X_whom_55 : Rj d 118 55 ls st h Q = Rn d (118, [.ireturn], 0, ls, st) h Q := rn_blk rfl
theorem b_X_count_0 : Rj d 119 0 ls st h Q = Rn d (119, [.iload 1, .tableswitch 130 0 9 #[56, 64, 72, 80, 88, 96, 104, 112, 120, 125]], 0, ls, st) h Q := rn_blk rfl
theorem b_X_count_56 : Rj d 119 56 ls st h Q = Rn d (119, [.aload 0, .getfield 704, .getfield 192, .ireturn], 0, ls, st) h Q := rn_blk rfl
theorem b_X_count_64 : Rj d 119 64 ls st h Q = Rn d (119, [.aload 0, .getfield 704, .invokevirtual 33, .ireturn], 0, ls, st) h Q := rn_blk rfl
theorem b_X_count_72 : Rj d 119 72 ls st h Q = Rn d (119, [.aload 0, .getfield 704, .getfield 193, .ireturn], 0, ls, st) h Q := rn_blk rfl
theorem b_X_count_80 : Rj d 119 80 ls st h Q = Rn d (119, [.aload 0, .getfield 705, .getfield 388, .ireturn], 0, ls, st) h Q := rn_blk rfl
theorem b_X_count_88 : Rj d 119 88 ls st h Q = Rn d (119, [.aload 0, .getfield 707, .getfield 133, .ireturn], 0, ls, st) h Q := rn_blk rfl
theorem b_X_count_96 : Rj d 119 96 ls st h Q = Rn d (119, [.aload 0, .getfield 708, .getfield 578, .ireturn], 0, ls, st) h Q := rn_blk rfl
theorem b_X_count_104 : Rj d 119 104 ls st h Q = Rn d (119, [.aload 0, .getfield 714, .getfield 643, .ireturn], 0, ls, st) h Q := rn_blk rfl
theorem b_X_count_112 : Rj d 119 112 ls st h Q = Rn d (119, [.aload 0, .getfield 709, .getfield 321, .ireturn], 0, ls, st) h Q := rn_blk rfl
theorem b_X_count_120 : Rj d 119 120 ls st h Q = Rn d (119, [.aload 0, .getfield 716, .ireturn], 0, ls, st) h Q := rn_blk rfl
theorem b_X_count_125 : Rj d 119 125 ls st h Q = Rn d (119, [.aload 0, .getfield 717, .ireturn], 0, ls, st) h Q := rn_blk rfl
theorem b_X_count_130 : Rj d 119 130 ls st h Q = Rn d (119, [.iconst (-102), .ireturn], 0, ls, st) h Q := rn_blk rfl
theorem b_X_digest_0 : Rj d 120 0 ls st h Q = Rn d (120, [.aload 0, .ldc2_w 349, .invokevirtual 121, .lstore 1, .aload 0, .lload 1, .invokevirtual 122, .lstore 1, .aload 0, .lload 1, .invokevirtual 123, .lstore 1, .aload 0, .lload 1, .invokevirtual 124, .lstore 1, .iconst 0, .istore 3], 28, ls, st) h Q := rn_blk rfl
theorem b_X_digest_28 : Rj d 120 28 ls st h Q = Rn d (120, [.iload 3, .aload 0, .getfield 709, .getfield 321, .if_icmp .ge 62], 39, ls, st) h Q := rn_blk rfl
theorem b_X_digest_39 : Rj d 120 39 ls st h Q = Rn d (120, [.ldc2_w 31, .lload 1, .lmul, .aload 0, .getfield 709, .getfield 320, .iload 3, .iaload, .i2l, .ladd, .lstore 1, .iinc 3 1, .goto 28], 0, ls, st) h Q := rn_blk rfl
theorem b_X_digest_62 : Rj d 120 62 ls st h Q = Rn d (120, [.iconst 0, .istore 3], 64, ls, st) h Q := rn_blk rfl
theorem b_X_digest_64 : Rj d 120 64 ls st h Q = Rn d (120, [.iload 3, .iconst 10, .if_icmp .ge 89], 70, ls, st) h Q := rn_blk rfl
theorem b_X_digest_70 : Rj d 120 70 ls st h Q = Rn d (120, [.ldc2_w 31, .lload 1, .lmul, .aload 0, .iload 3, .invokevirtual 119, .i2l, .ladd, .lstore 1, .iinc 3 1, .goto 64], 0, ls, st) h Q := rn_blk rfl
theorem b_X_digest_89 : Rj d 120 89 ls st h Q = Rn d (120, [.lload 1, .lreturn], 0, ls, st) h Q := rn_blk rfl
theorem b_X_digestLore_0 : Rj d 121 0 ls st h Q = Rn d (121, [.lload 1, .lstore 3, .iconst 0, .istore 5], 5, ls, st) h Q := rn_blk rfl
theorem b_X_digestLore_5 : Rj d 121 5 ls st h Q = Rn d (121, [.iload 5, .aload 0, .getfield 704, .getfield 192, .if_icmp .ge 41], 17, ls, st) h Q := rn_blk rfl
theorem b_X_digestLore_17 : Rj d 121 17 ls st h Q = Rn d (121, [.ldc2_w 31, .lload 3, .lmul, .aload 0, .getfield 704, .getfield 194, .iload 5, .iaload, .i2l, .ladd, .lstore 3, .iinc 5 1, .goto 5], 0, ls, st) h Q := rn_blk rfl
theorem b_X_digestLore_41 : Rj d 121 41 ls st h Q = Rn d (121, [.iconst 0, .istore 5], 44, ls, st) h Q := rn_blk rfl
theorem b_X_digestLore_44 : Rj d 121 44 ls st h Q = Rn d (121, [.iload 5, .iconst 16, .if_icmp .ge 100], 51, ls, st) h Q := rn_blk rfl
theorem b_X_digestLore_51 : Rj d 121 51 ls st h Q = Rn d (121, [.iconst 0, .istore 6], 54, ls, st) h Q := rn_blk rfl
theorem b_X_digestLore_54 : Rj d 121 54 ls st h Q = Rn d (121, [.iload 6, .aload 0, .getfield 704, .getfield 198, .iload 5, .iaload, .if_icmp .ge 94], 69, ls, st) h Q := rn_blk rfl
theorem b_X_digestLore_69 : Rj d 121 69 ls st h Q = Rn d (121, [.ldc2_w 31, .lload 3, .lmul, .aload 0, .getfield 704, .iload 5, .iload 6, .invokevirtual 25, .i2l, .ladd, .lstore 3, .iinc 6 1, .goto 54], 0, ls, st) h Q := rn_blk rfl
theorem b_X_digestLore_94 : Rj d 121 94 ls st h Q = Rn d (121, [.iinc 5 1, .goto 44], 0, ls, st) h Q := rn_blk rfl
theorem b_X_digestLore_100 : Rj d 121 100 ls st h Q = Rn d (121, [.iconst 0, .istore 5], 103, ls, st) h Q := rn_blk rfl
theorem b_X_digestLore_103 : Rj d 121 103 ls st h Q = Rn d (121, [.iload 5, .aload 0, .getfield 704, .getfield 193, .if_icmp .ge 215], 115, ls, st) h Q := rn_blk rfl
theorem b_X_digestLore_115 : Rj d 121 115 ls st h Q = Rn d (121, [.ldc2_w 31, .lload 3, .lmul, .aload 0, .getfield 704, .getfield 199, .iload 5, .iaload, .i2l, .ladd, .lstore 3, .ldc2_w 31, .lload 3, .lmul, .aload 0, .getfield 704, .getfield 200, .iload 5, .iaload, .i2l, .ladd, .lstore 3, .ldc2_w 31, .lload 3, .lmul, .aload 0, .getfield 704, .getfield 201, .iload 5, .iaload, .i2l, .ladd, .lstore 3, .iconst 0, .istore 6], 172, ls, st) h Q := rn_blk rfl
theorem b_X_digestLore_172 : Rj d 121 172 ls st h Q = Rn d (121, [.iload 6, .aload 0, .getfield 704, .getfield 192, .if_icmp .ge 209], 184, ls, st) h Q := rn_blk rfl
theorem b_X_digestLore_184 : Rj d 121 184 ls st h Q = Rn d (121, [.ldc2_w 31, .lload 3, .lmul, .aload 0, .getfield 704, .iload 5, .iload 6, .invokevirtual 30, .i2l, .ladd, .lstore 3, .iinc 6 1, .goto 172], 0, ls, st) h Q := rn_blk rfl
theorem b_X_digestLore_209 : Rj d 121 209 ls st h Q = Rn d (121, [.iinc 5 1, .goto 103], 0, ls, st) h Q := rn_blk rfl
theorem b_X_digestLore_215 : Rj d 121 215 ls st h Q = Rn d (121, [.lload 3, .lreturn], 0, ls, st) h Q := rn_blk rfl
theorem b_X_digestRiddles_0 : Rj d 122 0 ls st h Q = Rn d (122, [.lload 1, .lstore 3, .iconst 0, .istore 5], 5, ls, st) h Q := rn_blk rfl
theorem b_X_digestRiddles_5 : Rj d 122 5 ls st h Q = Rn d (122, [.iload 5, .aload 0, .getfield 705, .getfield 388, .if_icmp .ge 174], 17, ls, st) h Q := rn_blk rfl
theorem b_X_digestRiddles_17 : Rj d 122 17 ls st h Q = Rn d (122, [.iconst 0, .istore 6], 20, ls, st) h Q := rn_blk rfl
theorem b_X_digestRiddles_20 : Rj d 122 20 ls st h Q = Rn d (122, [.iload 6, .aload 0, .getfield 705, .getfield 387, .iload 5, .iaload, .if_icmp .ge 60], 35, ls, st) h Q := rn_blk rfl
theorem b_X_digestRiddles_35 : Rj d 122 35 ls st h Q = Rn d (122, [.ldc2_w 31, .lload 3, .lmul, .aload 0, .getfield 705, .iload 5, .iload 6, .invokevirtual 48, .i2l, .ladd, .lstore 3, .iinc 6 1, .goto 20], 0, ls, st) h Q := rn_blk rfl
theorem b_X_digestRiddles_60 : Rj d 122 60 ls st h Q = Rn d (122, [.ldc2_w 31, .lload 3, .lmul, .aload 0, .getfield 705, .iload 5, .invokevirtual 49, .i2l, .ladd, .lstore 3, .iconst 0, .istore 6], 80, ls, st) h Q := rn_blk rfl
theorem b_X_digestRiddles_80 : Rj d 122 80 ls st h Q = Rn d (122, [.iload 6, .aload 0, .getfield 707, .getfield 133, .if_icmp .ge 168], 92, ls, st) h Q := rn_blk rfl
theorem b_X_digestRiddles_92 : Rj d 122 92 ls st h Q = Rn d (122, [.aload 0, .getfield 707, .iload 6, .iload 5, .invokevirtual 14, .istore 7, .ldc2_w 31, .lload 3, .lmul, .aload 0, .getfield 707, .iload 7, .iload 5, .invokevirtual 16, .i2l, .ladd, .lstore 3, .ldc2_w 31, .lload 3, .lmul, .aload 0, .getfield 707, .iload 7, .iload 6, .invokevirtual 15, .i2l, .ladd, .lstore 3, .ldc2_w 31, .lload 3, .lmul, .aload 0, .getfield 710, .iload 6, .iload 5, .invokevirtual 60, .i2l, .ladd, .lstore 3, .iinc 6 1, .goto 80], 0, ls, st) h Q := rn_blk rfl
theorem b_X_digestRiddles_168 : Rj d 122 168 ls st h Q = Rn d (122, [.iinc 5 1, .goto 5], 0, ls, st) h Q := rn_blk rfl
theorem b_X_digestRiddles_174 : Rj d 122 174 ls st h Q = Rn d (122, [.lload 3, .lreturn], 0, ls, st) h Q := rn_blk rfl
theorem b_X_digestTongues_0 : Rj d 123 0 ls st h Q = Rn d (123, [.lload 1, .lstore 3, .aload 0, .getfield 704, .getfield 192, .ifCond .ne 14], 12, ls, st) h Q := rn_blk rfl
theorem b_X_digestTongues_12 : Rj d 123 12 ls st h Q = Rn d (123, [.lload 3, .lreturn], 0, ls, st) h Q := rn_blk rfl
theorem b_X_digestTongues_14 : Rj d 123 14 ls st h Q = Rn d (123, [.iconst 0, .istore 5], 17, ls, st) h Q := rn_blk rfl
theorem b_X_digestTongues_17 : Rj d 123 17 ls st h Q = Rn d (123, [.iload 5, .aload 0, .getfield 708, .getfield 578, .if_icmp .ge 96], 29, ls, st) h Q := rn_blk rfl
theorem b_X_digestTongues_29 : Rj d 123 29 ls st h Q = Rn d (123, [.iconst 0, .istore 6], 32, ls, st) h Q := rn_blk rfl
theorem b_X_digestTongues_32 : Rj d 123 32 ls st h Q = Rn d (123, [.iload 6, .aload 0, .getfield 705, .getfield 388, .if_icmp .ge 90], 44, ls, st) h Q := rn_blk rfl
theorem b_X_digestTongues_44 : Rj d 123 44 ls st h Q = Rn d (123, [.ldc2_w 31, .lload 3, .lmul, .aload 0, .getfield 708, .iload 5, .iload 6, .iconst 0, .invokevirtual 67, .i2l, .ladd, .lstore 3, .ldc2_w 31, .lload 3, .lmul, .aload 0, .getfield 708, .iload 5, .iload 6, .iconst 0, .invokevirtual 68, .i2l, .ladd, .lstore 3, .iinc 6 1, .goto 32], 0, ls, st) h Q := rn_blk rfl
theorem b_X_digestTongues_90 : Rj d 123 90 ls st h Q = Rn d (123, [.iinc 5 1, .goto 17], 0, ls, st) h Q := rn_blk rfl
theorem b_X_digestTongues_96 : Rj d 123 96 ls st h Q = Rn d (123, [.lload 3, .lreturn], 0, ls, st) h Q := rn_blk rfl
theorem b_X_digestLands_0 : Rj d 124 0 ls st h Q = Rn d (124, [.lload 1, .lstore 3, .iconst 0, .istore 5], 5, ls, st) h Q := rn_blk rfl
theorem b_X_digestLands_5 : Rj d 124 5 ls st h Q = Rn d (124, [.iload 5, .iconst 8, .if_icmp .ge 33], 12, ls, st) h Q := rn_blk rfl
theorem b_X_digestLands_12 : Rj d 124 12 ls st h Q = Rn d (124, [.ldc2_w 31, .lload 3, .lmul, .aload 0, .getfield 713, .iload 5, .iaload, .i2l, .ladd, .lstore 3, .iinc 5 1, .goto 5], 0, ls, st) h Q := rn_blk rfl
theorem b_X_digestLands_33 : Rj d 124 33 ls st h Q = Rn d (124, [.aload 0, .getfield 714, .invokevirtual 78, .ifCond .ne 45], 43, ls, st) h Q := rn_blk rfl
theorem b_X_digestLands_43 : Rj d 124 43 ls st h Q = Rn d (124, [.lload 3, .lreturn], 0, ls, st) h Q := rn_blk rfl
theorem b_X_digestLands_45 : Rj d 124 45 ls st h Q = Rn d (124, [.ldc2_w 31, .lload 3, .lmul, .aload 0, .getfield 711, .aload 0, .getfield 714, .aload 0, .getfield 713, .invokevirtual 1, .i2l, .ladd, .lstore 3, .aload 0, .getfield 711, .aload 0, .getfield 714, .aload 0, .getfield 713, .invokevirtual 5, .iconst 0, .istore 5], 86, ls, st) h Q := rn_blk rfl
theorem b_X_digestLands_86 : Rj d 124 86 ls st h Q = Rn d (124, [.iload 5, .aload 0, .getfield 714, .getfield 643, .if_icmp .ge 121], 98, ls, st) h Q := rn_blk rfl
theorem b_X_digestLands_98 : Rj d 124 98 ls st h Q = Rn d (124, [.ldc2_w 31, .lload 3, .lmul, .aload 0, .getfield 711, .iload 5, .invokevirtual 7, .i2l, .ladd, .lstore 3, .iinc 5 1, .goto 86], 0, ls, st) h Q := rn_blk rfl
theorem b_X_digestLands_121 : Rj d 124 121 ls st h Q = Rn d (124, [.lload 3, .lreturn], 0, ls, st) h Q := rn_blk rfl
theorem b_M_init_0 : Rj d 125 0 ls st h Q = Rn d (125, [.aload 0, .monitorenter, .aload 0, .iconst 12, .newarray .int, .putfield 8961, .aload 0, .iconst 16, .newarray .int, .putfield 8962, .aload 0, .iconst 48, .newarray .int, .putfield 8963, .aload 0, .iconst 20, .newarray .int, .putfield 8965, .aload 0, .iconst 20, .newarray .int, .putfield 8966, .aload 0, .iconst 20, .newarray .int, .putfield 8967, .aload 0, .iconst 10, .newarray .int, .putfield 8969, .aload 0, .iconst 60, .newarray .int, .putfield 8970, .aload 0, .iconst 20, .newarray .int, .putfield 8972, .aload 0, .iconst 20, .newarray .int, .putfield 8973, .aload 0, .iconst 6, .newarray .int, .putfield 8975, .aload 0, .iconst 6, .newarray .int, .putfield 8976, .aload 0, .iconst 64, .newarray .int, .putfield 8979, .aload 0, .iconst 40, .newarray .int, .putfield 8980, .aload 0, .iconst 40, .newarray .int, .putfield 8983, .aload 0, .iconst 40, .newarray .int, .putfield 8984, .aload 0, .iconst 8, .newarray .int, .putfield 8985, .aload 0, .iconst 40, .newarray .int, .putfield 8990, .aload 0, .iconst 40, .newarray .int, .putfield 8991, .aload 0, .iconst 40, .newarray .int, .putfield 8992, .aload 0, .iconst 320, .newarray .int, .putfield 8993, .aload 0, .iconst 320, .newarray .int, .putfield 8994, .aload 0, .iconst 8, .newarray .int, .putfield 8995, .aload 0, .iconst 8, .newarray .int, .putfield 8997, .aload 0, .iconst 8, .newarray .int, .putfield 8998, .aload 0, .iconst 60, .newarray .int, .putfield 8999, .aload 0, .iconst 7168, .newarray .int, .putfield 9000, .iconst 0, .istore 1], 225, ls, st) h Q := rn_blk rfl
theorem b_M_init_225 : Rj d 125 225 ls st h Q = Rn d (125, [.iload 1, .iconst 8, .if_icmp .ge 244], 231, ls, st) h Q := rn_blk rfl
theorem b_M_init_231 : Rj d 125 231 ls st h Q = Rn d (125, [.aload 0, .getfield 793, .iload 1, .iconst (-1), .iastore, .iinc 1 1, .goto 225], 0, ls, st) h Q := rn_blk rfl
theorem b_M_init_244 : Rj d 125 244 ls st h Q = Rn d (125, [.return_], 0, ls, st) h Q := rn_blk rfl
theorem b_M_thing_0 : Rj d 126 0 ls st h Q = Rn d (126, [.iload 1, .i2l, .ldc2_w 0, .ldc2_w 16777215, .invokestatic 127, .ifCond .ne 15], 12, ls, st) h Q := rn_blk rfl
theorem b_M_thing_12 : Rj d 126 12 ls st h Q = Rn d (126, [.iconst (-102), .ireturn], 0, ls, st) h Q := rn_blk rfl
theorem b_M_thing_15 : Rj d 126 15 ls st h Q = Rn d (126, [.aload 0, .getfield 768, .iconst 12, .if_icmp .ne 27], 24, ls, st) h Q := rn_blk rfl
theorem b_M_thing_24 : Rj d 126 24 ls st h Q = Rn d (126, [.iconst (-104), .ireturn], 0, ls, st) h Q := rn_blk rfl
theorem b_M_thing_27 : Rj d 126 27 ls st h Q = Rn d (126, [.aload 0, .getfield 769, .aload 0, .getfield 768, .iload 1, .iastore, .aload 0, .dup, .getfield 768, .iconst 1, .iadd, .putfield 768, .aload 0, .getfield 768, .iconst 1, .isub, .ireturn], 0, ls, st) h Q := rn_blk rfl
theorem b_M_in_0 : Rj d 127 0 ls st h Q = Rn d (127, [.lload 0, .lload 2, .lcmp, .ifCond .lt 17], 6, ls, st) h Q := rn_blk rfl
theorem b_M_in_6 : Rj d 127 6 ls st h Q = Rn d (127, [.lload 0, .lload 4, .lcmp, .ifCond .gt 17], 13, ls, st) h Q := rn_blk rfl
theorem b_M_in_13 : Rj d 127 13 ls st h Q = Rn d (127, [.iconst 1, .goto 18], 0, ls, st) h Q := rn_blk rfl
theorem b_M_in_17 : Rj d 127 17 ls st h Q = Rn d (127, [.iconst 0], 18, ls, st) h Q := rn_blk rfl
theorem b_M_in_18 : Rj d 127 18 ls st h Q = Rn d (127, [.freturn], 0, ls, st) h Q := rn_blk rfl
theorem b_M_sense_0 : Rj d 128 0 ls st h Q = Rn d (128, [.iload 1, .invokestatic 129, .ifCond .ne 10], 7, ls, st) h Q := rn_blk rfl
theorem b_M_sense_7 : Rj d 128 7 ls st h Q = Rn d (128, [.iconst (-101), .ireturn], 0, ls, st) h Q := rn_blk rfl
theorem b_M_sense_10 : Rj d 128 10 ls st h Q = Rn d (128, [.iload 2, .i2l, .ldc2_w 0, .ldc2_w 23, .invokestatic 127, .istore 3, .iconst 0, .istore 4], 23, ls, st) h Q := rn_blk rfl
theorem b_M_sense_23 : Rj d 128 23 ls st h Q = Rn d (128, [.iload 4, .aload 0, .getfield 770, .iload 1, .iaload, .if_icmp .ge 65], 34, ls, st) h Q := rn_blk rfl
theorem b_M_sense_34 : Rj d 128 34 ls st h Q = Rn d (128, [.iload 3, .ifCond .eq 57], 38, ls, st) h Q := rn_blk rfl
theorem b_M_sense_38 : Rj d 128 38 ls st h Q = Rn d (128, [.aload 0, .getfield 771, .iconst 3, .iload 1, .imul, .iload 4, .iadd, .iaload, .iload 2, .if_icmp .eq 57], 53, ls, st) h Q := rn_blk rfl
theorem b_M_sense_53 : Rj d 128 53 ls st h Q = Rn d (128, [.iconst 1, .goto 58], 0, ls, st) h Q := rn_blk rfl
theorem b_M_sense_57 : Rj d 128 57 ls st h Q = Rn d (128, [.iconst 0], 58, ls, st) h Q := rn_blk rfl
theorem b_M_sense_58 : Rj d 128 58 ls st h Q = Rn d (128, [.istore 3, .iinc 4 1, .goto 23], 0, ls, st) h Q := rn_blk rfl
theorem b_M_sense_65 : Rj d 128 65 ls st h Q = Rn d (128, [.iload 3, .ifCond .ne 72], 69, ls, st) h Q := rn_blk rfl
theorem b_M_sense_69 : Rj d 128 69 ls st h Q = Rn d (128, [.iconst (-102), .ireturn], 0, ls, st) h Q := rn_blk rfl
theorem b_M_sense_72 : Rj d 128 72 ls st h Q = Rn d (128, [.aload 0, .getfield 770, .iload 1, .iaload, .iconst 3, .if_icmp .ne 85], 82, ls, st) h Q := rn_blk rfl
theorem b_M_sense_82 : Rj d 128 82 ls st h Q = Rn d (128, [.iconst (-104), .ireturn], 0, ls, st) h Q := rn_blk rfl
theorem b_M_sense_85 : Rj d 128 85 ls st h Q = Rn d (128, [.aload 0, .getfield 771, .iconst 3, .iload 1, .imul, .aload 0, .getfield 770, .iload 1, .iaload, .iadd, .iload 2, .iastore, .aload 0, .getfield 770, .iload 1, .dup2, .iaload, .iconst 1, .iadd, .iastore, .aload 0, .getfield 770, .iload 1, .iaload, .ireturn], 0, ls, st) h Q := rn_blk rfl
theorem b_M_isWord_0 : Rj d 129 0 ls st h Q = Rn d (129, [.iload 0, .i2l, .ldc2_w 0, .ldc2_w 15, .invokestatic 127, .freturn], 0, ls, st) h Q := rn_blk rfl
theorem b_M_senseOf_0 : Rj d 130 0 ls st h Q = Rn d (130, [.iload 1, .invokestatic 129, .ifCond .ne 10], 7, ls, st) h Q := rn_blk rfl
theorem b_M_senseOf_7 : Rj d 130 7 ls st h Q = Rn d (130, [.iconst (-101), .ireturn], 0, ls, st) h Q := rn_blk rfl
theorem b_M_senseOf_10 : Rj d 130 10 ls st h Q = Rn d (130, [.iload 2, .i2l, .ldc2_w 0, .aload 0, .getfield 770, .iload 1, .iaload, .iconst 1, .isub, .i2l, .invokestatic 127, .ifCond .eq 41], 28, ls, st) h Q := rn_blk rfl
theorem b_M_senseOf_28 : Rj d 130 28 ls st h Q = Rn d (130, [.aload 0, .getfield 771, .iconst 3, .iload 1, .imul, .iload 2, .iadd, .iaload, .goto 42], 0, ls, st) h Q := rn_blk rfl
theorem b_M_senseOf_41 : Rj d 130 41 ls st h Q = Rn d (130, [.iconst (-1)], 42, ls, st) h Q := rn_blk rfl
theorem b_M_senseOf_42 : Rj d 130 42 ls st h Q = Rn d (130, [.ireturn], 0, ls, st) h Q := rn_blk rfl
theorem b_M_saying_0 : Rj d 131 0 ls st h Q = Rn d (131, [.iload 1, .i2l, .ldc2_w 0, .ldc2_w 5, .invokestatic 127, .ifCond .eq 24], 12, ls, st) h Q := rn_blk rfl
theorem b_M_saying_12 : Rj d 131 12 ls st h Q = Rn d (131, [.iload 3, .i2l, .ldc2_w 0, .ldc2_w 23, .invokestatic 127, .ifCond .ne 27], 24, ls, st) h Q := rn_blk rfl
theorem b_M_saying_24 : Rj d 131 24 ls st h Q = Rn d (131, [.iconst (-102), .ireturn], 0, ls, st) h Q := rn_blk rfl
theorem b_M_saying_27 : Rj d 131 27 ls st h Q = Rn d (131, [.iload 2, .invokestatic 129, .ifCond .ne 37], 34, ls, st) h Q := rn_blk rfl
theorem b_M_saying_34 : Rj d 131 34 ls st h Q = Rn d (131, [.iconst (-101), .ireturn], 0, ls, st) h Q := rn_blk rfl
theorem b_M_saying_37 : Rj d 131 37 ls st h Q = Rn d (131, [.aload 0, .getfield 772, .iconst 20, .if_icmp .ne 49], 46, ls, st) h Q := rn_blk rfl
theorem b_M_saying_46 : Rj d 131 46 ls st h Q = Rn d (131, [.iconst (-104), .ireturn], 0, ls, st) h Q := rn_blk rfl
theorem b_M_saying_49 : Rj d 131 49 ls st h Q = Rn d (131, [.aload 0, .getfield 773, .aload 0, .getfield 772, .iload 1, .iastore, .aload 0, .getfield 774, .aload 0, .getfield 772, .iload 2, .iastore, .aload 0, .getfield 775, .aload 0, .getfield 772, .iload 3, .iastore, .aload 0, .dup, .getfield 772, .iconst 1, .iadd, .putfield 772, .aload 0, .getfield 772, .iconst 1, .isub, .ireturn], 0, ls, st) h Q := rn_blk rfl
theorem b_M_as_0 : Rj d 132 0 ls st h Q = Rn d (132, [.aload 0, .iload 1, .invokevirtual 133, .ifCond .ne 11], 8, ls, st) h Q := rn_blk rfl
theorem b_M_as_8 : Rj d 132 8 ls st h Q = Rn d (132, [.iconst (-101), .ireturn], 0, ls, st) h Q := rn_blk rfl
theorem b_M_as_11 : Rj d 132 11 ls st h Q = Rn d (132, [.iload 2, .i2l, .ldc2_w 0, .ldc2_w 5, .invokestatic 127, .ifCond .ne 26], 23, ls, st) h Q := rn_blk rfl
theorem b_M_as_23 : Rj d 132 23 ls st h Q = Rn d (132, [.iconst (-102), .ireturn], 0, ls, st) h Q := rn_blk rfl
theorem b_M_as_26 : Rj d 132 26 ls st h Q = Rn d (132, [.iload 2, .ifCond .eq 55], 30, ls, st) h Q := rn_blk rfl
theorem b_M_as_30 : Rj d 132 30 ls st h Q = Rn d (132, [.iload 2, .aload 0, .getfield 773, .iload 1, .iaload, .if_icmp .eq 55], 40, ls, st) h Q := rn_blk rfl
theorem b_M_as_40 : Rj d 132 40 ls st h Q = Rn d (132, [.iload 2, .iconst 2, .if_icmp .ne 59], 45, ls, st) h Q := rn_blk rfl
theorem b_M_as_45 : Rj d 132 45 ls st h Q = Rn d (132, [.aload 0, .getfield 773, .iload 1, .iaload, .iconst 3, .if_icmp .ne 59], 55, ls, st) h Q := rn_blk rfl
theorem b_M_as_55 : Rj d 132 55 ls st h Q = Rn d (132, [.iconst 1, .goto 60], 0, ls, st) h Q := rn_blk rfl
theorem b_M_as_59 : Rj d 132 59 ls st h Q = Rn d (132, [.iconst 0], 60, ls, st) h Q := rn_blk rfl
theorem b_M_as_60 : Rj d 132 60 ls st h Q = Rn d (132, [.istore 3, .iload 3, .ifCond .eq 69], 65, ls, st) h Q := rn_blk rfl
theorem b_M_as_65 : Rj d 132 65 ls st h Q = Rn d (132, [.iload 1, .goto 70], 0, ls, st) h Q := rn_blk rfl
theorem b_M_as_69 : Rj d 132 69 ls st h Q = Rn d (132, [.iconst (-1)], 70, ls, st) h Q := rn_blk rfl
theorem b_M_as_70 : Rj d 132 70 ls st h Q = Rn d (132, [.ireturn], 0, ls, st) h Q := rn_blk rfl
theorem b_M_isSaying_0 : Rj d 133 0 ls st h Q = Rn d (133, [.iload 1, .i2l, .ldc2_w 0, .aload 0, .getfield 772, .iconst 1, .isub, .i2l, .invokestatic 127, .freturn], 0, ls, st) h Q := rn_blk rfl
theorem b_M_fits_0 : Rj d 134 0 ls st h Q = Rn d (134, [.aload 0, .iload 1, .invokevirtual 133, .ifCond .eq 27], 8, ls, st) h Q := rn_blk rfl
theorem b_M_fits_8 : Rj d 134 8 ls st h Q = Rn d (134, [.aload 0, .iload 2, .invokevirtual 135, .ifCond .eq 27], 16, ls, st) h Q := rn_blk rfl
theorem b_M_fits_16 : Rj d 134 16 ls st h Q = Rn d (134, [.aload 0, .iload 1, .iload 2, .iconst 7, .invokevirtual 136, .goto 29], 0, ls, st) h Q := rn_blk rfl
theorem b_M_fits_27 : Rj d 134 27 ls st h Q = Rn d (134, [.iconst (-101)], 29, ls, st) h Q := rn_blk rfl
theorem b_M_fits_29 : Rj d 134 29 ls st h Q = Rn d (134, [.ireturn], 0, ls, st) h Q := rn_blk rfl
theorem b_M_isThing_0 : Rj d 135 0 ls st h Q = Rn d (135, [.iload 1, .i2l, .ldc2_w 0, .aload 0, .getfield 768, .iconst 1, .isub, .i2l, .invokestatic 127, .freturn], 0, ls, st) h Q := rn_blk rfl
theorem b_M_by_0 : Rj d 136 0 ls st h Q = Rn d (136, [.aload 0, .getfield 773, .iload 1, .iaload, .istore 4, .aload 0, .getfield 774, .iload 1, .iaload, .istore 5, .iload 4, .iconst 5, .if_icmp .ne 38], 22, ls, st) h Q := rn_blk rfl
theorem b_M_by_22 : Rj d 136 22 ls st h Q = Rn d (136, [.iload 2, .aload 0, .getfield 775, .iload 1, .iaload, .if_icmp .ne 36], 32, ls, st) h Q := rn_blk rfl
theorem b_M_by_32 : Rj d 136 32 ls st h Q = Rn d (136, [.iconst 0, .goto 37], 0, ls, st) h Q := rn_blk rfl
theorem b_M_by_36 : Rj d 136 36 ls st h Q = Rn d (136, [.iconst (-1)], 37, ls, st) h Q := rn_blk rfl
theorem b_M_by_37 : Rj d 136 37 ls st h Q = Rn d (136, [.ireturn], 0, ls, st) h Q := rn_blk rfl
theorem b_M_by_38 : Rj d 136 38 ls st h Q = Rn d (136, [.iload 4, .iconst 4, .if_icmp .ne 62], 44, ls, st) h Q := rn_blk rfl
theorem b_M_by_44 : Rj d 136 44 ls st h Q = Rn d (136, [.aload 0, .getfield 769, .iload 2, .iaload, .invokestatic 137, .aload 0, .getfield 775, .iload 1, .iaload, .if_icmp .lt 95], 62, ls, st) h Q := rn_blk rfl
theorem b_M_by_62 : Rj d 136 62 ls st h Q = Rn d (136, [.iload 4, .iconst 3, .if_icmp .ne 99], 68, ls, st) h Q := rn_blk rfl
theorem b_M_by_68 : Rj d 136 68 ls st h Q = Rn d (136, [.aload 0, .getfield 770, .iload 5, .iaload, .ifCond .le 99], 78, ls, st) h Q := rn_blk rfl
theorem b_M_by_78 : Rj d 136 78 ls st h Q = Rn d (136, [.aload 0, .iload 2, .aload 0, .getfield 771, .iconst 3, .iload 5, .imul, .iaload, .invokevirtual 138, .ifCond .eq 99], 95, ls, st) h Q := rn_blk rfl
theorem b_M_by_95 : Rj d 136 95 ls st h Q = Rn d (136, [.iconst 1, .goto 100], 0, ls, st) h Q := rn_blk rfl
theorem b_M_by_99 : Rj d 136 99 ls st h Q = Rn d (136, [.iconst 0], 100, ls, st) h Q := rn_blk rfl
theorem b_M_by_100 : Rj d 136 100 ls st h Q = Rn d (136, [.istore 6, .iconst (-1), .istore 7, .aload 0, .getfield 770, .iload 5, .iaload, .iconst 1, .isub, .istore 8], 116, ls, st) h Q := rn_blk rfl
theorem b_M_by_116 : Rj d 136 116 ls st h Q = Rn d (136, [.iload 8, .ifCond .lt 221], 121, ls, st) h Q := rn_blk rfl
theorem b_M_by_121 : Rj d 136 121 ls st h Q = Rn d (136, [.iload 3, .iload 8, .ishr, .iconst 1, .iand, .iconst 1, .if_icmp .ne 155], 131, ls, st) h Q := rn_blk rfl
theorem b_M_by_131 : Rj d 136 131 ls st h Q = Rn d (136, [.aload 0, .iload 2, .aload 0, .getfield 771, .iconst 3, .iload 5, .imul, .iload 8, .iadd, .iaload, .invokevirtual 138, .ifCond .eq 155], 151, ls, st) h Q := rn_blk rfl
theorem b_M_by_151 : Rj d 136 151 ls st h Q = Rn d (136, [.iconst 1, .goto 156], 0, ls, st) h Q := rn_blk rfl
theorem b_M_by_155 : Rj d 136 155 ls st h Q = Rn d (136, [.iconst 0], 156, ls, st) h Q := rn_blk rfl
theorem b_M_by_156 : Rj d 136 156 ls st h Q = Rn d (136, [.istore 9, .iload 9, .ifCond .eq 198], 163, ls, st) h Q := rn_blk rfl
theorem b_M_by_163 : Rj d 136 163 ls st h Q = Rn d (136, [.iload 4, .iconst 1, .if_icmp .ne 177], 169, ls, st) h Q := rn_blk rfl
theorem b_M_by_169 : Rj d 136 169 ls st h Q = Rn d (136, [.iload 8, .ifCond .ne 198], 174, ls, st) h Q := rn_blk rfl
theorem b_M_by_174 : Rj d 136 174 ls st h Q = Rn d (136, [.goto 194], 0, ls, st) h Q := rn_blk rfl
theorem b_M_by_177 : Rj d 136 177 ls st h Q = Rn d (136, [.iload 4, .iconst 2, .if_icmp .eq 189], 183, ls, st) h Q := rn_blk rfl
theorem b_M_by_183 : Rj d 136 183 ls st h Q = Rn d (136, [.iload 4, .iconst 3, .if_icmp .ne 194], 189, ls, st) h Q := rn_blk rfl
theorem b_M_by_189 : Rj d 136 189 ls st h Q = Rn d (136, [.iload 8, .ifCond .le 198], 194, ls, st) h Q := rn_blk rfl
theorem b_M_by_194 : Rj d 136 194 ls st h Q = Rn d (136, [.iconst 1, .goto 199], 0, ls, st) h Q := rn_blk rfl
theorem b_M_by_198 : Rj d 136 198 ls st h Q = Rn d (136, [.iconst 0], 199, ls, st) h Q := rn_blk rfl
theorem b_M_by_199 : Rj d 136 199 ls st h Q = Rn d (136, [.istore 9, .iload 9, .ifCond .eq 211], 206, ls, st) h Q := rn_blk rfl
theorem b_M_by_206 : Rj d 136 206 ls st h Q = Rn d (136, [.iload 8, .goto 213], 0, ls, st) h Q := rn_blk rfl
theorem b_M_by_211 : Rj d 136 211 ls st h Q = Rn d (136, [.iload 7], 213, ls, st) h Q := rn_blk rfl
theorem b_M_by_213 : Rj d 136 213 ls st h Q = Rn d (136, [.istore 7, .iinc 8 (-1), .goto 116], 0, ls, st) h Q := rn_blk rfl
theorem b_M_by_221 : Rj d 136 221 ls st h Q = Rn d (136, [.iload 6, .ifCond .eq 230], 226, ls, st) h Q := rn_blk rfl
theorem b_M_by_226 : Rj d 136 226 ls st h Q = Rn d (136, [.iconst (-1), .goto 232], 0, ls, st) h Q := rn_blk rfl
theorem b_M_by_230 : Rj d 136 230 ls st h Q = Rn d (136, [.iload 7], 232, ls, st) h Q := rn_blk rfl
theorem b_M_by_232 : Rj d 136 232 ls st h Q = Rn d (136, [.ireturn], 0, ls, st) h Q := rn_blk rfl
theorem b_M_bitsOf_0 : Rj d 137 0 ls st h Q = Rn d (137, [.iconst 0, .istore 1, .iconst 0, .istore 2], 4, ls, st) h Q := rn_blk rfl
theorem b_M_bitsOf_4 : Rj d 137 4 ls st h Q = Rn d (137, [.iload 2, .iconst 24, .if_icmp .ge 24], 10, ls, st) h Q := rn_blk rfl
theorem b_M_bitsOf_10 : Rj d 137 10 ls st h Q = Rn d (137, [.iload 1, .iload 0, .iload 2, .ishr, .iconst 1, .iand, .iadd, .istore 1, .iinc 2 1, .goto 4], 0, ls, st) h Q := rn_blk rfl
theorem b_M_bitsOf_24 : Rj d 137 24 ls st h Q = Rn d (137, [.iload 1, .ireturn], 0, ls, st) h Q := rn_blk rfl
theorem b_M_has_0 : Rj d 138 0 ls st h Q = Rn d (138, [.aload 0, .getfield 769, .iload 1, .iaload, .iload 2, .ishr, .iconst 1, .iand, .iconst 1, .if_icmp .ne 18], 14, ls, st) h Q := rn_blk rfl
theorem b_M_has_14 : Rj d 138 14 ls st h Q = Rn d (138, [.iconst 1, .goto 19], 0, ls, st) h Q := rn_blk rfl
theorem b_M_has_18 : Rj d 138 18 ls st h Q = Rn d (138, [.iconst 0], 19, ls, st) h Q := rn_blk rfl
theorem b_M_has_19 : Rj d 138 19 ls st h Q = Rn d (138, [.freturn], 0, ls, st) h Q := rn_blk rfl
theorem b_M_riddle_0 : Rj d 139 0 ls st h Q = Rn d (139, [.aload 0, .iload 1, .invokevirtual 133, .ifCond .ne 11], 8, ls, st) h Q := rn_blk rfl
theorem b_M_riddle_8 : Rj d 139 8 ls st h Q = Rn d (139, [.iconst (-101), .ireturn], 0, ls, st) h Q := rn_blk rfl
theorem b_M_riddle_11 : Rj d 139 11 ls st h Q = Rn d (139, [.aload 0, .getfield 776, .iconst 10, .if_icmp .ne 23], 20, ls, st) h Q := rn_blk rfl
theorem b_M_riddle_20 : Rj d 139 20 ls st h Q = Rn d (139, [.iconst (-104), .ireturn], 0, ls, st) h Q := rn_blk rfl
theorem b_M_riddle_23 : Rj d 139 23 ls st h Q = Rn d (139, [.aload 0, .getfield 777, .aload 0, .getfield 776, .iconst 1, .iastore, .aload 0, .getfield 778, .iconst 6, .aload 0, .getfield 776, .imul, .iload 1, .iastore, .aload 0, .dup, .getfield 776, .iconst 1, .iadd, .putfield 776, .aload 0, .getfield 776, .iconst 1, .isub, .ireturn], 0, ls, st) h Q := rn_blk rfl
theorem b_M_more_0 : Rj d 140 0 ls st h Q = Rn d (140, [.aload 0, .iload 1, .invokevirtual 141, .ifCond .eq 16], 8, ls, st) h Q := rn_blk rfl
theorem b_M_more_8 : Rj d 140 8 ls st h Q = Rn d (140, [.aload 0, .iload 2, .invokevirtual 133, .ifCond .ne 19], 16, ls, st) h Q := rn_blk rfl
theorem b_M_more_16 : Rj d 140 16 ls st h Q = Rn d (140, [.iconst (-101), .ireturn], 0, ls, st) h Q := rn_blk rfl
theorem b_M_more_19 : Rj d 140 19 ls st h Q = Rn d (140, [.aload 0, .getfield 777, .iload 1, .iaload, .iconst 6, .if_icmp .ne 33], 30, ls, st) h Q := rn_blk rfl
theorem b_M_more_30 : Rj d 140 30 ls st h Q = Rn d (140, [.iconst (-104), .ireturn], 0, ls, st) h Q := rn_blk rfl
theorem b_M_more_33 : Rj d 140 33 ls st h Q = Rn d (140, [.aload 0, .getfield 778, .iconst 6, .iload 1, .imul, .aload 0, .getfield 777, .iload 1, .iaload, .iadd, .iload 2, .iastore, .aload 0, .getfield 777, .iload 1, .dup2, .iaload, .iconst 1, .iadd, .iastore, .aload 0, .getfield 777, .iload 1, .iaload, .ireturn], 0, ls, st) h Q := rn_blk rfl
theorem b_M_isRiddle_0 : Rj d 141 0 ls st h Q = Rn d (141, [.iload 1, .i2l, .ldc2_w 0, .aload 0, .getfield 776, .iconst 1, .isub, .i2l, .invokestatic 127, .freturn], 0, ls, st) h Q := rn_blk rfl
theorem b_M_said_0 : Rj d 142 0 ls st h Q = Rn d (142, [.aload 0, .iload 1, .invokevirtual 141, .ifCond .ne 11], 8, ls, st) h Q := rn_blk rfl
theorem b_M_said_8 : Rj d 142 8 ls st h Q = Rn d (142, [.iconst (-101), .ireturn], 0, ls, st) h Q := rn_blk rfl
theorem b_M_said_11 : Rj d 142 11 ls st h Q = Rn d (142, [.iload 2, .i2l, .ldc2_w 0, .aload 0, .getfield 777, .iload 1, .iaload, .iconst 1, .isub, .i2l, .invokestatic 127, .ifCond .eq 43], 29, ls, st) h Q := rn_blk rfl
theorem b_M_said_29 : Rj d 142 29 ls st h Q = Rn d (142, [.aload 0, .getfield 778, .iconst 6, .iload 1, .imul, .iload 2, .iadd, .iaload, .goto 44], 0, ls, st) h Q := rn_blk rfl
theorem b_M_said_43 : Rj d 142 43 ls st h Q = Rn d (142, [.iconst (-1)], 44, ls, st) h Q := rn_blk rfl
theorem b_M_said_44 : Rj d 142 44 ls st h Q = Rn d (142, [.ireturn], 0, ls, st) h Q := rn_blk rfl
theorem b_M_answers_0 : Rj d 143 0 ls st h Q = Rn d (143, [.aload 0, .iload 1, .invokevirtual 141, .ifCond .eq 16], 8, ls, st) h Q := rn_blk rfl
theorem b_M_answers_8 : Rj d 143 8 ls st h Q = Rn d (143, [.aload 0, .iload 1, .invokevirtual 144, .goto 18], 0, ls, st) h Q := rn_blk rfl
theorem b_M_answers_16 : Rj d 143 16 ls st h Q = Rn d (143, [.iconst (-101)], 18, ls, st) h Q := rn_blk rfl
theorem b_M_answers_18 : Rj d 143 18 ls st h Q = Rn d (143, [.ireturn], 0, ls, st) h Q := rn_blk rfl
theorem b_M_answersOf_0 : Rj d 144 0 ls st h Q = Rn d (144, [.aload 0, .iload 1, .iconst (-1), .iconst 7, .invokevirtual 145, .ireturn], 0, ls, st) h Q := rn_blk rfl
theorem b_M_answersBy_0 : Rj d 145 0 ls st h Q = Rn d (145, [.iconst 0, .istore 4, .iconst 0, .istore 5], 6, ls, st) h Q := rn_blk rfl
theorem b_M_answersBy_6 : Rj d 145 6 ls st h Q = Rn d (145, [.iload 5, .aload 0, .getfield 768, .if_icmp .ge 103], 15, ls, st) h Q := rn_blk rfl
theorem b_M_answersBy_15 : Rj d 145 15 ls st h Q = Rn d (145, [.iconst 1, .istore 6, .iconst 0, .istore 7], 21, ls, st) h Q := rn_blk rfl
theorem b_M_answersBy_21 : Rj d 145 21 ls st h Q = Rn d (145, [.iload 7, .aload 0, .getfield 777, .iload 1, .iaload, .if_icmp .ge 79], 32, ls, st) h Q := rn_blk rfl
theorem b_M_answersBy_32 : Rj d 145 32 ls st h Q = Rn d (145, [.iload 6, .ifCond .eq 70], 37, ls, st) h Q := rn_blk rfl
theorem b_M_answersBy_37 : Rj d 145 37 ls st h Q = Rn d (145, [.iload 7, .iload 2, .if_icmp .eq 66], 43, ls, st) h Q := rn_blk rfl
theorem b_M_answersBy_43 : Rj d 145 43 ls st h Q = Rn d (145, [.aload 0, .aload 0, .getfield 778, .iconst 6, .iload 1, .imul, .iload 7, .iadd, .iaload, .iload 5, .iload 3, .invokevirtual 136, .iconst (-1), .if_icmp .eq 70], 66, ls, st) h Q := rn_blk rfl
theorem b_M_answersBy_66 : Rj d 145 66 ls st h Q = Rn d (145, [.iconst 1, .goto 71], 0, ls, st) h Q := rn_blk rfl
theorem b_M_answersBy_70 : Rj d 145 70 ls st h Q = Rn d (145, [.iconst 0], 71, ls, st) h Q := rn_blk rfl
theorem b_M_answersBy_71 : Rj d 145 71 ls st h Q = Rn d (145, [.istore 6, .iinc 7 1, .goto 21], 0, ls, st) h Q := rn_blk rfl
theorem b_M_answersBy_79 : Rj d 145 79 ls st h Q = Rn d (145, [.iload 4, .iload 6, .ifCond .eq 93], 86, ls, st) h Q := rn_blk rfl
theorem b_M_answersBy_86 : Rj d 145 86 ls st h Q = Rn d (145, [.iconst 1, .iload 5, .ishl, .goto 94], 0, ls, st) h Q := rn_blk rfl
theorem b_M_answersBy_93 : Rj d 145 93 ls st h Q = Rn d (145, [.iconst 0], 94, ls, st) h Q := rn_blk rfl
theorem b_M_answersBy_94 : Rj d 145 94 ls st h Q = Rn d (145, [.ior, .istore 4, .iinc 5 1, .goto 6], 0, ls, st) h Q := rn_blk rfl
theorem b_M_answersBy_103 : Rj d 145 103 ls st h Q = Rn d (145, [.iload 4, .ireturn], 0, ls, st) h Q := rn_blk rfl
theorem b_M_turns_0 : Rj d 146 0 ls st h Q = Rn d (146, [.aload 0, .iload 1, .invokevirtual 141, .ifCond .eq 25], 8, ls, st) h Q := rn_blk rfl
theorem b_M_turns_8 : Rj d 146 8 ls st h Q = Rn d (146, [.aload 0, .iload 2, .invokevirtual 135, .ifCond .eq 25], 16, ls, st) h Q := rn_blk rfl
theorem b_M_turns_16 : Rj d 146 16 ls st h Q = Rn d (146, [.aload 0, .iload 1, .iload 2, .invokevirtual 147, .goto 27], 0, ls, st) h Q := rn_blk rfl
theorem b_M_turns_25 : Rj d 146 25 ls st h Q = Rn d (146, [.iconst (-101)], 27, ls, st) h Q := rn_blk rfl
theorem b_M_turns_27 : Rj d 146 27 ls st h Q = Rn d (146, [.ireturn], 0, ls, st) h Q := rn_blk rfl
theorem b_M_turnsOf_0 : Rj d 147 0 ls st h Q = Rn d (147, [.iconst 0, .istore 3, .iconst 0, .istore 4], 5, ls, st) h Q := rn_blk rfl
theorem b_M_turnsOf_5 : Rj d 147 5 ls st h Q = Rn d (147, [.iload 4, .aload 0, .getfield 777, .iload 1, .iaload, .if_icmp .ge 52], 16, ls, st) h Q := rn_blk rfl
theorem b_M_turnsOf_16 : Rj d 147 16 ls st h Q = Rn d (147, [.iload 3, .aload 0, .aload 0, .getfield 778, .iconst 6, .iload 1, .imul, .iload 4, .iadd, .iaload, .iload 2, .iconst 7, .invokevirtual 136, .ifCond .le 43], 39, ls, st) h Q := rn_blk rfl
theorem b_M_turnsOf_39 : Rj d 147 39 ls st h Q = Rn d (147, [.iconst 1, .goto 44], 0, ls, st) h Q := rn_blk rfl
theorem b_M_turnsOf_43 : Rj d 147 43 ls st h Q = Rn d (147, [.iconst 0], 44, ls, st) h Q := rn_blk rfl
theorem b_M_turnsOf_44 : Rj d 147 44 ls st h Q = Rn d (147, [.iadd, .istore 3, .iinc 4 1, .goto 5], 0, ls, st) h Q := rn_blk rfl
theorem b_M_turnsOf_52 : Rj d 147 52 ls st h Q = Rn d (147, [.aload 0, .iload 1, .invokevirtual 144, .iload 2, .ishr, .iconst 1, .iand, .iconst 1, .if_icmp .ne 69], 65, ls, st) h Q := rn_blk rfl
theorem b_M_turnsOf_65 : Rj d 147 65 ls st h Q = Rn d (147, [.iload 3, .goto 70], 0, ls, st) h Q := rn_blk rfl
theorem b_M_turnsOf_69 : Rj d 147 69 ls st h Q = Rn d (147, [.iconst (-1)], 70, ls, st) h Q := rn_blk rfl
theorem b_M_turnsOf_70 : Rj d 147 70 ls st h Q = Rn d (147, [.ireturn], 0, ls, st) h Q := rn_blk rfl
theorem b_M_judge_0 : Rj d 148 0 ls st h Q = Rn d (148, [.aload 0, .iload 1, .invokevirtual 141, .ifCond .eq 24], 8, ls, st) h Q := rn_blk rfl
theorem b_M_judge_8 : Rj d 148 8 ls st h Q = Rn d (148, [.aload 0, .iload 2, .invokevirtual 135, .ifCond .eq 24], 16, ls, st) h Q := rn_blk rfl
theorem b_M_judge_16 : Rj d 148 16 ls st h Q = Rn d (148, [.aload 0, .iload 3, .invokevirtual 135, .ifCond .ne 27], 24, ls, st) h Q := rn_blk rfl
theorem b_M_judge_24 : Rj d 148 24 ls st h Q = Rn d (148, [.iconst (-101), .ireturn], 0, ls, st) h Q := rn_blk rfl
theorem b_M_judge_27 : Rj d 148 27 ls st h Q = Rn d (148, [.aload 0, .iload 1, .iload 2, .invokevirtual 147, .istore 4, .aload 0, .iload 1, .iload 3, .invokevirtual 147, .istore 5, .iload 4, .iconst (-1), .if_icmp .eq 55], 49, ls, st) h Q := rn_blk rfl
theorem b_M_judge_49 : Rj d 148 49 ls st h Q = Rn d (148, [.iload 5, .iconst (-1), .if_icmp .ne 77], 55, ls, st) h Q := rn_blk rfl
theorem b_M_judge_55 : Rj d 148 55 ls st h Q = Rn d (148, [.iload 4, .iconst (-1), .if_icmp .eq 65], 61, ls, st) h Q := rn_blk rfl
theorem b_M_judge_61 : Rj d 148 61 ls st h Q = Rn d (148, [.iload 2, .goto 76], 0, ls, st) h Q := rn_blk rfl
theorem b_M_judge_65 : Rj d 148 65 ls st h Q = Rn d (148, [.iload 5, .iconst (-1), .if_icmp .eq 75], 71, ls, st) h Q := rn_blk rfl
theorem b_M_judge_71 : Rj d 148 71 ls st h Q = Rn d (148, [.iload 3, .goto 76], 0, ls, st) h Q := rn_blk rfl
theorem b_M_judge_75 : Rj d 148 75 ls st h Q = Rn d (148, [.iconst (-1)], 76, ls, st) h Q := rn_blk rfl
theorem b_M_judge_76 : Rj d 148 76 ls st h Q = Rn d (148, [.ireturn], 0, ls, st) h Q := rn_blk rfl
theorem b_M_judge_77 : Rj d 148 77 ls st h Q = Rn d (148, [.iload 4, .iload 5, .if_icmp .lt 96], 84, ls, st) h Q := rn_blk rfl
theorem b_M_judge_84 : Rj d 148 84 ls st h Q = Rn d (148, [.iload 4, .iload 5, .if_icmp .ne 100], 91, ls, st) h Q := rn_blk rfl
theorem b_M_judge_91 : Rj d 148 91 ls st h Q = Rn d (148, [.iload 2, .iload 3, .if_icmp .ge 100], 96, ls, st) h Q := rn_blk rfl
theorem b_M_judge_96 : Rj d 148 96 ls st h Q = Rn d (148, [.iload 2, .goto 101], 0, ls, st) h Q := rn_blk rfl
theorem b_M_judge_100 : Rj d 148 100 ls st h Q = Rn d (148, [.iload 3], 101, ls, st) h Q := rn_blk rfl
theorem b_M_judge_101 : Rj d 148 101 ls st h Q = Rn d (148, [.ireturn], 0, ls, st) h Q := rn_blk rfl
theorem b_M_astray_0 : Rj d 149 0 ls st h Q = Rn d (149, [.aload 0, .iload 1, .invokevirtual 141, .ifCond .ne 11], 8, ls, st) h Q := rn_blk rfl
theorem b_M_astray_8 : Rj d 149 8 ls st h Q = Rn d (149, [.iconst (-101), .ireturn], 0, ls, st) h Q := rn_blk rfl
theorem b_M_astray_11 : Rj d 149 11 ls st h Q = Rn d (149, [.iload 2, .i2l, .ldc2_w 0, .ldc2_w 1, .invokestatic 127, .ifCond .ne 24], 21, ls, st) h Q := rn_blk rfl
theorem b_M_astray_21 : Rj d 149 21 ls st h Q = Rn d (149, [.iconst (-102), .ireturn], 0, ls, st) h Q := rn_blk rfl
theorem b_M_astray_24 : Rj d 149 24 ls st h Q = Rn d (149, [.iconst (-1), .istore 3, .iconst (-1), .istore 4, .iconst 0, .istore 5], 32, ls, st) h Q := rn_blk rfl
theorem b_M_astray_32 : Rj d 149 32 ls st h Q = Rn d (149, [.iload 5, .aload 0, .getfield 777, .iload 1, .iaload, .if_icmp .ge 93], 43, ls, st) h Q := rn_blk rfl
theorem b_M_astray_43 : Rj d 149 43 ls st h Q = Rn d (149, [.aload 0, .iload 1, .iload 5, .iconst 7, .invokevirtual 145, .invokestatic 137, .istore 6, .iload 6, .iload 4, .if_icmp .le 69], 64, ls, st) h Q := rn_blk rfl
theorem b_M_astray_64 : Rj d 149 64 ls st h Q = Rn d (149, [.iload 5, .goto 70], 0, ls, st) h Q := rn_blk rfl
theorem b_M_astray_69 : Rj d 149 69 ls st h Q = Rn d (149, [.iload 3], 70, ls, st) h Q := rn_blk rfl
theorem b_M_astray_70 : Rj d 149 70 ls st h Q = Rn d (149, [.istore 3, .iload 6, .iload 4, .if_icmp .le 83], 78, ls, st) h Q := rn_blk rfl
theorem b_M_astray_78 : Rj d 149 78 ls st h Q = Rn d (149, [.iload 6, .goto 85], 0, ls, st) h Q := rn_blk rfl
theorem b_M_astray_83 : Rj d 149 83 ls st h Q = Rn d (149, [.iload 4], 85, ls, st) h Q := rn_blk rfl
theorem b_M_astray_85 : Rj d 149 85 ls st h Q = Rn d (149, [.istore 4, .iinc 5 1, .goto 32], 0, ls, st) h Q := rn_blk rfl
theorem b_M_astray_93 : Rj d 149 93 ls st h Q = Rn d (149, [.iload 2, .ifCond .ne 101], 97, ls, st) h Q := rn_blk rfl
theorem b_M_astray_97 : Rj d 149 97 ls st h Q = Rn d (149, [.iload 3, .goto 103], 0, ls, st) h Q := rn_blk rfl
theorem b_M_astray_101 : Rj d 149 101 ls st h Q = Rn d (149, [.iload 4], 103, ls, st) h Q := rn_blk rfl
theorem b_M_astray_103 : Rj d 149 103 ls st h Q = Rn d (149, [.ireturn], 0, ls, st) h Q := rn_blk rfl
theorem b_M_made_0 : Rj d 150 0 ls st h Q = Rn d (150, [.aload 0, .iload 1, .invokevirtual 135, .ifCond .ne 11], 8, ls, st) h Q := rn_blk rfl
theorem b_M_made_8 : Rj d 150 8 ls st h Q = Rn d (150, [.iconst (-101), .ireturn], 0, ls, st) h Q := rn_blk rfl
theorem b_M_made_11 : Rj d 150 11 ls st h Q = Rn d (150, [.iload 2, .i2l, .ldc2_w 1, .ldc2_w 6, .invokestatic 127, .ifCond .ne 26], 23, ls, st) h Q := rn_blk rfl
theorem b_M_made_23 : Rj d 150 23 ls st h Q = Rn d (150, [.iconst (-102), .ireturn], 0, ls, st) h Q := rn_blk rfl
theorem b_M_made_26 : Rj d 150 26 ls st h Q = Rn d (150, [.aload 0, .getfield 779, .iconst 20, .if_icmp .ne 38], 35, ls, st) h Q := rn_blk rfl
theorem b_M_made_35 : Rj d 150 35 ls st h Q = Rn d (150, [.iconst (-103), .ireturn], 0, ls, st) h Q := rn_blk rfl
theorem b_M_made_38 : Rj d 150 38 ls st h Q = Rn d (150, [.aload 0, .dup, .getfield 779, .iconst 1, .iadd, .putfield 779, .iconst 0, .istore 3], 50, ls, st) h Q := rn_blk rfl
theorem b_M_made_50 : Rj d 150 50 ls st h Q = Rn d (150, [.iload 3, .aload 0, .getfield 772, .if_icmp .ge 141], 58, ls, st) h Q := rn_blk rfl
theorem b_M_made_58 : Rj d 150 58 ls st h Q = Rn d (150, [.aload 0, .getfield 780, .iload 3, .iconst 0, .iastore, .iconst 0, .istore 4], 68, ls, st) h Q := rn_blk rfl
theorem b_M_made_68 : Rj d 150 68 ls st h Q = Rn d (150, [.iload 4, .aload 0, .getfield 768, .if_icmp .ge 113], 77, ls, st) h Q := rn_blk rfl
theorem b_M_made_77 : Rj d 150 77 ls st h Q = Rn d (150, [.aload 0, .getfield 780, .iload 3, .dup2, .iaload, .aload 0, .iload 3, .iload 4, .iconst 7, .invokevirtual 136, .iconst (-1), .if_icmp .eq 104], 97, ls, st) h Q := rn_blk rfl
theorem b_M_made_97 : Rj d 150 97 ls st h Q = Rn d (150, [.iconst 1, .iload 4, .ishl, .goto 105], 0, ls, st) h Q := rn_blk rfl
theorem b_M_made_104 : Rj d 150 104 ls st h Q = Rn d (150, [.iconst 0], 105, ls, st) h Q := rn_blk rfl
theorem b_M_made_105 : Rj d 150 105 ls st h Q = Rn d (150, [.ior, .iastore, .iinc 4 1, .goto 68], 0, ls, st) h Q := rn_blk rfl
theorem b_M_made_113 : Rj d 150 113 ls st h Q = Rn d (150, [.aload 0, .getfield 781, .iload 3, .aload 0, .iload 3, .iload 1, .iconst 7, .invokevirtual 136, .ifCond .le 133], 129, ls, st) h Q := rn_blk rfl
theorem b_M_made_129 : Rj d 150 129 ls st h Q = Rn d (150, [.iconst 1, .goto 134], 0, ls, st) h Q := rn_blk rfl
theorem b_M_made_133 : Rj d 150 133 ls st h Q = Rn d (150, [.iconst 0], 134, ls, st) h Q := rn_blk rfl
theorem b_M_made_134 : Rj d 150 134 ls st h Q = Rn d (150, [.iastore, .iinc 3 1, .goto 50], 0, ls, st) h Q := rn_blk rfl
theorem b_M_made_141 : Rj d 150 141 ls st h Q = Rn d (150, [.iconst 1, .istore 3], 143, ls, st) h Q := rn_blk rfl
theorem b_M_made_143 : Rj d 150 143 ls st h Q = Rn d (150, [.iload 3, .iload 2, .if_icmp .gt 179], 148, ls, st) h Q := rn_blk rfl
theorem b_M_made_148 : Rj d 150 148 ls st h Q = Rn d (150, [.iload 3, .aload 0, .getfield 772, .if_icmp .gt 179], 156, ls, st) h Q := rn_blk rfl
theorem b_M_made_156 : Rj d 150 156 ls st h Q = Rn d (150, [.aload 0, .iload 1, .iload 3, .invokevirtual 151, .istore 4, .iload 4, .iconst (-1), .if_icmp .eq 173], 170, ls, st) h Q := rn_blk rfl
theorem b_M_made_170 : Rj d 150 170 ls st h Q = Rn d (150, [.iload 4, .ireturn], 0, ls, st) h Q := rn_blk rfl
theorem b_M_made_173 : Rj d 150 173 ls st h Q = Rn d (150, [.iinc 3 1, .goto 143], 0, ls, st) h Q := rn_blk rfl
theorem b_M_made_179 : Rj d 150 179 ls st h Q = Rn d (150, [.iconst (-1), .ireturn], 0, ls, st) h Q := rn_blk rfl
theorem b_M_bestOf_0 : Rj d 151 0 ls st h Q = Rn d (151, [.iconst (-1), .istore 3, .iconst (-1), .istore 4, .iconst 1, .iload 2, .ishl, .iconst 1, .isub, .istore 5], 12, ls, st) h Q := rn_blk rfl
theorem b_M_bestOf_12 : Rj d 151 12 ls st h Q = Rn d (151, [.iload 5, .iconst 1, .aload 0, .getfield 772, .ishl, .if_icmp .ge 144], 23, ls, st) h Q := rn_blk rfl
theorem b_M_bestOf_23 : Rj d 151 23 ls st h Q = Rn d (151, [.iconst 1, .aload 0, .getfield 768, .ishl, .iconst 1, .isub, .istore 6, .iconst 0, .istore 7, .iconst 0, .istore 8], 39, ls, st) h Q := rn_blk rfl
theorem b_M_bestOf_39 : Rj d 151 39 ls st h Q = Rn d (151, [.iload 8, .aload 0, .getfield 772, .if_icmp .ge 89], 48, ls, st) h Q := rn_blk rfl
theorem b_M_bestOf_48 : Rj d 151 48 ls st h Q = Rn d (151, [.iload 5, .iload 8, .ishr, .iconst 1, .iand, .iconst 1, .if_icmp .ne 83], 59, ls, st) h Q := rn_blk rfl
theorem b_M_bestOf_59 : Rj d 151 59 ls st h Q = Rn d (151, [.iload 6, .aload 0, .getfield 780, .iload 8, .iaload, .iand, .istore 6, .iload 7, .aload 0, .getfield 781, .iload 8, .iaload, .iadd, .istore 7], 83, ls, st) h Q := rn_blk rfl
theorem b_M_bestOf_83 : Rj d 151 83 ls st h Q = Rn d (151, [.iinc 8 1, .goto 39], 0, ls, st) h Q := rn_blk rfl
theorem b_M_bestOf_89 : Rj d 151 89 ls st h Q = Rn d (151, [.iload 6, .iconst 1, .iload 1, .ishl, .if_icmp .ne 111], 97, ls, st) h Q := rn_blk rfl
theorem b_M_bestOf_97 : Rj d 151 97 ls st h Q = Rn d (151, [.iload 7, .iload 4, .if_icmp .le 111], 104, ls, st) h Q := rn_blk rfl
theorem b_M_bestOf_104 : Rj d 151 104 ls st h Q = Rn d (151, [.iload 5, .istore 3, .iload 7, .istore 4], 111, ls, st) h Q := rn_blk rfl
theorem b_M_bestOf_111 : Rj d 151 111 ls st h Q = Rn d (151, [.iload 5, .iload 5, .ineg, .iand, .istore 8, .iload 5, .iload 8, .iadd, .istore 9, .iload 9, .iload 5, .ixor, .iconst 2, .iushr, .iload 8, .idiv, .iload 9, .ior, .istore 5, .goto 12], 0, ls, st) h Q := rn_blk rfl
theorem b_M_bestOf_144 : Rj d 151 144 ls st h Q = Rn d (151, [.iload 3, .ireturn], 0, ls, st) h Q := rn_blk rfl
theorem b_M_head_0 : Rj d 152 0 ls st h Q = Rn d (152, [.iload 1, .i2l, .ldc2_w 0, .ldc2_w 99, .invokestatic 127, .ifCond .eq 24], 12, ls, st) h Q := rn_blk rfl
theorem b_M_head_12 : Rj d 152 12 ls st h Q = Rn d (152, [.iload 2, .i2l, .ldc2_w 0, .ldc2_w 99, .invokestatic 127, .ifCond .ne 27], 24, ls, st) h Q := rn_blk rfl
theorem b_M_head_24 : Rj d 152 24 ls st h Q = Rn d (152, [.iconst (-102), .ireturn], 0, ls, st) h Q := rn_blk rfl
theorem b_M_head_27 : Rj d 152 27 ls st h Q = Rn d (152, [.aload 0, .getfield 782, .iconst 6, .if_icmp .ne 39], 36, ls, st) h Q := rn_blk rfl
theorem b_M_head_36 : Rj d 152 36 ls st h Q = Rn d (152, [.iconst (-104), .ireturn], 0, ls, st) h Q := rn_blk rfl
theorem b_M_head_39 : Rj d 152 39 ls st h Q = Rn d (152, [.aload 0, .getfield 783, .aload 0, .getfield 782, .iload 1, .iastore, .aload 0, .getfield 784, .aload 0, .getfield 782, .iload 2, .iastore, .aload 0, .dup, .getfield 782, .iconst 1, .iadd, .putfield 782, .aload 0, .getfield 782, .iconst 1, .isub, .ireturn], 0, ls, st) h Q := rn_blk rfl
theorem b_M_hears_0 : Rj d 153 0 ls st h Q = Rn d (153, [.aload 0, .iload 1, .invokevirtual 154, .ifCond .eq 16], 8, ls, st) h Q := rn_blk rfl
theorem b_M_hears_8 : Rj d 153 8 ls st h Q = Rn d (153, [.aload 0, .iload 2, .invokevirtual 141, .ifCond .ne 19], 16, ls, st) h Q := rn_blk rfl
theorem b_M_hears_16 : Rj d 153 16 ls st h Q = Rn d (153, [.iconst (-101), .ireturn], 0, ls, st) h Q := rn_blk rfl
theorem b_M_hears_19 : Rj d 153 19 ls st h Q = Rn d (153, [.iload 3, .i2l, .ldc2_w 0, .ldc2_w 1, .invokestatic 127, .ifCond .ne 32], 29, ls, st) h Q := rn_blk rfl
theorem b_M_hears_29 : Rj d 153 29 ls st h Q = Rn d (153, [.iconst (-102), .ireturn], 0, ls, st) h Q := rn_blk rfl
theorem b_M_hears_32 : Rj d 153 32 ls st h Q = Rn d (153, [.aload 0, .iload 1, .iload 2, .invokevirtual 155, .istore 4, .iload 3, .ifCond .ne 49], 44, ls, st) h Q := rn_blk rfl
theorem b_M_hears_44 : Rj d 153 44 ls st h Q = Rn d (153, [.iload 4, .goto 53], 0, ls, st) h Q := rn_blk rfl
theorem b_M_hears_49 : Rj d 153 49 ls st h Q = Rn d (153, [.aload 0, .getfield 785], 53, ls, st) h Q := rn_blk rfl
theorem b_M_hears_53 : Rj d 153 53 ls st h Q = Rn d (153, [.ireturn], 0, ls, st) h Q := rn_blk rfl
theorem b_M_isHead_0 : Rj d 154 0 ls st h Q = Rn d (154, [.iload 1, .i2l, .ldc2_w 0, .aload 0, .getfield 782, .iconst 1, .isub, .i2l, .invokestatic 127, .freturn], 0, ls, st) h Q := rn_blk rfl
theorem b_M_hearsOf_0 : Rj d 155 0 ls st h Q = Rn d (155, [.aload 0, .iconst (-1), .putfield 785, .iconst 0, .istore 3], 7, ls, st) h Q := rn_blk rfl
theorem b_M_hearsOf_7 : Rj d 155 7 ls st h Q = Rn d (155, [.iload 3, .iconst 4, .if_icmp .ge 143], 12, ls, st) h Q := rn_blk rfl
theorem b_M_hearsOf_12 : Rj d 155 12 ls st h Q = Rn d (155, [.iload 3, .ifCond .ne 20], 16, ls, st) h Q := rn_blk rfl
theorem b_M_hearsOf_16 : Rj d 155 16 ls st h Q = Rn d (155, [.iconst 0, .goto 37], 0, ls, st) h Q := rn_blk rfl
theorem b_M_hearsOf_20 : Rj d 155 20 ls st h Q = Rn d (155, [.aload 0, .getfield 783, .iload 1, .iaload, .iload 3, .iconst 1, .isub, .aload 0, .getfield 784, .iload 1, .iaload, .imul, .iadd], 37, ls, st) h Q := rn_blk rfl
theorem b_M_hearsOf_37 : Rj d 155 37 ls st h Q = Rn d (155, [.istore 4, .iconst 0, .istore 5, .iconst 0, .istore 6], 45, ls, st) h Q := rn_blk rfl
theorem b_M_hearsOf_45 : Rj d 155 45 ls st h Q = Rn d (155, [.iload 6, .iconst 3, .if_icmp .ge 91], 51, ls, st) h Q := rn_blk rfl
theorem b_M_hearsOf_51 : Rj d 155 51 ls st h Q = Rn d (155, [.iload 5, .aload 0, .getfield 783, .iload 1, .iaload, .iload 6, .aload 0, .getfield 784, .iload 1, .iaload, .imul, .iadd, .iload 4, .if_icmp .gt 81], 74, ls, st) h Q := rn_blk rfl
theorem b_M_hearsOf_74 : Rj d 155 74 ls st h Q = Rn d (155, [.iconst 1, .iload 6, .ishl, .goto 82], 0, ls, st) h Q := rn_blk rfl
theorem b_M_hearsOf_81 : Rj d 155 81 ls st h Q = Rn d (155, [.iconst 0], 82, ls, st) h Q := rn_blk rfl
theorem b_M_hearsOf_82 : Rj d 155 82 ls st h Q = Rn d (155, [.ior, .istore 5, .iinc 6 1, .goto 45], 0, ls, st) h Q := rn_blk rfl
theorem b_M_hearsOf_91 : Rj d 155 91 ls st h Q = Rn d (155, [.aload 0, .iload 2, .iconst (-1), .iload 5, .invokevirtual 145, .istore 6, .iload 6, .invokestatic 137, .iconst 1, .if_icmp .ne 137], 110, ls, st) h Q := rn_blk rfl
theorem b_M_hearsOf_110 : Rj d 155 110 ls st h Q = Rn d (155, [.aload 0, .iload 4, .putfield 785, .iconst 0, .istore 7], 119, ls, st) h Q := rn_blk rfl
theorem b_M_hearsOf_119 : Rj d 155 119 ls st h Q = Rn d (155, [.iload 6, .iload 7, .ishr, .iconst 1, .if_icmp .eq 134], 128, ls, st) h Q := rn_blk rfl
theorem b_M_hearsOf_128 : Rj d 155 128 ls st h Q = Rn d (155, [.iinc 7 1, .goto 119], 0, ls, st) h Q := rn_blk rfl
theorem b_M_hearsOf_134 : Rj d 155 134 ls st h Q = Rn d (155, [.iload 7, .ireturn], 0, ls, st) h Q := rn_blk rfl
theorem b_M_hearsOf_137 : Rj d 155 137 ls st h Q = Rn d (155, [.iinc 3 1, .goto 7], 0, ls, st) h Q := rn_blk rfl
theorem b_M_hearsOf_143 : Rj d 155 143 ls st h Q = Rn d (155, [.iconst (-1), .ireturn], 0, ls, st) h Q := rn_blk rfl
theorem b_M_parts_0 : Rj d 156 0 ls st h Q = Rn d (156, [.iload 1, .i2l, .ldc2_w 0, .ldc2_w 1, .invokestatic 127, .ifCond .ne 13], 10, ls, st) h Q := rn_blk rfl
theorem b_M_parts_10 : Rj d 156 10 ls st h Q = Rn d (156, [.iconst (-102), .ireturn], 0, ls, st) h Q := rn_blk rfl
theorem b_M_parts_13 : Rj d 156 13 ls st h Q = Rn d (156, [.iconst (-1), .istore 2, .iconst (-1), .istore 3, .iconst 0, .istore 4], 20, ls, st) h Q := rn_blk rfl
theorem b_M_parts_20 : Rj d 156 20 ls st h Q = Rn d (156, [.iload 4, .aload 0, .getfield 776, .if_icmp .ge 127], 29, ls, st) h Q := rn_blk rfl
theorem b_M_parts_29 : Rj d 156 29 ls st h Q = Rn d (156, [.iconst 0, .istore 5, .iconst 0, .istore 6], 35, ls, st) h Q := rn_blk rfl
theorem b_M_parts_35 : Rj d 156 35 ls st h Q = Rn d (156, [.iload 6, .aload 0, .getfield 782, .if_icmp .ge 95], 44, ls, st) h Q := rn_blk rfl
theorem b_M_parts_44 : Rj d 156 44 ls st h Q = Rn d (156, [.iconst 0, .istore 7], 47, ls, st) h Q := rn_blk rfl
theorem b_M_parts_47 : Rj d 156 47 ls st h Q = Rn d (156, [.iload 7, .iload 6, .if_icmp .ge 89], 54, ls, st) h Q := rn_blk rfl
theorem b_M_parts_54 : Rj d 156 54 ls st h Q = Rn d (156, [.iload 5, .aload 0, .iload 6, .iload 4, .invokevirtual 155, .aload 0, .iload 7, .iload 4, .invokevirtual 155, .if_icmp .eq 79], 75, ls, st) h Q := rn_blk rfl
theorem b_M_parts_75 : Rj d 156 75 ls st h Q = Rn d (156, [.iconst 1, .goto 80], 0, ls, st) h Q := rn_blk rfl
theorem b_M_parts_79 : Rj d 156 79 ls st h Q = Rn d (156, [.iconst 0], 80, ls, st) h Q := rn_blk rfl
theorem b_M_parts_80 : Rj d 156 80 ls st h Q = Rn d (156, [.iadd, .istore 5, .iinc 7 1, .goto 47], 0, ls, st) h Q := rn_blk rfl
theorem b_M_parts_89 : Rj d 156 89 ls st h Q = Rn d (156, [.iinc 6 1, .goto 35], 0, ls, st) h Q := rn_blk rfl
theorem b_M_parts_95 : Rj d 156 95 ls st h Q = Rn d (156, [.iload 5, .iload 3, .if_icmp .le 106], 101, ls, st) h Q := rn_blk rfl
theorem b_M_parts_101 : Rj d 156 101 ls st h Q = Rn d (156, [.iload 4, .goto 107], 0, ls, st) h Q := rn_blk rfl
theorem b_M_parts_106 : Rj d 156 106 ls st h Q = Rn d (156, [.iload 2], 107, ls, st) h Q := rn_blk rfl
theorem b_M_parts_107 : Rj d 156 107 ls st h Q = Rn d (156, [.istore 2, .iload 5, .iload 3, .if_icmp .le 119], 114, ls, st) h Q := rn_blk rfl
theorem b_M_parts_114 : Rj d 156 114 ls st h Q = Rn d (156, [.iload 5, .goto 120], 0, ls, st) h Q := rn_blk rfl
theorem b_M_parts_119 : Rj d 156 119 ls st h Q = Rn d (156, [.iload 3], 120, ls, st) h Q := rn_blk rfl
theorem b_M_parts_120 : Rj d 156 120 ls st h Q = Rn d (156, [.istore 3, .iinc 4 1, .goto 20], 0, ls, st) h Q := rn_blk rfl
theorem b_M_parts_127 : Rj d 156 127 ls st h Q = Rn d (156, [.iload 1, .ifCond .ne 135], 131, ls, st) h Q := rn_blk rfl
theorem b_M_parts_131 : Rj d 156 131 ls st h Q = Rn d (156, [.iload 2, .goto 136], 0, ls, st) h Q := rn_blk rfl
theorem b_M_parts_135 : Rj d 156 135 ls st h Q = Rn d (156, [.iload 3], 136, ls, st) h Q := rn_blk rfl
theorem b_M_parts_136 : Rj d 156 136 ls st h Q = Rn d (156, [.ireturn], 0, ls, st) h Q := rn_blk rfl
theorem b_M_blind_0 : Rj d 157 0 ls st h Q = Rn d (157, [.aload 0, .iload 1, .invokevirtual 141, .ifCond .eq 16], 8, ls, st) h Q := rn_blk rfl
theorem b_M_blind_8 : Rj d 157 8 ls st h Q = Rn d (157, [.aload 0, .iload 2, .invokevirtual 135, .ifCond .ne 19], 16, ls, st) h Q := rn_blk rfl
theorem b_M_blind_16 : Rj d 157 16 ls st h Q = Rn d (157, [.iconst (-101), .ireturn], 0, ls, st) h Q := rn_blk rfl
theorem b_M_blind_19 : Rj d 157 19 ls st h Q = Rn d (157, [.iconst 0, .istore 3, .iconst 0, .istore 4], 24, ls, st) h Q := rn_blk rfl
theorem b_M_blind_24 : Rj d 157 24 ls st h Q = Rn d (157, [.iload 4, .aload 0, .getfield 782, .if_icmp .ge 58], 33, ls, st) h Q := rn_blk rfl
theorem b_M_blind_33 : Rj d 157 33 ls st h Q = Rn d (157, [.iload 3, .aload 0, .iload 4, .iload 1, .invokevirtual 155, .iload 2, .if_icmp .ne 49], 45, ls, st) h Q := rn_blk rfl
theorem b_M_blind_45 : Rj d 157 45 ls st h Q = Rn d (157, [.iconst 0, .goto 50], 0, ls, st) h Q := rn_blk rfl
theorem b_M_blind_49 : Rj d 157 49 ls st h Q = Rn d (157, [.iconst 1], 50, ls, st) h Q := rn_blk rfl
theorem b_M_blind_50 : Rj d 157 50 ls st h Q = Rn d (157, [.iadd, .istore 3, .iinc 4 1, .goto 24], 0, ls, st) h Q := rn_blk rfl
theorem b_M_blind_58 : Rj d 157 58 ls st h Q = Rn d (157, [.iload 3, .ireturn], 0, ls, st) h Q := rn_blk rfl
theorem b_M_tongue_0 : Rj d 158 0 ls st h Q = Rn d (158, [.aload 0, .getfield 786, .iconst 4, .if_icmp .ne 11], 8, ls, st) h Q := rn_blk rfl
theorem b_M_tongue_8 : Rj d 158 8 ls st h Q = Rn d (158, [.iconst (-104), .ireturn], 0, ls, st) h Q := rn_blk rfl
theorem b_M_tongue_11 : Rj d 158 11 ls st h Q = Rn d (158, [.aload 0, .dup, .getfield 786, .iconst 1, .iadd, .putfield 786, .aload 0, .getfield 786, .iconst 1, .isub, .ireturn], 0, ls, st) h Q := rn_blk rfl
theorem b_M_lack_0 : Rj d 159 0 ls st h Q = Rn d (159, [.aload 0, .iload 1, .invokevirtual 160, .ifCond .eq 15], 8, ls, st) h Q := rn_blk rfl
theorem b_M_lack_8 : Rj d 159 8 ls st h Q = Rn d (159, [.iload 2, .invokestatic 129, .ifCond .ne 18], 15, ls, st) h Q := rn_blk rfl
theorem b_M_lack_15 : Rj d 159 15 ls st h Q = Rn d (159, [.iconst (-101), .ireturn], 0, ls, st) h Q := rn_blk rfl
theorem b_M_lack_18 : Rj d 159 18 ls st h Q = Rn d (159, [.iload 3, .i2l, .ldc2_w 0, .ldc2_w 2, .invokestatic 127, .ifCond .ne 33], 30, ls, st) h Q := rn_blk rfl
theorem b_M_lack_30 : Rj d 159 30 ls st h Q = Rn d (159, [.iconst (-102), .ireturn], 0, ls, st) h Q := rn_blk rfl
theorem b_M_lack_33 : Rj d 159 33 ls st h Q = Rn d (159, [.iconst 16, .iload 1, .imul, .iload 2, .iadd, .istore 5, .aload 0, .getfield 787, .iload 5, .iaload, .iload 3, .ishr, .iconst 1, .iand, .istore 6, .aload 0, .getfield 787, .iload 5, .iload 4, .ifCond .eq 79], 65, ls, st) h Q := rn_blk rfl
theorem b_M_lack_65 : Rj d 159 65 ls st h Q = Rn d (159, [.aload 0, .getfield 787, .iload 5, .iaload, .iconst 1, .iload 3, .ishl, .ior, .goto 92], 0, ls, st) h Q := rn_blk rfl
theorem b_M_lack_79 : Rj d 159 79 ls st h Q = Rn d (159, [.aload 0, .getfield 787, .iload 5, .iaload, .iconst 1, .iload 3, .ishl, .iconst (-1), .ixor, .iand], 92, ls, st) h Q := rn_blk rfl
theorem b_M_lack_92 : Rj d 159 92 ls st h Q = Rn d (159, [.iastore, .iload 6, .ireturn], 0, ls, st) h Q := rn_blk rfl
theorem b_M_isTongue_0 : Rj d 160 0 ls st h Q = Rn d (160, [.iload 1, .i2l, .ldc2_w 0, .aload 0, .getfield 786, .iconst 1, .isub, .i2l, .invokestatic 127, .freturn], 0, ls, st) h Q := rn_blk rfl
theorem b_M_goes_0 : Rj d 161 0 ls st h Q = Rn d (161, [.aload 0, .iload 1, .invokevirtual 141, .ifCond .eq 24], 8, ls, st) h Q := rn_blk rfl
theorem b_M_goes_8 : Rj d 161 8 ls st h Q = Rn d (161, [.aload 0, .iload 2, .invokevirtual 135, .ifCond .eq 24], 16, ls, st) h Q := rn_blk rfl
theorem b_M_goes_16 : Rj d 161 16 ls st h Q = Rn d (161, [.aload 0, .iload 3, .invokevirtual 160, .ifCond .ne 27], 24, ls, st) h Q := rn_blk rfl
theorem b_M_goes_24 : Rj d 161 24 ls st h Q = Rn d (161, [.iconst (-101), .ireturn], 0, ls, st) h Q := rn_blk rfl
theorem b_M_goes_27 : Rj d 161 27 ls st h Q = Rn d (161, [.iload 4, .i2l, .ldc2_w 0, .ldc2_w 1, .invokestatic 127, .ifCond .ne 41], 38, ls, st) h Q := rn_blk rfl
theorem b_M_goes_38 : Rj d 161 38 ls st h Q = Rn d (161, [.iconst (-102), .ireturn], 0, ls, st) h Q := rn_blk rfl
theorem b_M_goes_41 : Rj d 161 41 ls st h Q = Rn d (161, [.iload 4, .iconst 1, .if_icmp .ne 57], 47, ls, st) h Q := rn_blk rfl
theorem b_M_goes_47 : Rj d 161 47 ls st h Q = Rn d (161, [.aload 0, .iload 1, .iload 2, .iload 3, .invokevirtual 162, .goto 72], 0, ls, st) h Q := rn_blk rfl
theorem b_M_goes_57 : Rj d 161 57 ls st h Q = Rn d (161, [.aload 0, .iload 1, .iload 2, .iload 3, .invokevirtual 164, .ifCond .eq 71], 67, ls, st) h Q := rn_blk rfl
theorem b_M_goes_67 : Rj d 161 67 ls st h Q = Rn d (161, [.iconst 1, .goto 72], 0, ls, st) h Q := rn_blk rfl
theorem b_M_goes_71 : Rj d 161 71 ls st h Q = Rn d (161, [.iconst 0], 72, ls, st) h Q := rn_blk rfl
theorem b_M_goes_72 : Rj d 161 72 ls st h Q = Rn d (161, [.ireturn], 0, ls, st) h Q := rn_blk rfl
theorem b_M_lacksOf_0 : Rj d 162 0 ls st h Q = Rn d (162, [.iconst 0, .istore 4, .iconst 0, .istore 5], 6, ls, st) h Q := rn_blk rfl
theorem b_M_lacksOf_6 : Rj d 162 6 ls st h Q = Rn d (162, [.iload 5, .aload 0, .getfield 777, .iload 1, .iaload, .if_icmp .ge 55], 17, ls, st) h Q := rn_blk rfl
theorem b_M_lacksOf_17 : Rj d 162 17 ls st h Q = Rn d (162, [.iload 4, .aload 0, .iload 3, .aload 0, .getfield 778, .iconst 6, .iload 1, .imul, .iload 5, .iadd, .iaload, .iload 2, .invokevirtual 163, .iconst (-1), .if_icmp .ne 45], 41, ls, st) h Q := rn_blk rfl
theorem b_M_lacksOf_41 : Rj d 162 41 ls st h Q = Rn d (162, [.iconst 1, .goto 46], 0, ls, st) h Q := rn_blk rfl
theorem b_M_lacksOf_45 : Rj d 162 45 ls st h Q = Rn d (162, [.iconst 0], 46, ls, st) h Q := rn_blk rfl
theorem b_M_lacksOf_46 : Rj d 162 46 ls st h Q = Rn d (162, [.iadd, .istore 4, .iinc 5 1, .goto 6], 0, ls, st) h Q := rn_blk rfl
theorem b_M_lacksOf_55 : Rj d 162 55 ls st h Q = Rn d (162, [.iload 4, .ireturn], 0, ls, st) h Q := rn_blk rfl
theorem b_M_byIn_0 : Rj d 163 0 ls st h Q = Rn d (163, [.aload 0, .iload 2, .iload 3, .iconst 7, .aload 0, .getfield 787, .iconst 16, .iload 1, .imul, .aload 0, .getfield 774, .iload 2, .iaload, .iadd, .iaload, .iconst (-1), .ixor, .iand, .invokevirtual 136, .ireturn], 0, ls, st) h Q := rn_blk rfl
theorem b_M_goesOf_0 : Rj d 164 0 ls st h Q = Rn d (164, [.iconst 1, .istore 4, .iconst 0, .istore 5], 6, ls, st) h Q := rn_blk rfl
theorem b_M_goesOf_6 : Rj d 164 6 ls st h Q = Rn d (164, [.iload 5, .aload 0, .getfield 768, .if_icmp .ge 63], 15, ls, st) h Q := rn_blk rfl
theorem b_M_goesOf_15 : Rj d 164 15 ls st h Q = Rn d (164, [.iload 4, .ifCond .eq 54], 20, ls, st) h Q := rn_blk rfl
theorem b_M_goesOf_20 : Rj d 164 20 ls st h Q = Rn d (164, [.iload 5, .iload 2, .if_icmp .ne 30], 26, ls, st) h Q := rn_blk rfl
theorem b_M_goesOf_26 : Rj d 164 26 ls st h Q = Rn d (164, [.iconst 1, .goto 31], 0, ls, st) h Q := rn_blk rfl
theorem b_M_goesOf_30 : Rj d 164 30 ls st h Q = Rn d (164, [.iconst 0], 31, ls, st) h Q := rn_blk rfl
theorem b_M_goesOf_31 : Rj d 164 31 ls st h Q = Rn d (164, [.aload 0, .iload 1, .iload 5, .iload 3, .invokevirtual 162, .ifCond .ne 46], 42, ls, st) h Q := rn_blk rfl
theorem b_M_goesOf_42 : Rj d 164 42 ls st h Q = Rn d (164, [.iconst 1, .goto 47], 0, ls, st) h Q := rn_blk rfl
theorem b_M_goesOf_46 : Rj d 164 46 ls st h Q = Rn d (164, [.iconst 0], 47, ls, st) h Q := rn_blk rfl
theorem b_M_goesOf_47 : Rj d 164 47 ls st h Q = Rn d (164, [.if_icmp .ne 54], 50, ls, st) h Q := rn_blk rfl
theorem b_M_goesOf_50 : Rj d 164 50 ls st h Q = Rn d (164, [.iconst 1, .goto 55], 0, ls, st) h Q := rn_blk rfl
theorem b_M_goesOf_54 : Rj d 164 54 ls st h Q = Rn d (164, [.iconst 0], 55, ls, st) h Q := rn_blk rfl
theorem b_M_goesOf_55 : Rj d 164 55 ls st h Q = Rn d (164, [.istore 4, .iinc 5 1, .goto 6], 0, ls, st) h Q := rn_blk rfl
theorem b_M_goesOf_63 : Rj d 164 63 ls st h Q = Rn d (164, [.iload 4, .freturn], 0, ls, st) h Q := rn_blk rfl
theorem b_M_nearest_0 : Rj d 165 0 ls st h Q = Rn d (165, [.aload 0, .iload 1, .invokevirtual 141, .ifCond .eq 16], 8, ls, st) h Q := rn_blk rfl
theorem b_M_nearest_8 : Rj d 165 8 ls st h Q = Rn d (165, [.aload 0, .iload 2, .invokevirtual 135, .ifCond .ne 19], 16, ls, st) h Q := rn_blk rfl
theorem b_M_nearest_16 : Rj d 165 16 ls st h Q = Rn d (165, [.iconst (-101), .ireturn], 0, ls, st) h Q := rn_blk rfl
theorem b_M_nearest_19 : Rj d 165 19 ls st h Q = Rn d (165, [.iconst (-1), .istore 3, .iconst 1000, .istore 4, .iconst 0, .istore 5], 29, ls, st) h Q := rn_blk rfl
theorem b_M_nearest_29 : Rj d 165 29 ls st h Q = Rn d (165, [.iload 5, .aload 0, .getfield 786, .if_icmp .ge 84], 38, ls, st) h Q := rn_blk rfl
theorem b_M_nearest_38 : Rj d 165 38 ls st h Q = Rn d (165, [.aload 0, .iload 1, .iload 2, .iload 5, .invokevirtual 162, .istore 6, .iload 6, .iload 4, .if_icmp .ge 60], 55, ls, st) h Q := rn_blk rfl
theorem b_M_nearest_55 : Rj d 165 55 ls st h Q = Rn d (165, [.iload 5, .goto 61], 0, ls, st) h Q := rn_blk rfl
theorem b_M_nearest_60 : Rj d 165 60 ls st h Q = Rn d (165, [.iload 3], 61, ls, st) h Q := rn_blk rfl
theorem b_M_nearest_61 : Rj d 165 61 ls st h Q = Rn d (165, [.istore 3, .iload 6, .iload 4, .if_icmp .ge 74], 69, ls, st) h Q := rn_blk rfl
theorem b_M_nearest_69 : Rj d 165 69 ls st h Q = Rn d (165, [.iload 6, .goto 76], 0, ls, st) h Q := rn_blk rfl
theorem b_M_nearest_74 : Rj d 165 74 ls st h Q = Rn d (165, [.iload 4], 76, ls, st) h Q := rn_blk rfl
theorem b_M_nearest_76 : Rj d 165 76 ls st h Q = Rn d (165, [.istore 4, .iinc 5 1, .goto 29], 0, ls, st) h Q := rn_blk rfl
theorem b_M_nearest_84 : Rj d 165 84 ls st h Q = Rn d (165, [.iload 3, .ireturn], 0, ls, st) h Q := rn_blk rfl
theorem b_M_letters_0 : Rj d 166 0 ls st h Q = Rn d (166, [.iconst 0, .istore 3, .iconst 1, .istore 4, .lload 1, .lstore 5, .iconst 0, .istore 7], 11, ls, st) h Q := rn_blk rfl
theorem b_M_letters_11 : Rj d 166 11 ls st h Q = Rn d (166, [.iload 7, .iconst 8, .if_icmp .ge 83], 18, ls, st) h Q := rn_blk rfl
theorem b_M_letters_18 : Rj d 166 18 ls st h Q = Rn d (166, [.lload 5, .ldc2_w 255, .land, .l2i, .istore 8, .lload 5, .iconst 8, .lushr, .lstore 5, .iload 4, .ifCond .eq 61], 39, ls, st) h Q := rn_blk rfl
theorem b_M_letters_39 : Rj d 166 39 ls st h Q = Rn d (166, [.iload 8, .iconst 126, .if_icmp .gt 61], 46, ls, st) h Q := rn_blk rfl
theorem b_M_letters_46 : Rj d 166 46 ls st h Q = Rn d (166, [.iload 8, .ifCond .eq 57], 51, ls, st) h Q := rn_blk rfl
theorem b_M_letters_51 : Rj d 166 51 ls st h Q = Rn d (166, [.iload 3, .iload 7, .if_icmp .ne 61], 57, ls, st) h Q := rn_blk rfl
theorem b_M_letters_57 : Rj d 166 57 ls st h Q = Rn d (166, [.iconst 1, .goto 62], 0, ls, st) h Q := rn_blk rfl
theorem b_M_letters_61 : Rj d 166 61 ls st h Q = Rn d (166, [.iconst 0], 62, ls, st) h Q := rn_blk rfl
theorem b_M_letters_62 : Rj d 166 62 ls st h Q = Rn d (166, [.istore 4, .iload 3, .iload 8, .ifCond .le 74], 70, ls, st) h Q := rn_blk rfl
theorem b_M_letters_70 : Rj d 166 70 ls st h Q = Rn d (166, [.iconst 1, .goto 75], 0, ls, st) h Q := rn_blk rfl
theorem b_M_letters_74 : Rj d 166 74 ls st h Q = Rn d (166, [.iconst 0], 75, ls, st) h Q := rn_blk rfl
theorem b_M_letters_75 : Rj d 166 75 ls st h Q = Rn d (166, [.iadd, .istore 3, .iinc 7 1, .goto 11], 0, ls, st) h Q := rn_blk rfl
theorem b_M_letters_83 : Rj d 166 83 ls st h Q = Rn d (166, [.iload 4, .ifCond .ne 91], 88, ls, st) h Q := rn_blk rfl
theorem b_M_letters_88 : Rj d 166 88 ls st h Q = Rn d (166, [.iconst (-102), .ireturn], 0, ls, st) h Q := rn_blk rfl
theorem b_M_letters_91 : Rj d 166 91 ls st h Q = Rn d (166, [.aload 0, .getfield 789, .iload 3, .iadd, .iconst 40, .if_icmp .le 105], 102, ls, st) h Q := rn_blk rfl
theorem b_M_letters_102 : Rj d 166 102 ls st h Q = Rn d (166, [.iconst (-104), .ireturn], 0, ls, st) h Q := rn_blk rfl
theorem b_M_letters_105 : Rj d 166 105 ls st h Q = Rn d (166, [.iconst 0, .istore 7], 108, ls, st) h Q := rn_blk rfl
theorem b_M_letters_108 : Rj d 166 108 ls st h Q = Rn d (166, [.iload 7, .iload 3, .if_icmp .ge 151], 114, ls, st) h Q := rn_blk rfl
theorem b_M_letters_114 : Rj d 166 114 ls st h Q = Rn d (166, [.aload 0, .getfield 788, .aload 0, .getfield 789, .lload 1, .iconst 8, .iload 7, .imul, .lushr, .ldc2_w 255, .land, .l2i, .iastore, .aload 0, .dup, .getfield 789, .iconst 1, .iadd, .putfield 789, .iinc 7 1, .goto 108], 0, ls, st) h Q := rn_blk rfl
theorem b_M_letters_151 : Rj d 166 151 ls st h Q = Rn d (166, [.aload 0, .getfield 789, .ireturn], 0, ls, st) h Q := rn_blk rfl
theorem b_M_blank_0 : Rj d 167 0 ls st h Q = Rn d (167, [.aload 0, .getfield 789, .istore 1, .aload 0, .iconst 0, .putfield 789, .iload 1, .ireturn], 0, ls, st) h Q := rn_blk rfl
theorem b_M_fault_0 : Rj d 168 0 ls st h Q = Rn d (168, [.aload 0, .invokevirtual 169, .ireturn], 0, ls, st) h Q := rn_blk rfl
theorem b_M_faultOf_0 : Rj d 169 0 ls st h Q = Rn d (169, [.aload 0, .iconst 1, .putfield 4890, .aload 0, .iconst (-1), .putfield 795, .aload 0, .iconst 0, .putfield 796, .aload 0, .iconst 0, .putfield 797, .iconst 0, .istore 1], 22, ls, st) h Q := rn_blk rfl
theorem b_M_faultOf_22 : Rj d 169 22 ls st h Q = Rn d (169, [.iload 1, .aload 0, .getfield 789, .if_icmp .ge 49], 30, ls, st) h Q := rn_blk rfl
theorem b_M_faultOf_30 : Rj d 169 30 ls st h Q = Rn d (169, [.aload 0, .aload 0, .getfield 788, .iload 1, .iaload, .invokevirtual 170, .ifCond .eq 49], 43, ls, st) h Q := rn_blk rfl
theorem b_M_faultOf_43 : Rj d 169 43 ls st h Q = Rn d (169, [.iinc 1 1, .goto 22], 0, ls, st) h Q := rn_blk rfl
theorem b_M_faultOf_49 : Rj d 169 49 ls st h Q = Rn d (169, [.iload 1, .ireturn], 0, ls, st) h Q := rn_blk rfl
theorem b_M_go_0 : Rj d 170 0 ls st h Q = Rn d (170, [.aload 0, .getfield 794, .ifCond .eq 30], 7, ls, st) h Q := rn_blk rfl
theorem b_M_go_7 : Rj d 170 7 ls st h Q = Rn d (170, [.iload 1, .iconst 40, .if_icmp .ne 30], 13, ls, st) h Q := rn_blk rfl
theorem b_M_go_13 : Rj d 170 13 ls st h Q = Rn d (170, [.aload 0, .iconst (-1), .invokevirtual 171, .aload 0, .aload 0, .getfield 797, .iconst 1, .isub, .putfield 795, .iconst 1, .freturn], 0, ls, st) h Q := rn_blk rfl
theorem b_M_go_30 : Rj d 170 30 ls st h Q = Rn d (170, [.aload 0, .getfield 794, .ifCond .eq 110], 37, ls, st) h Q := rn_blk rfl
theorem b_M_go_37 : Rj d 170 37 ls st h Q = Rn d (170, [.iload 1, .i2l, .ldc2_w 97, .ldc2_w 104, .invokestatic 127, .ifCond .eq 69], 51, ls, st) h Q := rn_blk rfl
theorem b_M_go_51 : Rj d 170 51 ls st h Q = Rn d (170, [.aload 0, .getfield 796, .iload 1, .iconst 97, .isub, .ishr, .iconst 1, .iand, .ifCond .ne 69], 65, ls, st) h Q := rn_blk rfl
theorem b_M_go_65 : Rj d 170 65 ls st h Q = Rn d (170, [.iconst 1, .goto 70], 0, ls, st) h Q := rn_blk rfl
theorem b_M_go_69 : Rj d 170 69 ls st h Q = Rn d (170, [.iconst 0], 70, ls, st) h Q := rn_blk rfl
theorem b_M_go_70 : Rj d 170 70 ls st h Q = Rn d (170, [.istore 2, .iload 2, .ifCond .eq 108], 75, ls, st) h Q := rn_blk rfl
theorem b_M_go_75 : Rj d 170 75 ls st h Q = Rn d (170, [.aload 0, .dup, .getfield 796, .iconst 1, .iload 1, .iconst 97, .isub, .ishl, .ior, .putfield 796, .aload 0, .iload 1, .iconst 97, .isub, .invokevirtual 171, .aload 0, .aload 0, .getfield 797, .iconst 1, .isub, .invokevirtual 172], 108, ls, st) h Q := rn_blk rfl
theorem b_M_go_108 : Rj d 170 108 ls st h Q = Rn d (170, [.iload 2, .freturn], 0, ls, st) h Q := rn_blk rfl
theorem b_M_go_110 : Rj d 170 110 ls st h Q = Rn d (170, [.aload 0, .getfield 795, .iconst (-1), .if_icmp .ne 120], 118, ls, st) h Q := rn_blk rfl
theorem b_M_go_118 : Rj d 170 118 ls st h Q = Rn d (170, [.iconst 0, .freturn], 0, ls, st) h Q := rn_blk rfl
theorem b_M_go_120 : Rj d 170 120 ls st h Q = Rn d (170, [.iload 1, .iconst 41, .if_icmp .ne 149], 126, ls, st) h Q := rn_blk rfl
theorem b_M_go_126 : Rj d 170 126 ls st h Q = Rn d (170, [.aload 0, .getfield 800, .aload 0, .getfield 795, .iaload, .iconst 1, .if_icmp .le 149], 139, ls, st) h Q := rn_blk rfl
theorem b_M_go_139 : Rj d 170 139 ls st h Q = Rn d (170, [.aload 0, .aload 0, .getfield 795, .invokevirtual 172, .iconst 1, .freturn], 0, ls, st) h Q := rn_blk rfl
theorem b_M_go_149 : Rj d 170 149 ls st h Q = Rn d (170, [.aload 0, .iconst 1, .putfield 4890, .iload 1, .iconst 44, .if_icmp .ne 177], 160, ls, st) h Q := rn_blk rfl
theorem b_M_go_160 : Rj d 170 160 ls st h Q = Rn d (170, [.aload 0, .getfield 800, .aload 0, .getfield 795, .iaload, .iconst 4, .if_icmp .ge 177], 173, ls, st) h Q := rn_blk rfl
theorem b_M_go_173 : Rj d 170 173 ls st h Q = Rn d (170, [.iconst 1, .goto 178], 0, ls, st) h Q := rn_blk rfl
theorem b_M_go_177 : Rj d 170 177 ls st h Q = Rn d (170, [.iconst 0], 178, ls, st) h Q := rn_blk rfl
theorem b_M_go_178 : Rj d 170 178 ls st h Q = Rn d (170, [.freturn], 0, ls, st) h Q := rn_blk rfl
theorem b_M_addNode_0 : Rj d 171 0 ls st h Q = Rn d (171, [.aload 0, .getfield 798, .aload 0, .getfield 797, .aload 0, .getfield 795, .iastore, .aload 0, .getfield 799, .aload 0, .getfield 797, .iload 1, .iastore, .aload 0, .getfield 800, .aload 0, .getfield 797, .iconst 0, .iastore, .aload 0, .dup, .getfield 797, .iconst 1, .iadd, .putfield 797, .return_], 0, ls, st) h Q := rn_blk rfl
theorem b_M_endNode_0 : Rj d 172 0 ls st h Q = Rn d (172, [.aload 0, .iconst 0, .putfield 4890, .aload 0, .aload 0, .getfield 798, .iload 1, .iaload, .putfield 795, .aload 0, .getfield 795, .iconst (-1), .if_icmp .eq 36], 23, ls, st) h Q := rn_blk rfl
theorem b_M_endNode_23 : Rj d 172 23 ls st h Q = Rn d (172, [.aload 0, .getfield 800, .aload 0, .getfield 795, .dup2, .iaload, .iconst 1, .iadd, .iastore], 36, ls, st) h Q := rn_blk rfl
theorem b_M_endNode_36 : Rj d 172 36 ls st h Q = Rn d (172, [.return_], 0, ls, st) h Q := rn_blk rfl
theorem b_M_tree_0 : Rj d 173 0 ls st h Q = Rn d (173, [.aload 0, .invokevirtual 169, .aload 0, .getfield 789, .if_icmp .lt 26], 11, ls, st) h Q := rn_blk rfl
theorem b_M_tree_11 : Rj d 173 11 ls st h Q = Rn d (173, [.aload 0, .getfield 794, .ifCond .ne 26], 18, ls, st) h Q := rn_blk rfl
theorem b_M_tree_18 : Rj d 173 18 ls st h Q = Rn d (173, [.aload 0, .getfield 795, .iconst (-1), .if_icmp .eq 29], 26, ls, st) h Q := rn_blk rfl
theorem b_M_tree_26 : Rj d 173 26 ls st h Q = Rn d (173, [.iconst (-103), .ireturn], 0, ls, st) h Q := rn_blk rfl
theorem b_M_tree_29 : Rj d 173 29 ls st h Q = Rn d (173, [.aload 0, .aload 0, .getfield 797, .putfield 790, .iconst 0, .istore 1], 39, ls, st) h Q := rn_blk rfl
theorem b_M_tree_39 : Rj d 173 39 ls st h Q = Rn d (173, [.iload 1, .aload 0, .getfield 790, .if_icmp .ge 77], 47, ls, st) h Q := rn_blk rfl
theorem b_M_tree_47 : Rj d 173 47 ls st h Q = Rn d (173, [.aload 0, .getfield 791, .iload 1, .aload 0, .getfield 798, .iload 1, .iaload, .iastore, .aload 0, .getfield 792, .iload 1, .aload 0, .getfield 799, .iload 1, .iaload, .iastore, .iinc 1 1, .goto 39], 0, ls, st) h Q := rn_blk rfl
theorem b_M_tree_77 : Rj d 173 77 ls st h Q = Rn d (173, [.aload 0, .iconst 0, .putfield 789, .aload 0, .getfield 790, .ireturn], 0, ls, st) h Q := rn_blk rfl
theorem b_M_variant_0 : Rj d 174 0 ls st h Q = Rn d (174, [.iload 1, .i2l, .ldc2_w 0, .ldc2_w 7, .invokestatic 127, .ifCond .ne 15], 12, ls, st) h Q := rn_blk rfl
theorem b_M_variant_12 : Rj d 174 12 ls st h Q = Rn d (174, [.iconst (-101), .ireturn], 0, ls, st) h Q := rn_blk rfl
theorem b_M_variant_15 : Rj d 174 15 ls st h Q = Rn d (174, [.iload 2, .i2l, .ldc2_w 18446744073709551615, .ldc2_w 7, .invokestatic 127, .ifCond .ne 32], 29, ls, st) h Q := rn_blk rfl
theorem b_M_variant_29 : Rj d 174 29 ls st h Q = Rn d (174, [.iconst (-102), .ireturn], 0, ls, st) h Q := rn_blk rfl
theorem b_M_variant_32 : Rj d 174 32 ls st h Q = Rn d (174, [.aload 0, .getfield 793, .iload 1, .iaload, .istore 3, .aload 0, .getfield 793, .iload 1, .iload 2, .iastore, .iload 3, .ireturn], 0, ls, st) h Q := rn_blk rfl
theorem b_M_changes_0 : Rj d 175 0 ls st h Q = Rn d (175, [.iload 1, .ifCond .eq 21], 4, ls, st) h Q := rn_blk rfl
theorem b_M_changes_4 : Rj d 175 4 ls st h Q = Rn d (175, [.iload 1, .i2l, .ldc2_w 10, .ldc2_w 39, .invokestatic 127, .ifCond .ne 21], 18, ls, st) h Q := rn_blk rfl
theorem b_M_changes_18 : Rj d 175 18 ls st h Q = Rn d (175, [.iconst (-102), .ireturn], 0, ls, st) h Q := rn_blk rfl
theorem b_M_changes_21 : Rj d 175 21 ls st h Q = Rn d (175, [.aload 0, .getfield 790, .ifCond .ne 31], 28, ls, st) h Q := rn_blk rfl
theorem b_M_changes_28 : Rj d 175 28 ls st h Q = Rn d (175, [.iconst (-103), .ireturn], 0, ls, st) h Q := rn_blk rfl
theorem b_M_changes_31 : Rj d 175 31 ls st h Q = Rn d (175, [.iload 1, .ifCond .ne 40], 35, ls, st) h Q := rn_blk rfl
theorem b_M_changes_35 : Rj d 175 35 ls st h Q = Rn d (175, [.aload 0, .invokevirtual 176, .ireturn], 0, ls, st) h Q := rn_blk rfl
theorem b_M_changes_40 : Rj d 175 40 ls st h Q = Rn d (175, [.iload 1, .iconst 10, .isub, .aload 0, .getfield 790, .if_icmp .ge 62], 51, ls, st) h Q := rn_blk rfl
theorem b_M_changes_51 : Rj d 175 51 ls st h Q = Rn d (175, [.aload 0, .iload 1, .iconst 10, .isub, .invokevirtual 178, .goto 63], 0, ls, st) h Q := rn_blk rfl
theorem b_M_changes_62 : Rj d 175 62 ls st h Q = Rn d (175, [.iconst (-1)], 63, ls, st) h Q := rn_blk rfl
theorem b_M_changes_63 : Rj d 175 63 ls st h Q = Rn d (175, [.ireturn], 0, ls, st) h Q := rn_blk rfl
theorem b_M_leastChanges_0 : Rj d 176 0 ls st h Q = Rn d (176, [.aload 0, .getfield 790, .iconst 1, .isub, .istore 1], 7, ls, st) h Q := rn_blk rfl
theorem b_M_leastChanges_7 : Rj d 176 7 ls st h Q = Rn d (176, [.iload 1, .ifCond .lt 139], 11, ls, st) h Q := rn_blk rfl
theorem b_M_leastChanges_11 : Rj d 176 11 ls st h Q = Rn d (176, [.aload 0, .getfield 792, .iload 1, .iaload, .iconst (-1), .if_icmp .ne 25], 21, ls, st) h Q := rn_blk rfl
theorem b_M_leastChanges_21 : Rj d 176 21 ls st h Q = Rn d (176, [.iconst (-1), .goto 36], 0, ls, st) h Q := rn_blk rfl
theorem b_M_leastChanges_25 : Rj d 176 25 ls st h Q = Rn d (176, [.aload 0, .getfield 793, .aload 0, .getfield 792, .iload 1, .iaload, .iaload], 36, ls, st) h Q := rn_blk rfl
theorem b_M_leastChanges_36 : Rj d 176 36 ls st h Q = Rn d (176, [.istore 2, .iconst 0, .istore 3], 39, ls, st) h Q := rn_blk rfl
theorem b_M_leastChanges_39 : Rj d 176 39 ls st h Q = Rn d (176, [.iload 3, .iconst 8, .if_icmp .ge 133], 45, ls, st) h Q := rn_blk rfl
theorem b_M_leastChanges_45 : Rj d 176 45 ls st h Q = Rn d (176, [.iload 2, .iconst (-1), .if_icmp .eq 55], 50, ls, st) h Q := rn_blk rfl
theorem b_M_leastChanges_50 : Rj d 176 50 ls st h Q = Rn d (176, [.iload 2, .iload 3, .if_icmp .ne 59], 55, ls, st) h Q := rn_blk rfl
theorem b_M_leastChanges_55 : Rj d 176 55 ls st h Q = Rn d (176, [.iconst 0, .goto 62], 0, ls, st) h Q := rn_blk rfl
theorem b_M_leastChanges_59 : Rj d 176 59 ls st h Q = Rn d (176, [.iconst 1000], 62, ls, st) h Q := rn_blk rfl
theorem b_M_leastChanges_62 : Rj d 176 62 ls st h Q = Rn d (176, [.istore 4, .iload 1, .iconst 1, .iadd, .istore 5], 69, ls, st) h Q := rn_blk rfl
theorem b_M_leastChanges_69 : Rj d 176 69 ls st h Q = Rn d (176, [.iload 5, .aload 0, .getfield 790, .if_icmp .ge 114], 78, ls, st) h Q := rn_blk rfl
theorem b_M_leastChanges_78 : Rj d 176 78 ls st h Q = Rn d (176, [.iload 4, .aload 0, .getfield 791, .iload 5, .iaload, .iload 1, .if_icmp .ne 104], 91, ls, st) h Q := rn_blk rfl
theorem b_M_leastChanges_91 : Rj d 176 91 ls st h Q = Rn d (176, [.aload 0, .getfield 801, .iload 5, .iload 3, .invokestatic 177, .goto 105], 0, ls, st) h Q := rn_blk rfl
theorem b_M_leastChanges_104 : Rj d 176 104 ls st h Q = Rn d (176, [.iconst 0], 105, ls, st) h Q := rn_blk rfl
theorem b_M_leastChanges_105 : Rj d 176 105 ls st h Q = Rn d (176, [.iadd, .istore 4, .iinc 5 1, .goto 69], 0, ls, st) h Q := rn_blk rfl
theorem b_M_leastChanges_114 : Rj d 176 114 ls st h Q = Rn d (176, [.aload 0, .getfield 801, .iconst 8, .iload 1, .imul, .iload 3, .iadd, .iload 4, .iastore, .iinc 3 1, .goto 39], 0, ls, st) h Q := rn_blk rfl
theorem b_M_leastChanges_133 : Rj d 176 133 ls st h Q = Rn d (176, [.iinc 1 (-1), .goto 7], 0, ls, st) h Q := rn_blk rfl
theorem b_M_leastChanges_139 : Rj d 176 139 ls st h Q = Rn d (176, [.iconst 1000, .istore 1, .iconst 0, .istore 2], 145, ls, st) h Q := rn_blk rfl
theorem b_M_leastChanges_145 : Rj d 176 145 ls st h Q = Rn d (176, [.iload 2, .iconst 8, .if_icmp .ge 178], 151, ls, st) h Q := rn_blk rfl
theorem b_M_leastChanges_151 : Rj d 176 151 ls st h Q = Rn d (176, [.aload 0, .getfield 801, .iload 2, .iaload, .iload 1, .if_icmp .ge 170], 161, ls, st) h Q := rn_blk rfl
theorem b_M_leastChanges_161 : Rj d 176 161 ls st h Q = Rn d (176, [.aload 0, .getfield 801, .iload 2, .iaload, .goto 171], 0, ls, st) h Q := rn_blk rfl
theorem b_M_leastChanges_170 : Rj d 176 170 ls st h Q = Rn d (176, [.iload 1], 171, ls, st) h Q := rn_blk rfl
theorem b_M_leastChanges_171 : Rj d 176 171 ls st h Q = Rn d (176, [.istore 1, .iinc 2 1, .goto 145], 0, ls, st) h Q := rn_blk rfl
theorem b_M_leastChanges_178 : Rj d 176 178 ls st h Q = Rn d (176, [.iload 1, .ireturn], 0, ls, st) h Q := rn_blk rfl
theorem b_M_leastOf_0 : Rj d 177 0 ls st h Q = Rn d (177, [.aload 0, .iconst 8, .iload 1, .imul, .iload 2, .iadd, .iaload, .istore 3, .iconst 0, .istore 4], 12, ls, st) h Q := rn_blk rfl
theorem b_M_leastOf_12 : Rj d 177 12 ls st h Q = Rn d (177, [.iload 4, .iconst 8, .if_icmp .ge 56], 19, ls, st) h Q := rn_blk rfl
theorem b_M_leastOf_19 : Rj d 177 19 ls st h Q = Rn d (177, [.aload 0, .iconst 8, .iload 1, .imul, .iload 4, .iadd, .iaload, .iconst 1, .iadd, .iload 3, .if_icmp .ge 48], 34, ls, st) h Q := rn_blk rfl
theorem b_M_leastOf_34 : Rj d 177 34 ls st h Q = Rn d (177, [.aload 0, .iconst 8, .iload 1, .imul, .iload 4, .iadd, .iaload, .iconst 1, .iadd, .goto 49], 0, ls, st) h Q := rn_blk rfl
theorem b_M_leastOf_48 : Rj d 177 48 ls st h Q = Rn d (177, [.iload 3], 49, ls, st) h Q := rn_blk rfl
theorem b_M_leastOf_49 : Rj d 177 49 ls st h Q = Rn d (177, [.istore 3, .iinc 4 1, .goto 12], 0, ls, st) h Q := rn_blk rfl
theorem b_M_leastOf_56 : Rj d 177 56 ls st h Q = Rn d (177, [.iload 3, .ireturn], 0, ls, st) h Q := rn_blk rfl
theorem b_M_sureOf_0 : Rj d 178 0 ls st h Q = Rn d (178, [.aload 0, .invokevirtual 176, .istore 2, .iconst 0, .istore 3], 7, ls, st) h Q := rn_blk rfl
theorem b_M_sureOf_7 : Rj d 178 7 ls st h Q = Rn d (178, [.iload 3, .iconst 8, .if_icmp .ge 26], 13, ls, st) h Q := rn_blk rfl
theorem b_M_sureOf_13 : Rj d 178 13 ls st h Q = Rn d (178, [.aload 0, .getfield 802, .iload 3, .iconst 0, .iastore, .iinc 3 1, .goto 7], 0, ls, st) h Q := rn_blk rfl
theorem b_M_sureOf_26 : Rj d 178 26 ls st h Q = Rn d (178, [.iconst 1, .istore 3], 28, ls, st) h Q := rn_blk rfl
theorem b_M_sureOf_28 : Rj d 178 28 ls st h Q = Rn d (178, [.iload 3, .aload 0, .getfield 790, .if_icmp .ge 196], 36, ls, st) h Q := rn_blk rfl
theorem b_M_sureOf_36 : Rj d 178 36 ls st h Q = Rn d (178, [.iconst 0, .istore 4], 39, ls, st) h Q := rn_blk rfl
theorem b_M_sureOf_39 : Rj d 178 39 ls st h Q = Rn d (178, [.iload 4, .iconst 8, .if_icmp .ge 105], 46, ls, st) h Q := rn_blk rfl
theorem b_M_sureOf_46 : Rj d 178 46 ls st h Q = Rn d (178, [.aload 0, .getfield 803, .iload 4, .aload 0, .getfield 802, .iconst 8, .aload 0, .getfield 791, .iload 3, .iaload, .imul, .iload 4, .iadd, .iaload, .aload 0, .getfield 801, .iconst 8, .aload 0, .getfield 791, .iload 3, .iaload, .imul, .iload 4, .iadd, .iaload, .iadd, .aload 0, .getfield 801, .iload 3, .iload 4, .invokestatic 177, .isub, .iastore, .iinc 4 1, .goto 39], 0, ls, st) h Q := rn_blk rfl
theorem b_M_sureOf_105 : Rj d 178 105 ls st h Q = Rn d (178, [.iconst 0, .istore 4], 108, ls, st) h Q := rn_blk rfl
theorem b_M_sureOf_108 : Rj d 178 108 ls st h Q = Rn d (178, [.iload 4, .iconst 8, .if_icmp .ge 190], 115, ls, st) h Q := rn_blk rfl
theorem b_M_sureOf_115 : Rj d 178 115 ls st h Q = Rn d (178, [.aload 0, .getfield 803, .iload 4, .iaload, .istore 5, .iconst 0, .istore 6], 127, ls, st) h Q := rn_blk rfl
theorem b_M_sureOf_127 : Rj d 178 127 ls st h Q = Rn d (178, [.iload 6, .iconst 8, .if_icmp .ge 170], 134, ls, st) h Q := rn_blk rfl
theorem b_M_sureOf_134 : Rj d 178 134 ls st h Q = Rn d (178, [.aload 0, .getfield 803, .iload 6, .iaload, .iconst 1, .iadd, .iload 5, .if_icmp .ge 160], 148, ls, st) h Q := rn_blk rfl
theorem b_M_sureOf_148 : Rj d 178 148 ls st h Q = Rn d (178, [.aload 0, .getfield 803, .iload 6, .iaload, .iconst 1, .iadd, .goto 162], 0, ls, st) h Q := rn_blk rfl
theorem b_M_sureOf_160 : Rj d 178 160 ls st h Q = Rn d (178, [.iload 5], 162, ls, st) h Q := rn_blk rfl
theorem b_M_sureOf_162 : Rj d 178 162 ls st h Q = Rn d (178, [.istore 5, .iinc 6 1, .goto 127], 0, ls, st) h Q := rn_blk rfl
theorem b_M_sureOf_170 : Rj d 178 170 ls st h Q = Rn d (178, [.aload 0, .getfield 802, .iconst 8, .iload 3, .imul, .iload 4, .iadd, .iload 5, .iastore, .iinc 4 1, .goto 108], 0, ls, st) h Q := rn_blk rfl
theorem b_M_sureOf_190 : Rj d 178 190 ls st h Q = Rn d (178, [.iinc 3 1, .goto 28], 0, ls, st) h Q := rn_blk rfl
theorem b_M_sureOf_196 : Rj d 178 196 ls st h Q = Rn d (178, [.iconst (-1), .istore 3, .iconst 0, .istore 4, .iconst 0, .istore 5], 204, ls, st) h Q := rn_blk rfl
theorem b_M_sureOf_204 : Rj d 178 204 ls st h Q = Rn d (178, [.iload 5, .iconst 8, .if_icmp .ge 280], 211, ls, st) h Q := rn_blk rfl
theorem b_M_sureOf_211 : Rj d 178 211 ls st h Q = Rn d (178, [.aload 0, .getfield 801, .iconst 8, .iload 1, .imul, .iload 5, .iadd, .iaload, .aload 0, .getfield 802, .iconst 8, .iload 1, .imul, .iload 5, .iadd, .iaload, .iadd, .iload 2, .if_icmp .ne 244], 240, ls, st) h Q := rn_blk rfl
theorem b_M_sureOf_240 : Rj d 178 240 ls st h Q = Rn d (178, [.iconst 1, .goto 245], 0, ls, st) h Q := rn_blk rfl
theorem b_M_sureOf_244 : Rj d 178 244 ls st h Q = Rn d (178, [.iconst 0], 245, ls, st) h Q := rn_blk rfl
theorem b_M_sureOf_245 : Rj d 178 245 ls st h Q = Rn d (178, [.istore 6, .iload 6, .ifCond .eq 257], 252, ls, st) h Q := rn_blk rfl
theorem b_M_sureOf_252 : Rj d 178 252 ls st h Q = Rn d (178, [.iload 5, .goto 258], 0, ls, st) h Q := rn_blk rfl
theorem b_M_sureOf_257 : Rj d 178 257 ls st h Q = Rn d (178, [.iload 3], 258, ls, st) h Q := rn_blk rfl
theorem b_M_sureOf_258 : Rj d 178 258 ls st h Q = Rn d (178, [.istore 3, .iload 4, .iload 6, .ifCond .eq 270], 266, ls, st) h Q := rn_blk rfl
theorem b_M_sureOf_266 : Rj d 178 266 ls st h Q = Rn d (178, [.iconst 1, .goto 271], 0, ls, st) h Q := rn_blk rfl
theorem b_M_sureOf_270 : Rj d 178 270 ls st h Q = Rn d (178, [.iconst 0], 271, ls, st) h Q := rn_blk rfl
theorem b_M_sureOf_271 : Rj d 178 271 ls st h Q = Rn d (178, [.iadd, .istore 4, .iinc 5 1, .goto 204], 0, ls, st) h Q := rn_blk rfl
theorem b_M_sureOf_280 : Rj d 178 280 ls st h Q = Rn d (178, [.iload 4, .iconst 1, .if_icmp .ne 290], 286, ls, st) h Q := rn_blk rfl
theorem b_M_sureOf_286 : Rj d 178 286 ls st h Q = Rn d (178, [.iload 3, .goto 291], 0, ls, st) h Q := rn_blk rfl
theorem b_M_sureOf_290 : Rj d 178 290 ls st h Q = Rn d (178, [.iconst (-1)], 291, ls, st) h Q := rn_blk rfl
theorem b_M_sureOf_291 : Rj d 178 291 ls st h Q = Rn d (178, [.ireturn], 0, ls, st) h Q := rn_blk rfl
theorem b_M_chance_0 : Rj d 179 0 ls st h Q = Rn d (179, [.iload 1, .i2l, .ldc2_w 0, .ldc2_w 1, .invokestatic 127, .ifCond .ne 13], 10, ls, st) h Q := rn_blk rfl
theorem b_M_chance_10 : Rj d 179 10 ls st h Q = Rn d (179, [.iconst (-102), .ireturn], 0, ls, st) h Q := rn_blk rfl
theorem b_M_chance_13 : Rj d 179 13 ls st h Q = Rn d (179, [.aload 0, .getfield 790, .ifCond .eq 29], 20, ls, st) h Q := rn_blk rfl
theorem b_M_chance_20 : Rj d 179 20 ls st h Q = Rn d (179, [.aload 0, .getfield 804, .iconst 12, .if_icmp .ne 32], 29, ls, st) h Q := rn_blk rfl
theorem b_M_chance_29 : Rj d 179 29 ls st h Q = Rn d (179, [.iconst (-103), .ireturn], 0, ls, st) h Q := rn_blk rfl
theorem b_M_chance_32 : Rj d 179 32 ls st h Q = Rn d (179, [.aload 0, .dup, .getfield 804, .iconst 1, .iadd, .putfield 804, .iconst 0, .istore 2, .iconst 1, .istore 3, .iconst 0, .istore 4], 49, ls, st) h Q := rn_blk rfl
theorem b_M_chance_49 : Rj d 179 49 ls st h Q = Rn d (179, [.iload 4, .aload 0, .getfield 790, .if_icmp .ge 129], 58, ls, st) h Q := rn_blk rfl
theorem b_M_chance_58 : Rj d 179 58 ls st h Q = Rn d (179, [.aload 0, .getfield 792, .iload 4, .iaload, .iconst (-1), .if_icmp .eq 123], 69, ls, st) h Q := rn_blk rfl
theorem b_M_chance_69 : Rj d 179 69 ls st h Q = Rn d (179, [.aload 0, .getfield 793, .aload 0, .getfield 792, .iload 4, .iaload, .iaload, .iconst (-1), .if_icmp .eq 123], 85, ls, st) h Q := rn_blk rfl
theorem b_M_chance_85 : Rj d 179 85 ls st h Q = Rn d (179, [.aload 0, .getfield 806, .iload 2, .aload 0, .getfield 792, .iload 4, .iaload, .iastore, .aload 0, .getfield 805, .iload 2, .aload 0, .getfield 793, .aload 0, .getfield 792, .iload 4, .iaload, .iaload, .iastore, .iinc 2 1, .iload 3, .iload 2, .imul, .istore 3], 123, ls, st) h Q := rn_blk rfl
theorem b_M_chance_123 : Rj d 179 123 ls st h Q = Rn d (179, [.iinc 4 1, .goto 49], 0, ls, st) h Q := rn_blk rfl
theorem b_M_chance_129 : Rj d 179 129 ls st h Q = Rn d (179, [.aload 0, .invokevirtual 176, .istore 4, .iconst 0, .istore 5, .iconst 0, .istore 6], 141, ls, st) h Q := rn_blk rfl
theorem b_M_chance_141 : Rj d 179 141 ls st h Q = Rn d (179, [.iload 6, .iload 3, .if_icmp .ge 179], 147, ls, st) h Q := rn_blk rfl
theorem b_M_chance_147 : Rj d 179 147 ls st h Q = Rn d (179, [.aload 0, .iload 2, .iload 6, .invokevirtual 180, .iload 5, .aload 0, .invokevirtual 176, .iload 4, .if_icmp .gt 169], 165, ls, st) h Q := rn_blk rfl
theorem b_M_chance_165 : Rj d 179 165 ls st h Q = Rn d (179, [.iconst 1, .goto 170], 0, ls, st) h Q := rn_blk rfl
theorem b_M_chance_169 : Rj d 179 169 ls st h Q = Rn d (179, [.iconst 0], 170, ls, st) h Q := rn_blk rfl
theorem b_M_chance_170 : Rj d 179 170 ls st h Q = Rn d (179, [.iadd, .istore 5, .iinc 6 1, .goto 141], 0, ls, st) h Q := rn_blk rfl
theorem b_M_chance_179 : Rj d 179 179 ls st h Q = Rn d (179, [.iconst 0, .istore 6], 182, ls, st) h Q := rn_blk rfl
theorem b_M_chance_182 : Rj d 179 182 ls st h Q = Rn d (179, [.iload 6, .iload 2, .if_icmp .ge 213], 188, ls, st) h Q := rn_blk rfl
theorem b_M_chance_188 : Rj d 179 188 ls st h Q = Rn d (179, [.aload 0, .getfield 793, .aload 0, .getfield 806, .iload 6, .iaload, .aload 0, .getfield 805, .iload 6, .iaload, .iastore, .iinc 6 1, .goto 182], 0, ls, st) h Q := rn_blk rfl
theorem b_M_chance_213 : Rj d 179 213 ls st h Q = Rn d (179, [.iload 1, .ifCond .ne 222], 217, ls, st) h Q := rn_blk rfl
theorem b_M_chance_217 : Rj d 179 217 ls st h Q = Rn d (179, [.iload 5, .goto 223], 0, ls, st) h Q := rn_blk rfl
theorem b_M_chance_222 : Rj d 179 222 ls st h Q = Rn d (179, [.iload 3], 223, ls, st) h Q := rn_blk rfl
theorem b_M_chance_223 : Rj d 179 223 ls st h Q = Rn d (179, [.iload 5, .iload 3, .invokestatic 181, .idiv, .ireturn], 0, ls, st) h Q := rn_blk rfl
theorem b_M_deal_0 : Rj d 180 0 ls st h Q = Rn d (180, [.iload 2, .istore 3, .iconst 1, .iload 1, .ishl, .iconst 1, .isub, .istore 4, .iconst 0, .istore 5], 12, ls, st) h Q := rn_blk rfl
theorem b_M_deal_12 : Rj d 180 12 ls st h Q = Rn d (180, [.iload 5, .iload 1, .if_icmp .ge 103], 18, ls, st) h Q := rn_blk rfl
theorem b_M_deal_18 : Rj d 180 18 ls st h Q = Rn d (180, [.iload 3, .iload 1, .iload 5, .isub, .irem, .istore 6, .iload 3, .iload 1, .iload 5, .isub, .idiv, .istore 3, .iconst 0, .istore 7], 36, ls, st) h Q := rn_blk rfl
theorem b_M_deal_36 : Rj d 180 36 ls st h Q = Rn d (180, [.iload 4, .iload 7, .ishr, .iconst 1, .iand, .ifCond .eq 51], 46, ls, st) h Q := rn_blk rfl
theorem b_M_deal_46 : Rj d 180 46 ls st h Q = Rn d (180, [.iload 6, .ifCond .le 69], 51, ls, st) h Q := rn_blk rfl
theorem b_M_deal_51 : Rj d 180 51 ls st h Q = Rn d (180, [.iload 6, .iload 4, .iload 7, .ishr, .iconst 1, .iand, .isub, .istore 6, .iinc 7 1, .goto 36], 0, ls, st) h Q := rn_blk rfl
theorem b_M_deal_69 : Rj d 180 69 ls st h Q = Rn d (180, [.iload 4, .iconst 1, .iload 7, .ishl, .isub, .istore 4, .aload 0, .getfield 793, .aload 0, .getfield 806, .iload 5, .iaload, .aload 0, .getfield 805, .iload 7, .iaload, .iastore, .iinc 5 1, .goto 12], 0, ls, st) h Q := rn_blk rfl
theorem b_M_deal_103 : Rj d 180 103 ls st h Q = Rn d (180, [.return_], 0, ls, st) h Q := rn_blk rfl
theorem b_M_common_0 : Rj d 181 0 ls st h Q = Rn d (181, [.iload 0, .istore 2, .iload 1, .istore 3], 4, ls, st) h Q := rn_blk rfl
theorem b_M_common_4 : Rj d 181 4 ls st h Q = Rn d (181, [.iload 2, .ifCond .eq 21], 8, ls, st) h Q := rn_blk rfl
theorem b_M_common_8 : Rj d 181 8 ls st h Q = Rn d (181, [.iload 3, .iload 2, .irem, .istore 4, .iload 2, .istore 3, .iload 4, .istore 2, .goto 4], 0, ls, st) h Q := rn_blk rfl
theorem b_M_common_21 : Rj d 181 21 ls st h Q = Rn d (181, [.iload 3, .ireturn], 0, ls, st) h Q := rn_blk rfl
theorem b_M_stake_0 : Rj d 182 0 ls st h Q = Rn d (182, [.aload 0, .iload 1, .invokevirtual 154, .ifCond .eq 16], 8, ls, st) h Q := rn_blk rfl
theorem b_M_stake_8 : Rj d 182 8 ls st h Q = Rn d (182, [.aload 0, .iload 2, .invokevirtual 141, .ifCond .ne 19], 16, ls, st) h Q := rn_blk rfl
theorem b_M_stake_16 : Rj d 182 16 ls st h Q = Rn d (182, [.iconst (-101), .ireturn], 0, ls, st) h Q := rn_blk rfl
theorem b_M_stake_19 : Rj d 182 19 ls st h Q = Rn d (182, [.iload 3, .i2l, .ldc2_w 0, .ldc2_w 999, .invokestatic 127, .ifCond .ne 34], 31, ls, st) h Q := rn_blk rfl
theorem b_M_stake_31 : Rj d 182 31 ls st h Q = Rn d (182, [.iconst (-102), .ireturn], 0, ls, st) h Q := rn_blk rfl
theorem b_M_stake_34 : Rj d 182 34 ls st h Q = Rn d (182, [.aload 0, .getfield 807, .iconst 10, .iload 1, .imul, .iload 2, .iadd, .iaload, .istore 4, .aload 0, .getfield 807, .iconst 10, .iload 1, .imul, .iload 2, .iadd, .iload 3, .iastore, .iload 4, .ireturn], 0, ls, st) h Q := rn_blk rfl
theorem b_M_whom_0 : Rj d 183 0 ls st h Q = Rn d (183, [.iload 1, .iconst (-1), .if_icmp .eq 16], 5, ls, st) h Q := rn_blk rfl
theorem b_M_whom_5 : Rj d 183 5 ls st h Q = Rn d (183, [.aload 0, .iload 1, .invokevirtual 154, .ifCond .ne 16], 13, ls, st) h Q := rn_blk rfl
theorem b_M_whom_13 : Rj d 183 13 ls st h Q = Rn d (183, [.iconst (-101), .ireturn], 0, ls, st) h Q := rn_blk rfl
theorem b_M_whom_16 : Rj d 183 16 ls st h Q = Rn d (183, [.aload 0, .invokevirtual 184, .iload 1, .iconst (-1), .if_icmp .ne 34], 25, ls, st) h Q := rn_blk rfl
theorem b_M_whom_25 : Rj d 183 25 ls st h Q = Rn d (183, [.aload 0, .getfield 808, .iconst 0, .iaload, .goto 39], 0, ls, st) h Q := rn_blk rfl
theorem b_M_whom_34 : Rj d 183 34 ls st h Q = Rn d (183, [.aload 0, .iload 1, .invokevirtual 185], 39, ls, st) h Q := rn_blk rfl
theorem b_M_whom_39 : Rj d 183 39 ls st h Q = Rn d (183, [.ireturn], 0, ls, st) h Q := rn_blk rfl
theorem b_M_layBrings_0 : Rj d 184 0 ls st h Q = Rn d (184, [.iconst 0, .istore 1], 2, ls, st) h Q := rn_blk rfl
theorem b_M_layBrings_2 : Rj d 184 2 ls st h Q = Rn d (184, [.iload 1, .iconst 1024, .if_icmp .ge 31], 9, ls, st) h Q := rn_blk rfl
theorem b_M_layBrings_9 : Rj d 184 9 ls st h Q = Rn d (184, [.aload 0, .getfield 808, .iconst 1024, .aload 0, .getfield 782, .imul, .iload 1, .iadd, .iconst 0, .iastore, .iinc 1 1, .goto 2], 0, ls, st) h Q := rn_blk rfl
theorem b_M_layBrings_31 : Rj d 184 31 ls st h Q = Rn d (184, [.aload 0, .getfield 782, .iconst 1, .isub, .istore 1], 38, ls, st) h Q := rn_blk rfl
theorem b_M_layBrings_38 : Rj d 184 38 ls st h Q = Rn d (184, [.iload 1, .ifCond .lt 170], 42, ls, st) h Q := rn_blk rfl
theorem b_M_layBrings_42 : Rj d 184 42 ls st h Q = Rn d (184, [.iconst 0, .istore 2], 44, ls, st) h Q := rn_blk rfl
theorem b_M_layBrings_44 : Rj d 184 44 ls st h Q = Rn d (184, [.iload 2, .iconst 1024, .if_icmp .ge 164], 51, ls, st) h Q := rn_blk rfl
theorem b_M_layBrings_51 : Rj d 184 51 ls st h Q = Rn d (184, [.aload 0, .getfield 808, .iconst 1024, .iload 1, .iconst 1, .iadd, .imul, .iload 2, .iadd, .iaload, .istore 3, .iconst 0, .istore 4], 69, ls, st) h Q := rn_blk rfl
theorem b_M_layBrings_69 : Rj d 184 69 ls st h Q = Rn d (184, [.iload 4, .aload 0, .getfield 776, .if_icmp .ge 145], 78, ls, st) h Q := rn_blk rfl
theorem b_M_layBrings_78 : Rj d 184 78 ls st h Q = Rn d (184, [.iload 2, .iload 4, .ishr, .iconst 1, .iand, .iconst 1, .if_icmp .ne 92], 88, ls, st) h Q := rn_blk rfl
theorem b_M_layBrings_88 : Rj d 184 88 ls st h Q = Rn d (184, [.iconst 0, .goto 124], 0, ls, st) h Q := rn_blk rfl
theorem b_M_layBrings_92 : Rj d 184 92 ls st h Q = Rn d (184, [.aload 0, .getfield 807, .iconst 10, .iload 1, .imul, .iload 4, .iadd, .iaload, .aload 0, .getfield 808, .iconst 1024, .iload 1, .iconst 1, .iadd, .imul, .iload 2, .iconst 1, .iload 4, .ishl, .ior, .iadd, .iaload, .iadd], 124, ls, st) h Q := rn_blk rfl
theorem b_M_layBrings_124 : Rj d 184 124 ls st h Q = Rn d (184, [.istore 5, .iload 5, .iload 3, .if_icmp .le 137], 132, ls, st) h Q := rn_blk rfl
theorem b_M_layBrings_132 : Rj d 184 132 ls st h Q = Rn d (184, [.iload 5, .goto 138], 0, ls, st) h Q := rn_blk rfl
theorem b_M_layBrings_137 : Rj d 184 137 ls st h Q = Rn d (184, [.iload 3], 138, ls, st) h Q := rn_blk rfl
theorem b_M_layBrings_138 : Rj d 184 138 ls st h Q = Rn d (184, [.istore 3, .iinc 4 1, .goto 69], 0, ls, st) h Q := rn_blk rfl
theorem b_M_layBrings_145 : Rj d 184 145 ls st h Q = Rn d (184, [.aload 0, .getfield 808, .iconst 1024, .iload 1, .imul, .iload 2, .iadd, .iload 3, .iastore, .iinc 2 1, .goto 44], 0, ls, st) h Q := rn_blk rfl
theorem b_M_layBrings_164 : Rj d 184 164 ls st h Q = Rn d (184, [.iinc 1 (-1), .goto 38], 0, ls, st) h Q := rn_blk rfl
theorem b_M_layBrings_170 : Rj d 184 170 ls st h Q = Rn d (184, [.return_], 0, ls, st) h Q := rn_blk rfl
theorem b_M_chosen_0 : Rj d 185 0 ls st h Q = Rn d (185, [.iconst 0, .istore 2, .iconst (-1), .istore 3, .iconst 0, .istore 4], 7, ls, st) h Q := rn_blk rfl
theorem b_M_chosen_7 : Rj d 185 7 ls st h Q = Rn d (185, [.iload 4, .iload 1, .if_icmp .gt 133], 13, ls, st) h Q := rn_blk rfl
theorem b_M_chosen_13 : Rj d 185 13 ls st h Q = Rn d (185, [.iconst (-1), .istore 3, .aload 0, .getfield 776, .iconst 1, .isub, .istore 5], 23, ls, st) h Q := rn_blk rfl
theorem b_M_chosen_23 : Rj d 185 23 ls st h Q = Rn d (185, [.iload 5, .ifCond .lt 112], 28, ls, st) h Q := rn_blk rfl
theorem b_M_chosen_28 : Rj d 185 28 ls st h Q = Rn d (185, [.iload 2, .iload 5, .ishr, .iconst 1, .iand, .ifCond .ne 91], 37, ls, st) h Q := rn_blk rfl
theorem b_M_chosen_37 : Rj d 185 37 ls st h Q = Rn d (185, [.aload 0, .getfield 807, .iconst 10, .iload 4, .imul, .iload 5, .iadd, .iaload, .aload 0, .getfield 808, .iconst 1024, .iload 4, .iconst 1, .iadd, .imul, .iload 2, .iconst 1, .iload 5, .ishl, .ior, .iadd, .iaload, .iadd, .aload 0, .getfield 808, .iconst 1024, .iload 4, .imul, .iload 2, .iadd, .iaload, .if_icmp .ne 91], 87, ls, st) h Q := rn_blk rfl
theorem b_M_chosen_87 : Rj d 185 87 ls st h Q = Rn d (185, [.iconst 1, .goto 92], 0, ls, st) h Q := rn_blk rfl
theorem b_M_chosen_91 : Rj d 185 91 ls st h Q = Rn d (185, [.iconst 0], 92, ls, st) h Q := rn_blk rfl
theorem b_M_chosen_92 : Rj d 185 92 ls st h Q = Rn d (185, [.istore 6, .iload 6, .ifCond .eq 104], 99, ls, st) h Q := rn_blk rfl
theorem b_M_chosen_99 : Rj d 185 99 ls st h Q = Rn d (185, [.iload 5, .goto 105], 0, ls, st) h Q := rn_blk rfl
theorem b_M_chosen_104 : Rj d 185 104 ls st h Q = Rn d (185, [.iload 3], 105, ls, st) h Q := rn_blk rfl
theorem b_M_chosen_105 : Rj d 185 105 ls st h Q = Rn d (185, [.istore 3, .iinc 5 (-1), .goto 23], 0, ls, st) h Q := rn_blk rfl
theorem b_M_chosen_112 : Rj d 185 112 ls st h Q = Rn d (185, [.iload 2, .iload 3, .iconst (-1), .if_icmp .ne 122], 118, ls, st) h Q := rn_blk rfl
theorem b_M_chosen_118 : Rj d 185 118 ls st h Q = Rn d (185, [.iconst 0, .goto 125], 0, ls, st) h Q := rn_blk rfl
theorem b_M_chosen_122 : Rj d 185 122 ls st h Q = Rn d (185, [.iconst 1, .iload 3, .ishl], 125, ls, st) h Q := rn_blk rfl
theorem b_M_chosen_125 : Rj d 185 125 ls st h Q = Rn d (185, [.ior, .istore 2, .iinc 4 1, .goto 7], 0, ls, st) h Q := rn_blk rfl
theorem b_M_chosen_133 : Rj d 185 133 ls st h Q = Rn d (185, [.iload 3, .ireturn], 0, ls, st) h Q := rn_blk rfl
theorem b_M_count_0 : Rj d 186 0 ls st h Q = Rn d (186, [.aload 0, .iload 1, .invokevirtual 187, .ireturn], 0, ls, st) h Q := rn_blk rfl
theorem b_M_countOf_0 : Rj d 187 0 ls st h Q = Rn d (187, [.iconst 0, .istore 2, .iload 1, .tableswitch 126 0 9 #[56, 61, 86, 91, 96, 101, 106, 111, 116, 121]], 0, ls, st) h Q := rn_blk rfl
theorem b_M_countOf_56 : Rj d 187 56 ls st h Q = Rn d (187, [.aload 0, .getfield 768, .ireturn], 0, ls, st) h Q := rn_blk rfl
theorem b_M_countOf_61 : Rj d 187 61 ls st h Q = Rn d (187, [.iconst 0, .istore 3], 63, ls, st) h Q := rn_blk rfl
theorem b_M_countOf_63 : Rj d 187 63 ls st h Q = Rn d (187, [.iload 3, .iconst 16, .if_icmp .ge 84], 69, ls, st) h Q := rn_blk rfl
theorem b_M_countOf_69 : Rj d 187 69 ls st h Q = Rn d (187, [.iload 2, .aload 0, .getfield 770, .iload 3, .iaload, .iadd, .istore 2, .iinc 3 1, .goto 63], 0, ls, st) h Q := rn_blk rfl
theorem b_M_countOf_84 : Rj d 187 84 ls st h Q = Rn d (187, [.iload 2, .ireturn], 0, ls, st) h Q := rn_blk rfl
theorem b_M_countOf_86 : Rj d 187 86 ls st h Q = Rn d (187, [.aload 0, .getfield 772, .ireturn], 0, ls, st) h Q := rn_blk rfl
theorem b_M_countOf_91 : Rj d 187 91 ls st h Q = Rn d (187, [.aload 0, .getfield 776, .ireturn], 0, ls, st) h Q := rn_blk rfl
theorem b_M_countOf_96 : Rj d 187 96 ls st h Q = Rn d (187, [.aload 0, .getfield 782, .ireturn], 0, ls, st) h Q := rn_blk rfl
theorem b_M_countOf_101 : Rj d 187 101 ls st h Q = Rn d (187, [.aload 0, .getfield 786, .ireturn], 0, ls, st) h Q := rn_blk rfl
theorem b_M_countOf_106 : Rj d 187 106 ls st h Q = Rn d (187, [.aload 0, .getfield 790, .ireturn], 0, ls, st) h Q := rn_blk rfl
theorem b_M_countOf_111 : Rj d 187 111 ls st h Q = Rn d (187, [.aload 0, .getfield 789, .ireturn], 0, ls, st) h Q := rn_blk rfl
theorem b_M_countOf_116 : Rj d 187 116 ls st h Q = Rn d (187, [.aload 0, .getfield 779, .ireturn], 0, ls, st) h Q := rn_blk rfl
theorem b_M_countOf_121 : Rj d 187 121 ls st h Q = Rn d (187, [.aload 0, .getfield 804, .ireturn], 0, ls, st) h Q := rn_blk rfl
theorem b_M_countOf_126 : Rj d 187 126 ls st h Q = Rn d (187, [.iconst (-102), .ireturn], 0, ls, st) h Q := rn_blk rfl
theorem b_M_digest_0 : Rj d 188 0 ls st h Q = Rn d (188, [.aload 0, .ldc2_w 349, .putfield 13097, .aload 0, .invokevirtual 189, .iconst 0, .istore 1], 13, ls, st) h Q := rn_blk rfl
theorem b_M_digest_13 : Rj d 188 13 ls st h Q = Rn d (188, [.iload 1, .aload 0, .getfield 786, .if_icmp .ge 81], 21, ls, st) h Q := rn_blk rfl
theorem b_M_digest_21 : Rj d 188 21 ls st h Q = Rn d (188, [.aload 0, .getfield 768, .ifCond .le 81], 28, ls, st) h Q := rn_blk rfl
theorem b_M_digest_28 : Rj d 188 28 ls st h Q = Rn d (188, [.iconst 0, .istore 2], 30, ls, st) h Q := rn_blk rfl
theorem b_M_digest_30 : Rj d 188 30 ls st h Q = Rn d (188, [.iload 2, .aload 0, .getfield 776, .if_icmp .ge 75], 38, ls, st) h Q := rn_blk rfl
theorem b_M_digest_38 : Rj d 188 38 ls st h Q = Rn d (188, [.aload 0, .aload 0, .iload 2, .iconst 0, .iload 1, .invokevirtual 164, .ifCond .eq 53], 49, ls, st) h Q := rn_blk rfl
theorem b_M_digest_49 : Rj d 188 49 ls st h Q = Rn d (188, [.ldc2_w 1, .goto 54], 0, ls, st) h Q := rn_blk rfl
theorem b_M_digest_53 : Rj d 188 53 ls st h Q = Rn d (188, [.ldc2_w 0], 54, ls, st) h Q := rn_blk rfl
theorem b_M_digest_54 : Rj d 188 54 ls st h Q = Rn d (188, [.invokevirtual 190, .aload 0, .aload 0, .iload 2, .iconst 0, .iload 1, .invokevirtual 162, .i2l, .invokevirtual 190, .iinc 2 1, .goto 30], 0, ls, st) h Q := rn_blk rfl
theorem b_M_digest_75 : Rj d 188 75 ls st h Q = Rn d (188, [.iinc 1 1, .goto 13], 0, ls, st) h Q := rn_blk rfl
theorem b_M_digest_81 : Rj d 188 81 ls st h Q = Rn d (188, [.iconst 0, .istore 1], 83, ls, st) h Q := rn_blk rfl
theorem b_M_digest_83 : Rj d 188 83 ls st h Q = Rn d (188, [.iload 1, .iconst 8, .if_icmp .ge 106], 89, ls, st) h Q := rn_blk rfl
theorem b_M_digest_89 : Rj d 188 89 ls st h Q = Rn d (188, [.aload 0, .aload 0, .getfield 793, .iload 1, .iaload, .i2l, .invokevirtual 190, .iinc 1 1, .goto 83], 0, ls, st) h Q := rn_blk rfl
theorem b_M_digest_106 : Rj d 188 106 ls st h Q = Rn d (188, [.aload 0, .getfield 790, .ifCond .le 148], 113, ls, st) h Q := rn_blk rfl
theorem b_M_digest_113 : Rj d 188 113 ls st h Q = Rn d (188, [.aload 0, .aload 0, .invokevirtual 176, .i2l, .invokevirtual 190, .iconst 0, .istore 1], 124, ls, st) h Q := rn_blk rfl
theorem b_M_digest_124 : Rj d 188 124 ls st h Q = Rn d (188, [.iload 1, .aload 0, .getfield 790, .if_icmp .ge 148], 132, ls, st) h Q := rn_blk rfl
theorem b_M_digest_132 : Rj d 188 132 ls st h Q = Rn d (188, [.aload 0, .aload 0, .iload 1, .invokevirtual 178, .i2l, .invokevirtual 190, .iinc 1 1, .goto 124], 0, ls, st) h Q := rn_blk rfl
theorem b_M_digest_148 : Rj d 188 148 ls st h Q = Rn d (188, [.iconst 0, .istore 1], 150, ls, st) h Q := rn_blk rfl
theorem b_M_digest_150 : Rj d 188 150 ls st h Q = Rn d (188, [.iload 1, .aload 0, .getfield 789, .if_icmp .ge 175], 158, ls, st) h Q := rn_blk rfl
theorem b_M_digest_158 : Rj d 188 158 ls st h Q = Rn d (188, [.aload 0, .aload 0, .getfield 788, .iload 1, .iaload, .i2l, .invokevirtual 190, .iinc 1 1, .goto 150], 0, ls, st) h Q := rn_blk rfl
theorem b_M_digest_175 : Rj d 188 175 ls st h Q = Rn d (188, [.iconst 0, .istore 1], 177, ls, st) h Q := rn_blk rfl
theorem b_M_digest_177 : Rj d 188 177 ls st h Q = Rn d (188, [.iload 1, .iconst 10, .if_icmp .ge 199], 183, ls, st) h Q := rn_blk rfl
theorem b_M_digest_183 : Rj d 188 183 ls st h Q = Rn d (188, [.aload 0, .aload 0, .iload 1, .invokevirtual 187, .i2l, .invokevirtual 190, .iinc 1 1, .goto 177], 0, ls, st) h Q := rn_blk rfl
theorem b_M_digest_199 : Rj d 188 199 ls st h Q = Rn d (188, [.aload 0, .getfield 809, .lreturn], 0, ls, st) h Q := rn_blk rfl
theorem b_M_tellSaid_0 : Rj d 189 0 ls st h Q = Rn d (189, [.iconst 0, .istore 1], 2, ls, st) h Q := rn_blk rfl
theorem b_M_tellSaid_2 : Rj d 189 2 ls st h Q = Rn d (189, [.iload 1, .aload 0, .getfield 768, .if_icmp .ge 27], 10, ls, st) h Q := rn_blk rfl
theorem b_M_tellSaid_10 : Rj d 189 10 ls st h Q = Rn d (189, [.aload 0, .aload 0, .getfield 769, .iload 1, .iaload, .i2l, .invokevirtual 190, .iinc 1 1, .goto 2], 0, ls, st) h Q := rn_blk rfl
theorem b_M_tellSaid_27 : Rj d 189 27 ls st h Q = Rn d (189, [.iconst 0, .istore 1], 29, ls, st) h Q := rn_blk rfl
theorem b_M_tellSaid_29 : Rj d 189 29 ls st h Q = Rn d (189, [.iload 1, .iconst 16, .if_icmp .ge 74], 35, ls, st) h Q := rn_blk rfl
theorem b_M_tellSaid_35 : Rj d 189 35 ls st h Q = Rn d (189, [.iconst 0, .istore 2], 37, ls, st) h Q := rn_blk rfl
theorem b_M_tellSaid_37 : Rj d 189 37 ls st h Q = Rn d (189, [.iload 2, .aload 0, .getfield 770, .iload 1, .iaload, .if_icmp .ge 68], 47, ls, st) h Q := rn_blk rfl
theorem b_M_tellSaid_47 : Rj d 189 47 ls st h Q = Rn d (189, [.aload 0, .aload 0, .getfield 771, .iconst 3, .iload 1, .imul, .iload 2, .iadd, .iaload, .i2l, .invokevirtual 190, .iinc 2 1, .goto 37], 0, ls, st) h Q := rn_blk rfl
theorem b_M_tellSaid_68 : Rj d 189 68 ls st h Q = Rn d (189, [.iinc 1 1, .goto 29], 0, ls, st) h Q := rn_blk rfl
theorem b_M_tellSaid_74 : Rj d 189 74 ls st h Q = Rn d (189, [.iconst 0, .istore 1], 76, ls, st) h Q := rn_blk rfl
theorem b_M_tellSaid_76 : Rj d 189 76 ls st h Q = Rn d (189, [.iload 1, .aload 0, .getfield 772, .if_icmp .ge 152], 84, ls, st) h Q := rn_blk rfl
theorem b_M_tellSaid_84 : Rj d 189 84 ls st h Q = Rn d (189, [.aload 0, .aload 0, .getfield 773, .iload 1, .iaload, .i2l, .invokevirtual 190, .aload 0, .aload 0, .getfield 774, .iload 1, .iaload, .i2l, .invokevirtual 190, .aload 0, .aload 0, .getfield 775, .iload 1, .iaload, .i2l, .invokevirtual 190, .iconst 0, .istore 2], 119, ls, st) h Q := rn_blk rfl
theorem b_M_tellSaid_119 : Rj d 189 119 ls st h Q = Rn d (189, [.iload 2, .aload 0, .getfield 768, .if_icmp .ge 146], 127, ls, st) h Q := rn_blk rfl
theorem b_M_tellSaid_127 : Rj d 189 127 ls st h Q = Rn d (189, [.aload 0, .aload 0, .iload 1, .iload 2, .iconst 7, .invokevirtual 136, .i2l, .invokevirtual 190, .iinc 2 1, .goto 119], 0, ls, st) h Q := rn_blk rfl
theorem b_M_tellSaid_146 : Rj d 189 146 ls st h Q = Rn d (189, [.iinc 1 1, .goto 76], 0, ls, st) h Q := rn_blk rfl
theorem b_M_tellSaid_152 : Rj d 189 152 ls st h Q = Rn d (189, [.iconst 0, .istore 1], 154, ls, st) h Q := rn_blk rfl
theorem b_M_tellSaid_154 : Rj d 189 154 ls st h Q = Rn d (189, [.iload 1, .aload 0, .getfield 776, .if_icmp .ge 264], 162, ls, st) h Q := rn_blk rfl
theorem b_M_tellSaid_162 : Rj d 189 162 ls st h Q = Rn d (189, [.iconst 0, .istore 2], 164, ls, st) h Q := rn_blk rfl
theorem b_M_tellSaid_164 : Rj d 189 164 ls st h Q = Rn d (189, [.iload 2, .aload 0, .getfield 777, .iload 1, .iaload, .if_icmp .ge 196], 174, ls, st) h Q := rn_blk rfl
theorem b_M_tellSaid_174 : Rj d 189 174 ls st h Q = Rn d (189, [.aload 0, .aload 0, .getfield 778, .iconst 6, .iload 1, .imul, .iload 2, .iadd, .iaload, .i2l, .invokevirtual 190, .iinc 2 1, .goto 164], 0, ls, st) h Q := rn_blk rfl
theorem b_M_tellSaid_196 : Rj d 189 196 ls st h Q = Rn d (189, [.aload 0, .aload 0, .iload 1, .invokevirtual 144, .i2l, .invokevirtual 190, .iconst 0, .istore 2], 208, ls, st) h Q := rn_blk rfl
theorem b_M_tellSaid_208 : Rj d 189 208 ls st h Q = Rn d (189, [.iload 2, .aload 0, .getfield 782, .if_icmp .ge 258], 216, ls, st) h Q := rn_blk rfl
theorem b_M_tellSaid_216 : Rj d 189 216 ls st h Q = Rn d (189, [.aload 0, .aload 0, .iload 2, .iload 1, .invokevirtual 155, .i2l, .invokevirtual 190, .aload 0, .aload 0, .getfield 785, .i2l, .invokevirtual 190, .aload 0, .aload 0, .getfield 807, .iconst 10, .iload 2, .imul, .iload 1, .iadd, .iaload, .i2l, .invokevirtual 190, .iinc 2 1, .goto 208], 0, ls, st) h Q := rn_blk rfl
theorem b_M_tellSaid_258 : Rj d 189 258 ls st h Q = Rn d (189, [.iinc 1 1, .goto 154], 0, ls, st) h Q := rn_blk rfl
theorem b_M_tellSaid_264 : Rj d 189 264 ls st h Q = Rn d (189, [.return_], 0, ls, st) h Q := rn_blk rfl
theorem b_M_tell_0 : Rj d 190 0 ls st h Q = Rn d (190, [.aload 0, .ldc2_w 31, .aload 0, .getfield 809, .lmul, .lload 1, .ladd, .putfield 13097, .return_], 0, ls, st) h Q := rn_blk rfl
theorem b_Arrays_fill_0 : Rj d 191 0 ls st h Q = Rn d (191, [.iconst 0, .istore 2, .aload 0, .arraylength, .istore 3], 5, ls, st) h Q := rn_blk rfl
theorem b_Arrays_fill_5 : Rj d 191 5 ls st h Q = Rn d (191, [.iload 2, .iload 3, .if_icmp .ge 20], 10, ls, st) h Q := rn_blk rfl
theorem b_Arrays_fill_10 : Rj d 191 10 ls st h Q = Rn d (191, [.aload 0, .iload 2, .iload 1, .iastore, .iinc 2 1, .goto 5], 0, ls, st) h Q := rn_blk rfl
theorem b_Arrays_fill_20 : Rj d 191 20 ls st h Q = Rn d (191, [.return_], 0, ls, st) h Q := rn_blk rfl
theorem b_Integer_bitCount_0 : Rj d 192 0 ls st h Q = Rn d (192, [.iload 0, .iload 0, .iconst 1, .iushr, .iconst 1431655765, .iand, .isub, .istore 0, .iload 0, .iconst 858993459, .iand, .iload 0, .iconst 2, .iushr, .iconst 858993459, .iand, .iadd, .istore 0, .iload 0, .iload 0, .iconst 4, .iushr, .iadd, .iconst 252645135, .iand, .istore 0, .iload 0, .iload 0, .iconst 8, .iushr, .iadd, .istore 0, .iload 0, .iload 0, .iconst 16, .iushr, .iadd, .istore 0, .iload 0, .iconst 63, .iand, .ireturn], 0, ls, st) h Q := rn_blk rfl
theorem b_Arrays_fill_L_0 : Rj d 193 0 ls st h Q = Rn d (193, [.iconst 0, .istore 3, .aload 0, .arraylength, .istore 4], 6, ls, st) h Q := rn_blk rfl
theorem b_Arrays_fill_L_6 : Rj d 193 6 ls st h Q = Rn d (193, [.iload 3, .iload 4, .if_icmp .ge 22], 12, ls, st) h Q := rn_blk rfl
theorem b_Arrays_fill_L_12 : Rj d 193 12 ls st h Q = Rn d (193, [.aload 0, .iload 3, .lload 1, .lastore, .iinc 3 1, .goto 6], 0, ls, st) h Q := rn_blk rfl
theorem b_Arrays_fill_L_22 : Rj d 193 22 ls st h Q = Rn d (193, [.return_], 0, ls, st) h Q := rn_blk rfl
theorem b_Law_law_0 : Rj d 194 0 ls st h Q = Rn d (194, [.new 11, .dup, .invokespecial 79, .astore 1, .new 12, .dup, .invokespecial 125, .astore 2, .iconst 0, .istore 3], 18, ls, st) h Q := rn_blk rfl
theorem b_Law_law_18 : Rj d 194 18 ls st h Q = Rn d (194, [.iload 3, .aload 0, .arraylength, .iconst 5, .isub, .if_icmp .gt 1212], 26, ls, st) h Q := rn_blk rfl
theorem b_Law_law_26 : Rj d 194 26 ls st h Q = Rn d (194, [.aload 0, .iload 3, .iaload, .iconst 63, .iand, .tableswitch 1206 0 32 #[180, 203, 236, 269, 312, 345, 378, 401, 434, 467, 490, 523, 566, 599, 632, 665, 708, 731, 764, 777, 846, 899, 932, 985, 998, 1011, 1024, 1057, 1080, 1103, 1146, 1169, 1192]], 0, ls, st) h Q := rn_blk rfl
theorem b_Law_law_180 : Rj d 194 180 ls st h Q = Rn d (194, [.aload 1, .aload 0, .iload 3, .iconst 1, .iadd, .iaload, .invokevirtual 80, .aload 2, .aload 0, .iload 3, .iconst 1, .iadd, .iaload, .invokevirtual 126, .if_icmp .eq 1206], 201, ls, st) h Q := rn_blk rfl
theorem b_Law_law_201 : Rj d 194 201 ls st h Q = Rn d (194, [.iconst 0, .freturn], 0, ls, st) h Q := rn_blk rfl
theorem b_Law_law_203 : Rj d 194 203 ls st h Q = Rn d (194, [.aload 1, .aload 0, .iload 3, .iconst 1, .iadd, .iaload, .aload 0, .iload 3, .iconst 2, .iadd, .iaload, .invokevirtual 81, .aload 2, .aload 0, .iload 3, .iconst 1, .iadd, .iaload, .aload 0, .iload 3, .iconst 2, .iadd, .iaload, .invokevirtual 128, .if_icmp .eq 1206], 234, ls, st) h Q := rn_blk rfl
theorem b_Law_law_234 : Rj d 194 234 ls st h Q = Rn d (194, [.iconst 0, .freturn], 0, ls, st) h Q := rn_blk rfl
theorem b_Law_law_236 : Rj d 194 236 ls st h Q = Rn d (194, [.aload 1, .aload 0, .iload 3, .iconst 1, .iadd, .iaload, .aload 0, .iload 3, .iconst 2, .iadd, .iaload, .invokevirtual 83, .aload 2, .aload 0, .iload 3, .iconst 1, .iadd, .iaload, .aload 0, .iload 3, .iconst 2, .iadd, .iaload, .invokevirtual 130, .if_icmp .eq 1206], 267, ls, st) h Q := rn_blk rfl
theorem b_Law_law_267 : Rj d 194 267 ls st h Q = Rn d (194, [.iconst 0, .freturn], 0, ls, st) h Q := rn_blk rfl
theorem b_Law_law_269 : Rj d 194 269 ls st h Q = Rn d (194, [.aload 1, .aload 0, .iload 3, .iconst 1, .iadd, .iaload, .aload 0, .iload 3, .iconst 2, .iadd, .iaload, .aload 0, .iload 3, .iconst 3, .iadd, .iaload, .invokevirtual 84, .aload 2, .aload 0, .iload 3, .iconst 1, .iadd, .iaload, .aload 0, .iload 3, .iconst 2, .iadd, .iaload, .aload 0, .iload 3, .iconst 3, .iadd, .iaload, .invokevirtual 131, .if_icmp .eq 1206], 310, ls, st) h Q := rn_blk rfl
theorem b_Law_law_310 : Rj d 194 310 ls st h Q = Rn d (194, [.iconst 0, .freturn], 0, ls, st) h Q := rn_blk rfl
theorem b_Law_law_312 : Rj d 194 312 ls st h Q = Rn d (194, [.aload 1, .aload 0, .iload 3, .iconst 1, .iadd, .iaload, .aload 0, .iload 3, .iconst 2, .iadd, .iaload, .invokevirtual 86, .aload 2, .aload 0, .iload 3, .iconst 1, .iadd, .iaload, .aload 0, .iload 3, .iconst 2, .iadd, .iaload, .invokevirtual 132, .if_icmp .eq 1206], 343, ls, st) h Q := rn_blk rfl
theorem b_Law_law_343 : Rj d 194 343 ls st h Q = Rn d (194, [.iconst 0, .freturn], 0, ls, st) h Q := rn_blk rfl
theorem b_Law_law_345 : Rj d 194 345 ls st h Q = Rn d (194, [.aload 1, .aload 0, .iload 3, .iconst 1, .iadd, .iaload, .aload 0, .iload 3, .iconst 2, .iadd, .iaload, .invokevirtual 88, .aload 2, .aload 0, .iload 3, .iconst 1, .iadd, .iaload, .aload 0, .iload 3, .iconst 2, .iadd, .iaload, .invokevirtual 134, .if_icmp .eq 1206], 376, ls, st) h Q := rn_blk rfl
theorem b_Law_law_376 : Rj d 194 376 ls st h Q = Rn d (194, [.iconst 0, .freturn], 0, ls, st) h Q := rn_blk rfl
theorem b_Law_law_378 : Rj d 194 378 ls st h Q = Rn d (194, [.aload 1, .aload 0, .iload 3, .iconst 1, .iadd, .iaload, .invokevirtual 90, .aload 2, .aload 0, .iload 3, .iconst 1, .iadd, .iaload, .invokevirtual 139, .if_icmp .eq 1206], 399, ls, st) h Q := rn_blk rfl
theorem b_Law_law_399 : Rj d 194 399 ls st h Q = Rn d (194, [.iconst 0, .freturn], 0, ls, st) h Q := rn_blk rfl
theorem b_Law_law_401 : Rj d 194 401 ls st h Q = Rn d (194, [.aload 1, .aload 0, .iload 3, .iconst 1, .iadd, .iaload, .aload 0, .iload 3, .iconst 2, .iadd, .iaload, .invokevirtual 91, .aload 2, .aload 0, .iload 3, .iconst 1, .iadd, .iaload, .aload 0, .iload 3, .iconst 2, .iadd, .iaload, .invokevirtual 140, .if_icmp .eq 1206], 432, ls, st) h Q := rn_blk rfl
theorem b_Law_law_432 : Rj d 194 432 ls st h Q = Rn d (194, [.iconst 0, .freturn], 0, ls, st) h Q := rn_blk rfl
theorem b_Law_law_434 : Rj d 194 434 ls st h Q = Rn d (194, [.aload 1, .aload 0, .iload 3, .iconst 1, .iadd, .iaload, .aload 0, .iload 3, .iconst 2, .iadd, .iaload, .invokevirtual 93, .aload 2, .aload 0, .iload 3, .iconst 1, .iadd, .iaload, .aload 0, .iload 3, .iconst 2, .iadd, .iaload, .invokevirtual 142, .if_icmp .eq 1206], 465, ls, st) h Q := rn_blk rfl
theorem b_Law_law_465 : Rj d 194 465 ls st h Q = Rn d (194, [.iconst 0, .freturn], 0, ls, st) h Q := rn_blk rfl
theorem b_Law_law_467 : Rj d 194 467 ls st h Q = Rn d (194, [.aload 1, .aload 0, .iload 3, .iconst 1, .iadd, .iaload, .invokevirtual 94, .aload 2, .aload 0, .iload 3, .iconst 1, .iadd, .iaload, .invokevirtual 143, .if_icmp .eq 1206], 488, ls, st) h Q := rn_blk rfl
theorem b_Law_law_488 : Rj d 194 488 ls st h Q = Rn d (194, [.iconst 0, .freturn], 0, ls, st) h Q := rn_blk rfl
theorem b_Law_law_490 : Rj d 194 490 ls st h Q = Rn d (194, [.aload 1, .aload 0, .iload 3, .iconst 1, .iadd, .iaload, .aload 0, .iload 3, .iconst 2, .iadd, .iaload, .invokevirtual 95, .aload 2, .aload 0, .iload 3, .iconst 1, .iadd, .iaload, .aload 0, .iload 3, .iconst 2, .iadd, .iaload, .invokevirtual 146, .if_icmp .eq 1206], 521, ls, st) h Q := rn_blk rfl
theorem b_Law_law_521 : Rj d 194 521 ls st h Q = Rn d (194, [.iconst 0, .freturn], 0, ls, st) h Q := rn_blk rfl
theorem b_Law_law_523 : Rj d 194 523 ls st h Q = Rn d (194, [.aload 1, .aload 0, .iload 3, .iconst 1, .iadd, .iaload, .aload 0, .iload 3, .iconst 2, .iadd, .iaload, .aload 0, .iload 3, .iconst 3, .iadd, .iaload, .invokevirtual 96, .aload 2, .aload 0, .iload 3, .iconst 1, .iadd, .iaload, .aload 0, .iload 3, .iconst 2, .iadd, .iaload, .aload 0, .iload 3, .iconst 3, .iadd, .iaload, .invokevirtual 148, .if_icmp .eq 1206], 564, ls, st) h Q := rn_blk rfl
theorem b_Law_law_564 : Rj d 194 564 ls st h Q = Rn d (194, [.iconst 0, .freturn], 0, ls, st) h Q := rn_blk rfl
theorem b_Law_law_566 : Rj d 194 566 ls st h Q = Rn d (194, [.aload 1, .aload 0, .iload 3, .iconst 1, .iadd, .iaload, .aload 0, .iload 3, .iconst 2, .iadd, .iaload, .invokevirtual 97, .aload 2, .aload 0, .iload 3, .iconst 1, .iadd, .iaload, .aload 0, .iload 3, .iconst 2, .iadd, .iaload, .invokevirtual 149, .if_icmp .eq 1206], 597, ls, st) h Q := rn_blk rfl
theorem b_Law_law_597 : Rj d 194 597 ls st h Q = Rn d (194, [.iconst 0, .freturn], 0, ls, st) h Q := rn_blk rfl
theorem b_Law_law_599 : Rj d 194 599 ls st h Q = Rn d (194, [.aload 1, .aload 0, .iload 3, .iconst 1, .iadd, .iaload, .aload 0, .iload 3, .iconst 2, .iadd, .iaload, .invokevirtual 98, .aload 2, .aload 0, .iload 3, .iconst 1, .iadd, .iaload, .aload 0, .iload 3, .iconst 2, .iadd, .iaload, .invokevirtual 150, .if_icmp .eq 1206], 630, ls, st) h Q := rn_blk rfl
theorem b_Law_law_630 : Rj d 194 630 ls st h Q = Rn d (194, [.iconst 0, .freturn], 0, ls, st) h Q := rn_blk rfl
theorem b_Law_law_632 : Rj d 194 632 ls st h Q = Rn d (194, [.aload 1, .aload 0, .iload 3, .iconst 1, .iadd, .iaload, .aload 0, .iload 3, .iconst 2, .iadd, .iaload, .invokevirtual 99, .aload 2, .aload 0, .iload 3, .iconst 1, .iadd, .iaload, .aload 0, .iload 3, .iconst 2, .iadd, .iaload, .invokevirtual 152, .if_icmp .eq 1206], 663, ls, st) h Q := rn_blk rfl
theorem b_Law_law_663 : Rj d 194 663 ls st h Q = Rn d (194, [.iconst 0, .freturn], 0, ls, st) h Q := rn_blk rfl
theorem b_Law_law_665 : Rj d 194 665 ls st h Q = Rn d (194, [.aload 1, .aload 0, .iload 3, .iconst 1, .iadd, .iaload, .aload 0, .iload 3, .iconst 2, .iadd, .iaload, .aload 0, .iload 3, .iconst 3, .iadd, .iaload, .invokevirtual 100, .aload 2, .aload 0, .iload 3, .iconst 1, .iadd, .iaload, .aload 0, .iload 3, .iconst 2, .iadd, .iaload, .aload 0, .iload 3, .iconst 3, .iadd, .iaload, .invokevirtual 153, .if_icmp .eq 1206], 706, ls, st) h Q := rn_blk rfl
theorem b_Law_law_706 : Rj d 194 706 ls st h Q = Rn d (194, [.iconst 0, .freturn], 0, ls, st) h Q := rn_blk rfl
theorem b_Law_law_708 : Rj d 194 708 ls st h Q = Rn d (194, [.aload 1, .aload 0, .iload 3, .iconst 1, .iadd, .iaload, .invokevirtual 102, .aload 2, .aload 0, .iload 3, .iconst 1, .iadd, .iaload, .invokevirtual 156, .if_icmp .eq 1206], 729, ls, st) h Q := rn_blk rfl
theorem b_Law_law_729 : Rj d 194 729 ls st h Q = Rn d (194, [.iconst 0, .freturn], 0, ls, st) h Q := rn_blk rfl
theorem b_Law_law_731 : Rj d 194 731 ls st h Q = Rn d (194, [.aload 1, .aload 0, .iload 3, .iconst 1, .iadd, .iaload, .aload 0, .iload 3, .iconst 2, .iadd, .iaload, .invokevirtual 103, .aload 2, .aload 0, .iload 3, .iconst 1, .iadd, .iaload, .aload 0, .iload 3, .iconst 2, .iadd, .iaload, .invokevirtual 157, .if_icmp .eq 1206], 762, ls, st) h Q := rn_blk rfl
theorem b_Law_law_762 : Rj d 194 762 ls st h Q = Rn d (194, [.iconst 0, .freturn], 0, ls, st) h Q := rn_blk rfl
theorem b_Law_law_764 : Rj d 194 764 ls st h Q = Rn d (194, [.aload 1, .invokevirtual 104, .aload 2, .invokevirtual 158, .if_icmp .eq 1206], 775, ls, st) h Q := rn_blk rfl
theorem b_Law_law_775 : Rj d 194 775 ls st h Q = Rn d (194, [.iconst 0, .freturn], 0, ls, st) h Q := rn_blk rfl
theorem b_Law_law_777 : Rj d 194 777 ls st h Q = Rn d (194, [.aload 1, .aload 0, .iload 3, .iconst 1, .iadd, .iaload, .aload 0, .iload 3, .iconst 2, .iadd, .iaload, .aload 0, .iload 3, .iconst 3, .iadd, .iaload, .aload 0, .iload 3, .iconst 4, .iadd, .iaload, .ifCond .eq 805], 801, ls, st) h Q := rn_blk rfl
theorem b_Law_law_801 : Rj d 194 801 ls st h Q = Rn d (194, [.iconst 1, .goto 806], 0, ls, st) h Q := rn_blk rfl
theorem b_Law_law_805 : Rj d 194 805 ls st h Q = Rn d (194, [.iconst 0], 806, ls, st) h Q := rn_blk rfl
theorem b_Law_law_806 : Rj d 194 806 ls st h Q = Rn d (194, [.invokevirtual 105, .aload 2, .aload 0, .iload 3, .iconst 1, .iadd, .iaload, .aload 0, .iload 3, .iconst 2, .iadd, .iaload, .aload 0, .iload 3, .iconst 3, .iadd, .iaload, .aload 0, .iload 3, .iconst 4, .iadd, .iaload, .ifCond .eq 837], 833, ls, st) h Q := rn_blk rfl
theorem b_Law_law_833 : Rj d 194 833 ls st h Q = Rn d (194, [.iconst 1, .goto 838], 0, ls, st) h Q := rn_blk rfl
theorem b_Law_law_837 : Rj d 194 837 ls st h Q = Rn d (194, [.iconst 0], 838, ls, st) h Q := rn_blk rfl
theorem b_Law_law_838 : Rj d 194 838 ls st h Q = Rn d (194, [.invokevirtual 159, .if_icmp .eq 1206], 844, ls, st) h Q := rn_blk rfl
theorem b_Law_law_844 : Rj d 194 844 ls st h Q = Rn d (194, [.iconst 0, .freturn], 0, ls, st) h Q := rn_blk rfl
theorem b_Law_law_846 : Rj d 194 846 ls st h Q = Rn d (194, [.aload 1, .aload 0, .iload 3, .iconst 1, .iadd, .iaload, .aload 0, .iload 3, .iconst 2, .iadd, .iaload, .aload 0, .iload 3, .iconst 3, .iadd, .iaload, .aload 0, .iload 3, .iconst 4, .iadd, .iaload, .invokevirtual 107, .aload 2, .aload 0, .iload 3, .iconst 1, .iadd, .iaload, .aload 0, .iload 3, .iconst 2, .iadd, .iaload, .aload 0, .iload 3, .iconst 3, .iadd, .iaload, .aload 0, .iload 3, .iconst 4, .iadd, .iaload, .invokevirtual 161, .if_icmp .eq 1206], 897, ls, st) h Q := rn_blk rfl
theorem b_Law_law_897 : Rj d 194 897 ls st h Q = Rn d (194, [.iconst 0, .freturn], 0, ls, st) h Q := rn_blk rfl
theorem b_Law_law_899 : Rj d 194 899 ls st h Q = Rn d (194, [.aload 1, .aload 0, .iload 3, .iconst 1, .iadd, .iaload, .aload 0, .iload 3, .iconst 2, .iadd, .iaload, .invokevirtual 108, .aload 2, .aload 0, .iload 3, .iconst 1, .iadd, .iaload, .aload 0, .iload 3, .iconst 2, .iadd, .iaload, .invokevirtual 165, .if_icmp .eq 1206], 930, ls, st) h Q := rn_blk rfl
theorem b_Law_law_930 : Rj d 194 930 ls st h Q = Rn d (194, [.iconst 0, .freturn], 0, ls, st) h Q := rn_blk rfl
theorem b_Law_law_932 : Rj d 194 932 ls st h Q = Rn d (194, [.aload 1, .aload 0, .iload 3, .iconst 1, .iadd, .iaload, .i2l, .iconst 32, .lshl, .aload 0, .iload 3, .iconst 2, .iadd, .iaload, .i2l, .ldc2_w 4294967295, .land, .lor, .invokevirtual 109, .aload 2, .aload 0, .iload 3, .iconst 1, .iadd, .iaload, .i2l, .iconst 32, .lshl, .aload 0, .iload 3, .iconst 2, .iadd, .iaload, .i2l, .ldc2_w 4294967295, .land, .lor, .invokevirtual 166, .if_icmp .eq 1206], 983, ls, st) h Q := rn_blk rfl
theorem b_Law_law_983 : Rj d 194 983 ls st h Q = Rn d (194, [.iconst 0, .freturn], 0, ls, st) h Q := rn_blk rfl
theorem b_Law_law_985 : Rj d 194 985 ls st h Q = Rn d (194, [.aload 1, .invokevirtual 110, .aload 2, .invokevirtual 167, .if_icmp .eq 1206], 996, ls, st) h Q := rn_blk rfl
theorem b_Law_law_996 : Rj d 194 996 ls st h Q = Rn d (194, [.iconst 0, .freturn], 0, ls, st) h Q := rn_blk rfl
theorem b_Law_law_998 : Rj d 194 998 ls st h Q = Rn d (194, [.aload 1, .invokevirtual 111, .aload 2, .invokevirtual 168, .if_icmp .eq 1206], 1009, ls, st) h Q := rn_blk rfl
theorem b_Law_law_1009 : Rj d 194 1009 ls st h Q = Rn d (194, [.iconst 0, .freturn], 0, ls, st) h Q := rn_blk rfl
theorem b_Law_law_1011 : Rj d 194 1011 ls st h Q = Rn d (194, [.aload 1, .invokevirtual 112, .aload 2, .invokevirtual 173, .if_icmp .eq 1206], 1022, ls, st) h Q := rn_blk rfl
theorem b_Law_law_1022 : Rj d 194 1022 ls st h Q = Rn d (194, [.iconst 0, .freturn], 0, ls, st) h Q := rn_blk rfl
theorem b_Law_law_1024 : Rj d 194 1024 ls st h Q = Rn d (194, [.aload 1, .aload 0, .iload 3, .iconst 1, .iadd, .iaload, .aload 0, .iload 3, .iconst 2, .iadd, .iaload, .invokevirtual 113, .aload 2, .aload 0, .iload 3, .iconst 1, .iadd, .iaload, .aload 0, .iload 3, .iconst 2, .iadd, .iaload, .invokevirtual 174, .if_icmp .eq 1206], 1055, ls, st) h Q := rn_blk rfl
theorem b_Law_law_1055 : Rj d 194 1055 ls st h Q = Rn d (194, [.iconst 0, .freturn], 0, ls, st) h Q := rn_blk rfl
theorem b_Law_law_1057 : Rj d 194 1057 ls st h Q = Rn d (194, [.aload 1, .aload 0, .iload 3, .iconst 1, .iadd, .iaload, .invokevirtual 114, .aload 2, .aload 0, .iload 3, .iconst 1, .iadd, .iaload, .invokevirtual 175, .if_icmp .eq 1206], 1078, ls, st) h Q := rn_blk rfl
theorem b_Law_law_1078 : Rj d 194 1078 ls st h Q = Rn d (194, [.iconst 0, .freturn], 0, ls, st) h Q := rn_blk rfl
theorem b_Law_law_1080 : Rj d 194 1080 ls st h Q = Rn d (194, [.aload 1, .aload 0, .iload 3, .iconst 1, .iadd, .iaload, .invokevirtual 115, .aload 2, .aload 0, .iload 3, .iconst 1, .iadd, .iaload, .invokevirtual 179, .if_icmp .eq 1206], 1101, ls, st) h Q := rn_blk rfl
theorem b_Law_law_1101 : Rj d 194 1101 ls st h Q = Rn d (194, [.iconst 0, .freturn], 0, ls, st) h Q := rn_blk rfl
theorem b_Law_law_1103 : Rj d 194 1103 ls st h Q = Rn d (194, [.aload 1, .aload 0, .iload 3, .iconst 1, .iadd, .iaload, .aload 0, .iload 3, .iconst 2, .iadd, .iaload, .aload 0, .iload 3, .iconst 3, .iadd, .iaload, .invokevirtual 117, .aload 2, .aload 0, .iload 3, .iconst 1, .iadd, .iaload, .aload 0, .iload 3, .iconst 2, .iadd, .iaload, .aload 0, .iload 3, .iconst 3, .iadd, .iaload, .invokevirtual 182, .if_icmp .eq 1206], 1144, ls, st) h Q := rn_blk rfl
theorem b_Law_law_1144 : Rj d 194 1144 ls st h Q = Rn d (194, [.iconst 0, .freturn], 0, ls, st) h Q := rn_blk rfl
theorem b_Law_law_1146 : Rj d 194 1146 ls st h Q = Rn d (194, [.aload 1, .aload 0, .iload 3, .iconst 1, .iadd, .iaload, .invokevirtual 118, .aload 2, .aload 0, .iload 3, .iconst 1, .iadd, .iaload, .invokevirtual 183, .if_icmp .eq 1206], 1167, ls, st) h Q := rn_blk rfl
theorem b_Law_law_1167 : Rj d 194 1167 ls st h Q = Rn d (194, [.iconst 0, .freturn], 0, ls, st) h Q := rn_blk rfl
theorem b_Law_law_1169 : Rj d 194 1169 ls st h Q = Rn d (194, [.aload 1, .aload 0, .iload 3, .iconst 1, .iadd, .iaload, .invokevirtual 119, .aload 2, .aload 0, .iload 3, .iconst 1, .iadd, .iaload, .invokevirtual 186, .if_icmp .eq 1206], 1190, ls, st) h Q := rn_blk rfl
theorem b_Law_law_1190 : Rj d 194 1190 ls st h Q = Rn d (194, [.iconst 0, .freturn], 0, ls, st) h Q := rn_blk rfl
theorem b_Law_law_1192 : Rj d 194 1192 ls st h Q = Rn d (194, [.aload 1, .invokevirtual 120, .aload 2, .invokevirtual 188, .lcmp, .ifCond .eq 1206], 1204, ls, st) h Q := rn_blk rfl
theorem b_Law_law_1204 : Rj d 194 1204 ls st h Q = Rn d (194, [.iconst 0, .freturn], 0, ls, st) h Q := rn_blk rfl
theorem b_Law_law_1206 : Rj d 194 1206 ls st h Q = Rn d (194, [.iinc 3 5, .goto 18], 0, ls, st) h Q := rn_blk rfl
theorem b_Law_law_1212 : Rj d 194 1212 ls st h Q = Rn d (194, [.iconst 1, .freturn], 0, ls, st) h Q := rn_blk rfl
theorem c_Changes_init {k : Nat} : Rn (d + 1) (y, .invokespecial 0 :: is, nx, ls, .ref k :: r) h Q = (am_ck (h.2.2 k) 0 = true ∧ rc8 r ∧ Rj d 0 0 [.ref k] [] h (KQ d y is nx ls r Q)) := rn_callx (q := 0) (as := [.ref k]) (r := r) rfl (cl_I (as := []) rfl rfl) rfl (Nat.le_of_ble_eq_true rfl)
theorem c_Changes_least {k : Nat} {a0 : Nat} {a1 : Nat} : Rn (d + 1) (y, .invokevirtual 1 :: is, nx, ls, .ref a1 :: .ref a0 :: .ref k :: r) h Q = (am_ck (h.2.2 k) 0 = true ∧ rc8 r ∧ Rj d 1 0 [.ref k, .ref a0, .ref a1] [] h (KQ d y is nx ls r Q)) := rn_callx (q := 1) (as := [.ref k, .ref a0, .ref a1]) (r := r) rfl (cl_V (as := [.ref a0, .ref a1]) rfl rfl) rfl (Nat.le_of_ble_eq_true rfl)
theorem c_Changes_weighBelow {k : Nat} {a0 : Nat} {a1 : Nat} : Rn (d + 1) (y, .invokevirtual 2 :: is, nx, ls, .ref a1 :: .ref a0 :: .ref k :: r) h Q = (am_ck (h.2.2 k) 0 = true ∧ rc8 r ∧ Rj d 2 0 [.ref k, .ref a0, .ref a1, .null, .null, .null, .null] [] h (KQ d y is nx ls r Q)) := rn_callx (q := 2) (as := [.ref k, .ref a0, .ref a1]) (r := r) rfl (cl_V (as := [.ref a0, .ref a1]) rfl rfl) rfl (Nat.le_of_ble_eq_true rfl)
theorem c_Changes_addToAbove {k : Nat} {a0 : Int32} {a1 : Int32} : Rn (d + 1) (y, .invokevirtual 3 :: is, nx, ls, .int a1 :: .int a0 :: .ref k :: r) h Q = (am_ck (h.2.2 k) 0 = true ∧ rc8 r ∧ Rj d 3 0 [.ref k, .int a0, .int a1, .null, .null] [] h (KQ d y is nx ls r Q)) := rn_callx (q := 3) (as := [.ref k, .int a0, .int a1]) (r := r) rfl (cl_V (as := [.int a0, .int a1]) rfl rfl) rfl (Nat.le_of_ble_eq_true rfl)
theorem c_Changes_leastOf {a0 : Nat} {a1 : Int32} : Rn (d + 1) (y, .invokestatic 4 :: is, nx, ls, .int a1 :: .ref a0 :: r) h Q = (rc8 r ∧ Rj d 4 0 [.ref a0, .int a1, .null, .null] [] h (KQ d y is nx ls r Q)) := (rn_callx (q := 4) (as := [.ref a0, .int a1]) (r := r) rfl (cl_S (as := [.ref a0, .int a1]) rfl rfl) rfl (Nat.le_of_ble_eq_true rfl)).trans (true_and _)
theorem c_Changes_weighAll {k : Nat} {a0 : Nat} {a1 : Nat} : Rn (d + 1) (y, .invokevirtual 5 :: is, nx, ls, .ref a1 :: .ref a0 :: .ref k :: r) h Q = (am_ck (h.2.2 k) 0 = true ∧ rc8 r ∧ Rj d 5 0 [.ref k, .ref a0, .ref a1, .null] [] h (KQ d y is nx ls r Q)) := rn_callx (q := 5) (as := [.ref k, .ref a0, .ref a1]) (r := r) rfl (cl_V (as := [.ref a0, .ref a1]) rfl rfl) rfl (Nat.le_of_ble_eq_true rfl)
theorem c_Changes_weighWhole {k : Nat} {a0 : Int32} {a1 : Int32} : Rn (d + 1) (y, .invokevirtual 6 :: is, nx, ls, .int a1 :: .int a0 :: .ref k :: r) h Q = (am_ck (h.2.2 k) 0 = true ∧ rc8 r ∧ Rj d 6 0 [.ref k, .int a0, .int a1, .null, .null, .null] [] h (KQ d y is nx ls r Q)) := rn_callx (q := 6) (as := [.ref k, .int a0, .int a1]) (r := r) rfl (cl_V (as := [.int a0, .int a1]) rfl rfl) rfl (Nat.le_of_ble_eq_true rfl)
theorem c_Changes_sureOf {k : Nat} {a0 : Int32} : Rn (d + 1) (y, .invokevirtual 7 :: is, nx, ls, .int a0 :: .ref k :: r) h Q = (am_ck (h.2.2 k) 0 = true ∧ rc8 r ∧ Rj d 7 0 [.ref k, .int a0, .null, .null, .null] [] h (KQ d y is nx ls r Q)) := rn_callx (q := 7) (as := [.ref k, .int a0]) (r := r) rfl (cl_V (as := [.int a0]) rfl rfl) rfl (Nat.le_of_ble_eq_true rfl)
theorem c_Deal_init {k : Nat} : Rn (d + 1) (y, .invokespecial 8 :: is, nx, ls, .ref k :: r) h Q = (am_ck (h.2.2 k) 1 = true ∧ rc8 r ∧ Rj d 8 0 [.ref k] [] h (KQ d y is nx ls r Q)) := rn_callx (q := 8) (as := [.ref k]) (r := r) rfl (cl_I (as := []) rfl rfl) rfl (Nat.le_of_ble_eq_true rfl)
theorem c_Deal_countWays {k : Nat} {a0 : Nat} {a1 : Nat} {a2 : Nat} : Rn (d + 1) (y, .invokevirtual 9 :: is, nx, ls, .ref a2 :: .ref a1 :: .ref a0 :: .ref k :: r) h Q = (am_ck (h.2.2 k) 1 = true ∧ rc8 r ∧ Rj d 9 0 [.ref k, .ref a0, .ref a1, .ref a2, .null] [] h (KQ d y is nx ls r Q)) := rn_callx (q := 9) (as := [.ref k, .ref a0, .ref a1, .ref a2]) (r := r) rfl (cl_V (as := [.ref a0, .ref a1, .ref a2]) rfl rfl) rfl (Nat.le_of_ble_eq_true rfl)
theorem c_Deal_dealFrom {a0 : Nat} {a1 : Int32} {a2 : Nat} {a3 : Nat} : Rn (d + 1) (y, .invokestatic 10 :: is, nx, ls, .ref a3 :: .ref a2 :: .int a1 :: .ref a0 :: r) h Q = (rc8 r ∧ Rj d 10 0 [.ref a0, .int a1, .ref a2, .ref a3, .null] [] h (KQ d y is nx ls r Q)) := (rn_callx (q := 10) (as := [.ref a0, .int a1, .ref a2, .ref a3]) (r := r) rfl (cl_S (as := [.ref a0, .int a1, .ref a2, .ref a3]) rfl rfl) rfl (Nat.le_of_ble_eq_true rfl)).trans (true_and _)
theorem c_Deal_hasTwinBefore {k : Nat} {a0 : Int32} : Rn (d + 1) (y, .invokevirtual 11 :: is, nx, ls, .int a0 :: .ref k :: r) h Q = (am_ck (h.2.2 k) 1 = true ∧ rc8 r ∧ Rj d 11 0 [.ref k, .int a0, .null] [] h (KQ d y is nx ls r Q)) := rn_callx (q := 11) (as := [.ref k, .int a0]) (r := r) rfl (cl_V (as := [.int a0]) rfl rfl) rfl (Nat.le_of_ble_eq_true rfl)
theorem c_Heads_init {k : Nat} {a0 : Nat} : Rn (d + 1) (y, .invokespecial 12 :: is, nx, ls, .ref a0 :: .ref k :: r) h Q = (am_ck (h.2.2 k) 2 = true ∧ rc8 r ∧ Rj d 12 0 [.ref k, .ref a0, .null] [] h (KQ d y is nx ls r Q)) := rn_callx (q := 12) (as := [.ref k, .ref a0]) (r := r) rfl (cl_I (as := [.ref a0]) rfl rfl) rfl (Nat.le_of_ble_eq_true rfl)
theorem c_Heads_add {k : Nat} {a0 : Int32} {a1 : Int32} : Rn (d + 1) (y, .invokevirtual 13 :: is, nx, ls, .int a1 :: .int a0 :: .ref k :: r) h Q = (am_ck (h.2.2 k) 2 = true ∧ rc8 r ∧ Rj d 13 0 [.ref k, .int a0, .int a1] [] h (KQ d y is nx ls r Q)) := rn_callx (q := 13) (as := [.ref k, .int a0, .int a1]) (r := r) rfl (cl_V (as := [.int a0, .int a1]) rfl rfl) rfl (Nat.le_of_ble_eq_true rfl)
theorem c_Heads_stageOfAnswer {k : Nat} {a0 : Int32} {a1 : Int32} : Rn (d + 1) (y, .invokevirtual 14 :: is, nx, ls, .int a1 :: .int a0 :: .ref k :: r) h Q = (am_ck (h.2.2 k) 2 = true ∧ rc8 r ∧ Rj d 14 0 [.ref k, .int a0, .int a1, .null, .null] [] h (KQ d y is nx ls r Q)) := rn_callx (q := 14) (as := [.ref k, .int a0, .int a1]) (r := r) rfl (cl_V (as := [.int a0, .int a1]) rfl rfl) rfl (Nat.le_of_ble_eq_true rfl)
theorem c_Heads_secondOf {k : Nat} {a0 : Int32} {a1 : Int32} : Rn (d + 1) (y, .invokevirtual 15 :: is, nx, ls, .int a1 :: .int a0 :: .ref k :: r) h Q = (am_ck (h.2.2 k) 2 = true ∧ rc8 r ∧ Rj d 15 0 [.ref k, .int a0, .int a1] [] h (KQ d y is nx ls r Q)) := rn_callx (q := 15) (as := [.ref k, .int a0, .int a1]) (r := r) rfl (cl_V (as := [.int a0, .int a1]) rfl rfl) rfl (Nat.le_of_ble_eq_true rfl)
theorem c_Heads_answerIn {k : Nat} {a0 : Int32} {a1 : Int32} : Rn (d + 1) (y, .invokevirtual 16 :: is, nx, ls, .int a1 :: .int a0 :: .ref k :: r) h Q = (am_ck (h.2.2 k) 2 = true ∧ rc8 r ∧ Rj d 16 0 [.ref k, .int a0, .int a1, .null] [] h (KQ d y is nx ls r Q)) := rn_callx (q := 16) (as := [.ref k, .int a0, .int a1]) (r := r) rfl (cl_V (as := [.int a0, .int a1]) rfl rfl) rfl (Nat.le_of_ble_eq_true rfl)
theorem c_Heads_unlikePairs {k : Nat} {a0 : Int32} : Rn (d + 1) (y, .invokevirtual 17 :: is, nx, ls, .int a0 :: .ref k :: r) h Q = (am_ck (h.2.2 k) 2 = true ∧ rc8 r ∧ Rj d 17 0 [.ref k, .int a0, .null, .null, .null] [] h (KQ d y is nx ls r Q)) := rn_callx (q := 17) (as := [.ref k, .int a0]) (r := r) rfl (cl_V (as := [.int a0]) rfl rfl) rfl (Nat.le_of_ble_eq_true rfl)
theorem c_Heads_answerOf {k : Nat} {a0 : Int32} {a1 : Int32} : Rn (d + 1) (y, .invokevirtual 18 :: is, nx, ls, .int a1 :: .int a0 :: .ref k :: r) h Q = (am_ck (h.2.2 k) 2 = true ∧ rc8 r ∧ Rj d 18 0 [.ref k, .int a0, .int a1] [] h (KQ d y is nx ls r Q)) := rn_callx (q := 18) (as := [.ref k, .int a0, .int a1]) (r := r) rfl (cl_V (as := [.int a0, .int a1]) rfl rfl) rfl (Nat.le_of_ble_eq_true rfl)
theorem c_Heads_answeringOther {k : Nat} {a0 : Int32} {a1 : Int32} : Rn (d + 1) (y, .invokevirtual 19 :: is, nx, ls, .int a1 :: .int a0 :: .ref k :: r) h Q = (am_ck (h.2.2 k) 2 = true ∧ rc8 r ∧ Rj d 19 0 [.ref k, .int a0, .int a1, .null, .null] [] h (KQ d y is nx ls r Q)) := rn_callx (q := 19) (as := [.ref k, .int a0, .int a1]) (r := r) rfl (cl_V (as := [.int a0, .int a1]) rfl rfl) rfl (Nat.le_of_ble_eq_true rfl)
theorem c_Lore_init {k : Nat} : Rn (d + 1) (y, .invokespecial 20 :: is, nx, ls, .ref k :: r) h Q = (am_ck (h.2.2 k) 3 = true ∧ rc8 r ∧ Rj d 20 0 [.ref k] [] h (KQ d y is nx ls r Q)) := rn_callx (q := 20) (as := [.ref k]) (r := r) rfl (cl_I (as := []) rfl rfl) rfl (Nat.le_of_ble_eq_true rfl)
theorem c_Lore_addThing {k : Nat} {a0 : Int32} : Rn (d + 1) (y, .invokevirtual 21 :: is, nx, ls, .int a0 :: .ref k :: r) h Q = (am_ck (h.2.2 k) 3 = true ∧ rc8 r ∧ Rj d 21 0 [.ref k, .int a0, .null, .null, .null] [] h (KQ d y is nx ls r Q)) := rn_callx (q := 21) (as := [.ref k, .int a0]) (r := r) rfl (cl_V (as := [.int a0]) rfl rfl) rfl (Nat.le_of_ble_eq_true rfl)
theorem c_Lore_fitAnew {k : Nat} : Rn (d + 1) (y, .invokevirtual 22 :: is, nx, ls, .ref k :: r) h Q = (am_ck (h.2.2 k) 3 = true ∧ rc8 r ∧ Rj d 22 0 [.ref k, .null, .null] [] h (KQ d y is nx ls r Q)) := rn_callx (q := 22) (as := [.ref k]) (r := r) rfl (cl_V (as := []) rfl rfl) rfl (Nat.le_of_ble_eq_true rfl)
theorem c_Lore_tryOut {k : Nat} {a0 : Int32} {a1 : Int32} : Rn (d + 1) (y, .invokevirtual 23 :: is, nx, ls, .int a1 :: .int a0 :: .ref k :: r) h Q = (am_ck (h.2.2 k) 3 = true ∧ rc8 r ∧ Rj d 23 0 [.ref k, .int a0, .int a1, .null, .null] [] h (KQ d y is nx ls r Q)) := rn_callx (q := 23) (as := [.ref k, .int a0, .int a1]) (r := r) rfl (cl_V (as := [.int a0, .int a1]) rfl rfl) rfl (Nat.le_of_ble_eq_true rfl)
theorem c_Lore_havingSense {k : Nat} {a0 : Int32} {a1 : Int32} : Rn (d + 1) (y, .invokevirtual 24 :: is, nx, ls, .int a1 :: .int a0 :: .ref k :: r) h Q = (am_ck (h.2.2 k) 3 = true ∧ rc8 r ∧ Rj d 24 0 [.ref k, .int a0, .int a1] [] h (KQ d y is nx ls r Q)) := rn_callx (q := 24) (as := [.ref k, .int a0, .int a1]) (r := r) rfl (cl_V (as := [.int a0, .int a1]) rfl rfl) rfl (Nat.le_of_ble_eq_true rfl)
theorem c_Lore_traitOf {k : Nat} {a0 : Int32} {a1 : Int32} : Rn (d + 1) (y, .invokevirtual 25 :: is, nx, ls, .int a1 :: .int a0 :: .ref k :: r) h Q = (am_ck (h.2.2 k) 3 = true ∧ rc8 r ∧ Rj d 25 0 [.ref k, .int a0, .int a1] [] h (KQ d y is nx ls r Q)) := rn_callx (q := 25) (as := [.ref k, .int a0, .int a1]) (r := r) rfl (cl_V (as := [.int a0, .int a1]) rfl rfl) rfl (Nat.le_of_ble_eq_true rfl)
theorem c_Lore_hasSense {k : Nat} {a0 : Int32} {a1 : Int32} : Rn (d + 1) (y, .invokevirtual 26 :: is, nx, ls, .int a1 :: .int a0 :: .ref k :: r) h Q = (am_ck (h.2.2 k) 3 = true ∧ rc8 r ∧ Rj d 26 0 [.ref k, .int a0, .int a1, .null] [] h (KQ d y is nx ls r Q)) := rn_callx (q := 26) (as := [.ref k, .int a0, .int a1]) (r := r) rfl (cl_V (as := [.int a0, .int a1]) rfl rfl) rfl (Nat.le_of_ble_eq_true rfl)
theorem c_Lore_addSense {k : Nat} {a0 : Int32} {a1 : Int32} : Rn (d + 1) (y, .invokevirtual 27 :: is, nx, ls, .int a1 :: .int a0 :: .ref k :: r) h Q = (am_ck (h.2.2 k) 3 = true ∧ rc8 r ∧ Rj d 27 0 [.ref k, .int a0, .int a1] [] h (KQ d y is nx ls r Q)) := rn_callx (q := 27) (as := [.ref k, .int a0, .int a1]) (r := r) rfl (cl_V (as := [.int a0, .int a1]) rfl rfl) rfl (Nat.le_of_ble_eq_true rfl)
theorem c_Lore_addSaying {k : Nat} {a0 : Int32} {a1 : Int32} {a2 : Int32} : Rn (d + 1) (y, .invokevirtual 28 :: is, nx, ls, .int a2 :: .int a1 :: .int a0 :: .ref k :: r) h Q = (am_ck (h.2.2 k) 3 = true ∧ rc8 r ∧ Rj d 28 0 [.ref k, .int a0, .int a1, .int a2] [] h (KQ d y is nx ls r Q)) := rn_callx (q := 28) (as := [.ref k, .int a0, .int a1, .int a2]) (r := r) rfl (cl_V (as := [.int a0, .int a1, .int a2]) rfl rfl) rfl (Nat.le_of_ble_eq_true rfl)
theorem c_Lore_isOfKind {k : Nat} {a0 : Int32} {a1 : Int32} : Rn (d + 1) (y, .invokevirtual 29 :: is, nx, ls, .int a1 :: .int a0 :: .ref k :: r) h Q = (am_ck (h.2.2 k) 3 = true ∧ rc8 r ∧ Rj d 29 0 [.ref k, .int a0, .int a1, .null] [] h (KQ d y is nx ls r Q)) := rn_callx (q := 29) (as := [.ref k, .int a0, .int a1]) (r := r) rfl (cl_V (as := [.int a0, .int a1]) rfl rfl) rfl (Nat.le_of_ble_eq_true rfl)
theorem c_Lore_leastSense {k : Nat} {a0 : Int32} {a1 : Int32} : Rn (d + 1) (y, .invokevirtual 30 :: is, nx, ls, .int a1 :: .int a0 :: .ref k :: r) h Q = (am_ck (h.2.2 k) 3 = true ∧ rc8 r ∧ Rj d 30 0 [.ref k, .int a0, .int a1, .null] [] h (KQ d y is nx ls r Q)) := rn_callx (q := 30) (as := [.ref k, .int a0, .int a1]) (r := r) rfl (cl_V (as := [.int a0, .int a1]) rfl rfl) rfl (Nat.le_of_ble_eq_true rfl)
theorem c_Lore_allThings {k : Nat} : Rn (d + 1) (y, .invokevirtual 31 :: is, nx, ls, .ref k :: r) h Q = (am_ck (h.2.2 k) 3 = true ∧ rc8 r ∧ Rj d 31 0 [.ref k] [] h (KQ d y is nx ls r Q)) := rn_callx (q := 31) (as := [.ref k]) (r := r) rfl (cl_V (as := []) rfl rfl) rfl (Nat.le_of_ble_eq_true rfl)
theorem c_Lore_fittingBySight {k : Nat} {a0 : Int32} {a1 : Nat} : Rn (d + 1) (y, .invokevirtual 32 :: is, nx, ls, .ref a1 :: .int a0 :: .ref k :: r) h Q = (am_ck (h.2.2 k) 3 = true ∧ rc8 r ∧ Rj d 32 0 [.ref k, .int a0, .ref a1, .null, .null, .null] [] h (KQ d y is nx ls r Q)) := rn_callx (q := 32) (as := [.ref k, .int a0, .ref a1]) (r := r) rfl (cl_V (as := [.int a0, .ref a1]) rfl rfl) rfl (Nat.le_of_ble_eq_true rfl)
theorem c_Lore_senseCount {k : Nat} : Rn (d + 1) (y, .invokevirtual 33 :: is, nx, ls, .ref k :: r) h Q = (am_ck (h.2.2 k) 3 = true ∧ rc8 r ∧ Rj d 33 0 [.ref k, .null, .null] [] h (KQ d y is nx ls r Q)) := rn_callx (q := 33) (as := [.ref k]) (r := r) rfl (cl_V (as := []) rfl rfl) rfl (Nat.le_of_ble_eq_true rfl)
theorem c_Maker_init {k : Nat} : Rn (d + 1) (y, .invokespecial 34 :: is, nx, ls, .ref k :: r) h Q = (am_ck (h.2.2 k) 4 = true ∧ rc8 r ∧ Rj d 34 0 [.ref k] [] h (KQ d y is nx ls r Q)) := rn_callx (q := 34) (as := [.ref k]) (r := r) rfl (cl_I (as := []) rfl rfl) rfl (Nat.le_of_ble_eq_true rfl)
theorem c_Maker_fewest {k : Nat} {a0 : Nat} {a1 : Int32} {a2 : Int32} : Rn (d + 1) (y, .invokevirtual 35 :: is, nx, ls, .int a2 :: .int a1 :: .ref a0 :: .ref k :: r) h Q = (am_ck (h.2.2 k) 4 = true ∧ rc8 r ∧ Rj d 35 0 [.ref k, .ref a0, .int a1, .int a2, .null] [] h (KQ d y is nx ls r Q)) := rn_callx (q := 35) (as := [.ref k, .ref a0, .int a1, .int a2]) (r := r) rfl (cl_V (as := [.ref a0, .int a1, .int a2]) rfl rfl) rfl (Nat.le_of_ble_eq_true rfl)
theorem c_Maker_gather {k : Nat} {a0 : Nat} {a1 : Int32} : Rn (d + 1) (y, .invokevirtual 36 :: is, nx, ls, .int a1 :: .ref a0 :: .ref k :: r) h Q = (am_ck (h.2.2 k) 4 = true ∧ rc8 r ∧ Rj d 36 0 [.ref k, .ref a0, .int a1, .null, .null] [] h (KQ d y is nx ls r Q)) := rn_callx (q := 36) (as := [.ref k, .ref a0, .int a1]) (r := r) rfl (cl_V (as := [.ref a0, .int a1]) rfl rfl) rfl (Nat.le_of_ble_eq_true rfl)
theorem c_Maker_choose {a0 : Nat} {a1 : Int32} {a2 : Int32} {a3 : Int32} {a4 : Int32} {a5 : Int32} : Rn (d + 1) (y, .invokestatic 37 :: is, nx, ls, .int a5 :: .int a4 :: .int a3 :: .int a2 :: .int a1 :: .ref a0 :: r) h Q = (rc8 r ∧ Rj d 37 0 [.ref a0, .int a1, .int a2, .int a3, .int a4, .int a5, .null, .null] [] h (KQ d y is nx ls r Q)) := (rn_callx (q := 37) (as := [.ref a0, .int a1, .int a2, .int a3, .int a4, .int a5]) (r := r) rfl (cl_S (as := [.ref a0, .int a1, .int a2, .int a3, .int a4, .int a5]) rfl rfl) rfl (Nat.le_of_ble_eq_true rfl)).trans (true_and _)
theorem c_Maker_consider {k : Nat} {a0 : Int32} {a1 : Int32} : Rn (d + 1) (y, .invokevirtual 38 :: is, nx, ls, .int a1 :: .int a0 :: .ref k :: r) h Q = (am_ck (h.2.2 k) 4 = true ∧ rc8 r ∧ Rj d 38 0 [.ref k, .int a0, .int a1] [] h (KQ d y is nx ls r Q)) := rn_callx (q := 38) (as := [.ref k, .int a0, .int a1]) (r := r) rfl (cl_V (as := [.int a0, .int a1]) rfl rfl) rfl (Nat.le_of_ble_eq_true rfl)
theorem c_Page_init {k : Nat} : Rn (d + 1) (y, .invokespecial 39 :: is, nx, ls, .ref k :: r) h Q = (am_ck (h.2.2 k) 5 = true ∧ rc8 r ∧ Rj d 39 0 [.ref k] [] h (KQ d y is nx ls r Q)) := rn_callx (q := 39) (as := [.ref k]) (r := r) rfl (cl_I (as := []) rfl rfl) rfl (Nat.le_of_ble_eq_true rfl)
theorem c_Page_areLetters {a0 : Int64} : Rn (d + 1) (y, .invokestatic 40 :: is, nx, ls, .long a0 :: r) h Q = (rc8 r ∧ Rj d 40 0 [.long a0, .null, .null, .null, .null] [] h (KQ d y is nx ls r Q)) := (rn_callx (q := 40) (as := [.long a0]) (r := r) rfl (cl_S (as := [.long a0]) rfl rfl) rfl (Nat.le_of_ble_eq_true rfl)).trans (true_and _)
theorem c_Page_lettersIn {a0 : Int64} : Rn (d + 1) (y, .invokestatic 41 :: is, nx, ls, .long a0 :: r) h Q = (rc8 r ∧ Rj d 41 0 [.long a0, .null, .null] [] h (KQ d y is nx ls r Q)) := (rn_callx (q := 41) (as := [.long a0]) (r := r) rfl (cl_S (as := [.long a0]) rfl rfl) rfl (Nat.le_of_ble_eq_true rfl)).trans (true_and _)
theorem c_Page_codeAt {a0 : Int64} {a1 : Int32} : Rn (d + 1) (y, .invokestatic 42 :: is, nx, ls, .int a1 :: .long a0 :: r) h Q = (rc8 r ∧ Rj d 42 0 [.long a0, .null, .int a1] [] h (KQ d y is nx ls r Q)) := (rn_callx (q := 42) (as := [.long a0, .int a1]) (r := r) rfl (cl_S (as := [.long a0, .int a1]) rfl rfl) rfl (Nat.le_of_ble_eq_true rfl)).trans (true_and _)
theorem c_Page_append {k : Nat} {a0 : Int64} : Rn (d + 1) (y, .invokevirtual 43 :: is, nx, ls, .long a0 :: .ref k :: r) h Q = (am_ck (h.2.2 k) 5 = true ∧ rc8 r ∧ Rj d 43 0 [.ref k, .long a0, .null, .null, .null] [] h (KQ d y is nx ls r Q)) := rn_callx (q := 43) (as := [.ref k, .long a0]) (r := r) rfl (cl_V (as := [.long a0]) rfl rfl) rfl (Nat.le_of_ble_eq_true rfl)
theorem c_Page_empty {k : Nat} : Rn (d + 1) (y, .invokevirtual 44 :: is, nx, ls, .ref k :: r) h Q = (am_ck (h.2.2 k) 5 = true ∧ rc8 r ∧ Rj d 44 0 [.ref k, .null] [] h (KQ d y is nx ls r Q)) := rn_callx (q := 44) (as := [.ref k]) (r := r) rfl (cl_V (as := []) rfl rfl) rfl (Nat.le_of_ble_eq_true rfl)
theorem c_Riddles_init {k : Nat} {a0 : Nat} : Rn (d + 1) (y, .invokespecial 45 :: is, nx, ls, .ref a0 :: .ref k :: r) h Q = (am_ck (h.2.2 k) 6 = true ∧ rc8 r ∧ Rj d 45 0 [.ref k, .ref a0] [] h (KQ d y is nx ls r Q)) := rn_callx (q := 45) (as := [.ref k, .ref a0]) (r := r) rfl (cl_I (as := [.ref a0]) rfl rfl) rfl (Nat.le_of_ble_eq_true rfl)
theorem c_Riddles_begin {k : Nat} {a0 : Int32} : Rn (d + 1) (y, .invokevirtual 46 :: is, nx, ls, .int a0 :: .ref k :: r) h Q = (am_ck (h.2.2 k) 6 = true ∧ rc8 r ∧ Rj d 46 0 [.ref k, .int a0] [] h (KQ d y is nx ls r Q)) := rn_callx (q := 46) (as := [.ref k, .int a0]) (r := r) rfl (cl_V (as := [.int a0]) rfl rfl) rfl (Nat.le_of_ble_eq_true rfl)
theorem c_Riddles_append {k : Nat} {a0 : Int32} {a1 : Int32} : Rn (d + 1) (y, .invokevirtual 47 :: is, nx, ls, .int a1 :: .int a0 :: .ref k :: r) h Q = (am_ck (h.2.2 k) 6 = true ∧ rc8 r ∧ Rj d 47 0 [.ref k, .int a0, .int a1] [] h (KQ d y is nx ls r Q)) := rn_callx (q := 47) (as := [.ref k, .int a0, .int a1]) (r := r) rfl (cl_V (as := [.int a0, .int a1]) rfl rfl) rfl (Nat.le_of_ble_eq_true rfl)
theorem c_Riddles_sayingAt {k : Nat} {a0 : Int32} {a1 : Int32} : Rn (d + 1) (y, .invokevirtual 48 :: is, nx, ls, .int a1 :: .int a0 :: .ref k :: r) h Q = (am_ck (h.2.2 k) 6 = true ∧ rc8 r ∧ Rj d 48 0 [.ref k, .int a0, .int a1] [] h (KQ d y is nx ls r Q)) := rn_callx (q := 48) (as := [.ref k, .int a0, .int a1]) (r := r) rfl (cl_V (as := [.int a0, .int a1]) rfl rfl) rfl (Nat.le_of_ble_eq_true rfl)
theorem c_Riddles_fitting {k : Nat} {a0 : Int32} : Rn (d + 1) (y, .invokevirtual 49 :: is, nx, ls, .int a0 :: .ref k :: r) h Q = (am_ck (h.2.2 k) 6 = true ∧ rc8 r ∧ Rj d 49 0 [.ref k, .int a0] [] h (KQ d y is nx ls r Q)) := rn_callx (q := 49) (as := [.ref k, .int a0]) (r := r) rfl (cl_V (as := [.int a0]) rfl rfl) rfl (Nat.le_of_ble_eq_true rfl)
theorem c_Riddles_fittingWithout {k : Nat} {a0 : Int32} {a1 : Int32} {a2 : Nat} : Rn (d + 1) (y, .invokevirtual 50 :: is, nx, ls, .ref a2 :: .int a1 :: .int a0 :: .ref k :: r) h Q = (am_ck (h.2.2 k) 6 = true ∧ rc8 r ∧ Rj d 50 0 [.ref k, .int a0, .int a1, .ref a2, .null, .null] [] h (KQ d y is nx ls r Q)) := rn_callx (q := 50) (as := [.ref k, .int a0, .int a1, .ref a2]) (r := r) rfl (cl_V (as := [.int a0, .int a1, .ref a2]) rfl rfl) rfl (Nat.le_of_ble_eq_true rfl)
theorem c_Riddles_turnedOnes {k : Nat} {a0 : Int32} {a1 : Int32} : Rn (d + 1) (y, .invokevirtual 51 :: is, nx, ls, .int a1 :: .int a0 :: .ref k :: r) h Q = (am_ck (h.2.2 k) 6 = true ∧ rc8 r ∧ Rj d 51 0 [.ref k, .int a0, .int a1, .null, .null, .null] [] h (KQ d y is nx ls r Q)) := rn_callx (q := 51) (as := [.ref k, .int a0, .int a1]) (r := r) rfl (cl_V (as := [.int a0, .int a1]) rfl rfl) rfl (Nat.le_of_ble_eq_true rfl)
theorem c_Riddles_misleadingPlace {k : Nat} {a0 : Int32} : Rn (d + 1) (y, .invokevirtual 52 :: is, nx, ls, .int a0 :: .ref k :: r) h Q = (am_ck (h.2.2 k) 6 = true ∧ rc8 r ∧ Rj d 52 0 [.ref k, .int a0, .null, .null, .null, .null] [] h (KQ d y is nx ls r Q)) := rn_callx (q := 52) (as := [.ref k, .int a0]) (r := r) rfl (cl_V (as := [.int a0]) rfl rfl) rfl (Nat.le_of_ble_eq_true rfl)
theorem c_Riddles_countWithout {k : Nat} {a0 : Int32} {a1 : Int32} : Rn (d + 1) (y, .invokevirtual 53 :: is, nx, ls, .int a1 :: .int a0 :: .ref k :: r) h Q = (am_ck (h.2.2 k) 6 = true ∧ rc8 r ∧ Rj d 53 0 [.ref k, .int a0, .int a1] [] h (KQ d y is nx ls r Q)) := rn_callx (q := 53) (as := [.ref k, .int a0, .int a1]) (r := r) rfl (cl_V (as := [.int a0, .int a1]) rfl rfl) rfl (Nat.le_of_ble_eq_true rfl)
theorem c_Riddles_unfitCount {k : Nat} {a0 : Int32} {a1 : Int32} {a2 : Nat} : Rn (d + 1) (y, .invokevirtual 54 :: is, nx, ls, .ref a2 :: .int a1 :: .int a0 :: .ref k :: r) h Q = (am_ck (h.2.2 k) 6 = true ∧ rc8 r ∧ Rj d 54 0 [.ref k, .int a0, .int a1, .ref a2, .null, .null] [] h (KQ d y is nx ls r Q)) := rn_callx (q := 54) (as := [.ref k, .int a0, .int a1, .ref a2]) (r := r) rfl (cl_V (as := [.int a0, .int a1, .ref a2]) rfl rfl) rfl (Nat.le_of_ble_eq_true rfl)
theorem c_Sight_init {k : Nat} {a0 : Int32} : Rn (d + 1) (y, .invokespecial 55 :: is, nx, ls, .int a0 :: .ref k :: r) h Q = (am_ck (h.2.2 k) 7 = true ∧ rc8 r ∧ Rj d 55 0 [.ref k, .int a0] [] h (KQ d y is nx ls r Q)) := rn_callx (q := 55) (as := [.ref k, .int a0]) (r := r) rfl (cl_I (as := [.int a0]) rfl rfl) rfl (Nat.le_of_ble_eq_true rfl)
theorem c_Sight_sees {k : Nat} {a0 : Int32} {a1 : Int32} : Rn (d + 1) (y, .invokevirtual 56 :: is, nx, ls, .int a1 :: .int a0 :: .ref k :: r) h Q = (am_ck (h.2.2 k) 7 = true ∧ rc8 r ∧ Rj d 56 0 [.ref k, .int a0, .int a1] [] h (KQ d y is nx ls r Q)) := rn_callx (q := 56) (as := [.ref k, .int a0, .int a1]) (r := r) rfl (cl_V (as := [.int a0, .int a1]) rfl rfl) rfl (Nat.le_of_ble_eq_true rfl)
theorem c_Sight_set {k : Nat} {a0 : Int32} {a1 : Int32} {a2 : Int32} : Rn (d + 1) (y, .invokevirtual 57 :: is, nx, ls, .int a2 :: .int a1 :: .int a0 :: .ref k :: r) h Q = (am_ck (h.2.2 k) 7 = true ∧ rc8 r ∧ Rj d 57 0 [.ref k, .int a0, .int a1, .int a2] [] h (KQ d y is nx ls r Q)) := rn_callx (q := 57) (as := [.ref k, .int a0, .int a1, .int a2]) (r := r) rfl (cl_V (as := [.int a0, .int a1, .int a2]) rfl rfl) rfl (Nat.le_of_ble_eq_true rfl)
theorem c_Stakes_init {k : Nat} : Rn (d + 1) (y, .invokespecial 58 :: is, nx, ls, .ref k :: r) h Q = (am_ck (h.2.2 k) 8 = true ∧ rc8 r ∧ Rj d 58 0 [.ref k] [] h (KQ d y is nx ls r Q)) := rn_callx (q := 58) (as := [.ref k]) (r := r) rfl (cl_I (as := []) rfl rfl) rfl (Nat.le_of_ble_eq_true rfl)
theorem c_Stakes_put {k : Nat} {a0 : Int32} {a1 : Int32} {a2 : Int32} : Rn (d + 1) (y, .invokevirtual 59 :: is, nx, ls, .int a2 :: .int a1 :: .int a0 :: .ref k :: r) h Q = (am_ck (h.2.2 k) 8 = true ∧ rc8 r ∧ Rj d 59 0 [.ref k, .int a0, .int a1, .int a2, .null] [] h (KQ d y is nx ls r Q)) := rn_callx (q := 59) (as := [.ref k, .int a0, .int a1, .int a2]) (r := r) rfl (cl_V (as := [.int a0, .int a1, .int a2]) rfl rfl) rfl (Nat.le_of_ble_eq_true rfl)
theorem c_Stakes_of {k : Nat} {a0 : Int32} {a1 : Int32} : Rn (d + 1) (y, .invokevirtual 60 :: is, nx, ls, .int a1 :: .int a0 :: .ref k :: r) h Q = (am_ck (h.2.2 k) 8 = true ∧ rc8 r ∧ Rj d 60 0 [.ref k, .int a0, .int a1] [] h (KQ d y is nx ls r Q)) := rn_callx (q := 60) (as := [.ref k, .int a0, .int a1]) (r := r) rfl (cl_V (as := [.int a0, .int a1]) rfl rfl) rfl (Nat.le_of_ble_eq_true rfl)
theorem c_Stakes_best {k : Nat} {a0 : Int32} {a1 : Int32} : Rn (d + 1) (y, .invokevirtual 61 :: is, nx, ls, .int a1 :: .int a0 :: .ref k :: r) h Q = (am_ck (h.2.2 k) 8 = true ∧ rc8 r ∧ Rj d 61 0 [.ref k, .int a0, .int a1, .null, .null, .null] [] h (KQ d y is nx ls r Q)) := rn_callx (q := 61) (as := [.ref k, .int a0, .int a1]) (r := r) rfl (cl_V (as := [.int a0, .int a1]) rfl rfl) rfl (Nat.le_of_ble_eq_true rfl)
theorem c_Stakes_giveRiddle {k : Nat} {a0 : Int32} {a1 : Int32} {a2 : Int32} : Rn (d + 1) (y, .invokevirtual 62 :: is, nx, ls, .int a2 :: .int a1 :: .int a0 :: .ref k :: r) h Q = (am_ck (h.2.2 k) 8 = true ∧ rc8 r ∧ Rj d 62 0 [.ref k, .int a0, .int a1, .int a2, .null, .null, .null] [] h (KQ d y is nx ls r Q)) := rn_callx (q := 62) (as := [.ref k, .int a0, .int a1, .int a2]) (r := r) rfl (cl_V (as := [.int a0, .int a1, .int a2]) rfl rfl) rfl (Nat.le_of_ble_eq_true rfl)
theorem c_Stakes_sumIn {a0 : Int64} : Rn (d + 1) (y, .invokestatic 63 :: is, nx, ls, .long a0 :: r) h Q = (rc8 r ∧ Rj d 63 0 [.long a0, .null] [] h (KQ d y is nx ls r Q)) := (rn_callx (q := 63) (as := [.long a0]) (r := r) rfl (cl_S (as := [.long a0]) rfl rfl) rfl (Nat.le_of_ble_eq_true rfl)).trans (true_and _)
theorem c_Stakes_riddleIn {a0 : Int64} {a1 : Int32} : Rn (d + 1) (y, .invokestatic 64 :: is, nx, ls, .int a1 :: .long a0 :: r) h Q = (rc8 r ∧ Rj d 64 0 [.long a0, .null, .int a1, .null] [] h (KQ d y is nx ls r Q)) := (rn_callx (q := 64) (as := [.long a0, .int a1]) (r := r) rfl (cl_S (as := [.long a0, .int a1]) rfl rfl) rfl (Nat.le_of_ble_eq_true rfl)).trans (true_and _)
theorem c_Tongues_init {k : Nat} {a0 : Nat} : Rn (d + 1) (y, .invokespecial 65 :: is, nx, ls, .ref a0 :: .ref k :: r) h Q = (am_ck (h.2.2 k) 9 = true ∧ rc8 r ∧ Rj d 65 0 [.ref k, .ref a0, .null] [] h (KQ d y is nx ls r Q)) := rn_callx (q := 65) (as := [.ref k, .ref a0]) (r := r) rfl (cl_I (as := [.ref a0]) rfl rfl) rfl (Nat.le_of_ble_eq_true rfl)
theorem c_Tongues_add {k : Nat} : Rn (d + 1) (y, .invokevirtual 66 :: is, nx, ls, .ref k :: r) h Q = (am_ck (h.2.2 k) 9 = true ∧ rc8 r ∧ Rj d 66 0 [.ref k] [] h (KQ d y is nx ls r Q)) := rn_callx (q := 66) (as := [.ref k]) (r := r) rfl (cl_V (as := []) rfl rfl) rfl (Nat.le_of_ble_eq_true rfl)
theorem c_Tongues_carries {k : Nat} {a0 : Int32} {a1 : Int32} {a2 : Int32} : Rn (d + 1) (y, .invokevirtual 67 :: is, nx, ls, .int a2 :: .int a1 :: .int a0 :: .ref k :: r) h Q = (am_ck (h.2.2 k) 9 = true ∧ rc8 r ∧ Rj d 67 0 [.ref k, .int a0, .int a1, .int a2] [] h (KQ d y is nx ls r Q)) := rn_callx (q := 67) (as := [.ref k, .int a0, .int a1, .int a2]) (r := r) rfl (cl_V (as := [.int a0, .int a1, .int a2]) rfl rfl) rfl (Nat.le_of_ble_eq_true rfl)
theorem c_Tongues_lacking {k : Nat} {a0 : Int32} {a1 : Int32} {a2 : Int32} : Rn (d + 1) (y, .invokevirtual 68 :: is, nx, ls, .int a2 :: .int a1 :: .int a0 :: .ref k :: r) h Q = (am_ck (h.2.2 k) 9 = true ∧ rc8 r ∧ Rj d 68 0 [.ref k, .int a0, .int a1, .int a2] [] h (KQ d y is nx ls r Q)) := rn_callx (q := 68) (as := [.ref k, .int a0, .int a1, .int a2]) (r := r) rfl (cl_V (as := [.int a0, .int a1, .int a2]) rfl rfl) rfl (Nat.le_of_ble_eq_true rfl)
theorem c_Tongues_leastLacking {k : Nat} {a0 : Int32} {a1 : Int32} : Rn (d + 1) (y, .invokevirtual 69 :: is, nx, ls, .int a1 :: .int a0 :: .ref k :: r) h Q = (am_ck (h.2.2 k) 9 = true ∧ rc8 r ∧ Rj d 69 0 [.ref k, .int a0, .int a1, .null, .null, .null, .null] [] h (KQ d y is nx ls r Q)) := rn_callx (q := 69) (as := [.ref k, .int a0, .int a1]) (r := r) rfl (cl_V (as := [.int a0, .int a1]) rfl rfl) rfl (Nat.le_of_ble_eq_true rfl)
theorem c_Tree_init {k : Nat} : Rn (d + 1) (y, .invokespecial 70 :: is, nx, ls, .ref k :: r) h Q = (am_ck (h.2.2 k) 10 = true ∧ rc8 r ∧ Rj d 70 0 [.ref k] [] h (KQ d y is nx ls r Q)) := rn_callx (q := 70) (as := [.ref k]) (r := r) rfl (cl_I (as := []) rfl rfl) rfl (Nat.le_of_ble_eq_true rfl)
theorem c_Tree_read {k : Nat} {a0 : Nat} : Rn (d + 1) (y, .invokevirtual 71 :: is, nx, ls, .ref a0 :: .ref k :: r) h Q = (am_ck (h.2.2 k) 10 = true ∧ rc8 r ∧ Rj d 71 0 [.ref k, .ref a0, .null] [] h (KQ d y is nx ls r Q)) := rn_callx (q := 71) (as := [.ref k, .ref a0]) (r := r) rfl (cl_V (as := [.ref a0]) rfl rfl) rfl (Nat.le_of_ble_eq_true rfl)
theorem c_Tree_take {k : Nat} {a0 : Int32} : Rn (d + 1) (y, .invokevirtual 72 :: is, nx, ls, .int a0 :: .ref k :: r) h Q = (am_ck (h.2.2 k) 10 = true ∧ rc8 r ∧ Rj d 72 0 [.ref k, .int a0] [] h (KQ d y is nx ls r Q)) := rn_callx (q := 72) (as := [.ref k, .int a0]) (r := r) rfl (cl_V (as := [.int a0]) rfl rfl) rfl (Nat.le_of_ble_eq_true rfl)
theorem c_Tree_openNode {k : Nat} : Rn (d + 1) (y, .invokevirtual 73 :: is, nx, ls, .ref k :: r) h Q = (am_ck (h.2.2 k) 10 = true ∧ rc8 r ∧ Rj d 73 0 [.ref k] [] h (KQ d y is nx ls r Q)) := rn_callx (q := 73) (as := [.ref k]) (r := r) rfl (cl_V (as := []) rfl rfl) rfl (Nat.le_of_ble_eq_true rfl)
theorem c_Tree_beginNode {k : Nat} {a0 : Int32} : Rn (d + 1) (y, .invokevirtual 74 :: is, nx, ls, .int a0 :: .ref k :: r) h Q = (am_ck (h.2.2 k) 10 = true ∧ rc8 r ∧ Rj d 74 0 [.ref k, .int a0] [] h (KQ d y is nx ls r Q)) := rn_callx (q := 74) (as := [.ref k, .int a0]) (r := r) rfl (cl_V (as := [.int a0]) rfl rfl) rfl (Nat.le_of_ble_eq_true rfl)
theorem c_Tree_landNode {k : Nat} {a0 : Int32} : Rn (d + 1) (y, .invokevirtual 75 :: is, nx, ls, .int a0 :: .ref k :: r) h Q = (am_ck (h.2.2 k) 10 = true ∧ rc8 r ∧ Rj d 75 0 [.ref k, .int a0] [] h (KQ d y is nx ls r Q)) := rn_callx (q := 75) (as := [.ref k, .int a0]) (r := r) rfl (cl_V (as := [.int a0]) rfl rfl) rfl (Nat.le_of_ble_eq_true rfl)
theorem c_Tree_awaitNext {k : Nat} : Rn (d + 1) (y, .invokevirtual 76 :: is, nx, ls, .ref k :: r) h Q = (am_ck (h.2.2 k) 10 = true ∧ rc8 r ∧ Rj d 76 0 [.ref k] [] h (KQ d y is nx ls r Q)) := rn_callx (q := 76) (as := [.ref k]) (r := r) rfl (cl_V (as := []) rfl rfl) rfl (Nat.le_of_ble_eq_true rfl)
theorem c_Tree_closeNode {k : Nat} : Rn (d + 1) (y, .invokevirtual 77 :: is, nx, ls, .ref k :: r) h Q = (am_ck (h.2.2 k) 10 = true ∧ rc8 r ∧ Rj d 77 0 [.ref k] [] h (KQ d y is nx ls r Q)) := rn_callx (q := 77) (as := [.ref k]) (r := r) rfl (cl_V (as := []) rfl rfl) rfl (Nat.le_of_ble_eq_true rfl)
theorem c_Tree_isWhole {k : Nat} : Rn (d + 1) (y, .invokevirtual 78 :: is, nx, ls, .ref k :: r) h Q = (am_ck (h.2.2 k) 10 = true ∧ rc8 r ∧ Rj d 78 0 [.ref k] [] h (KQ d y is nx ls r Q)) := rn_callx (q := 78) (as := [.ref k]) (r := r) rfl (cl_V (as := []) rfl rfl) rfl (Nat.le_of_ble_eq_true rfl)
theorem c_X_init {k : Nat} : Rn (d + 1) (y, .invokespecial 79 :: is, nx, ls, .ref k :: r) h Q = (am_ck (h.2.2 k) 11 = true ∧ rc8 r ∧ Rj d 79 0 [.ref k] [] h (KQ d y is nx ls r Q)) := rn_callx (q := 79) (as := [.ref k]) (r := r) rfl (cl_I (as := []) rfl rfl) rfl (Nat.le_of_ble_eq_true rfl)
theorem c_X_thing {k : Nat} {a0 : Int32} : Rn (d + 1) (y, .invokevirtual 80 :: is, nx, ls, .int a0 :: .ref k :: r) h Q = (am_ck (h.2.2 k) 11 = true ∧ rc8 r ∧ Rj d 80 0 [.ref k, .int a0] [] h (KQ d y is nx ls r Q)) := rn_callx (q := 80) (as := [.ref k, .int a0]) (r := r) rfl (cl_V (as := [.int a0]) rfl rfl) rfl (Nat.le_of_ble_eq_true rfl)
theorem c_X_sense {k : Nat} {a0 : Int32} {a1 : Int32} : Rn (d + 1) (y, .invokevirtual 81 :: is, nx, ls, .int a1 :: .int a0 :: .ref k :: r) h Q = (am_ck (h.2.2 k) 11 = true ∧ rc8 r ∧ Rj d 81 0 [.ref k, .int a0, .int a1] [] h (KQ d y is nx ls r Q)) := rn_callx (q := 81) (as := [.ref k, .int a0, .int a1]) (r := r) rfl (cl_V (as := [.int a0, .int a1]) rfl rfl) rfl (Nat.le_of_ble_eq_true rfl)
theorem c_X_isWord {a0 : Int32} : Rn (d + 1) (y, .invokestatic 82 :: is, nx, ls, .int a0 :: r) h Q = (rc8 r ∧ Rj d 82 0 [.int a0] [] h (KQ d y is nx ls r Q)) := (rn_callx (q := 82) (as := [.int a0]) (r := r) rfl (cl_S (as := [.int a0]) rfl rfl) rfl (Nat.le_of_ble_eq_true rfl)).trans (true_and _)
theorem c_X_senseOf {k : Nat} {a0 : Int32} {a1 : Int32} : Rn (d + 1) (y, .invokevirtual 83 :: is, nx, ls, .int a1 :: .int a0 :: .ref k :: r) h Q = (am_ck (h.2.2 k) 11 = true ∧ rc8 r ∧ Rj d 83 0 [.ref k, .int a0, .int a1] [] h (KQ d y is nx ls r Q)) := rn_callx (q := 83) (as := [.ref k, .int a0, .int a1]) (r := r) rfl (cl_V (as := [.int a0, .int a1]) rfl rfl) rfl (Nat.le_of_ble_eq_true rfl)
theorem c_X_saying {k : Nat} {a0 : Int32} {a1 : Int32} {a2 : Int32} : Rn (d + 1) (y, .invokevirtual 84 :: is, nx, ls, .int a2 :: .int a1 :: .int a0 :: .ref k :: r) h Q = (am_ck (h.2.2 k) 11 = true ∧ rc8 r ∧ Rj d 84 0 [.ref k, .int a0, .int a1, .int a2] [] h (KQ d y is nx ls r Q)) := rn_callx (q := 84) (as := [.ref k, .int a0, .int a1, .int a2]) (r := r) rfl (cl_V (as := [.int a0, .int a1, .int a2]) rfl rfl) rfl (Nat.le_of_ble_eq_true rfl)
theorem c_X_isKind {a0 : Int32} : Rn (d + 1) (y, .invokestatic 85 :: is, nx, ls, .int a0 :: r) h Q = (rc8 r ∧ Rj d 85 0 [.int a0] [] h (KQ d y is nx ls r Q)) := (rn_callx (q := 85) (as := [.int a0]) (r := r) rfl (cl_S (as := [.int a0]) rfl rfl) rfl (Nat.le_of_ble_eq_true rfl)).trans (true_and _)
theorem c_X_as {k : Nat} {a0 : Int32} {a1 : Int32} : Rn (d + 1) (y, .invokevirtual 86 :: is, nx, ls, .int a1 :: .int a0 :: .ref k :: r) h Q = (am_ck (h.2.2 k) 11 = true ∧ rc8 r ∧ Rj d 86 0 [.ref k, .int a0, .int a1] [] h (KQ d y is nx ls r Q)) := rn_callx (q := 86) (as := [.ref k, .int a0, .int a1]) (r := r) rfl (cl_V (as := [.int a0, .int a1]) rfl rfl) rfl (Nat.le_of_ble_eq_true rfl)
theorem c_X_isSaying {k : Nat} {a0 : Int32} : Rn (d + 1) (y, .invokevirtual 87 :: is, nx, ls, .int a0 :: .ref k :: r) h Q = (am_ck (h.2.2 k) 11 = true ∧ rc8 r ∧ Rj d 87 0 [.ref k, .int a0] [] h (KQ d y is nx ls r Q)) := rn_callx (q := 87) (as := [.ref k, .int a0]) (r := r) rfl (cl_V (as := [.int a0]) rfl rfl) rfl (Nat.le_of_ble_eq_true rfl)
theorem c_X_fits {k : Nat} {a0 : Int32} {a1 : Int32} : Rn (d + 1) (y, .invokevirtual 88 :: is, nx, ls, .int a1 :: .int a0 :: .ref k :: r) h Q = (am_ck (h.2.2 k) 11 = true ∧ rc8 r ∧ Rj d 88 0 [.ref k, .int a0, .int a1] [] h (KQ d y is nx ls r Q)) := rn_callx (q := 88) (as := [.ref k, .int a0, .int a1]) (r := r) rfl (cl_V (as := [.int a0, .int a1]) rfl rfl) rfl (Nat.le_of_ble_eq_true rfl)
theorem c_X_isThing {k : Nat} {a0 : Int32} : Rn (d + 1) (y, .invokevirtual 89 :: is, nx, ls, .int a0 :: .ref k :: r) h Q = (am_ck (h.2.2 k) 11 = true ∧ rc8 r ∧ Rj d 89 0 [.ref k, .int a0] [] h (KQ d y is nx ls r Q)) := rn_callx (q := 89) (as := [.ref k, .int a0]) (r := r) rfl (cl_V (as := [.int a0]) rfl rfl) rfl (Nat.le_of_ble_eq_true rfl)
theorem c_X_riddle {k : Nat} {a0 : Int32} : Rn (d + 1) (y, .invokevirtual 90 :: is, nx, ls, .int a0 :: .ref k :: r) h Q = (am_ck (h.2.2 k) 11 = true ∧ rc8 r ∧ Rj d 90 0 [.ref k, .int a0] [] h (KQ d y is nx ls r Q)) := rn_callx (q := 90) (as := [.ref k, .int a0]) (r := r) rfl (cl_V (as := [.int a0]) rfl rfl) rfl (Nat.le_of_ble_eq_true rfl)
theorem c_X_more {k : Nat} {a0 : Int32} {a1 : Int32} : Rn (d + 1) (y, .invokevirtual 91 :: is, nx, ls, .int a1 :: .int a0 :: .ref k :: r) h Q = (am_ck (h.2.2 k) 11 = true ∧ rc8 r ∧ Rj d 91 0 [.ref k, .int a0, .int a1] [] h (KQ d y is nx ls r Q)) := rn_callx (q := 91) (as := [.ref k, .int a0, .int a1]) (r := r) rfl (cl_V (as := [.int a0, .int a1]) rfl rfl) rfl (Nat.le_of_ble_eq_true rfl)
theorem c_X_isRiddle {k : Nat} {a0 : Int32} : Rn (d + 1) (y, .invokevirtual 92 :: is, nx, ls, .int a0 :: .ref k :: r) h Q = (am_ck (h.2.2 k) 11 = true ∧ rc8 r ∧ Rj d 92 0 [.ref k, .int a0] [] h (KQ d y is nx ls r Q)) := rn_callx (q := 92) (as := [.ref k, .int a0]) (r := r) rfl (cl_V (as := [.int a0]) rfl rfl) rfl (Nat.le_of_ble_eq_true rfl)
theorem c_X_said {k : Nat} {a0 : Int32} {a1 : Int32} : Rn (d + 1) (y, .invokevirtual 93 :: is, nx, ls, .int a1 :: .int a0 :: .ref k :: r) h Q = (am_ck (h.2.2 k) 11 = true ∧ rc8 r ∧ Rj d 93 0 [.ref k, .int a0, .int a1] [] h (KQ d y is nx ls r Q)) := rn_callx (q := 93) (as := [.ref k, .int a0, .int a1]) (r := r) rfl (cl_V (as := [.int a0, .int a1]) rfl rfl) rfl (Nat.le_of_ble_eq_true rfl)
theorem c_X_answers {k : Nat} {a0 : Int32} : Rn (d + 1) (y, .invokevirtual 94 :: is, nx, ls, .int a0 :: .ref k :: r) h Q = (am_ck (h.2.2 k) 11 = true ∧ rc8 r ∧ Rj d 94 0 [.ref k, .int a0] [] h (KQ d y is nx ls r Q)) := rn_callx (q := 94) (as := [.ref k, .int a0]) (r := r) rfl (cl_V (as := [.int a0]) rfl rfl) rfl (Nat.le_of_ble_eq_true rfl)
theorem c_X_turns {k : Nat} {a0 : Int32} {a1 : Int32} : Rn (d + 1) (y, .invokevirtual 95 :: is, nx, ls, .int a1 :: .int a0 :: .ref k :: r) h Q = (am_ck (h.2.2 k) 11 = true ∧ rc8 r ∧ Rj d 95 0 [.ref k, .int a0, .int a1] [] h (KQ d y is nx ls r Q)) := rn_callx (q := 95) (as := [.ref k, .int a0, .int a1]) (r := r) rfl (cl_V (as := [.int a0, .int a1]) rfl rfl) rfl (Nat.le_of_ble_eq_true rfl)
theorem c_X_judge {k : Nat} {a0 : Int32} {a1 : Int32} {a2 : Int32} : Rn (d + 1) (y, .invokevirtual 96 :: is, nx, ls, .int a2 :: .int a1 :: .int a0 :: .ref k :: r) h Q = (am_ck (h.2.2 k) 11 = true ∧ rc8 r ∧ Rj d 96 0 [.ref k, .int a0, .int a1, .int a2, .null, .null, .null, .null] [] h (KQ d y is nx ls r Q)) := rn_callx (q := 96) (as := [.ref k, .int a0, .int a1, .int a2]) (r := r) rfl (cl_V (as := [.int a0, .int a1, .int a2]) rfl rfl) rfl (Nat.le_of_ble_eq_true rfl)
theorem c_X_astray {k : Nat} {a0 : Int32} {a1 : Int32} : Rn (d + 1) (y, .invokevirtual 97 :: is, nx, ls, .int a1 :: .int a0 :: .ref k :: r) h Q = (am_ck (h.2.2 k) 11 = true ∧ rc8 r ∧ Rj d 97 0 [.ref k, .int a0, .int a1, .null] [] h (KQ d y is nx ls r Q)) := rn_callx (q := 97) (as := [.ref k, .int a0, .int a1]) (r := r) rfl (cl_V (as := [.int a0, .int a1]) rfl rfl) rfl (Nat.le_of_ble_eq_true rfl)
theorem c_X_made {k : Nat} {a0 : Int32} {a1 : Int32} : Rn (d + 1) (y, .invokevirtual 98 :: is, nx, ls, .int a1 :: .int a0 :: .ref k :: r) h Q = (am_ck (h.2.2 k) 11 = true ∧ rc8 r ∧ Rj d 98 0 [.ref k, .int a0, .int a1] [] h (KQ d y is nx ls r Q)) := rn_callx (q := 98) (as := [.ref k, .int a0, .int a1]) (r := r) rfl (cl_V (as := [.int a0, .int a1]) rfl rfl) rfl (Nat.le_of_ble_eq_true rfl)
theorem c_X_head {k : Nat} {a0 : Int32} {a1 : Int32} : Rn (d + 1) (y, .invokevirtual 99 :: is, nx, ls, .int a1 :: .int a0 :: .ref k :: r) h Q = (am_ck (h.2.2 k) 11 = true ∧ rc8 r ∧ Rj d 99 0 [.ref k, .int a0, .int a1] [] h (KQ d y is nx ls r Q)) := rn_callx (q := 99) (as := [.ref k, .int a0, .int a1]) (r := r) rfl (cl_V (as := [.int a0, .int a1]) rfl rfl) rfl (Nat.le_of_ble_eq_true rfl)
theorem c_X_hears {k : Nat} {a0 : Int32} {a1 : Int32} {a2 : Int32} : Rn (d + 1) (y, .invokevirtual 100 :: is, nx, ls, .int a2 :: .int a1 :: .int a0 :: .ref k :: r) h Q = (am_ck (h.2.2 k) 11 = true ∧ rc8 r ∧ Rj d 100 0 [.ref k, .int a0, .int a1, .int a2, .null] [] h (KQ d y is nx ls r Q)) := rn_callx (q := 100) (as := [.ref k, .int a0, .int a1, .int a2]) (r := r) rfl (cl_V (as := [.int a0, .int a1, .int a2]) rfl rfl) rfl (Nat.le_of_ble_eq_true rfl)
theorem c_X_isHead {k : Nat} {a0 : Int32} : Rn (d + 1) (y, .invokevirtual 101 :: is, nx, ls, .int a0 :: .ref k :: r) h Q = (am_ck (h.2.2 k) 11 = true ∧ rc8 r ∧ Rj d 101 0 [.ref k, .int a0] [] h (KQ d y is nx ls r Q)) := rn_callx (q := 101) (as := [.ref k, .int a0]) (r := r) rfl (cl_V (as := [.int a0]) rfl rfl) rfl (Nat.le_of_ble_eq_true rfl)
theorem c_X_parts {k : Nat} {a0 : Int32} : Rn (d + 1) (y, .invokevirtual 102 :: is, nx, ls, .int a0 :: .ref k :: r) h Q = (am_ck (h.2.2 k) 11 = true ∧ rc8 r ∧ Rj d 102 0 [.ref k, .int a0, .null, .null, .null, .null] [] h (KQ d y is nx ls r Q)) := rn_callx (q := 102) (as := [.ref k, .int a0]) (r := r) rfl (cl_V (as := [.int a0]) rfl rfl) rfl (Nat.le_of_ble_eq_true rfl)
theorem c_X_blind {k : Nat} {a0 : Int32} {a1 : Int32} : Rn (d + 1) (y, .invokevirtual 103 :: is, nx, ls, .int a1 :: .int a0 :: .ref k :: r) h Q = (am_ck (h.2.2 k) 11 = true ∧ rc8 r ∧ Rj d 103 0 [.ref k, .int a0, .int a1] [] h (KQ d y is nx ls r Q)) := rn_callx (q := 103) (as := [.ref k, .int a0, .int a1]) (r := r) rfl (cl_V (as := [.int a0, .int a1]) rfl rfl) rfl (Nat.le_of_ble_eq_true rfl)
theorem c_X_tongue {k : Nat} : Rn (d + 1) (y, .invokevirtual 104 :: is, nx, ls, .ref k :: r) h Q = (am_ck (h.2.2 k) 11 = true ∧ rc8 r ∧ Rj d 104 0 [.ref k] [] h (KQ d y is nx ls r Q)) := rn_callx (q := 104) (as := [.ref k]) (r := r) rfl (cl_V (as := []) rfl rfl) rfl (Nat.le_of_ble_eq_true rfl)
theorem c_X_lack {k : Nat} {a0 : Int32} {a1 : Int32} {a2 : Int32} {a3 : Int32} : Rn (d + 1) (y, .invokevirtual 105 :: is, nx, ls, .int a3 :: .int a2 :: .int a1 :: .int a0 :: .ref k :: r) h Q = (am_ck (h.2.2 k) 11 = true ∧ rc8 r ∧ Rj d 105 0 [.ref k, .int a0, .int a1, .int a2, .int a3, .null] [] h (KQ d y is nx ls r Q)) := rn_callx (q := 105) (as := [.ref k, .int a0, .int a1, .int a2, .int a3]) (r := r) rfl (cl_V (as := [.int a0, .int a1, .int a2, .int a3]) rfl rfl) rfl (Nat.le_of_ble_eq_true rfl)
theorem c_X_isTongue {k : Nat} {a0 : Int32} : Rn (d + 1) (y, .invokevirtual 106 :: is, nx, ls, .int a0 :: .ref k :: r) h Q = (am_ck (h.2.2 k) 11 = true ∧ rc8 r ∧ Rj d 106 0 [.ref k, .int a0] [] h (KQ d y is nx ls r Q)) := rn_callx (q := 106) (as := [.ref k, .int a0]) (r := r) rfl (cl_V (as := [.int a0]) rfl rfl) rfl (Nat.le_of_ble_eq_true rfl)
theorem c_X_goes {k : Nat} {a0 : Int32} {a1 : Int32} {a2 : Int32} {a3 : Int32} : Rn (d + 1) (y, .invokevirtual 107 :: is, nx, ls, .int a3 :: .int a2 :: .int a1 :: .int a0 :: .ref k :: r) h Q = (am_ck (h.2.2 k) 11 = true ∧ rc8 r ∧ Rj d 107 0 [.ref k, .int a0, .int a1, .int a2, .int a3] [] h (KQ d y is nx ls r Q)) := rn_callx (q := 107) (as := [.ref k, .int a0, .int a1, .int a2, .int a3]) (r := r) rfl (cl_V (as := [.int a0, .int a1, .int a2, .int a3]) rfl rfl) rfl (Nat.le_of_ble_eq_true rfl)
theorem c_X_nearest {k : Nat} {a0 : Int32} {a1 : Int32} : Rn (d + 1) (y, .invokevirtual 108 :: is, nx, ls, .int a1 :: .int a0 :: .ref k :: r) h Q = (am_ck (h.2.2 k) 11 = true ∧ rc8 r ∧ Rj d 108 0 [.ref k, .int a0, .int a1] [] h (KQ d y is nx ls r Q)) := rn_callx (q := 108) (as := [.ref k, .int a0, .int a1]) (r := r) rfl (cl_V (as := [.int a0, .int a1]) rfl rfl) rfl (Nat.le_of_ble_eq_true rfl)
theorem c_X_letters {k : Nat} {a0 : Int64} : Rn (d + 1) (y, .invokevirtual 109 :: is, nx, ls, .long a0 :: .ref k :: r) h Q = (am_ck (h.2.2 k) 11 = true ∧ rc8 r ∧ Rj d 109 0 [.ref k, .long a0, .null] [] h (KQ d y is nx ls r Q)) := rn_callx (q := 109) (as := [.ref k, .long a0]) (r := r) rfl (cl_V (as := [.long a0]) rfl rfl) rfl (Nat.le_of_ble_eq_true rfl)
theorem c_X_blank {k : Nat} : Rn (d + 1) (y, .invokevirtual 110 :: is, nx, ls, .ref k :: r) h Q = (am_ck (h.2.2 k) 11 = true ∧ rc8 r ∧ Rj d 110 0 [.ref k] [] h (KQ d y is nx ls r Q)) := rn_callx (q := 110) (as := [.ref k]) (r := r) rfl (cl_V (as := []) rfl rfl) rfl (Nat.le_of_ble_eq_true rfl)
theorem c_X_fault {k : Nat} : Rn (d + 1) (y, .invokevirtual 111 :: is, nx, ls, .ref k :: r) h Q = (am_ck (h.2.2 k) 11 = true ∧ rc8 r ∧ Rj d 111 0 [.ref k] [] h (KQ d y is nx ls r Q)) := rn_callx (q := 111) (as := [.ref k]) (r := r) rfl (cl_V (as := []) rfl rfl) rfl (Nat.le_of_ble_eq_true rfl)
theorem c_X_tree {k : Nat} : Rn (d + 1) (y, .invokevirtual 112 :: is, nx, ls, .ref k :: r) h Q = (am_ck (h.2.2 k) 11 = true ∧ rc8 r ∧ Rj d 112 0 [.ref k, .null] [] h (KQ d y is nx ls r Q)) := rn_callx (q := 112) (as := [.ref k]) (r := r) rfl (cl_V (as := []) rfl rfl) rfl (Nat.le_of_ble_eq_true rfl)
theorem c_X_variant {k : Nat} {a0 : Int32} {a1 : Int32} : Rn (d + 1) (y, .invokevirtual 113 :: is, nx, ls, .int a1 :: .int a0 :: .ref k :: r) h Q = (am_ck (h.2.2 k) 11 = true ∧ rc8 r ∧ Rj d 113 0 [.ref k, .int a0, .int a1, .null] [] h (KQ d y is nx ls r Q)) := rn_callx (q := 113) (as := [.ref k, .int a0, .int a1]) (r := r) rfl (cl_V (as := [.int a0, .int a1]) rfl rfl) rfl (Nat.le_of_ble_eq_true rfl)
theorem c_X_changes {k : Nat} {a0 : Int32} : Rn (d + 1) (y, .invokevirtual 114 :: is, nx, ls, .int a0 :: .ref k :: r) h Q = (am_ck (h.2.2 k) 11 = true ∧ rc8 r ∧ Rj d 114 0 [.ref k, .int a0] [] h (KQ d y is nx ls r Q)) := rn_callx (q := 114) (as := [.ref k, .int a0]) (r := r) rfl (cl_V (as := [.int a0]) rfl rfl) rfl (Nat.le_of_ble_eq_true rfl)
theorem c_X_chance {k : Nat} {a0 : Int32} : Rn (d + 1) (y, .invokevirtual 115 :: is, nx, ls, .int a0 :: .ref k :: r) h Q = (am_ck (h.2.2 k) 11 = true ∧ rc8 r ∧ Rj d 115 0 [.ref k, .int a0, .null] [] h (KQ d y is nx ls r Q)) := rn_callx (q := 115) (as := [.ref k, .int a0]) (r := r) rfl (cl_V (as := [.int a0]) rfl rfl) rfl (Nat.le_of_ble_eq_true rfl)
theorem c_X_greatestDivisor {a0 : Int32} {a1 : Int32} : Rn (d + 1) (y, .invokestatic 116 :: is, nx, ls, .int a1 :: .int a0 :: r) h Q = (rc8 r ∧ Rj d 116 0 [.int a0, .int a1, .null, .null, .null, .null] [] h (KQ d y is nx ls r Q)) := (rn_callx (q := 116) (as := [.int a0, .int a1]) (r := r) rfl (cl_S (as := [.int a0, .int a1]) rfl rfl) rfl (Nat.le_of_ble_eq_true rfl)).trans (true_and _)
theorem c_X_stake {k : Nat} {a0 : Int32} {a1 : Int32} {a2 : Int32} : Rn (d + 1) (y, .invokevirtual 117 :: is, nx, ls, .int a2 :: .int a1 :: .int a0 :: .ref k :: r) h Q = (am_ck (h.2.2 k) 11 = true ∧ rc8 r ∧ Rj d 117 0 [.ref k, .int a0, .int a1, .int a2] [] h (KQ d y is nx ls r Q)) := rn_callx (q := 117) (as := [.ref k, .int a0, .int a1, .int a2]) (r := r) rfl (cl_V (as := [.int a0, .int a1, .int a2]) rfl rfl) rfl (Nat.le_of_ble_eq_true rfl)
theorem c_X_whom {k : Nat} {a0 : Int32} : Rn (d + 1) (y, .invokevirtual 118 :: is, nx, ls, .int a0 :: .ref k :: r) h Q = (am_ck (h.2.2 k) 11 = true ∧ rc8 r ∧ Rj d 118 0 [.ref k, .int a0, .null, .null] [] h (KQ d y is nx ls r Q)) := rn_callx (q := 118) (as := [.ref k, .int a0]) (r := r) rfl (cl_V (as := [.int a0]) rfl rfl) rfl (Nat.le_of_ble_eq_true rfl)
theorem c_X_count {k : Nat} {a0 : Int32} : Rn (d + 1) (y, .invokevirtual 119 :: is, nx, ls, .int a0 :: .ref k :: r) h Q = (am_ck (h.2.2 k) 11 = true ∧ rc8 r ∧ Rj d 119 0 [.ref k, .int a0] [] h (KQ d y is nx ls r Q)) := rn_callx (q := 119) (as := [.ref k, .int a0]) (r := r) rfl (cl_V (as := [.int a0]) rfl rfl) rfl (Nat.le_of_ble_eq_true rfl)
theorem c_X_digest {k : Nat} : Rn (d + 1) (y, .invokevirtual 120 :: is, nx, ls, .ref k :: r) h Q = (am_ck (h.2.2 k) 11 = true ∧ rc8 r ∧ Rj d 120 0 [.ref k, .null, .null, .null] [] h (KQ d y is nx ls r Q)) := rn_callx (q := 120) (as := [.ref k]) (r := r) rfl (cl_V (as := []) rfl rfl) rfl (Nat.le_of_ble_eq_true rfl)
theorem c_X_digestLore {k : Nat} {a0 : Int64} : Rn (d + 1) (y, .invokevirtual 121 :: is, nx, ls, .long a0 :: .ref k :: r) h Q = (am_ck (h.2.2 k) 11 = true ∧ rc8 r ∧ Rj d 121 0 [.ref k, .long a0, .null, .null, .null, .null, .null] [] h (KQ d y is nx ls r Q)) := rn_callx (q := 121) (as := [.ref k, .long a0]) (r := r) rfl (cl_V (as := [.long a0]) rfl rfl) rfl (Nat.le_of_ble_eq_true rfl)
theorem c_X_digestRiddles {k : Nat} {a0 : Int64} : Rn (d + 1) (y, .invokevirtual 122 :: is, nx, ls, .long a0 :: .ref k :: r) h Q = (am_ck (h.2.2 k) 11 = true ∧ rc8 r ∧ Rj d 122 0 [.ref k, .long a0, .null, .null, .null, .null, .null, .null] [] h (KQ d y is nx ls r Q)) := rn_callx (q := 122) (as := [.ref k, .long a0]) (r := r) rfl (cl_V (as := [.long a0]) rfl rfl) rfl (Nat.le_of_ble_eq_true rfl)
theorem c_X_digestTongues {k : Nat} {a0 : Int64} : Rn (d + 1) (y, .invokevirtual 123 :: is, nx, ls, .long a0 :: .ref k :: r) h Q = (am_ck (h.2.2 k) 11 = true ∧ rc8 r ∧ Rj d 123 0 [.ref k, .long a0, .null, .null, .null, .null, .null] [] h (KQ d y is nx ls r Q)) := rn_callx (q := 123) (as := [.ref k, .long a0]) (r := r) rfl (cl_V (as := [.long a0]) rfl rfl) rfl (Nat.le_of_ble_eq_true rfl)
theorem c_X_digestLands {k : Nat} {a0 : Int64} : Rn (d + 1) (y, .invokevirtual 124 :: is, nx, ls, .long a0 :: .ref k :: r) h Q = (am_ck (h.2.2 k) 11 = true ∧ rc8 r ∧ Rj d 124 0 [.ref k, .long a0, .null, .null, .null, .null] [] h (KQ d y is nx ls r Q)) := rn_callx (q := 124) (as := [.ref k, .long a0]) (r := r) rfl (cl_V (as := [.long a0]) rfl rfl) rfl (Nat.le_of_ble_eq_true rfl)
theorem c_M_init {k : Nat} : Rn (d + 1) (y, .invokespecial 125 :: is, nx, ls, .ref k :: r) h Q = (am_ck (h.2.2 k) 12 = true ∧ rc8 r ∧ Rj d 125 0 [.ref k, .null] [] h (KQ d y is nx ls r Q)) := rn_callx (q := 125) (as := [.ref k]) (r := r) rfl (cl_I (as := []) rfl rfl) rfl (Nat.le_of_ble_eq_true rfl)
theorem c_M_thing {k : Nat} {a0 : Int32} : Rn (d + 1) (y, .invokevirtual 126 :: is, nx, ls, .int a0 :: .ref k :: r) h Q = (am_ck (h.2.2 k) 12 = true ∧ rc8 r ∧ Rj d 126 0 [.ref k, .int a0] [] h (KQ d y is nx ls r Q)) := rn_callx (q := 126) (as := [.ref k, .int a0]) (r := r) rfl (cl_V (as := [.int a0]) rfl rfl) rfl (Nat.le_of_ble_eq_true rfl)
theorem c_M_in {a0 : Int64} {a1 : Int64} {a2 : Int64} : Rn (d + 1) (y, .invokestatic 127 :: is, nx, ls, .long a2 :: .long a1 :: .long a0 :: r) h Q = (rc8 r ∧ Rj d 127 0 [.long a0, .null, .long a1, .null, .long a2, .null] [] h (KQ d y is nx ls r Q)) := (rn_callx (q := 127) (as := [.long a0, .long a1, .long a2]) (r := r) rfl (cl_S (as := [.long a0, .long a1, .long a2]) rfl rfl) rfl (Nat.le_of_ble_eq_true rfl)).trans (true_and _)
theorem c_M_sense {k : Nat} {a0 : Int32} {a1 : Int32} : Rn (d + 1) (y, .invokevirtual 128 :: is, nx, ls, .int a1 :: .int a0 :: .ref k :: r) h Q = (am_ck (h.2.2 k) 12 = true ∧ rc8 r ∧ Rj d 128 0 [.ref k, .int a0, .int a1, .null, .null] [] h (KQ d y is nx ls r Q)) := rn_callx (q := 128) (as := [.ref k, .int a0, .int a1]) (r := r) rfl (cl_V (as := [.int a0, .int a1]) rfl rfl) rfl (Nat.le_of_ble_eq_true rfl)
theorem c_M_isWord {a0 : Int32} : Rn (d + 1) (y, .invokestatic 129 :: is, nx, ls, .int a0 :: r) h Q = (rc8 r ∧ Rj d 129 0 [.int a0] [] h (KQ d y is nx ls r Q)) := (rn_callx (q := 129) (as := [.int a0]) (r := r) rfl (cl_S (as := [.int a0]) rfl rfl) rfl (Nat.le_of_ble_eq_true rfl)).trans (true_and _)
theorem c_M_senseOf {k : Nat} {a0 : Int32} {a1 : Int32} : Rn (d + 1) (y, .invokevirtual 130 :: is, nx, ls, .int a1 :: .int a0 :: .ref k :: r) h Q = (am_ck (h.2.2 k) 12 = true ∧ rc8 r ∧ Rj d 130 0 [.ref k, .int a0, .int a1] [] h (KQ d y is nx ls r Q)) := rn_callx (q := 130) (as := [.ref k, .int a0, .int a1]) (r := r) rfl (cl_V (as := [.int a0, .int a1]) rfl rfl) rfl (Nat.le_of_ble_eq_true rfl)
theorem c_M_saying {k : Nat} {a0 : Int32} {a1 : Int32} {a2 : Int32} : Rn (d + 1) (y, .invokevirtual 131 :: is, nx, ls, .int a2 :: .int a1 :: .int a0 :: .ref k :: r) h Q = (am_ck (h.2.2 k) 12 = true ∧ rc8 r ∧ Rj d 131 0 [.ref k, .int a0, .int a1, .int a2] [] h (KQ d y is nx ls r Q)) := rn_callx (q := 131) (as := [.ref k, .int a0, .int a1, .int a2]) (r := r) rfl (cl_V (as := [.int a0, .int a1, .int a2]) rfl rfl) rfl (Nat.le_of_ble_eq_true rfl)
theorem c_M_as {k : Nat} {a0 : Int32} {a1 : Int32} : Rn (d + 1) (y, .invokevirtual 132 :: is, nx, ls, .int a1 :: .int a0 :: .ref k :: r) h Q = (am_ck (h.2.2 k) 12 = true ∧ rc8 r ∧ Rj d 132 0 [.ref k, .int a0, .int a1, .null] [] h (KQ d y is nx ls r Q)) := rn_callx (q := 132) (as := [.ref k, .int a0, .int a1]) (r := r) rfl (cl_V (as := [.int a0, .int a1]) rfl rfl) rfl (Nat.le_of_ble_eq_true rfl)
theorem c_M_isSaying {k : Nat} {a0 : Int32} : Rn (d + 1) (y, .invokevirtual 133 :: is, nx, ls, .int a0 :: .ref k :: r) h Q = (am_ck (h.2.2 k) 12 = true ∧ rc8 r ∧ Rj d 133 0 [.ref k, .int a0] [] h (KQ d y is nx ls r Q)) := rn_callx (q := 133) (as := [.ref k, .int a0]) (r := r) rfl (cl_V (as := [.int a0]) rfl rfl) rfl (Nat.le_of_ble_eq_true rfl)
theorem c_M_fits {k : Nat} {a0 : Int32} {a1 : Int32} : Rn (d + 1) (y, .invokevirtual 134 :: is, nx, ls, .int a1 :: .int a0 :: .ref k :: r) h Q = (am_ck (h.2.2 k) 12 = true ∧ rc8 r ∧ Rj d 134 0 [.ref k, .int a0, .int a1] [] h (KQ d y is nx ls r Q)) := rn_callx (q := 134) (as := [.ref k, .int a0, .int a1]) (r := r) rfl (cl_V (as := [.int a0, .int a1]) rfl rfl) rfl (Nat.le_of_ble_eq_true rfl)
theorem c_M_isThing {k : Nat} {a0 : Int32} : Rn (d + 1) (y, .invokevirtual 135 :: is, nx, ls, .int a0 :: .ref k :: r) h Q = (am_ck (h.2.2 k) 12 = true ∧ rc8 r ∧ Rj d 135 0 [.ref k, .int a0] [] h (KQ d y is nx ls r Q)) := rn_callx (q := 135) (as := [.ref k, .int a0]) (r := r) rfl (cl_V (as := [.int a0]) rfl rfl) rfl (Nat.le_of_ble_eq_true rfl)
theorem c_M_by {k : Nat} {a0 : Int32} {a1 : Int32} {a2 : Int32} : Rn (d + 1) (y, .invokevirtual 136 :: is, nx, ls, .int a2 :: .int a1 :: .int a0 :: .ref k :: r) h Q = (am_ck (h.2.2 k) 12 = true ∧ rc8 r ∧ Rj d 136 0 [.ref k, .int a0, .int a1, .int a2, .null, .null, .null, .null, .null, .null] [] h (KQ d y is nx ls r Q)) := rn_callx (q := 136) (as := [.ref k, .int a0, .int a1, .int a2]) (r := r) rfl (cl_V (as := [.int a0, .int a1, .int a2]) rfl rfl) rfl (Nat.le_of_ble_eq_true rfl)
theorem c_M_bitsOf {a0 : Int32} : Rn (d + 1) (y, .invokestatic 137 :: is, nx, ls, .int a0 :: r) h Q = (rc8 r ∧ Rj d 137 0 [.int a0, .null, .null] [] h (KQ d y is nx ls r Q)) := (rn_callx (q := 137) (as := [.int a0]) (r := r) rfl (cl_S (as := [.int a0]) rfl rfl) rfl (Nat.le_of_ble_eq_true rfl)).trans (true_and _)
theorem c_M_has {k : Nat} {a0 : Int32} {a1 : Int32} : Rn (d + 1) (y, .invokevirtual 138 :: is, nx, ls, .int a1 :: .int a0 :: .ref k :: r) h Q = (am_ck (h.2.2 k) 12 = true ∧ rc8 r ∧ Rj d 138 0 [.ref k, .int a0, .int a1] [] h (KQ d y is nx ls r Q)) := rn_callx (q := 138) (as := [.ref k, .int a0, .int a1]) (r := r) rfl (cl_V (as := [.int a0, .int a1]) rfl rfl) rfl (Nat.le_of_ble_eq_true rfl)
theorem c_M_riddle {k : Nat} {a0 : Int32} : Rn (d + 1) (y, .invokevirtual 139 :: is, nx, ls, .int a0 :: .ref k :: r) h Q = (am_ck (h.2.2 k) 12 = true ∧ rc8 r ∧ Rj d 139 0 [.ref k, .int a0] [] h (KQ d y is nx ls r Q)) := rn_callx (q := 139) (as := [.ref k, .int a0]) (r := r) rfl (cl_V (as := [.int a0]) rfl rfl) rfl (Nat.le_of_ble_eq_true rfl)
theorem c_M_more {k : Nat} {a0 : Int32} {a1 : Int32} : Rn (d + 1) (y, .invokevirtual 140 :: is, nx, ls, .int a1 :: .int a0 :: .ref k :: r) h Q = (am_ck (h.2.2 k) 12 = true ∧ rc8 r ∧ Rj d 140 0 [.ref k, .int a0, .int a1] [] h (KQ d y is nx ls r Q)) := rn_callx (q := 140) (as := [.ref k, .int a0, .int a1]) (r := r) rfl (cl_V (as := [.int a0, .int a1]) rfl rfl) rfl (Nat.le_of_ble_eq_true rfl)
theorem c_M_isRiddle {k : Nat} {a0 : Int32} : Rn (d + 1) (y, .invokevirtual 141 :: is, nx, ls, .int a0 :: .ref k :: r) h Q = (am_ck (h.2.2 k) 12 = true ∧ rc8 r ∧ Rj d 141 0 [.ref k, .int a0] [] h (KQ d y is nx ls r Q)) := rn_callx (q := 141) (as := [.ref k, .int a0]) (r := r) rfl (cl_V (as := [.int a0]) rfl rfl) rfl (Nat.le_of_ble_eq_true rfl)
theorem c_M_said {k : Nat} {a0 : Int32} {a1 : Int32} : Rn (d + 1) (y, .invokevirtual 142 :: is, nx, ls, .int a1 :: .int a0 :: .ref k :: r) h Q = (am_ck (h.2.2 k) 12 = true ∧ rc8 r ∧ Rj d 142 0 [.ref k, .int a0, .int a1] [] h (KQ d y is nx ls r Q)) := rn_callx (q := 142) (as := [.ref k, .int a0, .int a1]) (r := r) rfl (cl_V (as := [.int a0, .int a1]) rfl rfl) rfl (Nat.le_of_ble_eq_true rfl)
theorem c_M_answers {k : Nat} {a0 : Int32} : Rn (d + 1) (y, .invokevirtual 143 :: is, nx, ls, .int a0 :: .ref k :: r) h Q = (am_ck (h.2.2 k) 12 = true ∧ rc8 r ∧ Rj d 143 0 [.ref k, .int a0] [] h (KQ d y is nx ls r Q)) := rn_callx (q := 143) (as := [.ref k, .int a0]) (r := r) rfl (cl_V (as := [.int a0]) rfl rfl) rfl (Nat.le_of_ble_eq_true rfl)
theorem c_M_answersOf {k : Nat} {a0 : Int32} : Rn (d + 1) (y, .invokevirtual 144 :: is, nx, ls, .int a0 :: .ref k :: r) h Q = (am_ck (h.2.2 k) 12 = true ∧ rc8 r ∧ Rj d 144 0 [.ref k, .int a0] [] h (KQ d y is nx ls r Q)) := rn_callx (q := 144) (as := [.ref k, .int a0]) (r := r) rfl (cl_V (as := [.int a0]) rfl rfl) rfl (Nat.le_of_ble_eq_true rfl)
theorem c_M_answersBy {k : Nat} {a0 : Int32} {a1 : Int32} {a2 : Int32} : Rn (d + 1) (y, .invokevirtual 145 :: is, nx, ls, .int a2 :: .int a1 :: .int a0 :: .ref k :: r) h Q = (am_ck (h.2.2 k) 12 = true ∧ rc8 r ∧ Rj d 145 0 [.ref k, .int a0, .int a1, .int a2, .null, .null, .null, .null] [] h (KQ d y is nx ls r Q)) := rn_callx (q := 145) (as := [.ref k, .int a0, .int a1, .int a2]) (r := r) rfl (cl_V (as := [.int a0, .int a1, .int a2]) rfl rfl) rfl (Nat.le_of_ble_eq_true rfl)
theorem c_M_turns {k : Nat} {a0 : Int32} {a1 : Int32} : Rn (d + 1) (y, .invokevirtual 146 :: is, nx, ls, .int a1 :: .int a0 :: .ref k :: r) h Q = (am_ck (h.2.2 k) 12 = true ∧ rc8 r ∧ Rj d 146 0 [.ref k, .int a0, .int a1] [] h (KQ d y is nx ls r Q)) := rn_callx (q := 146) (as := [.ref k, .int a0, .int a1]) (r := r) rfl (cl_V (as := [.int a0, .int a1]) rfl rfl) rfl (Nat.le_of_ble_eq_true rfl)
theorem c_M_turnsOf {k : Nat} {a0 : Int32} {a1 : Int32} : Rn (d + 1) (y, .invokevirtual 147 :: is, nx, ls, .int a1 :: .int a0 :: .ref k :: r) h Q = (am_ck (h.2.2 k) 12 = true ∧ rc8 r ∧ Rj d 147 0 [.ref k, .int a0, .int a1, .null, .null] [] h (KQ d y is nx ls r Q)) := rn_callx (q := 147) (as := [.ref k, .int a0, .int a1]) (r := r) rfl (cl_V (as := [.int a0, .int a1]) rfl rfl) rfl (Nat.le_of_ble_eq_true rfl)
theorem c_M_judge {k : Nat} {a0 : Int32} {a1 : Int32} {a2 : Int32} : Rn (d + 1) (y, .invokevirtual 148 :: is, nx, ls, .int a2 :: .int a1 :: .int a0 :: .ref k :: r) h Q = (am_ck (h.2.2 k) 12 = true ∧ rc8 r ∧ Rj d 148 0 [.ref k, .int a0, .int a1, .int a2, .null, .null] [] h (KQ d y is nx ls r Q)) := rn_callx (q := 148) (as := [.ref k, .int a0, .int a1, .int a2]) (r := r) rfl (cl_V (as := [.int a0, .int a1, .int a2]) rfl rfl) rfl (Nat.le_of_ble_eq_true rfl)
theorem c_M_astray {k : Nat} {a0 : Int32} {a1 : Int32} : Rn (d + 1) (y, .invokevirtual 149 :: is, nx, ls, .int a1 :: .int a0 :: .ref k :: r) h Q = (am_ck (h.2.2 k) 12 = true ∧ rc8 r ∧ Rj d 149 0 [.ref k, .int a0, .int a1, .null, .null, .null, .null] [] h (KQ d y is nx ls r Q)) := rn_callx (q := 149) (as := [.ref k, .int a0, .int a1]) (r := r) rfl (cl_V (as := [.int a0, .int a1]) rfl rfl) rfl (Nat.le_of_ble_eq_true rfl)
theorem c_M_made {k : Nat} {a0 : Int32} {a1 : Int32} : Rn (d + 1) (y, .invokevirtual 150 :: is, nx, ls, .int a1 :: .int a0 :: .ref k :: r) h Q = (am_ck (h.2.2 k) 12 = true ∧ rc8 r ∧ Rj d 150 0 [.ref k, .int a0, .int a1, .null, .null] [] h (KQ d y is nx ls r Q)) := rn_callx (q := 150) (as := [.ref k, .int a0, .int a1]) (r := r) rfl (cl_V (as := [.int a0, .int a1]) rfl rfl) rfl (Nat.le_of_ble_eq_true rfl)
theorem c_M_bestOf {k : Nat} {a0 : Int32} {a1 : Int32} : Rn (d + 1) (y, .invokevirtual 151 :: is, nx, ls, .int a1 :: .int a0 :: .ref k :: r) h Q = (am_ck (h.2.2 k) 12 = true ∧ rc8 r ∧ Rj d 151 0 [.ref k, .int a0, .int a1, .null, .null, .null, .null, .null, .null, .null] [] h (KQ d y is nx ls r Q)) := rn_callx (q := 151) (as := [.ref k, .int a0, .int a1]) (r := r) rfl (cl_V (as := [.int a0, .int a1]) rfl rfl) rfl (Nat.le_of_ble_eq_true rfl)
theorem c_M_head {k : Nat} {a0 : Int32} {a1 : Int32} : Rn (d + 1) (y, .invokevirtual 152 :: is, nx, ls, .int a1 :: .int a0 :: .ref k :: r) h Q = (am_ck (h.2.2 k) 12 = true ∧ rc8 r ∧ Rj d 152 0 [.ref k, .int a0, .int a1] [] h (KQ d y is nx ls r Q)) := rn_callx (q := 152) (as := [.ref k, .int a0, .int a1]) (r := r) rfl (cl_V (as := [.int a0, .int a1]) rfl rfl) rfl (Nat.le_of_ble_eq_true rfl)
theorem c_M_hears {k : Nat} {a0 : Int32} {a1 : Int32} {a2 : Int32} : Rn (d + 1) (y, .invokevirtual 153 :: is, nx, ls, .int a2 :: .int a1 :: .int a0 :: .ref k :: r) h Q = (am_ck (h.2.2 k) 12 = true ∧ rc8 r ∧ Rj d 153 0 [.ref k, .int a0, .int a1, .int a2, .null] [] h (KQ d y is nx ls r Q)) := rn_callx (q := 153) (as := [.ref k, .int a0, .int a1, .int a2]) (r := r) rfl (cl_V (as := [.int a0, .int a1, .int a2]) rfl rfl) rfl (Nat.le_of_ble_eq_true rfl)
theorem c_M_isHead {k : Nat} {a0 : Int32} : Rn (d + 1) (y, .invokevirtual 154 :: is, nx, ls, .int a0 :: .ref k :: r) h Q = (am_ck (h.2.2 k) 12 = true ∧ rc8 r ∧ Rj d 154 0 [.ref k, .int a0] [] h (KQ d y is nx ls r Q)) := rn_callx (q := 154) (as := [.ref k, .int a0]) (r := r) rfl (cl_V (as := [.int a0]) rfl rfl) rfl (Nat.le_of_ble_eq_true rfl)
theorem c_M_hearsOf {k : Nat} {a0 : Int32} {a1 : Int32} : Rn (d + 1) (y, .invokevirtual 155 :: is, nx, ls, .int a1 :: .int a0 :: .ref k :: r) h Q = (am_ck (h.2.2 k) 12 = true ∧ rc8 r ∧ Rj d 155 0 [.ref k, .int a0, .int a1, .null, .null, .null, .null, .null] [] h (KQ d y is nx ls r Q)) := rn_callx (q := 155) (as := [.ref k, .int a0, .int a1]) (r := r) rfl (cl_V (as := [.int a0, .int a1]) rfl rfl) rfl (Nat.le_of_ble_eq_true rfl)
theorem c_M_parts {k : Nat} {a0 : Int32} : Rn (d + 1) (y, .invokevirtual 156 :: is, nx, ls, .int a0 :: .ref k :: r) h Q = (am_ck (h.2.2 k) 12 = true ∧ rc8 r ∧ Rj d 156 0 [.ref k, .int a0, .null, .null, .null, .null, .null, .null] [] h (KQ d y is nx ls r Q)) := rn_callx (q := 156) (as := [.ref k, .int a0]) (r := r) rfl (cl_V (as := [.int a0]) rfl rfl) rfl (Nat.le_of_ble_eq_true rfl)
theorem c_M_blind {k : Nat} {a0 : Int32} {a1 : Int32} : Rn (d + 1) (y, .invokevirtual 157 :: is, nx, ls, .int a1 :: .int a0 :: .ref k :: r) h Q = (am_ck (h.2.2 k) 12 = true ∧ rc8 r ∧ Rj d 157 0 [.ref k, .int a0, .int a1, .null, .null] [] h (KQ d y is nx ls r Q)) := rn_callx (q := 157) (as := [.ref k, .int a0, .int a1]) (r := r) rfl (cl_V (as := [.int a0, .int a1]) rfl rfl) rfl (Nat.le_of_ble_eq_true rfl)
theorem c_M_tongue {k : Nat} : Rn (d + 1) (y, .invokevirtual 158 :: is, nx, ls, .ref k :: r) h Q = (am_ck (h.2.2 k) 12 = true ∧ rc8 r ∧ Rj d 158 0 [.ref k] [] h (KQ d y is nx ls r Q)) := rn_callx (q := 158) (as := [.ref k]) (r := r) rfl (cl_V (as := []) rfl rfl) rfl (Nat.le_of_ble_eq_true rfl)
theorem c_M_lack {k : Nat} {a0 : Int32} {a1 : Int32} {a2 : Int32} {a3 : Int32} : Rn (d + 1) (y, .invokevirtual 159 :: is, nx, ls, .int a3 :: .int a2 :: .int a1 :: .int a0 :: .ref k :: r) h Q = (am_ck (h.2.2 k) 12 = true ∧ rc8 r ∧ Rj d 159 0 [.ref k, .int a0, .int a1, .int a2, .int a3, .null, .null] [] h (KQ d y is nx ls r Q)) := rn_callx (q := 159) (as := [.ref k, .int a0, .int a1, .int a2, .int a3]) (r := r) rfl (cl_V (as := [.int a0, .int a1, .int a2, .int a3]) rfl rfl) rfl (Nat.le_of_ble_eq_true rfl)
theorem c_M_isTongue {k : Nat} {a0 : Int32} : Rn (d + 1) (y, .invokevirtual 160 :: is, nx, ls, .int a0 :: .ref k :: r) h Q = (am_ck (h.2.2 k) 12 = true ∧ rc8 r ∧ Rj d 160 0 [.ref k, .int a0] [] h (KQ d y is nx ls r Q)) := rn_callx (q := 160) (as := [.ref k, .int a0]) (r := r) rfl (cl_V (as := [.int a0]) rfl rfl) rfl (Nat.le_of_ble_eq_true rfl)
theorem c_M_goes {k : Nat} {a0 : Int32} {a1 : Int32} {a2 : Int32} {a3 : Int32} : Rn (d + 1) (y, .invokevirtual 161 :: is, nx, ls, .int a3 :: .int a2 :: .int a1 :: .int a0 :: .ref k :: r) h Q = (am_ck (h.2.2 k) 12 = true ∧ rc8 r ∧ Rj d 161 0 [.ref k, .int a0, .int a1, .int a2, .int a3] [] h (KQ d y is nx ls r Q)) := rn_callx (q := 161) (as := [.ref k, .int a0, .int a1, .int a2, .int a3]) (r := r) rfl (cl_V (as := [.int a0, .int a1, .int a2, .int a3]) rfl rfl) rfl (Nat.le_of_ble_eq_true rfl)
theorem c_M_lacksOf {k : Nat} {a0 : Int32} {a1 : Int32} {a2 : Int32} : Rn (d + 1) (y, .invokevirtual 162 :: is, nx, ls, .int a2 :: .int a1 :: .int a0 :: .ref k :: r) h Q = (am_ck (h.2.2 k) 12 = true ∧ rc8 r ∧ Rj d 162 0 [.ref k, .int a0, .int a1, .int a2, .null, .null] [] h (KQ d y is nx ls r Q)) := rn_callx (q := 162) (as := [.ref k, .int a0, .int a1, .int a2]) (r := r) rfl (cl_V (as := [.int a0, .int a1, .int a2]) rfl rfl) rfl (Nat.le_of_ble_eq_true rfl)
theorem c_M_byIn {k : Nat} {a0 : Int32} {a1 : Int32} {a2 : Int32} : Rn (d + 1) (y, .invokevirtual 163 :: is, nx, ls, .int a2 :: .int a1 :: .int a0 :: .ref k :: r) h Q = (am_ck (h.2.2 k) 12 = true ∧ rc8 r ∧ Rj d 163 0 [.ref k, .int a0, .int a1, .int a2] [] h (KQ d y is nx ls r Q)) := rn_callx (q := 163) (as := [.ref k, .int a0, .int a1, .int a2]) (r := r) rfl (cl_V (as := [.int a0, .int a1, .int a2]) rfl rfl) rfl (Nat.le_of_ble_eq_true rfl)
theorem c_M_goesOf {k : Nat} {a0 : Int32} {a1 : Int32} {a2 : Int32} : Rn (d + 1) (y, .invokevirtual 164 :: is, nx, ls, .int a2 :: .int a1 :: .int a0 :: .ref k :: r) h Q = (am_ck (h.2.2 k) 12 = true ∧ rc8 r ∧ Rj d 164 0 [.ref k, .int a0, .int a1, .int a2, .null, .null] [] h (KQ d y is nx ls r Q)) := rn_callx (q := 164) (as := [.ref k, .int a0, .int a1, .int a2]) (r := r) rfl (cl_V (as := [.int a0, .int a1, .int a2]) rfl rfl) rfl (Nat.le_of_ble_eq_true rfl)
theorem c_M_nearest {k : Nat} {a0 : Int32} {a1 : Int32} : Rn (d + 1) (y, .invokevirtual 165 :: is, nx, ls, .int a1 :: .int a0 :: .ref k :: r) h Q = (am_ck (h.2.2 k) 12 = true ∧ rc8 r ∧ Rj d 165 0 [.ref k, .int a0, .int a1, .null, .null, .null, .null] [] h (KQ d y is nx ls r Q)) := rn_callx (q := 165) (as := [.ref k, .int a0, .int a1]) (r := r) rfl (cl_V (as := [.int a0, .int a1]) rfl rfl) rfl (Nat.le_of_ble_eq_true rfl)
theorem c_M_letters {k : Nat} {a0 : Int64} : Rn (d + 1) (y, .invokevirtual 166 :: is, nx, ls, .long a0 :: .ref k :: r) h Q = (am_ck (h.2.2 k) 12 = true ∧ rc8 r ∧ Rj d 166 0 [.ref k, .long a0, .null, .null, .null, .null, .null, .null, .null] [] h (KQ d y is nx ls r Q)) := rn_callx (q := 166) (as := [.ref k, .long a0]) (r := r) rfl (cl_V (as := [.long a0]) rfl rfl) rfl (Nat.le_of_ble_eq_true rfl)
theorem c_M_blank {k : Nat} : Rn (d + 1) (y, .invokevirtual 167 :: is, nx, ls, .ref k :: r) h Q = (am_ck (h.2.2 k) 12 = true ∧ rc8 r ∧ Rj d 167 0 [.ref k, .null] [] h (KQ d y is nx ls r Q)) := rn_callx (q := 167) (as := [.ref k]) (r := r) rfl (cl_V (as := []) rfl rfl) rfl (Nat.le_of_ble_eq_true rfl)
theorem c_M_fault {k : Nat} : Rn (d + 1) (y, .invokevirtual 168 :: is, nx, ls, .ref k :: r) h Q = (am_ck (h.2.2 k) 12 = true ∧ rc8 r ∧ Rj d 168 0 [.ref k] [] h (KQ d y is nx ls r Q)) := rn_callx (q := 168) (as := [.ref k]) (r := r) rfl (cl_V (as := []) rfl rfl) rfl (Nat.le_of_ble_eq_true rfl)
theorem c_M_faultOf {k : Nat} : Rn (d + 1) (y, .invokevirtual 169 :: is, nx, ls, .ref k :: r) h Q = (am_ck (h.2.2 k) 12 = true ∧ rc8 r ∧ Rj d 169 0 [.ref k, .null] [] h (KQ d y is nx ls r Q)) := rn_callx (q := 169) (as := [.ref k]) (r := r) rfl (cl_V (as := []) rfl rfl) rfl (Nat.le_of_ble_eq_true rfl)
theorem c_M_go {k : Nat} {a0 : Int32} : Rn (d + 1) (y, .invokevirtual 170 :: is, nx, ls, .int a0 :: .ref k :: r) h Q = (am_ck (h.2.2 k) 12 = true ∧ rc8 r ∧ Rj d 170 0 [.ref k, .int a0, .null] [] h (KQ d y is nx ls r Q)) := rn_callx (q := 170) (as := [.ref k, .int a0]) (r := r) rfl (cl_V (as := [.int a0]) rfl rfl) rfl (Nat.le_of_ble_eq_true rfl)
theorem c_M_addNode {k : Nat} {a0 : Int32} : Rn (d + 1) (y, .invokevirtual 171 :: is, nx, ls, .int a0 :: .ref k :: r) h Q = (am_ck (h.2.2 k) 12 = true ∧ rc8 r ∧ Rj d 171 0 [.ref k, .int a0] [] h (KQ d y is nx ls r Q)) := rn_callx (q := 171) (as := [.ref k, .int a0]) (r := r) rfl (cl_V (as := [.int a0]) rfl rfl) rfl (Nat.le_of_ble_eq_true rfl)
theorem c_M_endNode {k : Nat} {a0 : Int32} : Rn (d + 1) (y, .invokevirtual 172 :: is, nx, ls, .int a0 :: .ref k :: r) h Q = (am_ck (h.2.2 k) 12 = true ∧ rc8 r ∧ Rj d 172 0 [.ref k, .int a0] [] h (KQ d y is nx ls r Q)) := rn_callx (q := 172) (as := [.ref k, .int a0]) (r := r) rfl (cl_V (as := [.int a0]) rfl rfl) rfl (Nat.le_of_ble_eq_true rfl)
theorem c_M_tree {k : Nat} : Rn (d + 1) (y, .invokevirtual 173 :: is, nx, ls, .ref k :: r) h Q = (am_ck (h.2.2 k) 12 = true ∧ rc8 r ∧ Rj d 173 0 [.ref k, .null] [] h (KQ d y is nx ls r Q)) := rn_callx (q := 173) (as := [.ref k]) (r := r) rfl (cl_V (as := []) rfl rfl) rfl (Nat.le_of_ble_eq_true rfl)
theorem c_M_variant {k : Nat} {a0 : Int32} {a1 : Int32} : Rn (d + 1) (y, .invokevirtual 174 :: is, nx, ls, .int a1 :: .int a0 :: .ref k :: r) h Q = (am_ck (h.2.2 k) 12 = true ∧ rc8 r ∧ Rj d 174 0 [.ref k, .int a0, .int a1, .null] [] h (KQ d y is nx ls r Q)) := rn_callx (q := 174) (as := [.ref k, .int a0, .int a1]) (r := r) rfl (cl_V (as := [.int a0, .int a1]) rfl rfl) rfl (Nat.le_of_ble_eq_true rfl)
theorem c_M_changes {k : Nat} {a0 : Int32} : Rn (d + 1) (y, .invokevirtual 175 :: is, nx, ls, .int a0 :: .ref k :: r) h Q = (am_ck (h.2.2 k) 12 = true ∧ rc8 r ∧ Rj d 175 0 [.ref k, .int a0] [] h (KQ d y is nx ls r Q)) := rn_callx (q := 175) (as := [.ref k, .int a0]) (r := r) rfl (cl_V (as := [.int a0]) rfl rfl) rfl (Nat.le_of_ble_eq_true rfl)
theorem c_M_leastChanges {k : Nat} : Rn (d + 1) (y, .invokevirtual 176 :: is, nx, ls, .ref k :: r) h Q = (am_ck (h.2.2 k) 12 = true ∧ rc8 r ∧ Rj d 176 0 [.ref k, .null, .null, .null, .null, .null] [] h (KQ d y is nx ls r Q)) := rn_callx (q := 176) (as := [.ref k]) (r := r) rfl (cl_V (as := []) rfl rfl) rfl (Nat.le_of_ble_eq_true rfl)
theorem c_M_leastOf {a0 : Nat} {a1 : Int32} {a2 : Int32} : Rn (d + 1) (y, .invokestatic 177 :: is, nx, ls, .int a2 :: .int a1 :: .ref a0 :: r) h Q = (rc8 r ∧ Rj d 177 0 [.ref a0, .int a1, .int a2, .null, .null] [] h (KQ d y is nx ls r Q)) := (rn_callx (q := 177) (as := [.ref a0, .int a1, .int a2]) (r := r) rfl (cl_S (as := [.ref a0, .int a1, .int a2]) rfl rfl) rfl (Nat.le_of_ble_eq_true rfl)).trans (true_and _)
theorem c_M_sureOf {k : Nat} {a0 : Int32} : Rn (d + 1) (y, .invokevirtual 178 :: is, nx, ls, .int a0 :: .ref k :: r) h Q = (am_ck (h.2.2 k) 12 = true ∧ rc8 r ∧ Rj d 178 0 [.ref k, .int a0, .null, .null, .null, .null, .null] [] h (KQ d y is nx ls r Q)) := rn_callx (q := 178) (as := [.ref k, .int a0]) (r := r) rfl (cl_V (as := [.int a0]) rfl rfl) rfl (Nat.le_of_ble_eq_true rfl)
theorem c_M_chance {k : Nat} {a0 : Int32} : Rn (d + 1) (y, .invokevirtual 179 :: is, nx, ls, .int a0 :: .ref k :: r) h Q = (am_ck (h.2.2 k) 12 = true ∧ rc8 r ∧ Rj d 179 0 [.ref k, .int a0, .null, .null, .null, .null, .null] [] h (KQ d y is nx ls r Q)) := rn_callx (q := 179) (as := [.ref k, .int a0]) (r := r) rfl (cl_V (as := [.int a0]) rfl rfl) rfl (Nat.le_of_ble_eq_true rfl)
theorem c_M_deal {k : Nat} {a0 : Int32} {a1 : Int32} : Rn (d + 1) (y, .invokevirtual 180 :: is, nx, ls, .int a1 :: .int a0 :: .ref k :: r) h Q = (am_ck (h.2.2 k) 12 = true ∧ rc8 r ∧ Rj d 180 0 [.ref k, .int a0, .int a1, .null, .null, .null, .null, .null] [] h (KQ d y is nx ls r Q)) := rn_callx (q := 180) (as := [.ref k, .int a0, .int a1]) (r := r) rfl (cl_V (as := [.int a0, .int a1]) rfl rfl) rfl (Nat.le_of_ble_eq_true rfl)
theorem c_M_common {a0 : Int32} {a1 : Int32} : Rn (d + 1) (y, .invokestatic 181 :: is, nx, ls, .int a1 :: .int a0 :: r) h Q = (rc8 r ∧ Rj d 181 0 [.int a0, .int a1, .null, .null, .null] [] h (KQ d y is nx ls r Q)) := (rn_callx (q := 181) (as := [.int a0, .int a1]) (r := r) rfl (cl_S (as := [.int a0, .int a1]) rfl rfl) rfl (Nat.le_of_ble_eq_true rfl)).trans (true_and _)
theorem c_M_stake {k : Nat} {a0 : Int32} {a1 : Int32} {a2 : Int32} : Rn (d + 1) (y, .invokevirtual 182 :: is, nx, ls, .int a2 :: .int a1 :: .int a0 :: .ref k :: r) h Q = (am_ck (h.2.2 k) 12 = true ∧ rc8 r ∧ Rj d 182 0 [.ref k, .int a0, .int a1, .int a2, .null] [] h (KQ d y is nx ls r Q)) := rn_callx (q := 182) (as := [.ref k, .int a0, .int a1, .int a2]) (r := r) rfl (cl_V (as := [.int a0, .int a1, .int a2]) rfl rfl) rfl (Nat.le_of_ble_eq_true rfl)
theorem c_M_whom {k : Nat} {a0 : Int32} : Rn (d + 1) (y, .invokevirtual 183 :: is, nx, ls, .int a0 :: .ref k :: r) h Q = (am_ck (h.2.2 k) 12 = true ∧ rc8 r ∧ Rj d 183 0 [.ref k, .int a0] [] h (KQ d y is nx ls r Q)) := rn_callx (q := 183) (as := [.ref k, .int a0]) (r := r) rfl (cl_V (as := [.int a0]) rfl rfl) rfl (Nat.le_of_ble_eq_true rfl)
theorem c_M_layBrings {k : Nat} : Rn (d + 1) (y, .invokevirtual 184 :: is, nx, ls, .ref k :: r) h Q = (am_ck (h.2.2 k) 12 = true ∧ rc8 r ∧ Rj d 184 0 [.ref k, .null, .null, .null, .null, .null] [] h (KQ d y is nx ls r Q)) := rn_callx (q := 184) (as := [.ref k]) (r := r) rfl (cl_V (as := []) rfl rfl) rfl (Nat.le_of_ble_eq_true rfl)
theorem c_M_chosen {k : Nat} {a0 : Int32} : Rn (d + 1) (y, .invokevirtual 185 :: is, nx, ls, .int a0 :: .ref k :: r) h Q = (am_ck (h.2.2 k) 12 = true ∧ rc8 r ∧ Rj d 185 0 [.ref k, .int a0, .null, .null, .null, .null, .null] [] h (KQ d y is nx ls r Q)) := rn_callx (q := 185) (as := [.ref k, .int a0]) (r := r) rfl (cl_V (as := [.int a0]) rfl rfl) rfl (Nat.le_of_ble_eq_true rfl)
theorem c_M_count {k : Nat} {a0 : Int32} : Rn (d + 1) (y, .invokevirtual 186 :: is, nx, ls, .int a0 :: .ref k :: r) h Q = (am_ck (h.2.2 k) 12 = true ∧ rc8 r ∧ Rj d 186 0 [.ref k, .int a0] [] h (KQ d y is nx ls r Q)) := rn_callx (q := 186) (as := [.ref k, .int a0]) (r := r) rfl (cl_V (as := [.int a0]) rfl rfl) rfl (Nat.le_of_ble_eq_true rfl)
theorem c_M_countOf {k : Nat} {a0 : Int32} : Rn (d + 1) (y, .invokevirtual 187 :: is, nx, ls, .int a0 :: .ref k :: r) h Q = (am_ck (h.2.2 k) 12 = true ∧ rc8 r ∧ Rj d 187 0 [.ref k, .int a0, .null, .null] [] h (KQ d y is nx ls r Q)) := rn_callx (q := 187) (as := [.ref k, .int a0]) (r := r) rfl (cl_V (as := [.int a0]) rfl rfl) rfl (Nat.le_of_ble_eq_true rfl)
theorem c_M_digest {k : Nat} : Rn (d + 1) (y, .invokevirtual 188 :: is, nx, ls, .ref k :: r) h Q = (am_ck (h.2.2 k) 12 = true ∧ rc8 r ∧ Rj d 188 0 [.ref k, .null, .null] [] h (KQ d y is nx ls r Q)) := rn_callx (q := 188) (as := [.ref k]) (r := r) rfl (cl_V (as := []) rfl rfl) rfl (Nat.le_of_ble_eq_true rfl)
theorem c_M_tellSaid {k : Nat} : Rn (d + 1) (y, .invokevirtual 189 :: is, nx, ls, .ref k :: r) h Q = (am_ck (h.2.2 k) 12 = true ∧ rc8 r ∧ Rj d 189 0 [.ref k, .null, .null] [] h (KQ d y is nx ls r Q)) := rn_callx (q := 189) (as := [.ref k]) (r := r) rfl (cl_V (as := []) rfl rfl) rfl (Nat.le_of_ble_eq_true rfl)
theorem c_M_tell {k : Nat} {a0 : Int64} : Rn (d + 1) (y, .invokevirtual 190 :: is, nx, ls, .long a0 :: .ref k :: r) h Q = (am_ck (h.2.2 k) 12 = true ∧ rc8 r ∧ Rj d 190 0 [.ref k, .long a0, .null] [] h (KQ d y is nx ls r Q)) := rn_callx (q := 190) (as := [.ref k, .long a0]) (r := r) rfl (cl_V (as := [.long a0]) rfl rfl) rfl (Nat.le_of_ble_eq_true rfl)
theorem c_Arrays_fill {a0 : Nat} {a1 : Int32} : Rn (d + 1) (y, .invokestatic 191 :: is, nx, ls, .int a1 :: .ref a0 :: r) h Q = (rc8 r ∧ Rj d 191 0 [.ref a0, .int a1, .null, .null] [] h (KQ d y is nx ls r Q)) := (rn_callx (q := 191) (as := [.ref a0, .int a1]) (r := r) rfl (cl_S (as := [.ref a0, .int a1]) rfl rfl) rfl (Nat.le_of_ble_eq_true rfl)).trans (true_and _)
theorem c_Integer_bitCount {a0 : Int32} : Rn (d + 1) (y, .invokestatic 192 :: is, nx, ls, .int a0 :: r) h Q = (rc8 r ∧ Rj d 192 0 [.int a0] [] h (KQ d y is nx ls r Q)) := (rn_callx (q := 192) (as := [.int a0]) (r := r) rfl (cl_S (as := [.int a0]) rfl rfl) rfl (Nat.le_of_ble_eq_true rfl)).trans (true_and _)
theorem c_Arrays_fill_L {a0 : Nat} {a1 : Int64} : Rn (d + 1) (y, .invokestatic 193 :: is, nx, ls, .long a1 :: .ref a0 :: r) h Q = (rc8 r ∧ Rj d 193 0 [.ref a0, .long a1, .null, .null, .null] [] h (KQ d y is nx ls r Q)) := (rn_callx (q := 193) (as := [.ref a0, .long a1]) (r := r) rfl (cl_S (as := [.ref a0, .long a1]) rfl rfl) rfl (Nat.le_of_ble_eq_true rfl)).trans (true_and _)
end BLK
