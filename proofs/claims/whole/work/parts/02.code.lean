/-- MouthRiddles$Changes.<init>()V -/
def cd_Changes_init : List (Nat × List Instr × Nat) := [(0, [.aload 0, .monitorenter, .aload 0, .iconst 320, .newarray .int, .putfield 8192, .aload 0, .iconst 320, .newarray .int, .putfield 8193, .aload 0, .iconst 8, .newarray .int, .putfield 8194, .return_], 0)]
abbrev q_Changes_init : Nat := 0
/-- MouthRiddles$Changes.least(LMouthRiddles$Tree;[I)I -/
def cd_Changes_least : List (Nat × List Instr × Nat) := [(0, [.aload 0, .aload 1, .aload 2, .invokevirtual 2, .aload 0, .getfield 0, .iconst 0, .invokestatic 4, .ireturn], 0)]
abbrev q_Changes_least : Nat := 1
/-- MouthRiddles$Changes.weighBelow(LMouthRiddles$Tree;[I)V -/
def cd_Changes_weighBelow : List (Nat × List Instr × Nat) := [(0, [.iconst 0, .istore 3], 2),
  (2, [.iload 3, .aload 1, .getfield 643, .if_icmp .ge 88], 10),
  (10, [.aload 1, .getfield 641, .iload 3, .iaload, .istore 4, .iload 4, .iconst (-1), .if_icmp .ne 28], 24),
  (24, [.iconst (-1), .goto 32], 0),
  (28, [.aload 2, .iload 4, .iaload], 32),
  (32, [.istore 5, .iconst 0, .istore 6], 37),
  (37, [.iload 6, .iconst 8, .if_icmp .ge 82], 44),
  (44, [.aload 0, .getfield 0, .iload 3, .iconst 8, .imul, .iload 6, .iadd, .iload 5, .iconst (-1), .if_icmp .eq 68], 61),
  (61, [.iload 5, .iload 6, .if_icmp .ne 72], 68),
  (68, [.iconst 0, .goto 75], 0),
  (72, [.iconst 1000], 75),
  (75, [.iastore, .iinc 6 1, .goto 37], 0),
  (82, [.iinc 3 1, .goto 2], 0),
  (88, [.aload 1, .getfield 643, .iconst 1, .isub, .istore 3], 95),
  (95, [.iload 3, .ifCond .le 116], 99),
  (99, [.aload 0, .iload 3, .aload 1, .getfield 640, .iload 3, .iaload, .invokevirtual 3, .iinc 3 (-1), .goto 95], 0),
  (116, [.return_], 0)]
abbrev q_Changes_weighBelow : Nat := 2
/-- MouthRiddles$Changes.addToAbove(II)V -/
def cd_Changes_addToAbove : List (Nat × List Instr × Nat) := [(0, [.aload 0, .getfield 0, .iload 1, .iconst 8, .imul, .invokestatic 4, .iconst 1, .iadd, .istore 3, .iconst 0, .istore 4], 17),
  (17, [.iload 4, .iconst 8, .if_icmp .ge 61], 24),
  (24, [.aload 0, .getfield 0, .iload 2, .iconst 8, .imul, .iload 4, .iadd, .dup2, .iaload, .aload 0, .getfield 0, .iload 1, .iconst 8, .imul, .iload 4, .iadd, .iaload, .iload 3, .dadd, .iadd, .iastore, .iinc 4 1, .goto 17], 0),
  (61, [.return_], 0)]
abbrev q_Changes_addToAbove : Nat := 3
/-- MouthRiddles$Changes.leastOf([II)I -/
def cd_Changes_leastOf : List (Nat × List Instr × Nat) := [(0, [.aload 0, .iload 1, .iaload, .istore 2, .iconst 1, .istore 3], 6),
  (6, [.iload 3, .iconst 8, .if_icmp .ge 33], 12),
  (12, [.aload 0, .iload 1, .iload 3, .iadd, .iaload, .iload 2, .if_icmp .ge 27], 21),
  (21, [.aload 0, .iload 1, .iload 3, .iadd, .iaload, .istore 2], 27),
  (27, [.iinc 3 1, .goto 6], 0),
  (33, [.iload 2, .ireturn], 0)]
abbrev q_Changes_leastOf : Nat := 4
/-- MouthRiddles$Changes.weighAll(LMouthRiddles$Tree;[I)V -/
def cd_Changes_weighAll : List (Nat × List Instr × Nat) := [(0, [.aload 0, .aload 1, .aload 2, .invokevirtual 2, .aload 0, .getfield 0, .iconst 0, .aload 0, .getfield 1, .iconst 0, .iconst 8, .invokedynamic 0, .iconst 1, .istore 3], 23),
  (23, [.iload 3, .aload 1, .getfield 643, .if_icmp .ge 48], 31),
  (31, [.aload 0, .iload 3, .aload 1, .getfield 640, .iload 3, .iaload, .invokevirtual 6, .iinc 3 1, .goto 23], 0),
  (48, [.return_], 0)]
abbrev q_Changes_weighAll : Nat := 5
/-- MouthRiddles$Changes.weighWhole(II)V -/
def cd_Changes_weighWhole : List (Nat × List Instr × Nat) := [(0, [.aload 0, .getfield 0, .iload 1, .iconst 8, .imul, .invokestatic 4, .iconst 1, .iadd, .istore 3, .iconst 0, .istore 4], 17),
  (17, [.iload 4, .iconst 8, .if_icmp .ge 70], 24),
  (24, [.aload 0, .getfield 0, .iload 1, .iconst 8, .imul, .iload 4, .iadd, .iaload, .iload 3, .dadd, .istore 5, .aload 0, .getfield 2, .iload 4, .aload 0, .getfield 1, .iload 2, .iconst 8, .imul, .iload 4, .iadd, .iaload, .iload 5, .isub, .iastore, .iinc 4 1, .goto 17], 0),
  (70, [.aload 0, .getfield 2, .iconst 0, .invokestatic 4, .iconst 1, .iadd, .istore 4, .iconst 0, .istore 5], 85),
  (85, [.iload 5, .iconst 8, .if_icmp .ge 135], 92),
  (92, [.aload 0, .getfield 1, .iload 1, .iconst 8, .imul, .iload 5, .iadd, .aload 0, .getfield 0, .iload 1, .iconst 8, .imul, .iload 5, .iadd, .iaload, .aload 0, .getfield 2, .iload 5, .iaload, .iload 4, .dadd, .iadd, .iastore, .iinc 5 1, .goto 85], 0),
  (135, [.return_], 0)]
abbrev q_Changes_weighWhole : Nat := 6
/-- MouthRiddles$Changes.sureOf(I)I -/
def cd_Changes_sureOf : List (Nat × List Instr × Nat) := [(0, [.aload 0, .getfield 1, .iload 1, .iconst 8, .imul, .invokestatic 4, .istore 2, .iconst (-1), .istore 3, .iconst 0, .istore 4], 17),
  (17, [.iload 4, .iconst 8, .if_icmp .ge 56], 24),
  (24, [.aload 0, .getfield 1, .iload 1, .iconst 8, .imul, .iload 4, .iadd, .iaload, .iload 2, .if_icmp .ne 50], 40),
  (40, [.iload 3, .iconst (-1), .if_icmp .eq 47], 45),
  (45, [.iconst (-1), .ireturn], 0),
  (47, [.iload 4, .istore 3], 50),
  (50, [.iinc 4 1, .goto 17], 0),
  (56, [.iload 3, .ireturn], 0)]
abbrev q_Changes_sureOf : Nat := 7
/-- MouthRiddles$Deal.<init>()V -/
def cd_Deal_init : List (Nat × List Instr × Nat) := [(0, [.aload 0, .monitorenter, .aload 0, .iconst 8, .newarray .int, .putfield 8256, .aload 0, .iconst 8, .newarray .int, .putfield 8257, .aload 0, .iconst 8, .newarray .int, .putfield 8258, .aload 0, .iconst 8, .newarray .int, .putfield 8259, .return_], 0)]
abbrev q_Deal_init : Nat := 8
/-- MouthRiddles$Deal.countWays(LMouthRiddles$Tree;[ILMouthRiddles$Changes;)V -/
def cd_Deal_countWays : List (Nat × List Instr × Nat) := [(0, [.aload 0, .getfield 66, .iconst 0, .invokestatic 191, .aload 0, .iconst 0, .putfield 68, .iconst 0, .istore 4], 16),
  (16, [.iload 4, .iconst 8, .if_icmp .ge 94], 23),
  (23, [.aload 0, .getfield 64, .iload 4, .aload 2, .iload 4, .iaload, .iastore, .aload 1, .getfield 644, .iload 4, .ishr, .iconst 1, .iand, .ifCond .eq 88], 46),
  (46, [.aload 2, .iload 4, .iaload, .iconst (-1), .if_icmp .eq 88], 54),
  (54, [.aload 0, .getfield 65, .aload 0, .getfield 68, .iload 4, .iastore, .aload 0, .dup, .getfield 68, .iconst 1, .iadd, .putfield 68, .aload 0, .getfield 66, .aload 2, .iload 4, .iaload, .dup2, .iaload, .iconst 1, .iadd, .iastore], 88),
  (88, [.iinc 4 1, .goto 16], 0),
  (94, [.aload 0, .getfield 66, .iconst 0, .aload 0, .getfield 67, .iconst 0, .iconst 8, .invokedynamic 0, .aload 0, .aload 3, .aload 1, .aload 2, .invokevirtual 1, .putfield 69, .aload 0, .iconst 0, .putfield 70, .aload 0, .iconst 0, .putfield 71, .aload 0, .iconst 0, .aload 1, .aload 3, .invokestatic 10, .return_], 0)]
abbrev q_Deal_countWays : Nat := 9
/-- MouthRiddles$Deal.dealFrom(LMouthRiddles$Deal;ILMouthRiddles$Tree;LMouthRiddles$Changes;)V -/
def cd_Deal_dealFrom : List (Nat × List Instr × Nat) := [(0, [.iload 1, .aload 0, .getfield 68, .if_icmp .lt 45], 8),
  (8, [.aload 0, .dup, .getfield 70, .iconst 1, .iadd, .putfield 70, .aload 3, .aload 2, .aload 0, .getfield 64, .invokevirtual 1, .aload 0, .getfield 69, .if_icmp .gt 44], 34),
  (34, [.aload 0, .dup, .getfield 71, .iconst 1, .iadd, .putfield 71], 44),
  (44, [.return_], 0),
  (45, [.iconst 0, .istore 4], 48),
  (48, [.iload 4, .iconst 8, .if_icmp .ge 124], 55),
  (55, [.aload 0, .getfield 67, .iload 4, .iaload, .ifCond .le 118], 65),
  (65, [.aload 0, .iload 4, .invokevirtual 11, .ifCond .ne 118], 74),
  (74, [.aload 0, .getfield 67, .iload 4, .dup2, .iaload, .iconst 1, .isub, .iastore, .aload 0, .getfield 64, .aload 0, .getfield 65, .iload 1, .iaload, .iload 4, .iastore, .aload 0, .iload 1, .iconst 1, .iadd, .aload 2, .aload 3, .invokestatic 10, .aload 0, .getfield 67, .iload 4, .dup2, .iaload, .iconst 1, .iadd, .iastore], 118),
  (118, [.iinc 4 1, .goto 48], 0),
  (124, [.return_], 0)]
abbrev q_Deal_dealFrom : Nat := 10
/-- MouthRiddles$Deal.hasTwinBefore(I)Z -/
def cd_Deal_hasTwinBefore : List (Nat × List Instr × Nat) := [(0, [.aload 0, .getfield 67, .iload 1, .iaload, .aload 0, .getfield 66, .iload 1, .iaload, .if_icmp .ge 17], 15),
  (15, [.iconst 0, .freturn], 0),
  (17, [.iconst 0, .istore 2], 19),
  (19, [.iload 2, .iload 1, .if_icmp .ge 62], 24),
  (24, [.aload 0, .getfield 66, .iload 2, .iaload, .aload 0, .getfield 66, .iload 1, .iaload, .if_icmp .ne 56], 39),
  (39, [.aload 0, .getfield 67, .iload 2, .iaload, .aload 0, .getfield 66, .iload 2, .iaload, .if_icmp .ne 56], 54),
  (54, [.iconst 1, .freturn], 0),
  (56, [.iinc 2 1, .goto 19], 0),
  (62, [.iconst 0, .freturn], 0)]
abbrev q_Deal_hasTwinBefore : Nat := 11
/-- MouthRiddles$Heads.<init>(LMouthRiddles$Riddles;)V -/
def cd_Heads_init : List (Nat × List Instr × Nat) := [(0, [.aload 0, .monitorenter, .aload 0, .iconst 4, .anewarray 2, .putfield 8321, .aload 0, .iconst 6, .newarray .int, .putfield 8322, .aload 0, .iconst 6, .newarray .int, .putfield 8323, .aload 0, .iconst 6, .newarray .int, .putfield 8324, .aload 0, .iconst 0, .putfield 133, .aload 0, .aload 1, .putfield 8320, .iconst 0, .istore 2], 48),
  (48, [.iload 2, .iconst 4, .if_icmp .ge 77], 53),
  (53, [.aload 0, .getfield 129, .iload 2, .new 7, .dup, .iconst 1, .iload 2, .ishl, .iconst 1, .isub, .invokespecial 55, .aastore, .iinc 2 1, .goto 48], 0),
  (77, [.return_], 0)]
abbrev q_Heads_init : Nat := 12
/-- MouthRiddles$Heads.add(II)I -/
def cd_Heads_add : List (Nat × List Instr × Nat) := [(0, [.aload 0, .getfield 130, .aload 0, .getfield 133, .iload 1, .iastore, .aload 0, .getfield 131, .aload 0, .getfield 133, .iload 2, .iastore, .aload 0, .dup, .getfield 133, .iconst 1, .iadd, .putfield 133, .aload 0, .getfield 133, .iconst 1, .isub, .ireturn], 0)]
abbrev q_Heads_add : Nat := 13
/-- MouthRiddles$Heads.stageOfAnswer(II)I -/
def cd_Heads_stageOfAnswer : List (Nat × List Instr × Nat) := [(0, [.iconst 0, .istore 3], 2),
  (2, [.iload 3, .iconst 4, .if_icmp .ge 59], 7),
  (7, [.iload 3, .iconst 3, .if_icmp .eq 29], 12),
  (12, [.aload 0, .iload 3, .iconst 1, .iadd, .iload 1, .invokevirtual 15, .aload 0, .iload 3, .iload 1, .invokevirtual 15, .if_icmp .le 33], 29),
  (29, [.iconst 1, .goto 34], 0),
  (33, [.iconst 0], 34),
  (34, [.istore 4, .iload 4, .ifCond .eq 53], 41),
  (41, [.aload 0, .iload 3, .iload 2, .invokevirtual 16, .iconst (-1), .if_icmp .eq 53], 51),
  (51, [.iload 3, .ireturn], 0),
  (53, [.iinc 3 1, .goto 2], 0),
  (59, [.iconst (-1), .ireturn], 0)]
abbrev q_Heads_stageOfAnswer : Nat := 14
/-- MouthRiddles$Heads.secondOf(II)I -/
def cd_Heads_secondOf : List (Nat × List Instr × Nat) := [(0, [.iload 1, .iconst (-1), .if_icmp .ne 7], 5),
  (5, [.iconst (-1), .ireturn], 0),
  (7, [.iload 1, .ifCond .ne 15], 11),
  (11, [.iconst 0, .goto 32], 0),
  (15, [.aload 0, .getfield 130, .iload 2, .iaload, .iload 1, .iconst 1, .isub, .aload 0, .getfield 131, .iload 2, .iaload, .imul, .iadd], 32),
  (32, [.ireturn], 0)]
abbrev q_Heads_secondOf : Nat := 15
/-- MouthRiddles$Heads.answerIn(II)I -/
def cd_Heads_answerIn : List (Nat × List Instr × Nat) := [(0, [.iload 1, .iconst (-1), .if_icmp .ne 7], 5),
  (5, [.iconst (-1), .ireturn], 0),
  (7, [.aload 0, .getfield 128, .iload 2, .iconst (-1), .aload 0, .getfield 129, .iload 1, .aaload, .invokevirtual 50, .istore 3, .iload 3, .invokestatic 192, .iconst 1, .if_icmp .ne 40], 31),
  (31, [.iload 3, .iconst 1, .isub, .invokestatic 192, .goto 41], 0),
  (40, [.iconst (-1)], 41),
  (41, [.ireturn], 0)]
abbrev q_Heads_answerIn : Nat := 16
/-- MouthRiddles$Heads.unlikePairs(I)I -/
def cd_Heads_unlikePairs : List (Nat × List Instr × Nat) := [(0, [.iconst 0, .istore 2, .iconst 0, .istore 3], 4),
  (4, [.iload 3, .aload 0, .getfield 133, .if_icmp .ge 64], 12),
  (12, [.aload 0, .getfield 132, .iload 3, .aload 0, .iload 3, .iload 1, .invokevirtual 18, .iastore, .iconst 0, .istore 4], 27),
  (27, [.iload 4, .iload 3, .if_icmp .ge 58], 33),
  (33, [.aload 0, .getfield 132, .iload 4, .iaload, .aload 0, .getfield 132, .iload 3, .iaload, .if_icmp .eq 52], 49),
  (49, [.iinc 2 1], 52),
  (52, [.iinc 4 1, .goto 27], 0),
  (58, [.iinc 3 1, .goto 4], 0),
  (64, [.iload 2, .ireturn], 0)]
abbrev q_Heads_unlikePairs : Nat := 17
/-- MouthRiddles$Heads.answerOf(II)I -/
def cd_Heads_answerOf : List (Nat × List Instr × Nat) := [(0, [.aload 0, .aload 0, .iload 1, .iload 2, .invokevirtual 14, .iload 2, .invokevirtual 16, .ireturn], 0)]
abbrev q_Heads_answerOf : Nat := 18
/-- MouthRiddles$Heads.answeringOther(II)I -/
def cd_Heads_answeringOther : List (Nat × List Instr × Nat) := [(0, [.iconst 0, .istore 3, .iconst 0, .istore 4], 5),
  (5, [.iload 4, .aload 0, .getfield 133, .if_icmp .ge 34], 14),
  (14, [.aload 0, .iload 4, .iload 1, .invokevirtual 18, .iload 2, .if_icmp .eq 28], 25),
  (25, [.iinc 3 1], 28),
  (28, [.iinc 4 1, .goto 5], 0),
  (34, [.iload 3, .ireturn], 0)]
abbrev q_Heads_answeringOther : Nat := 19
/-- MouthRiddles$Lore.<init>()V -/
def cd_Lore_init : List (Nat × List Instr × Nat) := [(0, [.aload 0, .monitorenter, .aload 0, .iconst 0, .putfield 192, .aload 0, .iconst 0, .putfield 193, .aload 0, .iconst 12, .newarray .int, .putfield 8386, .aload 0, .iconst 24, .newarray .int, .putfield 8387, .aload 0, .iconst 24, .newarray .int, .putfield 8388, .aload 0, .iconst 48, .newarray .int, .putfield 8389, .aload 0, .iconst 16, .newarray .int, .putfield 8390, .aload 0, .iconst 20, .newarray .int, .putfield 8391, .aload 0, .iconst 20, .newarray .int, .putfield 8392, .aload 0, .iconst 20, .newarray .int, .putfield 8393, .aload 0, .iconst 60, .newarray .int, .putfield 8394, .return_], 0)]
abbrev q_Lore_init : Nat := 20
/-- MouthRiddles$Lore.addThing(I)I -/
def cd_Lore_addThing : List (Nat × List Instr × Nat) := [(0, [.iconst 1, .aload 0, .getfield 192, .ishl, .istore 2, .iload 1, .invokestatic 192, .istore 3, .iconst 0, .istore 4], 15),
  (15, [.iload 4, .iconst 24, .if_icmp .ge 48], 22),
  (22, [.iload 1, .iload 4, .ishr, .iconst 1, .iand, .ifCond .eq 42], 31),
  (31, [.aload 0, .getfield 195, .iload 4, .dup2, .iaload, .iload 2, .ior, .iastore], 42),
  (42, [.iinc 4 1, .goto 15], 0),
  (48, [.iconst 0, .istore 4], 51),
  (51, [.iload 4, .iconst 23, .if_icmp .gt 81], 58),
  (58, [.iload 4, .iload 3, .if_icmp .gt 81], 64),
  (64, [.aload 0, .getfield 196, .iload 4, .dup2, .iaload, .iload 2, .ior, .iastore, .iinc 4 1, .goto 51], 0),
  (81, [.aload 0, .getfield 194, .aload 0, .getfield 192, .iload 1, .iastore, .aload 0, .dup, .getfield 192, .iconst 1, .iadd, .putfield 192, .aload 0, .invokevirtual 22, .aload 0, .getfield 192, .iconst 1, .isub, .ireturn], 0)]
abbrev q_Lore_addThing : Nat := 21
/-- MouthRiddles$Lore.fitAnew()V -/
def cd_Lore_fitAnew : List (Nat × List Instr × Nat) := [(0, [.iconst 0, .istore 1], 2),
  (2, [.iload 1, .aload 0, .getfield 193, .if_icmp .ge 45], 10),
  (10, [.iconst 0, .istore 2], 12),
  (12, [.iload 2, .iconst 3, .if_icmp .ge 39], 17),
  (17, [.aload 0, .getfield 202, .iload 1, .iconst 3, .imul, .iload 2, .iadd, .aload 0, .iload 1, .iload 2, .invokevirtual 23, .iastore, .iinc 2 1, .goto 12], 0),
  (39, [.iinc 1 1, .goto 2], 0),
  (45, [.return_], 0)]
abbrev q_Lore_fitAnew : Nat := 22
/-- MouthRiddles$Lore.tryOut(II)I -/
def cd_Lore_tryOut : List (Nat × List Instr × Nat) := [(0, [.aload 0, .getfield 200, .iload 1, .iaload, .istore 3, .aload 0, .getfield 201, .iload 1, .iaload, .istore 4, .aload 0, .getfield 199, .iload 1, .iaload, .tableswitch 147 1 5 #[56, 71, 86, 110, 125]], 0),
  (56, [.iload 2, .ifCond .ne 69], 60),
  (60, [.aload 0, .iload 3, .iload 2, .invokevirtual 24, .goto 70], 0),
  (69, [.iconst 0], 70),
  (70, [.ireturn], 0),
  (71, [.iload 2, .ifCond .le 84], 75),
  (75, [.aload 0, .iload 3, .iload 2, .invokevirtual 24, .goto 85], 0),
  (84, [.iconst 0], 85),
  (85, [.ireturn], 0),
  (86, [.iload 2, .ifCond .le 108], 90),
  (90, [.aload 0, .iload 3, .iload 2, .invokevirtual 24, .aload 0, .iload 3, .iconst 0, .invokevirtual 24, .iconst (-1), .ixor, .iand, .goto 109], 0),
  (108, [.iconst 0], 109),
  (109, [.ireturn], 0),
  (110, [.aload 0, .iload 3, .iload 2, .invokevirtual 24, .aload 0, .getfield 196, .iload 4, .iaload, .iand, .ireturn], 0),
  (125, [.iload 2, .ifCond .ne 145], 129),
  (129, [.iload 4, .aload 0, .getfield 192, .if_icmp .ge 145], 138),
  (138, [.iconst 1, .iload 4, .ishl, .goto 146], 0),
  (145, [.iconst 0], 146),
  (146, [.ireturn], 0),
  (147, [.aload 0, .iload 3, .iload 2, .invokevirtual 24, .ireturn], 0)]
abbrev q_Lore_tryOut : Nat := 23
/-- MouthRiddles$Lore.havingSense(II)I -/
def cd_Lore_havingSense : List (Nat × List Instr × Nat) := [(0, [.iload 2, .aload 0, .getfield 198, .iload 1, .iaload, .if_icmp .ge 24], 10),
  (10, [.aload 0, .getfield 195, .aload 0, .iload 1, .iload 2, .invokevirtual 25, .iaload, .goto 25], 0),
  (24, [.iconst 0], 25),
  (25, [.ireturn], 0)]
abbrev q_Lore_havingSense : Nat := 24
/-- MouthRiddles$Lore.traitOf(II)I -/
def cd_Lore_traitOf : List (Nat × List Instr × Nat) := [(0, [.aload 0, .getfield 197, .iload 1, .iconst 3, .imul, .iload 2, .iadd, .iaload, .ireturn], 0)]
abbrev q_Lore_traitOf : Nat := 25
/-- MouthRiddles$Lore.hasSense(II)Z -/
def cd_Lore_hasSense : List (Nat × List Instr × Nat) := [(0, [.iconst 0, .istore 3], 2),
  (2, [.iload 3, .aload 0, .getfield 198, .iload 1, .iaload, .if_icmp .ge 30], 12),
  (12, [.aload 0, .iload 1, .iload 3, .invokevirtual 25, .iload 2, .if_icmp .ne 24], 22),
  (22, [.iconst 1, .freturn], 0),
  (24, [.iinc 3 1, .goto 2], 0),
  (30, [.iconst 0, .freturn], 0)]
abbrev q_Lore_hasSense : Nat := 26
/-- MouthRiddles$Lore.addSense(II)I -/
def cd_Lore_addSense : List (Nat × List Instr × Nat) := [(0, [.aload 0, .getfield 197, .iload 1, .iconst 3, .imul, .aload 0, .getfield 198, .iload 1, .iaload, .iadd, .iload 2, .iastore, .aload 0, .getfield 198, .iload 1, .dup2, .iaload, .iconst 1, .iadd, .iastore, .aload 0, .invokevirtual 22, .aload 0, .getfield 198, .iload 1, .iaload, .ireturn], 0)]
abbrev q_Lore_addSense : Nat := 27
/-- MouthRiddles$Lore.addSaying(III)I -/
def cd_Lore_addSaying : List (Nat × List Instr × Nat) := [(0, [.aload 0, .getfield 199, .aload 0, .getfield 193, .iload 1, .iastore, .aload 0, .getfield 200, .aload 0, .getfield 193, .iload 2, .iastore, .aload 0, .getfield 201, .aload 0, .getfield 193, .iload 3, .iastore, .aload 0, .dup, .getfield 193, .iconst 1, .iadd, .putfield 193, .aload 0, .invokevirtual 22, .aload 0, .getfield 193, .iconst 1, .isub, .ireturn], 0)]
abbrev q_Lore_addSaying : Nat := 28
/-- MouthRiddles$Lore.isOfKind(II)Z -/
def cd_Lore_isOfKind : List (Nat × List Instr × Nat) := [(0, [.aload 0, .getfield 199, .iload 1, .iaload, .istore 3, .iload 2, .ifCond .eq 26], 11),
  (11, [.iload 2, .iload 3, .if_icmp .eq 26], 16),
  (16, [.iload 2, .iconst 2, .if_icmp .ne 30], 21),
  (21, [.iload 3, .iconst 3, .if_icmp .ne 30], 26),
  (26, [.iconst 1, .goto 31], 0),
  (30, [.iconst 0], 31),
  (31, [.freturn], 0)]
abbrev q_Lore_isOfKind : Nat := 29
/-- MouthRiddles$Lore.leastSense(II)I -/
def cd_Lore_leastSense : List (Nat × List Instr × Nat) := [(0, [.iconst 0, .istore 3], 2),
  (2, [.iload 3, .iconst 3, .if_icmp .ge 32], 7),
  (7, [.aload 0, .getfield 202, .iload 1, .iconst 3, .imul, .iload 3, .iadd, .iaload, .iload 2, .ishr, .iconst 1, .iand, .ifCond .eq 26], 24),
  (24, [.iload 3, .ireturn], 0),
  (26, [.iinc 3 1, .goto 2], 0),
  (32, [.iconst (-1), .ireturn], 0)]
abbrev q_Lore_leastSense : Nat := 30
/-- MouthRiddles$Lore.allThings()I -/
def cd_Lore_allThings : List (Nat × List Instr × Nat) := [(0, [.iconst 1, .aload 0, .getfield 192, .ishl, .iconst 1, .isub, .ireturn], 0)]
abbrev q_Lore_allThings : Nat := 31
/-- MouthRiddles$Lore.fittingBySight(ILMouthRiddles$Sight;)I -/
def cd_Lore_fittingBySight : List (Nat × List Instr × Nat) := [(0, [.aload 0, .getfield 199, .iload 1, .iaload, .iconst 5, .if_icmp .ne 15], 10),
  (10, [.iconst 7, .goto 26], 0),
  (15, [.aload 2, .getfield 448, .aload 0, .getfield 200, .iload 1, .iaload, .iaload], 26),
  (26, [.istore 3, .iconst 0, .istore 4, .iconst 0, .istore 5], 33),
  (33, [.iload 5, .iconst 3, .if_icmp .ge 70], 39),
  (39, [.iload 3, .iload 5, .ishr, .iconst 1, .iand, .ifCond .eq 64], 48),
  (48, [.iload 4, .aload 0, .getfield 202, .iload 1, .iconst 3, .imul, .iload 5, .iadd, .iaload, .ior, .istore 4], 64),
  (64, [.iinc 5 1, .goto 33], 0),
  (70, [.iload 4, .ireturn], 0)]
abbrev q_Lore_fittingBySight : Nat := 32
/-- MouthRiddles$Lore.senseCount()I -/
def cd_Lore_senseCount : List (Nat × List Instr × Nat) := [(0, [.iconst 0, .istore 1, .iconst 0, .istore 2], 4),
  (4, [.iload 2, .iconst 16, .if_icmp .ge 25], 10),
  (10, [.iload 1, .aload 0, .getfield 198, .iload 2, .iaload, .iadd, .istore 1, .iinc 2 1, .goto 4], 0),
  (25, [.iload 1, .ireturn], 0)]
abbrev q_Lore_senseCount : Nat := 33
/-- MouthRiddles$Maker.<init>()V -/
def cd_Maker_init : List (Nat × List Instr × Nat) := [(0, [.aload 0, .monitorenter, .aload 0, .iconst 20, .newarray .int, .putfield 8448, .aload 0, .iconst 20, .newarray .int, .putfield 8449, .aload 0, .iconst 20, .newarray .int, .putfield 8450, .aload 0, .iconst 21, .newarray .int, .putfield 8451, .aload 0, .new 7, .dup, .iconst 7, .invokespecial 55, .putfield 8452, .return_], 0)]
abbrev q_Maker_init : Nat := 34
/-- MouthRiddles$Maker.fewest(LMouthRiddles$Lore;II)I -/
def cd_Maker_fewest : List (Nat × List Instr × Nat) := [(0, [.aload 0, .aload 1, .iload 2, .invokevirtual 36, .aload 0, .iconst (-1), .putfield 263, .aload 0, .iconst (-1), .putfield 264, .iconst 1, .istore 4], 19),
  (19, [.iload 4, .iload 3, .if_icmp .gt 52], 25),
  (25, [.aload 0, .getfield 264, .iconst (-1), .if_icmp .ne 52], 33),
  (33, [.aload 0, .iconst 0, .iload 4, .aload 1, .invokevirtual 31, .iconst 0, .iconst 0, .invokestatic 37, .iinc 4 1, .goto 19], 0),
  (52, [.aload 0, .getfield 264, .ireturn], 0)]
abbrev q_Maker_fewest : Nat := 35
/-- MouthRiddles$Maker.gather(LMouthRiddles$Lore;I)V -/
def cd_Maker_gather : List (Nat × List Instr × Nat) := [(0, [.aload 0, .iconst 0, .putfield 261, .aload 0, .iconst 1, .iload 2, .ishl, .putfield 262, .iconst 0, .istore 3], 14),
  (14, [.iload 3, .aload 1, .getfield 193, .if_icmp .ge 101], 22),
  (22, [.aload 1, .iload 3, .iload 2, .invokevirtual 30, .istore 4, .iload 4, .iconst (-1), .if_icmp .eq 95], 36),
  (36, [.aload 0, .getfield 256, .aload 0, .getfield 261, .aload 1, .iload 3, .aload 0, .getfield 260, .invokevirtual 32, .iastore, .aload 0, .getfield 257, .aload 0, .getfield 261, .iload 4, .ifCond .le 71], 67),
  (67, [.iconst 1, .goto 72], 0),
  (71, [.iconst 0], 72),
  (72, [.iastore, .aload 0, .getfield 258, .aload 0, .getfield 261, .iconst 1, .iload 3, .ishl, .iastore, .aload 0, .dup, .getfield 261, .iconst 1, .iadd, .putfield 261], 95),
  (95, [.iinc 3 1, .goto 14], 0),
  (101, [.aload 0, .getfield 259, .aload 0, .getfield 261, .aload 1, .invokevirtual 31, .iastore, .aload 0, .getfield 261, .iconst 1, .isub, .istore 3], 121),
  (121, [.iload 3, .ifCond .lt 152], 125),
  (125, [.aload 0, .getfield 259, .iload 3, .aload 0, .getfield 259, .iload 3, .iconst 1, .iadd, .iaload, .aload 0, .getfield 256, .iload 3, .iaload, .iand, .iastore, .iinc 3 (-1), .goto 121], 0),
  (152, [.return_], 0)]
abbrev q_Maker_gather : Nat := 36
/-- MouthRiddles$Maker.choose(LMouthRiddles$Maker;IIIII)V -/
def cd_Maker_choose : List (Nat × List Instr × Nat) := [(0, [.iload 3, .aload 0, .getfield 259, .iload 1, .iaload, .iand, .aload 0, .getfield 262, .if_icmp .eq 16], 15),
  (15, [.return_], 0),
  (16, [.iload 1, .istore 6], 19),
  (19, [.iload 6, .iload 2, .iadd, .aload 0, .getfield 261, .if_icmp .gt 121], 30),
  (30, [.iload 3, .aload 0, .getfield 256, .iload 6, .iaload, .iand, .istore 7, .iload 2, .iconst 1, .if_icmp .le 82], 46),
  (46, [.aload 0, .iload 6, .iconst 1, .iadd, .iload 2, .iconst 1, .isub, .iload 7, .iload 4, .aload 0, .getfield 257, .iload 6, .iaload, .iadd, .iload 5, .aload 0, .getfield 258, .iload 6, .iaload, .ior, .invokestatic 37, .goto 115], 0),
  (82, [.iload 7, .aload 0, .getfield 262, .if_icmp .ne 115], 91),
  (91, [.aload 0, .iload 4, .aload 0, .getfield 257, .iload 6, .iaload, .iadd, .iload 5, .aload 0, .getfield 258, .iload 6, .iaload, .ior, .invokevirtual 38], 115),
  (115, [.iinc 6 1, .goto 19], 0),
  (121, [.return_], 0)]
abbrev q_Maker_choose : Nat := 37
/-- MouthRiddles$Maker.consider(II)V -/
def cd_Maker_consider : List (Nat × List Instr × Nat) := [(0, [.iload 1, .aload 0, .getfield 263, .if_icmp .lt 24], 8),
  (8, [.iload 1, .aload 0, .getfield 263, .if_icmp .ne 25], 16),
  (16, [.iload 2, .aload 0, .getfield 264, .if_icmp .le 25], 24),
  (24, [.return_], 0),
  (25, [.aload 0, .iload 1, .putfield 263, .aload 0, .iload 2, .putfield 264, .return_], 0)]
abbrev q_Maker_consider : Nat := 38
/-- MouthRiddles$Page.<init>()V -/
def cd_Page_init : List (Nat × List Instr × Nat) := [(0, [.aload 0, .monitorenter, .aload 0, .iconst 40, .newarray .int, .putfield 8512, .aload 0, .iconst 0, .putfield 321, .return_], 0)]
abbrev q_Page_init : Nat := 39
/-- MouthRiddles$Page.areLetters(J)Z -/
def cd_Page_areLetters : List (Nat × List Instr × Nat) := [(0, [.lload 0, .invokestatic 41, .istore 2, .iconst 0, .istore 3], 7),
  (7, [.iload 3, .iconst 8, .if_icmp .ge 45], 13),
  (13, [.lload 0, .iload 3, .invokestatic 42, .istore 4, .iload 4, .iconst 126, .if_icmp .gt 37], 27),
  (27, [.iload 3, .iload 2, .if_icmp .le 39], 32),
  (32, [.iload 4, .ifCond .eq 39], 37),
  (37, [.iconst 0, .freturn], 0),
  (39, [.iinc 3 1, .goto 7], 0),
  (45, [.iconst 1, .freturn], 0)]
abbrev q_Page_areLetters : Nat := 40
/-- MouthRiddles$Page.lettersIn(J)I -/
def cd_Page_lettersIn : List (Nat × List Instr × Nat) := [(0, [.iconst 0, .istore 2], 2),
  (2, [.iload 2, .iconst 8, .if_icmp .ge 22], 8),
  (8, [.lload 0, .iload 2, .invokestatic 42, .ifCond .eq 22], 16),
  (16, [.iinc 2 1, .goto 2], 0),
  (22, [.iload 2, .ireturn], 0)]
abbrev q_Page_lettersIn : Nat := 41
/-- MouthRiddles$Page.codeAt(JI)I -/
def cd_Page_codeAt : List (Nat × List Instr × Nat) := [(0, [.lload 0, .iconst 8, .iload 2, .imul, .lushr, .l2i, .iconst 255, .iand, .ireturn], 0)]
abbrev q_Page_codeAt : Nat := 42
/-- MouthRiddles$Page.append(J)I -/
def cd_Page_append : List (Nat × List Instr × Nat) := [(0, [.lload 1, .invokestatic 41, .istore 3, .iconst 0, .istore 4], 8),
  (8, [.iload 4, .iload 3, .if_icmp .ge 54], 14),
  (14, [.aload 0, .getfield 321, .iconst 40, .if_icmp .ge 54], 23),
  (23, [.aload 0, .getfield 320, .aload 0, .getfield 321, .lload 1, .iload 4, .invokestatic 42, .iastore, .aload 0, .dup, .getfield 321, .iconst 1, .iadd, .putfield 321, .iinc 4 1, .goto 8], 0),
  (54, [.aload 0, .getfield 321, .ireturn], 0)]
abbrev q_Page_append : Nat := 43
/-- MouthRiddles$Page.empty()I -/
def cd_Page_empty : List (Nat × List Instr × Nat) := [(0, [.aload 0, .getfield 321, .istore 1, .aload 0, .iconst 0, .putfield 321, .iload 1, .ireturn], 0)]
abbrev q_Page_empty : Nat := 44
/-- MouthRiddles$Riddles.<init>(LMouthRiddles$Lore;)V -/
def cd_Riddles_init : List (Nat × List Instr × Nat) := [(0, [.aload 0, .monitorenter, .aload 0, .new 7, .dup, .iconst 7, .invokespecial 55, .putfield 8577, .aload 0, .iconst 60, .newarray .int, .putfield 8578, .aload 0, .iconst 10, .newarray .int, .putfield 8579, .aload 0, .iconst 0, .putfield 388, .aload 0, .aload 1, .putfield 8576, .return_], 0)]
abbrev q_Riddles_init : Nat := 45
/-- MouthRiddles$Riddles.begin(I)I -/
def cd_Riddles_begin : List (Nat × List Instr × Nat) := [(0, [.aload 0, .aload 0, .getfield 388, .iload 1, .invokevirtual 47, .pop, .aload 0, .dup, .getfield 388, .iconst 1, .iadd, .putfield 388, .aload 0, .getfield 388, .iconst 1, .isub, .ireturn], 0)]
abbrev q_Riddles_begin : Nat := 46
/-- MouthRiddles$Riddles.append(II)I -/
def cd_Riddles_append : List (Nat × List Instr × Nat) := [(0, [.aload 0, .getfield 386, .iload 1, .iconst 6, .imul, .aload 0, .getfield 387, .iload 1, .iaload, .iadd, .iload 2, .iastore, .aload 0, .getfield 387, .iload 1, .dup2, .iaload, .iconst 1, .iadd, .iastore, .aload 0, .getfield 387, .iload 1, .iaload, .ireturn], 0)]
abbrev q_Riddles_append : Nat := 47
/-- MouthRiddles$Riddles.sayingAt(II)I -/
def cd_Riddles_sayingAt : List (Nat × List Instr × Nat) := [(0, [.aload 0, .getfield 386, .iload 1, .iconst 6, .imul, .iload 2, .iadd, .iaload, .ireturn], 0)]
abbrev q_Riddles_sayingAt : Nat := 48
/-- MouthRiddles$Riddles.fitting(I)I -/
def cd_Riddles_fitting : List (Nat × List Instr × Nat) := [(0, [.aload 0, .iload 1, .iconst (-1), .aload 0, .getfield 385, .invokevirtual 50, .ireturn], 0)]
abbrev q_Riddles_fitting : Nat := 49
/-- MouthRiddles$Riddles.fittingWithout(IILMouthRiddles$Sight;)I -/
def cd_Riddles_fittingWithout : List (Nat × List Instr × Nat) := [(0, [.aload 0, .getfield 384, .invokevirtual 31, .istore 4, .iconst 0, .istore 5], 12),
  (12, [.iload 5, .aload 0, .getfield 387, .iload 1, .iaload, .if_icmp .ge 55], 23),
  (23, [.iload 5, .iload 2, .if_icmp .eq 49], 29),
  (29, [.iload 4, .aload 0, .getfield 384, .aload 0, .iload 1, .iload 5, .invokevirtual 48, .aload 3, .invokevirtual 32, .iand, .istore 4], 49),
  (49, [.iinc 5 1, .goto 12], 0),
  (55, [.iload 4, .ireturn], 0)]
abbrev q_Riddles_fittingWithout : Nat := 50
/-- MouthRiddles$Riddles.turnedOnes(II)I -/
def cd_Riddles_turnedOnes : List (Nat × List Instr × Nat) := [(0, [.iconst 0, .istore 3, .iconst 0, .istore 4], 5),
  (5, [.iload 4, .aload 0, .getfield 387, .iload 1, .iaload, .if_icmp .ge 55], 16),
  (16, [.aload 0, .getfield 384, .aload 0, .iload 1, .iload 4, .invokevirtual 48, .iload 2, .invokevirtual 30, .istore 5, .iload 5, .iconst (-1), .if_icmp .ne 41], 39),
  (39, [.iconst (-1), .ireturn], 0),
  (41, [.iload 5, .ifCond .le 49], 46),
  (46, [.iinc 3 1], 49),
  (49, [.iinc 4 1, .goto 5], 0),
  (55, [.iload 3, .ireturn], 0)]
abbrev q_Riddles_turnedOnes : Nat := 51
/-- MouthRiddles$Riddles.misleadingPlace(I)I -/
def cd_Riddles_misleadingPlace : List (Nat × List Instr × Nat) := [(0, [.iconst 0, .istore 2, .iconst (-1), .istore 3, .iconst 0, .istore 4], 7),
  (7, [.iload 4, .aload 0, .getfield 387, .iload 1, .iaload, .if_icmp .ge 45], 18),
  (18, [.aload 0, .iload 1, .iload 4, .invokevirtual 53, .istore 5, .iload 5, .iload 3, .if_icmp .le 39], 33),
  (33, [.iload 4, .istore 2, .iload 5, .istore 3], 39),
  (39, [.iinc 4 1, .goto 7], 0),
  (45, [.iload 2, .ireturn], 0)]
abbrev q_Riddles_misleadingPlace : Nat := 52
/-- MouthRiddles$Riddles.countWithout(II)I -/
def cd_Riddles_countWithout : List (Nat × List Instr × Nat) := [(0, [.aload 0, .iload 1, .iload 2, .aload 0, .getfield 385, .invokevirtual 50, .invokestatic 192, .ireturn], 0)]
abbrev q_Riddles_countWithout : Nat := 53
/-- MouthRiddles$Riddles.unfitCount(IILMouthRiddles$Sight;)I -/
def cd_Riddles_unfitCount : List (Nat × List Instr × Nat) := [(0, [.iconst 0, .istore 4, .iconst 0, .istore 5], 6),
  (6, [.iload 5, .aload 0, .getfield 387, .iload 1, .iaload, .if_icmp .ge 48], 17),
  (17, [.aload 0, .getfield 384, .aload 0, .iload 1, .iload 5, .invokevirtual 48, .aload 3, .invokevirtual 32, .iload 2, .ishr, .iconst 1, .iand, .ifCond .ne 42], 39),
  (39, [.iinc 4 1], 42),
  (42, [.iinc 5 1, .goto 6], 0),
  (48, [.iload 4, .ireturn], 0)]
abbrev q_Riddles_unfitCount : Nat := 54
/-- MouthRiddles$Sight.<init>(I)V -/
def cd_Sight_init : List (Nat × List Instr × Nat) := [(0, [.aload 0, .monitorenter, .aload 0, .iconst 16, .newarray .int, .putfield 8640, .aload 0, .getfield 448, .iload 1, .iconst 7, .iand, .invokestatic 191, .return_], 0)]
abbrev q_Sight_init : Nat := 55
/-- MouthRiddles$Sight.sees(II)Z -/
def cd_Sight_sees : List (Nat × List Instr × Nat) := [(0, [.aload 0, .getfield 448, .iload 1, .iaload, .iload 2, .ishr, .iconst 1, .iand, .ifCond .eq 17], 13),
  (13, [.iconst 1, .goto 18], 0),
  (17, [.iconst 0], 18),
  (18, [.freturn], 0)]
abbrev q_Sight_sees : Nat := 56
/-- MouthRiddles$Sight.set(IIZ)V -/
def cd_Sight_set : List (Nat × List Instr × Nat) := [(0, [.iload 3, .ifCond .eq 19], 4),
  (4, [.aload 0, .getfield 448, .iload 1, .dup2, .iaload, .iconst 1, .iload 2, .ishl, .ior, .iastore, .goto 33], 0),
  (19, [.aload 0, .getfield 448, .iload 1, .dup2, .iaload, .iconst 1, .iload 2, .ishl, .iconst (-1), .ixor, .iand, .iastore], 33),
  (33, [.return_], 0)]
abbrev q_Sight_set : Nat := 57
/-- MouthRiddles$Stakes.<init>()V -/
def cd_Stakes_init : List (Nat × List Instr × Nat) := [(0, [.aload 0, .monitorenter, .aload 0, .iconst 60, .newarray .int, .putfield 8704, .aload 0, .iconst 64, .newarray .long, .putfield 8705, .return_], 0)]
abbrev q_Stakes_init : Nat := 58
/-- MouthRiddles$Stakes.put(III)I -/
def cd_Stakes_put : List (Nat × List Instr × Nat) := [(0, [.aload 0, .iload 1, .iload 2, .invokevirtual 60, .istore 4, .aload 0, .getfield 512, .iload 1, .iconst 10, .imul, .iload 2, .iadd, .iload 3, .iastore, .iload 4, .ireturn], 0)]
abbrev q_Stakes_put : Nat := 59
/-- MouthRiddles$Stakes.of(II)I -/
def cd_Stakes_of : List (Nat × List Instr × Nat) := [(0, [.aload 0, .getfield 512, .iload 1, .iconst 10, .imul, .iload 2, .iadd, .iaload, .ireturn], 0)]
abbrev q_Stakes_of : Nat := 60
/-- MouthRiddles$Stakes.best(II)J -/
def cd_Stakes_best : List (Nat × List Instr × Nat) := [(0, [.iconst 1, .iload 1, .ishl, .istore 3, .aload 0, .getfield 513, .ldc2_w 0, .invokestatic 193, .iconst 0, .istore 4], 15),
  (15, [.iload 4, .iload 2, .if_icmp .ge 52], 21),
  (21, [.iload 3, .iconst 1, .isub, .istore 5], 26),
  (26, [.iload 5, .ifCond .le 46], 31),
  (31, [.aload 0, .iload 4, .iload 5, .iload 1, .invokevirtual 62, .iinc 5 (-1), .goto 26], 0),
  (46, [.iinc 4 1, .goto 15], 0),
  (52, [.aload 0, .getfield 513, .iload 3, .iconst 1, .isub, .laload, .lreturn], 0)]
abbrev q_Stakes_best : Nat := 61
/-- MouthRiddles$Stakes.giveRiddle(III)V -/
def cd_Stakes_giveRiddle : List (Nat × List Instr × Nat) := [(0, [.iconst 0, .istore 4], 3),
  (3, [.iload 4, .iload 3, .if_icmp .ge 80], 9),
  (9, [.iload 2, .iload 4, .ishr, .iconst 1, .iand, .ifCond .eq 74], 18),
  (18, [.aload 0, .iload 4, .iload 1, .invokevirtual 60, .i2l, .ldc2_w 1771561, .lmul, .iconst 10, .iload 1, .isub, .i2l, .getstatic 0, .iload 4, .laload, .lmul, .ladd, .lstore 5, .aload 0, .getfield 513, .iload 2, .aload 0, .getfield 513, .iload 2, .laload, .aload 0, .getfield 513, .iload 2, .iconst 1, .iload 4, .ishl, .ixor, .laload, .lload 5, .ladd, .dmul, .lastore], 74),
  (74, [.iinc 4 1, .goto 3], 0),
  (80, [.return_], 0)]
abbrev q_Stakes_giveRiddle : Nat := 62
/-- MouthRiddles$Stakes.sumIn(J)I -/
def cd_Stakes_sumIn : List (Nat × List Instr × Nat) := [(0, [.lload 0, .ldc2_w 1771561, .ldiv, .l2i, .ireturn], 0)]
abbrev q_Stakes_sumIn : Nat := 63
/-- MouthRiddles$Stakes.riddleIn(JI)I -/
def cd_Stakes_riddleIn : List (Nat × List Instr × Nat) := [(0, [.lload 0, .getstatic 0, .iload 2, .laload, .ldiv, .ldc2_w 11, .lrem, .l2i, .istore 3, .iload 3, .ifCond .ne 21], 17),
  (17, [.iconst (-1), .goto 25], 0),
  (21, [.iconst 10, .iload 3, .isub], 25),
  (25, [.ireturn], 0)]
abbrev q_Stakes_riddleIn : Nat := 64
/-- MouthRiddles$Tongues.<init>(LMouthRiddles$Riddles;)V -/
def cd_Tongues_init : List (Nat × List Instr × Nat) := [(0, [.aload 0, .monitorenter, .aload 0, .iconst 4, .anewarray 2, .putfield 8769, .aload 0, .iconst 0, .putfield 578, .aload 0, .aload 1, .putfield 8768, .iconst 0, .istore 2], 24),
  (24, [.iload 2, .iconst 4, .if_icmp .ge 50], 29),
  (29, [.aload 0, .getfield 577, .iload 2, .new 7, .dup, .iconst 7, .invokespecial 55, .aastore, .iinc 2 1, .goto 24], 0),
  (50, [.return_], 0)]
abbrev q_Tongues_init : Nat := 65
/-- MouthRiddles$Tongues.add()I -/
def cd_Tongues_add : List (Nat × List Instr × Nat) := [(0, [.aload 0, .dup, .getfield 578, .iconst 1, .iadd, .putfield 578, .aload 0, .getfield 578, .iconst 1, .isub, .ireturn], 0)]
abbrev q_Tongues_add : Nat := 66
/-- MouthRiddles$Tongues.carries(III)I -/
def cd_Tongues_carries : List (Nat × List Instr × Nat) := [(0, [.aload 0, .getfield 576, .iload 2, .iconst (-1), .aload 0, .getfield 577, .iload 1, .aaload, .invokevirtual 50, .iconst 1, .iload 3, .ishl, .if_icmp .ne 25], 21),
  (21, [.iconst 1, .goto 26], 0),
  (25, [.iconst 0], 26),
  (26, [.ireturn], 0)]
abbrev q_Tongues_carries : Nat := 67
/-- MouthRiddles$Tongues.lacking(III)I -/
def cd_Tongues_lacking : List (Nat × List Instr × Nat) := [(0, [.aload 0, .getfield 576, .iload 2, .iload 3, .aload 0, .getfield 577, .iload 1, .aaload, .invokevirtual 54, .ireturn], 0)]
abbrev q_Tongues_lacking : Nat := 68
/-- MouthRiddles$Tongues.leastLacking(II)I -/
def cd_Tongues_leastLacking : List (Nat × List Instr × Nat) := [(0, [.iconst (-1), .istore 3, .iconst 7, .istore 4, .iconst 0, .istore 5], 9),
  (9, [.iload 5, .aload 0, .getfield 578, .if_icmp .ge 48], 18),
  (18, [.aload 0, .iload 5, .iload 1, .iload 2, .invokevirtual 68, .istore 6, .iload 6, .iload 4, .if_icmp .ge 42], 35),
  (35, [.iload 5, .istore 3, .iload 6, .istore 4], 42),
  (42, [.iinc 5 1, .goto 9], 0),
  (48, [.iload 3, .ireturn], 0)]
abbrev q_Tongues_leastLacking : Nat := 69
/-- MouthRiddles$Tree.<init>()V -/
def cd_Tree_init : List (Nat × List Instr × Nat) := [(0, [.aload 0, .monitorenter, .aload 0, .iconst 40, .newarray .int, .putfield 8832, .aload 0, .iconst 40, .newarray .int, .putfield 8833, .aload 0, .iconst 40, .newarray .int, .putfield 8834, .aload 0, .iconst 0, .putfield 643, .aload 0, .iconst 0, .putfield 644, .aload 0, .iconst (-1), .putfield 645, .aload 0, .iconst 1, .putfield 4742, .return_], 0)]
abbrev q_Tree_init : Nat := 70
/-- MouthRiddles$Tree.read(LMouthRiddles$Page;)I -/
def cd_Tree_read : List (Nat × List Instr × Nat) := [(0, [.aload 0, .iconst 0, .putfield 643, .aload 0, .iconst 0, .putfield 644, .aload 0, .iconst (-1), .putfield 645, .aload 0, .iconst 1, .putfield 4742, .iconst 0, .istore 2], 22),
  (22, [.iload 2, .aload 1, .getfield 321, .if_icmp .ge 51], 30),
  (30, [.aload 0, .aload 1, .getfield 320, .iload 2, .iaload, .invokevirtual 72, .ifCond .ne 45], 43),
  (43, [.iload 2, .ireturn], 0),
  (45, [.iinc 2 1, .goto 22], 0),
  (51, [.aload 1, .getfield 321, .ireturn], 0)]
abbrev q_Tree_read : Nat := 71
/-- MouthRiddles$Tree.take(I)Z -/
def cd_Tree_take : List (Nat × List Instr × Nat) := [(0, [.aload 0, .getfield 646, .ifCond .eq 29], 7),
  (7, [.iload 1, .iconst 40, .if_icmp .ne 20], 13),
  (13, [.aload 0, .invokevirtual 73, .goto 28], 0),
  (20, [.aload 0, .iload 1, .iconst 97, .isub, .invokevirtual 75], 28),
  (28, [.freturn], 0),
  (29, [.aload 0, .getfield 645, .iconst (-1), .if_icmp .ne 39], 37),
  (37, [.iconst 0, .freturn], 0),
  (39, [.iload 1, .iconst 44, .if_icmp .ne 50], 45),
  (45, [.aload 0, .invokevirtual 76, .freturn], 0),
  (50, [.iload 1, .iconst 41, .if_icmp .ne 67], 56),
  (56, [.aload 0, .invokevirtual 77, .ifCond .eq 67], 63),
  (63, [.iconst 1, .goto 68], 0),
  (67, [.iconst 0], 68),
  (68, [.freturn], 0)]
abbrev q_Tree_take : Nat := 72
/-- MouthRiddles$Tree.openNode()Z -/
def cd_Tree_openNode : List (Nat × List Instr × Nat) := [(0, [.aload 0, .aload 0, .iconst (-1), .invokevirtual 74, .putfield 645, .iconst 1, .freturn], 0)]
abbrev q_Tree_openNode : Nat := 73
/-- MouthRiddles$Tree.beginNode(I)I -/
def cd_Tree_beginNode : List (Nat × List Instr × Nat) := [(0, [.aload 0, .getfield 640, .aload 0, .getfield 643, .aload 0, .getfield 645, .iastore, .aload 0, .getfield 641, .aload 0, .getfield 643, .iload 1, .iastore, .aload 0, .getfield 642, .aload 0, .getfield 643, .iconst 0, .iastore, .aload 0, .getfield 645, .iconst (-1), .if_icmp .eq 54], 41),
  (41, [.aload 0, .getfield 642, .aload 0, .getfield 645, .dup2, .iaload, .iconst 1, .iadd, .iastore], 54),
  (54, [.aload 0, .dup, .getfield 643, .iconst 1, .iadd, .putfield 643, .aload 0, .getfield 643, .iconst 1, .isub, .ireturn], 0)]
abbrev q_Tree_beginNode : Nat := 74
/-- MouthRiddles$Tree.landNode(I)Z -/
def cd_Tree_landNode : List (Nat × List Instr × Nat) := [(0, [.iload 1, .ifCond .lt 21], 4),
  (4, [.iload 1, .iconst 8, .if_icmp .ge 21], 10),
  (10, [.aload 0, .getfield 644, .iload 1, .ishr, .iconst 1, .iand, .ifCond .eq 23], 21),
  (21, [.iconst 0, .freturn], 0),
  (23, [.aload 0, .dup, .getfield 644, .iconst 1, .iload 1, .ishl, .ior, .putfield 644, .aload 0, .iload 1, .invokevirtual 74, .pop, .aload 0, .iconst 0, .putfield 4742, .iconst 1, .freturn], 0)]
abbrev q_Tree_landNode : Nat := 75
/-- MouthRiddles$Tree.awaitNext()Z -/
def cd_Tree_awaitNext : List (Nat × List Instr × Nat) := [(0, [.aload 0, .aload 0, .getfield 642, .aload 0, .getfield 645, .iaload, .iconst 4, .if_icmp .ge 18], 14),
  (14, [.iconst 1, .goto 19], 0),
  (18, [.iconst 0], 19),
  (19, [.putfield 4742, .aload 0, .getfield 646, .freturn], 0)]
abbrev q_Tree_awaitNext : Nat := 76
/-- MouthRiddles$Tree.closeNode()Z -/
def cd_Tree_closeNode : List (Nat × List Instr × Nat) := [(0, [.aload 0, .getfield 642, .aload 0, .getfield 645, .iaload, .iconst 2, .if_icmp .ge 15], 13),
  (13, [.iconst 0, .freturn], 0),
  (15, [.aload 0, .aload 0, .getfield 640, .aload 0, .getfield 645, .iaload, .putfield 645, .iconst 1, .freturn], 0)]
abbrev q_Tree_closeNode : Nat := 77
/-- MouthRiddles$Tree.isWhole()Z -/
def cd_Tree_isWhole : List (Nat × List Instr × Nat) := [(0, [.aload 0, .getfield 646, .ifCond .ne 19], 7),
  (7, [.aload 0, .getfield 645, .iconst (-1), .if_icmp .ne 19], 15),
  (15, [.iconst 1, .goto 20], 0),
  (19, [.iconst 0], 20),
  (20, [.freturn], 0)]
abbrev q_Tree_isWhole : Nat := 78
/-- MouthRiddles.<init>()V -/
def cd_X_init : List (Nat × List Instr × Nat) := [(0, [.aload 0, .monitorenter, .aload 0, .new 3, .dup, .invokespecial 20, .putfield 8896, .aload 0, .new 6, .dup, .aload 0, .getfield 704, .invokespecial 45, .putfield 8897, .aload 0, .new 4, .dup, .invokespecial 34, .putfield 8898, .aload 0, .new 2, .dup, .aload 0, .getfield 705, .invokespecial 12, .putfield 8899, .aload 0, .new 9, .dup, .aload 0, .getfield 705, .invokespecial 65, .putfield 8900, .aload 0, .new 5, .dup, .invokespecial 39, .putfield 8901, .aload 0, .new 8, .dup, .invokespecial 58, .putfield 8902, .aload 0, .new 0, .dup, .invokespecial 0, .putfield 8903, .aload 0, .new 1, .dup, .invokespecial 8, .putfield 8904, .aload 0, .iconst 8, .newarray .int, .putfield 8905, .aload 0, .new 10, .dup, .invokespecial 70, .putfield 8906, .aload 0, .new 10, .dup, .invokespecial 70, .putfield 8907, .aload 0, .iconst 0, .putfield 716, .aload 0, .iconst 0, .putfield 717, .aload 0, .getfield 713, .iconst (-1), .invokestatic 191, .return_], 0)]
abbrev q_X_init : Nat := 79
/-- MouthRiddles.thing(I)I -/
def cd_X_thing : List (Nat × List Instr × Nat) := [(0, [.iload 1, .ifCond .lt 10], 4),
  (4, [.iload 1, .iconst 16777216, .if_icmp .lt 13], 10),
  (10, [.iconst (-102), .ireturn], 0),
  (13, [.aload 0, .getfield 704, .getfield 192, .iconst 12, .if_icmp .lt 28], 25),
  (25, [.iconst (-104), .ireturn], 0),
  (28, [.aload 0, .getfield 704, .iload 1, .invokevirtual 21, .ireturn], 0)]
abbrev q_X_thing : Nat := 80
/-- MouthRiddles.sense(II)I -/
def cd_X_sense : List (Nat × List Instr × Nat) := [(0, [.iload 1, .invokestatic 82, .ifCond .ne 10], 7),
  (7, [.iconst (-101), .ireturn], 0),
  (10, [.iload 2, .ifCond .lt 32], 14),
  (14, [.iload 2, .iconst 24, .if_icmp .ge 32], 20),
  (20, [.aload 0, .getfield 704, .iload 1, .iload 2, .invokevirtual 26, .ifCond .eq 35], 32),
  (32, [.iconst (-102), .ireturn], 0),
  (35, [.aload 0, .getfield 704, .getfield 198, .iload 1, .iaload, .iconst 3, .if_icmp .lt 51], 48),
  (48, [.iconst (-104), .ireturn], 0),
  (51, [.aload 0, .getfield 704, .iload 1, .iload 2, .invokevirtual 27, .ireturn], 0)]
abbrev q_X_sense : Nat := 81
/-- MouthRiddles.isWord(I)Z -/
def cd_X_isWord : List (Nat × List Instr × Nat) := [(0, [.iload 0, .ifCond .lt 14], 4),
  (4, [.iload 0, .iconst 16, .if_icmp .ge 14], 10),
  (10, [.iconst 1, .goto 15], 0),
  (14, [.iconst 0], 15),
  (15, [.freturn], 0)]
abbrev q_X_isWord : Nat := 82
/-- MouthRiddles.senseOf(II)I -/
def cd_X_senseOf : List (Nat × List Instr × Nat) := [(0, [.iload 1, .invokestatic 82, .ifCond .ne 10], 7),
  (7, [.iconst (-101), .ireturn], 0),
  (10, [.iload 2, .ifCond .lt 27], 14),
  (14, [.iload 2, .aload 0, .getfield 704, .getfield 198, .iload 1, .iaload, .if_icmp .lt 29], 27),
  (27, [.iconst (-1), .ireturn], 0),
  (29, [.aload 0, .getfield 704, .iload 1, .iload 2, .invokevirtual 25, .ireturn], 0)]
abbrev q_X_senseOf : Nat := 83
/-- MouthRiddles.saying(III)I -/
def cd_X_saying : List (Nat × List Instr × Nat) := [(0, [.iload 1, .invokestatic 85, .ifCond .eq 17], 7),
  (7, [.iload 3, .ifCond .lt 17], 11),
  (11, [.iload 3, .iconst 23, .if_icmp .le 20], 17),
  (17, [.iconst (-102), .ireturn], 0),
  (20, [.iload 2, .invokestatic 82, .ifCond .ne 30], 27),
  (27, [.iconst (-101), .ireturn], 0),
  (30, [.aload 0, .getfield 704, .getfield 193, .iconst 20, .if_icmp .lt 45], 42),
  (42, [.iconst (-104), .ireturn], 0),
  (45, [.aload 0, .getfield 704, .iload 1, .iload 2, .iload 3, .invokevirtual 28, .ireturn], 0)]
abbrev q_X_saying : Nat := 84
/-- MouthRiddles.isKind(I)Z -/
def cd_X_isKind : List (Nat × List Instr × Nat) := [(0, [.iload 0, .ifCond .lt 14], 4),
  (4, [.iload 0, .iconst 6, .if_icmp .ge 14], 10),
  (10, [.iconst 1, .goto 15], 0),
  (14, [.iconst 0], 15),
  (15, [.freturn], 0)]
abbrev q_X_isKind : Nat := 85
/-- MouthRiddles.as(II)I -/
def cd_X_as : List (Nat × List Instr × Nat) := [(0, [.aload 0, .iload 1, .invokevirtual 87, .ifCond .ne 11], 8),
  (8, [.iconst (-101), .ireturn], 0),
  (11, [.iload 2, .invokestatic 85, .ifCond .ne 21], 18),
  (18, [.iconst (-102), .ireturn], 0),
  (21, [.aload 0, .getfield 704, .iload 1, .iload 2, .invokevirtual 29, .ifCond .eq 37], 33),
  (33, [.iload 1, .goto 38], 0),
  (37, [.iconst (-1)], 38),
  (38, [.ireturn], 0)]
abbrev q_X_as : Nat := 86
/-- MouthRiddles.isSaying(I)Z -/
def cd_X_isSaying : List (Nat × List Instr × Nat) := [(0, [.iload 1, .ifCond .lt 19], 4),
  (4, [.iload 1, .aload 0, .getfield 704, .getfield 193, .if_icmp .ge 19], 15),
  (15, [.iconst 1, .goto 20], 0),
  (19, [.iconst 0], 20),
  (20, [.freturn], 0)]
abbrev q_X_isSaying : Nat := 87
/-- MouthRiddles.fits(II)I -/
def cd_X_fits : List (Nat × List Instr × Nat) := [(0, [.aload 0, .iload 1, .invokevirtual 87, .ifCond .eq 16], 8),
  (8, [.aload 0, .iload 2, .invokevirtual 89, .ifCond .ne 19], 16),
  (16, [.iconst (-101), .ireturn], 0),
  (19, [.aload 0, .getfield 704, .iload 1, .iload 2, .invokevirtual 30, .ireturn], 0)]
abbrev q_X_fits : Nat := 88
/-- MouthRiddles.isThing(I)Z -/
def cd_X_isThing : List (Nat × List Instr × Nat) := [(0, [.iload 1, .ifCond .lt 19], 4),
  (4, [.iload 1, .aload 0, .getfield 704, .getfield 192, .if_icmp .ge 19], 15),
  (15, [.iconst 1, .goto 20], 0),
  (19, [.iconst 0], 20),
  (20, [.freturn], 0)]
abbrev q_X_isThing : Nat := 89
/-- MouthRiddles.riddle(I)I -/
def cd_X_riddle : List (Nat × List Instr × Nat) := [(0, [.aload 0, .iload 1, .invokevirtual 87, .ifCond .ne 11], 8),
  (8, [.iconst (-101), .ireturn], 0),
  (11, [.aload 0, .getfield 705, .getfield 388, .iconst 10, .if_icmp .lt 26], 23),
  (23, [.iconst (-104), .ireturn], 0),
  (26, [.aload 0, .getfield 705, .iload 1, .invokevirtual 46, .ireturn], 0)]
abbrev q_X_riddle : Nat := 90
/-- MouthRiddles.more(II)I -/
def cd_X_more : List (Nat × List Instr × Nat) := [(0, [.aload 0, .iload 1, .invokevirtual 92, .ifCond .eq 16], 8),
  (8, [.aload 0, .iload 2, .invokevirtual 87, .ifCond .ne 19], 16),
  (16, [.iconst (-101), .ireturn], 0),
  (19, [.aload 0, .getfield 705, .getfield 387, .iload 1, .iaload, .iconst 6, .if_icmp .lt 36], 33),
  (33, [.iconst (-104), .ireturn], 0),
  (36, [.aload 0, .getfield 705, .iload 1, .iload 2, .invokevirtual 47, .ireturn], 0)]
abbrev q_X_more : Nat := 91
/-- MouthRiddles.isRiddle(I)Z -/
def cd_X_isRiddle : List (Nat × List Instr × Nat) := [(0, [.iload 1, .ifCond .lt 19], 4),
  (4, [.iload 1, .aload 0, .getfield 705, .getfield 388, .if_icmp .ge 19], 15),
  (15, [.iconst 1, .goto 20], 0),
  (19, [.iconst 0], 20),
  (20, [.freturn], 0)]
abbrev q_X_isRiddle : Nat := 92
/-- MouthRiddles.said(II)I -/
def cd_X_said : List (Nat × List Instr × Nat) := [(0, [.aload 0, .iload 1, .invokevirtual 92, .ifCond .ne 11], 8),
  (8, [.iconst (-101), .ireturn], 0),
  (11, [.iload 2, .ifCond .lt 28], 15),
  (15, [.iload 2, .aload 0, .getfield 705, .getfield 387, .iload 1, .iaload, .if_icmp .lt 30], 28),
  (28, [.iconst (-1), .ireturn], 0),
  (30, [.aload 0, .getfield 705, .iload 1, .iload 2, .invokevirtual 48, .ireturn], 0)]
abbrev q_X_said : Nat := 93
/-- MouthRiddles.answers(I)I -/
def cd_X_answers : List (Nat × List Instr × Nat) := [(0, [.aload 0, .iload 1, .invokevirtual 92, .ifCond .ne 11], 8),
  (8, [.iconst (-101), .ireturn], 0),
  (11, [.aload 0, .getfield 705, .iload 1, .invokevirtual 49, .ireturn], 0)]
abbrev q_X_answers : Nat := 94
/-- MouthRiddles.turns(II)I -/
def cd_X_turns : List (Nat × List Instr × Nat) := [(0, [.aload 0, .iload 1, .invokevirtual 92, .ifCond .eq 16], 8),
  (8, [.aload 0, .iload 2, .invokevirtual 89, .ifCond .ne 19], 16),
  (16, [.iconst (-101), .ireturn], 0),
  (19, [.aload 0, .getfield 705, .iload 1, .iload 2, .invokevirtual 51, .ireturn], 0)]
abbrev q_X_turns : Nat := 95
/-- MouthRiddles.judge(III)I -/
def cd_X_judge : List (Nat × List Instr × Nat) := [(0, [.aload 0, .iload 1, .invokevirtual 92, .ifCond .eq 24], 8),
  (8, [.aload 0, .iload 2, .invokevirtual 89, .ifCond .eq 24], 16),
  (16, [.aload 0, .iload 3, .invokevirtual 89, .ifCond .ne 27], 24),
  (24, [.iconst (-101), .ireturn], 0),
  (27, [.iload 2, .iload 3, .dadd, .istore 4, .iload 2, .iload 3, .dsub, .istore 5, .aload 0, .getfield 705, .iload 1, .iload 4, .invokevirtual 51, .istore 6, .aload 0, .getfield 705, .iload 1, .iload 5, .invokevirtual 51, .istore 7, .iload 7, .iconst (-1), .if_icmp .ne 84], 71),
  (71, [.iload 6, .iconst (-1), .if_icmp .ne 81], 77),
  (77, [.iconst (-1), .goto 83], 0),
  (81, [.iload 4], 83),
  (83, [.ireturn], 0),
  (84, [.iload 6, .iconst (-1), .if_icmp .eq 97], 90),
  (90, [.iload 7, .iload 6, .if_icmp .ge 102], 97),
  (97, [.iload 5, .goto 104], 0),
  (102, [.iload 4], 104),
  (104, [.ireturn], 0)]
abbrev q_X_judge : Nat := 96
/-- MouthRiddles.astray(II)I -/
def cd_X_astray : List (Nat × List Instr × Nat) := [(0, [.aload 0, .iload 1, .invokevirtual 92, .ifCond .ne 11], 8),
  (8, [.iconst (-101), .ireturn], 0),
  (11, [.iload 2, .ifCond .lt 20], 15),
  (15, [.iload 2, .iconst 1, .if_icmp .le 23], 20),
  (20, [.iconst (-102), .ireturn], 0),
  (23, [.aload 0, .getfield 705, .iload 1, .invokevirtual 52, .istore 3, .iload 2, .ifCond .ne 40], 36),
  (36, [.iload 3, .goto 49], 0),
  (40, [.aload 0, .getfield 705, .iload 1, .iload 3, .invokevirtual 53], 49),
  (49, [.ireturn], 0)]
abbrev q_X_astray : Nat := 97
/-- MouthRiddles.made(II)I -/
def cd_X_made : List (Nat × List Instr × Nat) := [(0, [.aload 0, .iload 1, .invokevirtual 89, .ifCond .ne 11], 8),
  (8, [.iconst (-101), .ireturn], 0),
  (11, [.iload 2, .iconst 1, .if_icmp .lt 22], 16),
  (16, [.iload 2, .iconst 6, .if_icmp .le 25], 22),
  (22, [.iconst (-102), .ireturn], 0),
  (25, [.aload 0, .getfield 716, .iconst 20, .if_icmp .lt 37], 34),
  (34, [.iconst (-103), .ireturn], 0),
  (37, [.aload 0, .dup, .getfield 716, .iconst 1, .iadd, .putfield 716, .aload 0, .getfield 706, .aload 0, .getfield 704, .iload 1, .iload 2, .invokevirtual 35, .ireturn], 0)]
abbrev q_X_made : Nat := 98
/-- MouthRiddles.head(II)I -/
def cd_X_head : List (Nat × List Instr × Nat) := [(0, [.iload 1, .ifCond .lt 20], 4),
  (4, [.iload 1, .iconst 99, .if_icmp .gt 20], 10),
  (10, [.iload 2, .ifCond .lt 20], 14),
  (14, [.iload 2, .iconst 99, .if_icmp .le 23], 20),
  (20, [.iconst (-102), .ireturn], 0),
  (23, [.aload 0, .getfield 707, .getfield 133, .iconst 6, .if_icmp .lt 38], 35),
  (35, [.iconst (-104), .ireturn], 0),
  (38, [.aload 0, .getfield 707, .iload 1, .iload 2, .invokevirtual 13, .ireturn], 0)]
abbrev q_X_head : Nat := 99
/-- MouthRiddles.hears(III)I -/
def cd_X_hears : List (Nat × List Instr × Nat) := [(0, [.aload 0, .iload 1, .invokevirtual 101, .ifCond .eq 16], 8),
  (8, [.aload 0, .iload 2, .invokevirtual 92, .ifCond .ne 19], 16),
  (16, [.iconst (-101), .ireturn], 0),
  (19, [.iload 3, .ifCond .lt 28], 23),
  (23, [.iload 3, .iconst 1, .if_icmp .le 31], 28),
  (28, [.iconst (-102), .ireturn], 0),
  (31, [.aload 0, .getfield 707, .iload 1, .iload 2, .invokevirtual 14, .istore 4, .iload 3, .ifCond .ne 59], 46),
  (46, [.aload 0, .getfield 707, .iload 4, .iload 2, .invokevirtual 16, .goto 69], 0),
  (59, [.aload 0, .getfield 707, .iload 4, .iload 1, .invokevirtual 15], 69),
  (69, [.ireturn], 0)]
abbrev q_X_hears : Nat := 100
/-- MouthRiddles.isHead(I)Z -/
def cd_X_isHead : List (Nat × List Instr × Nat) := [(0, [.iload 1, .ifCond .lt 19], 4),
  (4, [.iload 1, .aload 0, .getfield 707, .getfield 133, .if_icmp .ge 19], 15),
  (15, [.iconst 1, .goto 20], 0),
  (19, [.iconst 0], 20),
  (20, [.freturn], 0)]
abbrev q_X_isHead : Nat := 101
/-- MouthRiddles.parts(I)I -/
def cd_X_parts : List (Nat × List Instr × Nat) := [(0, [.iload 1, .ifCond .lt 9], 4),
  (4, [.iload 1, .iconst 1, .if_icmp .le 12], 9),
  (9, [.iconst (-102), .ireturn], 0),
  (12, [.iconst (-1), .istore 2, .iconst (-1), .istore 3, .iconst 0, .istore 4], 19),
  (19, [.iload 4, .aload 0, .getfield 705, .getfield 388, .if_icmp .ge 60], 31),
  (31, [.aload 0, .getfield 707, .iload 4, .invokevirtual 17, .istore 5, .iload 5, .iload 3, .if_icmp .le 54], 48),
  (48, [.iload 4, .istore 2, .iload 5, .istore 3], 54),
  (54, [.iinc 4 1, .goto 19], 0),
  (60, [.iload 1, .ifCond .ne 68], 64),
  (64, [.iload 2, .goto 69], 0),
  (68, [.iload 3], 69),
  (69, [.ireturn], 0)]
abbrev q_X_parts : Nat := 102
/-- MouthRiddles.blind(II)I -/
def cd_X_blind : List (Nat × List Instr × Nat) := [(0, [.aload 0, .iload 1, .invokevirtual 92, .ifCond .eq 16], 8),
  (8, [.aload 0, .iload 2, .invokevirtual 89, .ifCond .ne 19], 16),
  (16, [.iconst (-101), .ireturn], 0),
  (19, [.aload 0, .getfield 707, .iload 1, .iload 2, .invokevirtual 19, .ireturn], 0)]
abbrev q_X_blind : Nat := 103
/-- MouthRiddles.tongue()I -/
def cd_X_tongue : List (Nat × List Instr × Nat) := [(0, [.aload 0, .getfield 708, .getfield 578, .iconst 4, .if_icmp .lt 14], 11),
  (11, [.iconst (-104), .ireturn], 0),
  (14, [.aload 0, .getfield 708, .invokevirtual 66, .ireturn], 0)]
abbrev q_X_tongue : Nat := 104
/-- MouthRiddles.lack(IIIZ)I -/
def cd_X_lack : List (Nat × List Instr × Nat) := [(0, [.aload 0, .iload 1, .invokevirtual 106, .ifCond .eq 15], 8),
  (8, [.iload 2, .invokestatic 82, .ifCond .ne 18], 15),
  (15, [.iconst (-101), .ireturn], 0),
  (18, [.iload 3, .ifCond .lt 27], 22),
  (22, [.iload 3, .iconst 3, .if_icmp .lt 30], 27),
  (27, [.iconst (-102), .ireturn], 0),
  (30, [.aload 0, .getfield 708, .getfield 577, .iload 1, .aaload, .iload 2, .iload 3, .invokevirtual 56, .ifCond .ne 51], 47),
  (47, [.iconst 1, .goto 52], 0),
  (51, [.iconst 0], 52),
  (52, [.istore 5, .aload 0, .getfield 708, .getfield 577, .iload 1, .aaload, .iload 2, .iload 3, .iload 4, .ifCond .ne 74], 70),
  (70, [.iconst 1, .goto 75], 0),
  (74, [.iconst 0], 75),
  (75, [.invokevirtual 57, .iload 5, .ifCond .eq 87], 83),
  (83, [.iconst 1, .goto 88], 0),
  (87, [.iconst 0], 88),
  (88, [.ireturn], 0)]
abbrev q_X_lack : Nat := 105
/-- MouthRiddles.isTongue(I)Z -/
def cd_X_isTongue : List (Nat × List Instr × Nat) := [(0, [.iload 1, .ifCond .lt 19], 4),
  (4, [.iload 1, .aload 0, .getfield 708, .getfield 578, .if_icmp .ge 19], 15),
  (15, [.iconst 1, .goto 20], 0),
  (19, [.iconst 0], 20),
  (20, [.freturn], 0)]
abbrev q_X_isTongue : Nat := 106
/-- MouthRiddles.goes(IIII)I -/
def cd_X_goes : List (Nat × List Instr × Nat) := [(0, [.aload 0, .iload 1, .invokevirtual 92, .ifCond .eq 24], 8),
  (8, [.aload 0, .iload 2, .invokevirtual 89, .ifCond .eq 24], 16),
  (16, [.aload 0, .iload 3, .invokevirtual 106, .ifCond .ne 27], 24),
  (24, [.iconst (-101), .ireturn], 0),
  (27, [.iload 4, .ifCond .lt 38], 32),
  (32, [.iload 4, .iconst 1, .if_icmp .le 41], 38),
  (38, [.iconst (-102), .ireturn], 0),
  (41, [.iload 4, .ifCond .ne 59], 46),
  (46, [.aload 0, .getfield 708, .iload 3, .iload 1, .iload 2, .invokevirtual 67, .goto 69], 0),
  (59, [.aload 0, .getfield 708, .iload 3, .iload 1, .iload 2, .invokevirtual 68], 69),
  (69, [.ireturn], 0)]
abbrev q_X_goes : Nat := 107
/-- MouthRiddles.nearest(II)I -/
def cd_X_nearest : List (Nat × List Instr × Nat) := [(0, [.aload 0, .iload 1, .invokevirtual 92, .ifCond .eq 16], 8),
  (8, [.aload 0, .iload 2, .invokevirtual 89, .ifCond .ne 19], 16),
  (16, [.iconst (-101), .ireturn], 0),
  (19, [.aload 0, .getfield 708, .iload 1, .iload 2, .invokevirtual 69, .ireturn], 0)]
abbrev q_X_nearest : Nat := 108
/-- MouthRiddles.letters(J)I -/
def cd_X_letters : List (Nat × List Instr × Nat) := [(0, [.lload 1, .invokestatic 40, .ifCond .ne 10], 7),
  (7, [.iconst (-102), .ireturn], 0),
  (10, [.aload 0, .getfield 709, .getfield 321, .lload 1, .invokestatic 41, .iadd, .iconst 40, .if_icmp .le 30], 27),
  (27, [.iconst (-104), .ireturn], 0),
  (30, [.aload 0, .getfield 709, .lload 1, .invokevirtual 43, .ireturn], 0)]
abbrev q_X_letters : Nat := 109
/-- MouthRiddles.blank()I -/
def cd_X_blank : List (Nat × List Instr × Nat) := [(0, [.aload 0, .getfield 709, .invokevirtual 44, .ireturn], 0)]
abbrev q_X_blank : Nat := 110
/-- MouthRiddles.fault()I -/
def cd_X_fault : List (Nat × List Instr × Nat) := [(0, [.aload 0, .getfield 715, .aload 0, .getfield 709, .invokevirtual 71, .ireturn], 0)]
abbrev q_X_fault : Nat := 111
/-- MouthRiddles.tree()I -/
def cd_X_tree : List (Nat × List Instr × Nat) := [(0, [.aload 0, .getfield 715, .aload 0, .getfield 709, .invokevirtual 71, .aload 0, .getfield 709, .getfield 321, .if_icmp .lt 31], 21),
  (21, [.aload 0, .getfield 715, .invokevirtual 78, .ifCond .ne 34], 31),
  (31, [.iconst (-103), .ireturn], 0),
  (34, [.aload 0, .getfield 714, .astore 1, .aload 0, .aload 0, .getfield 715, .putfield 8906, .aload 0, .aload 1, .putfield 8907, .aload 0, .getfield 709, .invokevirtual 44, .pop, .aload 0, .getfield 714, .getfield 643, .ireturn], 0)]
abbrev q_X_tree : Nat := 112
/-- MouthRiddles.variant(II)I -/
def cd_X_variant : List (Nat × List Instr × Nat) := [(0, [.iload 1, .ifCond .lt 10], 4),
  (4, [.iload 1, .iconst 8, .if_icmp .lt 13], 10),
  (10, [.iconst (-101), .ireturn], 0),
  (13, [.iload 2, .iconst (-1), .if_icmp .eq 31], 18),
  (18, [.iload 2, .ifCond .lt 28], 22),
  (22, [.iload 2, .iconst 8, .if_icmp .lt 31], 28),
  (28, [.iconst (-102), .ireturn], 0),
  (31, [.aload 0, .getfield 713, .iload 1, .iaload, .istore 3, .aload 0, .getfield 713, .iload 1, .iload 2, .iastore, .iload 3, .ireturn], 0)]
abbrev q_X_variant : Nat := 113
/-- MouthRiddles.changes(I)I -/
def cd_X_changes : List (Nat × List Instr × Nat) := [(0, [.iload 1, .ifCond .eq 19], 4),
  (4, [.iload 1, .iconst 10, .if_icmp .lt 16], 10),
  (10, [.iload 1, .iconst 39, .if_icmp .le 19], 16),
  (16, [.iconst (-102), .ireturn], 0),
  (19, [.aload 0, .getfield 714, .invokevirtual 78, .ifCond .ne 32], 29),
  (29, [.iconst (-103), .ireturn], 0),
  (32, [.iload 1, .ifCond .ne 52], 36),
  (36, [.aload 0, .getfield 711, .aload 0, .getfield 714, .aload 0, .getfield 713, .invokevirtual 1, .ireturn], 0),
  (52, [.iload 1, .iconst 10, .isub, .aload 0, .getfield 714, .getfield 643, .if_icmp .lt 68], 66),
  (66, [.iconst (-1), .ireturn], 0),
  (68, [.aload 0, .getfield 711, .aload 0, .getfield 714, .aload 0, .getfield 713, .invokevirtual 5, .aload 0, .getfield 711, .iload 1, .iconst 10, .isub, .invokevirtual 7, .ireturn], 0)]
abbrev q_X_changes : Nat := 114
/-- MouthRiddles.chance(I)I -/
def cd_X_chance : List (Nat × List Instr × Nat) := [(0, [.iload 1, .ifCond .lt 9], 4),
  (4, [.iload 1, .iconst 1, .if_icmp .le 12], 9),
  (9, [.iconst (-102), .ireturn], 0),
  (12, [.aload 0, .getfield 714, .invokevirtual 78, .ifCond .eq 31], 22),
  (22, [.aload 0, .getfield 717, .iconst 12, .if_icmp .lt 34], 31),
  (31, [.iconst (-103), .ireturn], 0),
  (34, [.aload 0, .dup, .getfield 717, .iconst 1, .iadd, .putfield 717, .aload 0, .getfield 712, .aload 0, .getfield 714, .aload 0, .getfield 713, .aload 0, .getfield 711, .invokevirtual 9, .aload 0, .getfield 712, .getfield 70, .aload 0, .getfield 712, .getfield 71, .invokestatic 116, .istore 2, .iload 1, .ifCond .ne 95], 85),
  (85, [.aload 0, .getfield 712, .getfield 71, .goto 102], 0),
  (95, [.aload 0, .getfield 712, .getfield 70], 102),
  (102, [.iload 2, .idiv, .ireturn], 0)]
abbrev q_X_chance : Nat := 115
/-- MouthRiddles.greatestDivisor(II)I -/
def cd_X_greatestDivisor : List (Nat × List Instr × Nat) := [(0, [.iload 0, .istore 2, .iload 1, .istore 3, .iconst 0, .istore 4], 7),
  (7, [.iload 4, .iconst 64, .if_icmp .ge 34], 14),
  (14, [.iload 3, .ifCond .eq 34], 18),
  (18, [.iload 2, .iload 3, .irem, .istore 5, .iload 3, .istore 2, .iload 5, .istore 3, .iinc 4 1, .goto 7], 0),
  (34, [.iload 2, .iconst 1, .dsub, .ireturn], 0)]
abbrev q_X_greatestDivisor : Nat := 116
/-- MouthRiddles.stake(III)I -/
def cd_X_stake : List (Nat × List Instr × Nat) := [(0, [.aload 0, .iload 1, .invokevirtual 101, .ifCond .eq 16], 8),
  (8, [.aload 0, .iload 2, .invokevirtual 92, .ifCond .ne 19], 16),
  (16, [.iconst (-101), .ireturn], 0),
  (19, [.iload 3, .ifCond .lt 30], 23),
  (23, [.iload 3, .iconst 999, .if_icmp .le 33], 30),
  (30, [.iconst (-102), .ireturn], 0),
  (33, [.aload 0, .getfield 710, .iload 1, .iload 2, .iload 3, .invokevirtual 59, .ireturn], 0)]
abbrev q_X_stake : Nat := 117
/-- MouthRiddles.whom(I)I -/
def cd_X_whom : List (Nat × List Instr × Nat) := [(0, [.iload 1, .iconst (-1), .if_icmp .eq 16], 5),
  (5, [.aload 0, .iload 1, .invokevirtual 101, .ifCond .ne 16], 13),
  (13, [.iconst (-101), .ireturn], 0),
  (16, [.aload 0, .getfield 710, .aload 0, .getfield 707, .getfield 133, .aload 0, .getfield 705, .getfield 388, .invokevirtual 61, .lstore 2, .iload 1, .iconst (-1), .if_icmp .ne 50], 43),
  (43, [.lload 2, .invokestatic 63, .goto 55], 0),
  (50, [.lload 2, .iload 1, .invokestatic 64], 55),
  (55, [.ireturn], 0)]
abbrev q_X_whom : Nat := 118
/-- MouthRiddles.count(I)I -/
def cd_X_count : List (Nat × List Instr × Nat) := [(0, [.iload 1, .tableswitch 130 0 9 #[56, 64, 72, 80, 88, 96, 104, 112, 120, 125]], 0),
  (56, [.aload 0, .getfield 704, .getfield 192, .ireturn], 0),
  (64, [.aload 0, .getfield 704, .invokevirtual 33, .ireturn], 0),
  (72, [.aload 0, .getfield 704, .getfield 193, .ireturn], 0),
  (80, [.aload 0, .getfield 705, .getfield 388, .ireturn], 0),
  (88, [.aload 0, .getfield 707, .getfield 133, .ireturn], 0),
  (96, [.aload 0, .getfield 708, .getfield 578, .ireturn], 0),
  (104, [.aload 0, .getfield 714, .getfield 643, .ireturn], 0),
  (112, [.aload 0, .getfield 709, .getfield 321, .ireturn], 0),
  (120, [.aload 0, .getfield 716, .ireturn], 0),
  (125, [.aload 0, .getfield 717, .ireturn], 0),
  (130, [.iconst (-102), .ireturn], 0)]
abbrev q_X_count : Nat := 119
/-- MouthRiddles.digest()J -/
def cd_X_digest : List (Nat × List Instr × Nat) := [(0, [.aload 0, .ldc2_w 349, .invokevirtual 121, .lstore 1, .aload 0, .lload 1, .invokevirtual 122, .lstore 1, .aload 0, .lload 1, .invokevirtual 123, .lstore 1, .aload 0, .lload 1, .invokevirtual 124, .lstore 1, .iconst 0, .istore 3], 28),
  (28, [.iload 3, .aload 0, .getfield 709, .getfield 321, .if_icmp .ge 62], 39),
  (39, [.ldc2_w 31, .lload 1, .lmul, .aload 0, .getfield 709, .getfield 320, .iload 3, .iaload, .i2l, .ladd, .lstore 1, .iinc 3 1, .goto 28], 0),
  (62, [.iconst 0, .istore 3], 64),
  (64, [.iload 3, .iconst 10, .if_icmp .ge 89], 70),
  (70, [.ldc2_w 31, .lload 1, .lmul, .aload 0, .iload 3, .invokevirtual 119, .i2l, .ladd, .lstore 1, .iinc 3 1, .goto 64], 0),
  (89, [.lload 1, .lreturn], 0)]
abbrev q_X_digest : Nat := 120
/-- MouthRiddles.digestLore(J)J -/
def cd_X_digestLore : List (Nat × List Instr × Nat) := [(0, [.lload 1, .lstore 3, .iconst 0, .istore 5], 5),
  (5, [.iload 5, .aload 0, .getfield 704, .getfield 192, .if_icmp .ge 41], 17),
  (17, [.ldc2_w 31, .lload 3, .lmul, .aload 0, .getfield 704, .getfield 194, .iload 5, .iaload, .i2l, .ladd, .lstore 3, .iinc 5 1, .goto 5], 0),
  (41, [.iconst 0, .istore 5], 44),
  (44, [.iload 5, .iconst 16, .if_icmp .ge 100], 51),
  (51, [.iconst 0, .istore 6], 54),
  (54, [.iload 6, .aload 0, .getfield 704, .getfield 198, .iload 5, .iaload, .if_icmp .ge 94], 69),
  (69, [.ldc2_w 31, .lload 3, .lmul, .aload 0, .getfield 704, .iload 5, .iload 6, .invokevirtual 25, .i2l, .ladd, .lstore 3, .iinc 6 1, .goto 54], 0),
  (94, [.iinc 5 1, .goto 44], 0),
  (100, [.iconst 0, .istore 5], 103),
  (103, [.iload 5, .aload 0, .getfield 704, .getfield 193, .if_icmp .ge 215], 115),
  (115, [.ldc2_w 31, .lload 3, .lmul, .aload 0, .getfield 704, .getfield 199, .iload 5, .iaload, .i2l, .ladd, .lstore 3, .ldc2_w 31, .lload 3, .lmul, .aload 0, .getfield 704, .getfield 200, .iload 5, .iaload, .i2l, .ladd, .lstore 3, .ldc2_w 31, .lload 3, .lmul, .aload 0, .getfield 704, .getfield 201, .iload 5, .iaload, .i2l, .ladd, .lstore 3, .iconst 0, .istore 6], 172),
  (172, [.iload 6, .aload 0, .getfield 704, .getfield 192, .if_icmp .ge 209], 184),
  (184, [.ldc2_w 31, .lload 3, .lmul, .aload 0, .getfield 704, .iload 5, .iload 6, .invokevirtual 30, .i2l, .ladd, .lstore 3, .iinc 6 1, .goto 172], 0),
  (209, [.iinc 5 1, .goto 103], 0),
  (215, [.lload 3, .lreturn], 0)]
abbrev q_X_digestLore : Nat := 121
/-- MouthRiddles.digestRiddles(J)J -/
def cd_X_digestRiddles : List (Nat × List Instr × Nat) := [(0, [.lload 1, .lstore 3, .iconst 0, .istore 5], 5),
  (5, [.iload 5, .aload 0, .getfield 705, .getfield 388, .if_icmp .ge 174], 17),
  (17, [.iconst 0, .istore 6], 20),
  (20, [.iload 6, .aload 0, .getfield 705, .getfield 387, .iload 5, .iaload, .if_icmp .ge 60], 35),
  (35, [.ldc2_w 31, .lload 3, .lmul, .aload 0, .getfield 705, .iload 5, .iload 6, .invokevirtual 48, .i2l, .ladd, .lstore 3, .iinc 6 1, .goto 20], 0),
  (60, [.ldc2_w 31, .lload 3, .lmul, .aload 0, .getfield 705, .iload 5, .invokevirtual 49, .i2l, .ladd, .lstore 3, .iconst 0, .istore 6], 80),
  (80, [.iload 6, .aload 0, .getfield 707, .getfield 133, .if_icmp .ge 168], 92),
  (92, [.aload 0, .getfield 707, .iload 6, .iload 5, .invokevirtual 14, .istore 7, .ldc2_w 31, .lload 3, .lmul, .aload 0, .getfield 707, .iload 7, .iload 5, .invokevirtual 16, .i2l, .ladd, .lstore 3, .ldc2_w 31, .lload 3, .lmul, .aload 0, .getfield 707, .iload 7, .iload 6, .invokevirtual 15, .i2l, .ladd, .lstore 3, .ldc2_w 31, .lload 3, .lmul, .aload 0, .getfield 710, .iload 6, .iload 5, .invokevirtual 60, .i2l, .ladd, .lstore 3, .iinc 6 1, .goto 80], 0),
  (168, [.iinc 5 1, .goto 5], 0),
  (174, [.lload 3, .lreturn], 0)]
abbrev q_X_digestRiddles : Nat := 122
/-- MouthRiddles.digestTongues(J)J -/
def cd_X_digestTongues : List (Nat × List Instr × Nat) := [(0, [.lload 1, .lstore 3, .aload 0, .getfield 704, .getfield 192, .ifCond .ne 14], 12),
  (12, [.lload 3, .lreturn], 0),
  (14, [.iconst 0, .istore 5], 17),
  (17, [.iload 5, .aload 0, .getfield 708, .getfield 578, .if_icmp .ge 96], 29),
  (29, [.iconst 0, .istore 6], 32),
  (32, [.iload 6, .aload 0, .getfield 705, .getfield 388, .if_icmp .ge 90], 44),
  (44, [.ldc2_w 31, .lload 3, .lmul, .aload 0, .getfield 708, .iload 5, .iload 6, .iconst 0, .invokevirtual 67, .i2l, .ladd, .lstore 3, .ldc2_w 31, .lload 3, .lmul, .aload 0, .getfield 708, .iload 5, .iload 6, .iconst 0, .invokevirtual 68, .i2l, .ladd, .lstore 3, .iinc 6 1, .goto 32], 0),
  (90, [.iinc 5 1, .goto 17], 0),
  (96, [.lload 3, .lreturn], 0)]
abbrev q_X_digestTongues : Nat := 123
/-- MouthRiddles.digestLands(J)J -/
def cd_X_digestLands : List (Nat × List Instr × Nat) := [(0, [.lload 1, .lstore 3, .iconst 0, .istore 5], 5),
  (5, [.iload 5, .iconst 8, .if_icmp .ge 33], 12),
  (12, [.ldc2_w 31, .lload 3, .lmul, .aload 0, .getfield 713, .iload 5, .iaload, .i2l, .ladd, .lstore 3, .iinc 5 1, .goto 5], 0),
  (33, [.aload 0, .getfield 714, .invokevirtual 78, .ifCond .ne 45], 43),
  (43, [.lload 3, .lreturn], 0),
  (45, [.ldc2_w 31, .lload 3, .lmul, .aload 0, .getfield 711, .aload 0, .getfield 714, .aload 0, .getfield 713, .invokevirtual 1, .i2l, .ladd, .lstore 3, .aload 0, .getfield 711, .aload 0, .getfield 714, .aload 0, .getfield 713, .invokevirtual 5, .iconst 0, .istore 5], 86),
  (86, [.iload 5, .aload 0, .getfield 714, .getfield 643, .if_icmp .ge 121], 98),
  (98, [.ldc2_w 31, .lload 3, .lmul, .aload 0, .getfield 711, .iload 5, .invokevirtual 7, .i2l, .ladd, .lstore 3, .iinc 5 1, .goto 86], 0),
  (121, [.lload 3, .lreturn], 0)]
abbrev q_X_digestLands : Nat := 124
/-- MouthRiddlesModel.<init>()V -/
def cd_M_init : List (Nat × List Instr × Nat) := [(0, [.aload 0, .monitorenter, .aload 0, .iconst 12, .newarray .int, .putfield 8961, .aload 0, .iconst 16, .newarray .int, .putfield 8962, .aload 0, .iconst 48, .newarray .int, .putfield 8963, .aload 0, .iconst 20, .newarray .int, .putfield 8965, .aload 0, .iconst 20, .newarray .int, .putfield 8966, .aload 0, .iconst 20, .newarray .int, .putfield 8967, .aload 0, .iconst 10, .newarray .int, .putfield 8969, .aload 0, .iconst 60, .newarray .int, .putfield 8970, .aload 0, .iconst 20, .newarray .int, .putfield 8972, .aload 0, .iconst 20, .newarray .int, .putfield 8973, .aload 0, .iconst 6, .newarray .int, .putfield 8975, .aload 0, .iconst 6, .newarray .int, .putfield 8976, .aload 0, .iconst 64, .newarray .int, .putfield 8979, .aload 0, .iconst 40, .newarray .int, .putfield 8980, .aload 0, .iconst 40, .newarray .int, .putfield 8983, .aload 0, .iconst 40, .newarray .int, .putfield 8984, .aload 0, .iconst 8, .newarray .int, .putfield 8985, .aload 0, .iconst 40, .newarray .int, .putfield 8990, .aload 0, .iconst 40, .newarray .int, .putfield 8991, .aload 0, .iconst 40, .newarray .int, .putfield 8992, .aload 0, .iconst 320, .newarray .int, .putfield 8993, .aload 0, .iconst 320, .newarray .int, .putfield 8994, .aload 0, .iconst 8, .newarray .int, .putfield 8995, .aload 0, .iconst 8, .newarray .int, .putfield 8997, .aload 0, .iconst 8, .newarray .int, .putfield 8998, .aload 0, .iconst 60, .newarray .int, .putfield 8999, .aload 0, .iconst 7168, .newarray .int, .putfield 9000, .iconst 0, .istore 1], 225),
  (225, [.iload 1, .iconst 8, .if_icmp .ge 244], 231),
  (231, [.aload 0, .getfield 793, .iload 1, .iconst (-1), .iastore, .iinc 1 1, .goto 225], 0),
  (244, [.return_], 0)]
abbrev q_M_init : Nat := 125
/-- MouthRiddlesModel.thing(I)I -/
def cd_M_thing : List (Nat × List Instr × Nat) := [(0, [.iload 1, .i2l, .ldc2_w 0, .ldc2_w 16777215, .invokestatic 127, .ifCond .ne 15], 12),
  (12, [.iconst (-102), .ireturn], 0),
  (15, [.aload 0, .getfield 768, .iconst 12, .if_icmp .ne 27], 24),
  (24, [.iconst (-104), .ireturn], 0),
  (27, [.aload 0, .getfield 769, .aload 0, .getfield 768, .iload 1, .iastore, .aload 0, .dup, .getfield 768, .iconst 1, .iadd, .putfield 768, .aload 0, .getfield 768, .iconst 1, .isub, .ireturn], 0)]
abbrev q_M_thing : Nat := 126
/-- MouthRiddlesModel.in(JJJ)Z -/
def cd_M_in : List (Nat × List Instr × Nat) := [(0, [.lload 0, .lload 2, .lcmp, .ifCond .lt 17], 6),
  (6, [.lload 0, .lload 4, .lcmp, .ifCond .gt 17], 13),
  (13, [.iconst 1, .goto 18], 0),
  (17, [.iconst 0], 18),
  (18, [.freturn], 0)]
abbrev q_M_in : Nat := 127
/-- MouthRiddlesModel.sense(II)I -/
def cd_M_sense : List (Nat × List Instr × Nat) := [(0, [.iload 1, .invokestatic 129, .ifCond .ne 10], 7),
  (7, [.iconst (-101), .ireturn], 0),
  (10, [.iload 2, .i2l, .ldc2_w 0, .ldc2_w 23, .invokestatic 127, .istore 3, .iconst 0, .istore 4], 23),
  (23, [.iload 4, .aload 0, .getfield 770, .iload 1, .iaload, .if_icmp .ge 65], 34),
  (34, [.iload 3, .ifCond .eq 57], 38),
  (38, [.aload 0, .getfield 771, .iconst 3, .iload 1, .imul, .iload 4, .iadd, .iaload, .iload 2, .if_icmp .eq 57], 53),
  (53, [.iconst 1, .goto 58], 0),
  (57, [.iconst 0], 58),
  (58, [.istore 3, .iinc 4 1, .goto 23], 0),
  (65, [.iload 3, .ifCond .ne 72], 69),
  (69, [.iconst (-102), .ireturn], 0),
  (72, [.aload 0, .getfield 770, .iload 1, .iaload, .iconst 3, .if_icmp .ne 85], 82),
  (82, [.iconst (-104), .ireturn], 0),
  (85, [.aload 0, .getfield 771, .iconst 3, .iload 1, .imul, .aload 0, .getfield 770, .iload 1, .iaload, .iadd, .iload 2, .iastore, .aload 0, .getfield 770, .iload 1, .dup2, .iaload, .iconst 1, .iadd, .iastore, .aload 0, .getfield 770, .iload 1, .iaload, .ireturn], 0)]
abbrev q_M_sense : Nat := 128
/-- MouthRiddlesModel.isWord(I)Z -/
def cd_M_isWord : List (Nat × List Instr × Nat) := [(0, [.iload 0, .i2l, .ldc2_w 0, .ldc2_w 15, .invokestatic 127, .freturn], 0)]
abbrev q_M_isWord : Nat := 129
/-- MouthRiddlesModel.senseOf(II)I -/
def cd_M_senseOf : List (Nat × List Instr × Nat) := [(0, [.iload 1, .invokestatic 129, .ifCond .ne 10], 7),
  (7, [.iconst (-101), .ireturn], 0),
  (10, [.iload 2, .i2l, .ldc2_w 0, .aload 0, .getfield 770, .iload 1, .iaload, .iconst 1, .isub, .i2l, .invokestatic 127, .ifCond .eq 41], 28),
  (28, [.aload 0, .getfield 771, .iconst 3, .iload 1, .imul, .iload 2, .iadd, .iaload, .goto 42], 0),
  (41, [.iconst (-1)], 42),
  (42, [.ireturn], 0)]
abbrev q_M_senseOf : Nat := 130
/-- MouthRiddlesModel.saying(III)I -/
def cd_M_saying : List (Nat × List Instr × Nat) := [(0, [.iload 1, .i2l, .ldc2_w 0, .ldc2_w 5, .invokestatic 127, .ifCond .eq 24], 12),
  (12, [.iload 3, .i2l, .ldc2_w 0, .ldc2_w 23, .invokestatic 127, .ifCond .ne 27], 24),
  (24, [.iconst (-102), .ireturn], 0),
  (27, [.iload 2, .invokestatic 129, .ifCond .ne 37], 34),
  (34, [.iconst (-101), .ireturn], 0),
  (37, [.aload 0, .getfield 772, .iconst 20, .if_icmp .ne 49], 46),
  (46, [.iconst (-104), .ireturn], 0),
  (49, [.aload 0, .getfield 773, .aload 0, .getfield 772, .iload 1, .iastore, .aload 0, .getfield 774, .aload 0, .getfield 772, .iload 2, .iastore, .aload 0, .getfield 775, .aload 0, .getfield 772, .iload 3, .iastore, .aload 0, .dup, .getfield 772, .iconst 1, .iadd, .putfield 772, .aload 0, .getfield 772, .iconst 1, .isub, .ireturn], 0)]
abbrev q_M_saying : Nat := 131
/-- MouthRiddlesModel.as(II)I -/
def cd_M_as : List (Nat × List Instr × Nat) := [(0, [.aload 0, .iload 1, .invokevirtual 133, .ifCond .ne 11], 8),
  (8, [.iconst (-101), .ireturn], 0),
  (11, [.iload 2, .i2l, .ldc2_w 0, .ldc2_w 5, .invokestatic 127, .ifCond .ne 26], 23),
  (23, [.iconst (-102), .ireturn], 0),
  (26, [.iload 2, .ifCond .eq 55], 30),
  (30, [.iload 2, .aload 0, .getfield 773, .iload 1, .iaload, .if_icmp .eq 55], 40),
  (40, [.iload 2, .iconst 2, .if_icmp .ne 59], 45),
  (45, [.aload 0, .getfield 773, .iload 1, .iaload, .iconst 3, .if_icmp .ne 59], 55),
  (55, [.iconst 1, .goto 60], 0),
  (59, [.iconst 0], 60),
  (60, [.istore 3, .iload 3, .ifCond .eq 69], 65),
  (65, [.iload 1, .goto 70], 0),
  (69, [.iconst (-1)], 70),
  (70, [.ireturn], 0)]
abbrev q_M_as : Nat := 132
/-- MouthRiddlesModel.isSaying(I)Z -/
def cd_M_isSaying : List (Nat × List Instr × Nat) := [(0, [.iload 1, .i2l, .ldc2_w 0, .aload 0, .getfield 772, .iconst 1, .isub, .i2l, .invokestatic 127, .freturn], 0)]
abbrev q_M_isSaying : Nat := 133
/-- MouthRiddlesModel.fits(II)I -/
def cd_M_fits : List (Nat × List Instr × Nat) := [(0, [.aload 0, .iload 1, .invokevirtual 133, .ifCond .eq 27], 8),
  (8, [.aload 0, .iload 2, .invokevirtual 135, .ifCond .eq 27], 16),
  (16, [.aload 0, .iload 1, .iload 2, .iconst 7, .invokevirtual 136, .goto 29], 0),
  (27, [.iconst (-101)], 29),
  (29, [.ireturn], 0)]
abbrev q_M_fits : Nat := 134
/-- MouthRiddlesModel.isThing(I)Z -/
def cd_M_isThing : List (Nat × List Instr × Nat) := [(0, [.iload 1, .i2l, .ldc2_w 0, .aload 0, .getfield 768, .iconst 1, .isub, .i2l, .invokestatic 127, .freturn], 0)]
abbrev q_M_isThing : Nat := 135
/-- MouthRiddlesModel.by(III)I -/
def cd_M_by : List (Nat × List Instr × Nat) := [(0, [.aload 0, .getfield 773, .iload 1, .iaload, .istore 4, .aload 0, .getfield 774, .iload 1, .iaload, .istore 5, .iload 4, .iconst 5, .if_icmp .ne 38], 22),
  (22, [.iload 2, .aload 0, .getfield 775, .iload 1, .iaload, .if_icmp .ne 36], 32),
  (32, [.iconst 0, .goto 37], 0),
  (36, [.iconst (-1)], 37),
  (37, [.ireturn], 0),
  (38, [.iload 4, .iconst 4, .if_icmp .ne 62], 44),
  (44, [.aload 0, .getfield 769, .iload 2, .iaload, .invokestatic 137, .aload 0, .getfield 775, .iload 1, .iaload, .if_icmp .lt 95], 62),
  (62, [.iload 4, .iconst 3, .if_icmp .ne 99], 68),
  (68, [.aload 0, .getfield 770, .iload 5, .iaload, .ifCond .le 99], 78),
  (78, [.aload 0, .iload 2, .aload 0, .getfield 771, .iconst 3, .iload 5, .imul, .iaload, .invokevirtual 138, .ifCond .eq 99], 95),
  (95, [.iconst 1, .goto 100], 0),
  (99, [.iconst 0], 100),
  (100, [.istore 6, .iconst (-1), .istore 7, .aload 0, .getfield 770, .iload 5, .iaload, .iconst 1, .isub, .istore 8], 116),
  (116, [.iload 8, .ifCond .lt 221], 121),
  (121, [.iload 3, .iload 8, .ishr, .iconst 1, .iand, .iconst 1, .if_icmp .ne 155], 131),
  (131, [.aload 0, .iload 2, .aload 0, .getfield 771, .iconst 3, .iload 5, .imul, .iload 8, .iadd, .iaload, .invokevirtual 138, .ifCond .eq 155], 151),
  (151, [.iconst 1, .goto 156], 0),
  (155, [.iconst 0], 156),
  (156, [.istore 9, .iload 9, .ifCond .eq 198], 163),
  (163, [.iload 4, .iconst 1, .if_icmp .ne 177], 169),
  (169, [.iload 8, .ifCond .ne 198], 174),
  (174, [.goto 194], 0),
  (177, [.iload 4, .iconst 2, .if_icmp .eq 189], 183),
  (183, [.iload 4, .iconst 3, .if_icmp .ne 194], 189),
  (189, [.iload 8, .ifCond .le 198], 194),
  (194, [.iconst 1, .goto 199], 0),
  (198, [.iconst 0], 199),
  (199, [.istore 9, .iload 9, .ifCond .eq 211], 206),
  (206, [.iload 8, .goto 213], 0),
  (211, [.iload 7], 213),
  (213, [.istore 7, .iinc 8 (-1), .goto 116], 0),
  (221, [.iload 6, .ifCond .eq 230], 226),
  (226, [.iconst (-1), .goto 232], 0),
  (230, [.iload 7], 232),
  (232, [.ireturn], 0)]
abbrev q_M_by : Nat := 136
/-- MouthRiddlesModel.bitsOf(I)I -/
def cd_M_bitsOf : List (Nat × List Instr × Nat) := [(0, [.iconst 0, .istore 1, .iconst 0, .istore 2], 4),
  (4, [.iload 2, .iconst 24, .if_icmp .ge 24], 10),
  (10, [.iload 1, .iload 0, .iload 2, .ishr, .iconst 1, .iand, .iadd, .istore 1, .iinc 2 1, .goto 4], 0),
  (24, [.iload 1, .ireturn], 0)]
abbrev q_M_bitsOf : Nat := 137
/-- MouthRiddlesModel.has(II)Z -/
def cd_M_has : List (Nat × List Instr × Nat) := [(0, [.aload 0, .getfield 769, .iload 1, .iaload, .iload 2, .ishr, .iconst 1, .iand, .iconst 1, .if_icmp .ne 18], 14),
  (14, [.iconst 1, .goto 19], 0),
  (18, [.iconst 0], 19),
  (19, [.freturn], 0)]
abbrev q_M_has : Nat := 138
/-- MouthRiddlesModel.riddle(I)I -/
def cd_M_riddle : List (Nat × List Instr × Nat) := [(0, [.aload 0, .iload 1, .invokevirtual 133, .ifCond .ne 11], 8),
  (8, [.iconst (-101), .ireturn], 0),
  (11, [.aload 0, .getfield 776, .iconst 10, .if_icmp .ne 23], 20),
  (20, [.iconst (-104), .ireturn], 0),
  (23, [.aload 0, .getfield 777, .aload 0, .getfield 776, .iconst 1, .iastore, .aload 0, .getfield 778, .iconst 6, .aload 0, .getfield 776, .imul, .iload 1, .iastore, .aload 0, .dup, .getfield 776, .iconst 1, .iadd, .putfield 776, .aload 0, .getfield 776, .iconst 1, .isub, .ireturn], 0)]
abbrev q_M_riddle : Nat := 139
/-- MouthRiddlesModel.more(II)I -/
def cd_M_more : List (Nat × List Instr × Nat) := [(0, [.aload 0, .iload 1, .invokevirtual 141, .ifCond .eq 16], 8),
  (8, [.aload 0, .iload 2, .invokevirtual 133, .ifCond .ne 19], 16),
  (16, [.iconst (-101), .ireturn], 0),
  (19, [.aload 0, .getfield 777, .iload 1, .iaload, .iconst 6, .if_icmp .ne 33], 30),
  (30, [.iconst (-104), .ireturn], 0),
  (33, [.aload 0, .getfield 778, .iconst 6, .iload 1, .imul, .aload 0, .getfield 777, .iload 1, .iaload, .iadd, .iload 2, .iastore, .aload 0, .getfield 777, .iload 1, .dup2, .iaload, .iconst 1, .iadd, .iastore, .aload 0, .getfield 777, .iload 1, .iaload, .ireturn], 0)]
abbrev q_M_more : Nat := 140
/-- MouthRiddlesModel.isRiddle(I)Z -/
def cd_M_isRiddle : List (Nat × List Instr × Nat) := [(0, [.iload 1, .i2l, .ldc2_w 0, .aload 0, .getfield 776, .iconst 1, .isub, .i2l, .invokestatic 127, .freturn], 0)]
abbrev q_M_isRiddle : Nat := 141
/-- MouthRiddlesModel.said(II)I -/
def cd_M_said : List (Nat × List Instr × Nat) := [(0, [.aload 0, .iload 1, .invokevirtual 141, .ifCond .ne 11], 8),
  (8, [.iconst (-101), .ireturn], 0),
  (11, [.iload 2, .i2l, .ldc2_w 0, .aload 0, .getfield 777, .iload 1, .iaload, .iconst 1, .isub, .i2l, .invokestatic 127, .ifCond .eq 43], 29),
  (29, [.aload 0, .getfield 778, .iconst 6, .iload 1, .imul, .iload 2, .iadd, .iaload, .goto 44], 0),
  (43, [.iconst (-1)], 44),
  (44, [.ireturn], 0)]
abbrev q_M_said : Nat := 142
/-- MouthRiddlesModel.answers(I)I -/
def cd_M_answers : List (Nat × List Instr × Nat) := [(0, [.aload 0, .iload 1, .invokevirtual 141, .ifCond .eq 16], 8),
  (8, [.aload 0, .iload 1, .invokevirtual 144, .goto 18], 0),
  (16, [.iconst (-101)], 18),
  (18, [.ireturn], 0)]
abbrev q_M_answers : Nat := 143
/-- MouthRiddlesModel.answersOf(I)I -/
def cd_M_answersOf : List (Nat × List Instr × Nat) := [(0, [.aload 0, .iload 1, .iconst (-1), .iconst 7, .invokevirtual 145, .ireturn], 0)]
abbrev q_M_answersOf : Nat := 144
/-- MouthRiddlesModel.answersBy(III)I -/
def cd_M_answersBy : List (Nat × List Instr × Nat) := [(0, [.iconst 0, .istore 4, .iconst 0, .istore 5], 6),
  (6, [.iload 5, .aload 0, .getfield 768, .if_icmp .ge 103], 15),
  (15, [.iconst 1, .istore 6, .iconst 0, .istore 7], 21),
  (21, [.iload 7, .aload 0, .getfield 777, .iload 1, .iaload, .if_icmp .ge 79], 32),
  (32, [.iload 6, .ifCond .eq 70], 37),
  (37, [.iload 7, .iload 2, .if_icmp .eq 66], 43),
  (43, [.aload 0, .aload 0, .getfield 778, .iconst 6, .iload 1, .imul, .iload 7, .iadd, .iaload, .iload 5, .iload 3, .invokevirtual 136, .iconst (-1), .if_icmp .eq 70], 66),
  (66, [.iconst 1, .goto 71], 0),
  (70, [.iconst 0], 71),
  (71, [.istore 6, .iinc 7 1, .goto 21], 0),
  (79, [.iload 4, .iload 6, .ifCond .eq 93], 86),
  (86, [.iconst 1, .iload 5, .ishl, .goto 94], 0),
  (93, [.iconst 0], 94),
  (94, [.ior, .istore 4, .iinc 5 1, .goto 6], 0),
  (103, [.iload 4, .ireturn], 0)]
abbrev q_M_answersBy : Nat := 145
/-- MouthRiddlesModel.turns(II)I -/
def cd_M_turns : List (Nat × List Instr × Nat) := [(0, [.aload 0, .iload 1, .invokevirtual 141, .ifCond .eq 25], 8),
  (8, [.aload 0, .iload 2, .invokevirtual 135, .ifCond .eq 25], 16),
  (16, [.aload 0, .iload 1, .iload 2, .invokevirtual 147, .goto 27], 0),
  (25, [.iconst (-101)], 27),
  (27, [.ireturn], 0)]
abbrev q_M_turns : Nat := 146
/-- MouthRiddlesModel.turnsOf(II)I -/
def cd_M_turnsOf : List (Nat × List Instr × Nat) := [(0, [.iconst 0, .istore 3, .iconst 0, .istore 4], 5),
  (5, [.iload 4, .aload 0, .getfield 777, .iload 1, .iaload, .if_icmp .ge 52], 16),
  (16, [.iload 3, .aload 0, .aload 0, .getfield 778, .iconst 6, .iload 1, .imul, .iload 4, .iadd, .iaload, .iload 2, .iconst 7, .invokevirtual 136, .ifCond .le 43], 39),
  (39, [.iconst 1, .goto 44], 0),
  (43, [.iconst 0], 44),
  (44, [.iadd, .istore 3, .iinc 4 1, .goto 5], 0),
  (52, [.aload 0, .iload 1, .invokevirtual 144, .iload 2, .ishr, .iconst 1, .iand, .iconst 1, .if_icmp .ne 69], 65),
  (65, [.iload 3, .goto 70], 0),
  (69, [.iconst (-1)], 70),
  (70, [.ireturn], 0)]
abbrev q_M_turnsOf : Nat := 147
/-- MouthRiddlesModel.judge(III)I -/
def cd_M_judge : List (Nat × List Instr × Nat) := [(0, [.aload 0, .iload 1, .invokevirtual 141, .ifCond .eq 24], 8),
  (8, [.aload 0, .iload 2, .invokevirtual 135, .ifCond .eq 24], 16),
  (16, [.aload 0, .iload 3, .invokevirtual 135, .ifCond .ne 27], 24),
  (24, [.iconst (-101), .ireturn], 0),
  (27, [.aload 0, .iload 1, .iload 2, .invokevirtual 147, .istore 4, .aload 0, .iload 1, .iload 3, .invokevirtual 147, .istore 5, .iload 4, .iconst (-1), .if_icmp .eq 55], 49),
  (49, [.iload 5, .iconst (-1), .if_icmp .ne 77], 55),
  (55, [.iload 4, .iconst (-1), .if_icmp .eq 65], 61),
  (61, [.iload 2, .goto 76], 0),
  (65, [.iload 5, .iconst (-1), .if_icmp .eq 75], 71),
  (71, [.iload 3, .goto 76], 0),
  (75, [.iconst (-1)], 76),
  (76, [.ireturn], 0),
  (77, [.iload 4, .iload 5, .if_icmp .lt 96], 84),
  (84, [.iload 4, .iload 5, .if_icmp .ne 100], 91),
  (91, [.iload 2, .iload 3, .if_icmp .ge 100], 96),
  (96, [.iload 2, .goto 101], 0),
  (100, [.iload 3], 101),
  (101, [.ireturn], 0)]
abbrev q_M_judge : Nat := 148
/-- MouthRiddlesModel.astray(II)I -/
def cd_M_astray : List (Nat × List Instr × Nat) := [(0, [.aload 0, .iload 1, .invokevirtual 141, .ifCond .ne 11], 8),
  (8, [.iconst (-101), .ireturn], 0),
  (11, [.iload 2, .i2l, .ldc2_w 0, .ldc2_w 1, .invokestatic 127, .ifCond .ne 24], 21),
  (21, [.iconst (-102), .ireturn], 0),
  (24, [.iconst (-1), .istore 3, .iconst (-1), .istore 4, .iconst 0, .istore 5], 32),
  (32, [.iload 5, .aload 0, .getfield 777, .iload 1, .iaload, .if_icmp .ge 93], 43),
  (43, [.aload 0, .iload 1, .iload 5, .iconst 7, .invokevirtual 145, .invokestatic 137, .istore 6, .iload 6, .iload 4, .if_icmp .le 69], 64),
  (64, [.iload 5, .goto 70], 0),
  (69, [.iload 3], 70),
  (70, [.istore 3, .iload 6, .iload 4, .if_icmp .le 83], 78),
  (78, [.iload 6, .goto 85], 0),
  (83, [.iload 4], 85),
  (85, [.istore 4, .iinc 5 1, .goto 32], 0),
  (93, [.iload 2, .ifCond .ne 101], 97),
  (97, [.iload 3, .goto 103], 0),
  (101, [.iload 4], 103),
  (103, [.ireturn], 0)]
abbrev q_M_astray : Nat := 149
/-- MouthRiddlesModel.made(II)I -/
def cd_M_made : List (Nat × List Instr × Nat) := [(0, [.aload 0, .iload 1, .invokevirtual 135, .ifCond .ne 11], 8),
  (8, [.iconst (-101), .ireturn], 0),
  (11, [.iload 2, .i2l, .ldc2_w 1, .ldc2_w 6, .invokestatic 127, .ifCond .ne 26], 23),
  (23, [.iconst (-102), .ireturn], 0),
  (26, [.aload 0, .getfield 779, .iconst 20, .if_icmp .ne 38], 35),
  (35, [.iconst (-103), .ireturn], 0),
  (38, [.aload 0, .dup, .getfield 779, .iconst 1, .iadd, .putfield 779, .iconst 0, .istore 3], 50),
  (50, [.iload 3, .aload 0, .getfield 772, .if_icmp .ge 141], 58),
  (58, [.aload 0, .getfield 780, .iload 3, .iconst 0, .iastore, .iconst 0, .istore 4], 68),
  (68, [.iload 4, .aload 0, .getfield 768, .if_icmp .ge 113], 77),
  (77, [.aload 0, .getfield 780, .iload 3, .dup2, .iaload, .aload 0, .iload 3, .iload 4, .iconst 7, .invokevirtual 136, .iconst (-1), .if_icmp .eq 104], 97),
  (97, [.iconst 1, .iload 4, .ishl, .goto 105], 0),
  (104, [.iconst 0], 105),
  (105, [.ior, .iastore, .iinc 4 1, .goto 68], 0),
  (113, [.aload 0, .getfield 781, .iload 3, .aload 0, .iload 3, .iload 1, .iconst 7, .invokevirtual 136, .ifCond .le 133], 129),
  (129, [.iconst 1, .goto 134], 0),
  (133, [.iconst 0], 134),
  (134, [.iastore, .iinc 3 1, .goto 50], 0),
  (141, [.iconst 1, .istore 3], 143),
  (143, [.iload 3, .iload 2, .if_icmp .gt 179], 148),
  (148, [.iload 3, .aload 0, .getfield 772, .if_icmp .gt 179], 156),
  (156, [.aload 0, .iload 1, .iload 3, .invokevirtual 151, .istore 4, .iload 4, .iconst (-1), .if_icmp .eq 173], 170),
  (170, [.iload 4, .ireturn], 0),
  (173, [.iinc 3 1, .goto 143], 0),
  (179, [.iconst (-1), .ireturn], 0)]
abbrev q_M_made : Nat := 150
/-- MouthRiddlesModel.bestOf(II)I -/
def cd_M_bestOf : List (Nat × List Instr × Nat) := [(0, [.iconst (-1), .istore 3, .iconst (-1), .istore 4, .iconst 1, .iload 2, .ishl, .iconst 1, .isub, .istore 5], 12),
  (12, [.iload 5, .iconst 1, .aload 0, .getfield 772, .ishl, .if_icmp .ge 144], 23),
  (23, [.iconst 1, .aload 0, .getfield 768, .ishl, .iconst 1, .isub, .istore 6, .iconst 0, .istore 7, .iconst 0, .istore 8], 39),
  (39, [.iload 8, .aload 0, .getfield 772, .if_icmp .ge 89], 48),
  (48, [.iload 5, .iload 8, .ishr, .iconst 1, .iand, .iconst 1, .if_icmp .ne 83], 59),
  (59, [.iload 6, .aload 0, .getfield 780, .iload 8, .iaload, .iand, .istore 6, .iload 7, .aload 0, .getfield 781, .iload 8, .iaload, .iadd, .istore 7], 83),
  (83, [.iinc 8 1, .goto 39], 0),
  (89, [.iload 6, .iconst 1, .iload 1, .ishl, .if_icmp .ne 111], 97),
  (97, [.iload 7, .iload 4, .if_icmp .le 111], 104),
  (104, [.iload 5, .istore 3, .iload 7, .istore 4], 111),
  (111, [.iload 5, .iload 5, .ineg, .iand, .istore 8, .iload 5, .iload 8, .iadd, .istore 9, .iload 9, .iload 5, .ixor, .iconst 2, .iushr, .iload 8, .idiv, .iload 9, .ior, .istore 5, .goto 12], 0),
  (144, [.iload 3, .ireturn], 0)]
abbrev q_M_bestOf : Nat := 151
/-- MouthRiddlesModel.head(II)I -/
def cd_M_head : List (Nat × List Instr × Nat) := [(0, [.iload 1, .i2l, .ldc2_w 0, .ldc2_w 99, .invokestatic 127, .ifCond .eq 24], 12),
  (12, [.iload 2, .i2l, .ldc2_w 0, .ldc2_w 99, .invokestatic 127, .ifCond .ne 27], 24),
  (24, [.iconst (-102), .ireturn], 0),
  (27, [.aload 0, .getfield 782, .iconst 6, .if_icmp .ne 39], 36),
  (36, [.iconst (-104), .ireturn], 0),
  (39, [.aload 0, .getfield 783, .aload 0, .getfield 782, .iload 1, .iastore, .aload 0, .getfield 784, .aload 0, .getfield 782, .iload 2, .iastore, .aload 0, .dup, .getfield 782, .iconst 1, .iadd, .putfield 782, .aload 0, .getfield 782, .iconst 1, .isub, .ireturn], 0)]
abbrev q_M_head : Nat := 152
/-- MouthRiddlesModel.hears(III)I -/
def cd_M_hears : List (Nat × List Instr × Nat) := [(0, [.aload 0, .iload 1, .invokevirtual 154, .ifCond .eq 16], 8),
  (8, [.aload 0, .iload 2, .invokevirtual 141, .ifCond .ne 19], 16),
  (16, [.iconst (-101), .ireturn], 0),
  (19, [.iload 3, .i2l, .ldc2_w 0, .ldc2_w 1, .invokestatic 127, .ifCond .ne 32], 29),
  (29, [.iconst (-102), .ireturn], 0),
  (32, [.aload 0, .iload 1, .iload 2, .invokevirtual 155, .istore 4, .iload 3, .ifCond .ne 49], 44),
  (44, [.iload 4, .goto 53], 0),
  (49, [.aload 0, .getfield 785], 53),
  (53, [.ireturn], 0)]
abbrev q_M_hears : Nat := 153
/-- MouthRiddlesModel.isHead(I)Z -/
def cd_M_isHead : List (Nat × List Instr × Nat) := [(0, [.iload 1, .i2l, .ldc2_w 0, .aload 0, .getfield 782, .iconst 1, .isub, .i2l, .invokestatic 127, .freturn], 0)]
abbrev q_M_isHead : Nat := 154
/-- MouthRiddlesModel.hearsOf(II)I -/
def cd_M_hearsOf : List (Nat × List Instr × Nat) := [(0, [.aload 0, .iconst (-1), .putfield 785, .iconst 0, .istore 3], 7),
  (7, [.iload 3, .iconst 4, .if_icmp .ge 143], 12),
  (12, [.iload 3, .ifCond .ne 20], 16),
  (16, [.iconst 0, .goto 37], 0),
  (20, [.aload 0, .getfield 783, .iload 1, .iaload, .iload 3, .iconst 1, .isub, .aload 0, .getfield 784, .iload 1, .iaload, .imul, .iadd], 37),
  (37, [.istore 4, .iconst 0, .istore 5, .iconst 0, .istore 6], 45),
  (45, [.iload 6, .iconst 3, .if_icmp .ge 91], 51),
  (51, [.iload 5, .aload 0, .getfield 783, .iload 1, .iaload, .iload 6, .aload 0, .getfield 784, .iload 1, .iaload, .imul, .iadd, .iload 4, .if_icmp .gt 81], 74),
  (74, [.iconst 1, .iload 6, .ishl, .goto 82], 0),
  (81, [.iconst 0], 82),
  (82, [.ior, .istore 5, .iinc 6 1, .goto 45], 0),
  (91, [.aload 0, .iload 2, .iconst (-1), .iload 5, .invokevirtual 145, .istore 6, .iload 6, .invokestatic 137, .iconst 1, .if_icmp .ne 137], 110),
  (110, [.aload 0, .iload 4, .putfield 785, .iconst 0, .istore 7], 119),
  (119, [.iload 6, .iload 7, .ishr, .iconst 1, .if_icmp .eq 134], 128),
  (128, [.iinc 7 1, .goto 119], 0),
  (134, [.iload 7, .ireturn], 0),
  (137, [.iinc 3 1, .goto 7], 0),
  (143, [.iconst (-1), .ireturn], 0)]
abbrev q_M_hearsOf : Nat := 155
/-- MouthRiddlesModel.parts(I)I -/
def cd_M_parts : List (Nat × List Instr × Nat) := [(0, [.iload 1, .i2l, .ldc2_w 0, .ldc2_w 1, .invokestatic 127, .ifCond .ne 13], 10),
  (10, [.iconst (-102), .ireturn], 0),
  (13, [.iconst (-1), .istore 2, .iconst (-1), .istore 3, .iconst 0, .istore 4], 20),
  (20, [.iload 4, .aload 0, .getfield 776, .if_icmp .ge 127], 29),
  (29, [.iconst 0, .istore 5, .iconst 0, .istore 6], 35),
  (35, [.iload 6, .aload 0, .getfield 782, .if_icmp .ge 95], 44),
  (44, [.iconst 0, .istore 7], 47),
  (47, [.iload 7, .iload 6, .if_icmp .ge 89], 54),
  (54, [.iload 5, .aload 0, .iload 6, .iload 4, .invokevirtual 155, .aload 0, .iload 7, .iload 4, .invokevirtual 155, .if_icmp .eq 79], 75),
  (75, [.iconst 1, .goto 80], 0),
  (79, [.iconst 0], 80),
  (80, [.iadd, .istore 5, .iinc 7 1, .goto 47], 0),
  (89, [.iinc 6 1, .goto 35], 0),
  (95, [.iload 5, .iload 3, .if_icmp .le 106], 101),
  (101, [.iload 4, .goto 107], 0),
  (106, [.iload 2], 107),
  (107, [.istore 2, .iload 5, .iload 3, .if_icmp .le 119], 114),
  (114, [.iload 5, .goto 120], 0),
  (119, [.iload 3], 120),
  (120, [.istore 3, .iinc 4 1, .goto 20], 0),
  (127, [.iload 1, .ifCond .ne 135], 131),
  (131, [.iload 2, .goto 136], 0),
  (135, [.iload 3], 136),
  (136, [.ireturn], 0)]
abbrev q_M_parts : Nat := 156
/-- MouthRiddlesModel.blind(II)I -/
def cd_M_blind : List (Nat × List Instr × Nat) := [(0, [.aload 0, .iload 1, .invokevirtual 141, .ifCond .eq 16], 8),
  (8, [.aload 0, .iload 2, .invokevirtual 135, .ifCond .ne 19], 16),
  (16, [.iconst (-101), .ireturn], 0),
  (19, [.iconst 0, .istore 3, .iconst 0, .istore 4], 24),
  (24, [.iload 4, .aload 0, .getfield 782, .if_icmp .ge 58], 33),
  (33, [.iload 3, .aload 0, .iload 4, .iload 1, .invokevirtual 155, .iload 2, .if_icmp .ne 49], 45),
  (45, [.iconst 0, .goto 50], 0),
  (49, [.iconst 1], 50),
  (50, [.iadd, .istore 3, .iinc 4 1, .goto 24], 0),
  (58, [.iload 3, .ireturn], 0)]
abbrev q_M_blind : Nat := 157
/-- MouthRiddlesModel.tongue()I -/
def cd_M_tongue : List (Nat × List Instr × Nat) := [(0, [.aload 0, .getfield 786, .iconst 4, .if_icmp .ne 11], 8),
  (8, [.iconst (-104), .ireturn], 0),
  (11, [.aload 0, .dup, .getfield 786, .iconst 1, .iadd, .putfield 786, .aload 0, .getfield 786, .iconst 1, .isub, .ireturn], 0)]
abbrev q_M_tongue : Nat := 158
/-- MouthRiddlesModel.lack(IIIZ)I -/
def cd_M_lack : List (Nat × List Instr × Nat) := [(0, [.aload 0, .iload 1, .invokevirtual 160, .ifCond .eq 15], 8),
  (8, [.iload 2, .invokestatic 129, .ifCond .ne 18], 15),
  (15, [.iconst (-101), .ireturn], 0),
  (18, [.iload 3, .i2l, .ldc2_w 0, .ldc2_w 2, .invokestatic 127, .ifCond .ne 33], 30),
  (30, [.iconst (-102), .ireturn], 0),
  (33, [.iconst 16, .iload 1, .imul, .iload 2, .iadd, .istore 5, .aload 0, .getfield 787, .iload 5, .iaload, .iload 3, .ishr, .iconst 1, .iand, .istore 6, .aload 0, .getfield 787, .iload 5, .iload 4, .ifCond .eq 79], 65),
  (65, [.aload 0, .getfield 787, .iload 5, .iaload, .iconst 1, .iload 3, .ishl, .ior, .goto 92], 0),
  (79, [.aload 0, .getfield 787, .iload 5, .iaload, .iconst 1, .iload 3, .ishl, .iconst (-1), .ixor, .iand], 92),
  (92, [.iastore, .iload 6, .ireturn], 0)]
abbrev q_M_lack : Nat := 159
/-- MouthRiddlesModel.isTongue(I)Z -/
def cd_M_isTongue : List (Nat × List Instr × Nat) := [(0, [.iload 1, .i2l, .ldc2_w 0, .aload 0, .getfield 786, .iconst 1, .isub, .i2l, .invokestatic 127, .freturn], 0)]
abbrev q_M_isTongue : Nat := 160
/-- MouthRiddlesModel.goes(IIII)I -/
def cd_M_goes : List (Nat × List Instr × Nat) := [(0, [.aload 0, .iload 1, .invokevirtual 141, .ifCond .eq 24], 8),
  (8, [.aload 0, .iload 2, .invokevirtual 135, .ifCond .eq 24], 16),
  (16, [.aload 0, .iload 3, .invokevirtual 160, .ifCond .ne 27], 24),
  (24, [.iconst (-101), .ireturn], 0),
  (27, [.iload 4, .i2l, .ldc2_w 0, .ldc2_w 1, .invokestatic 127, .ifCond .ne 41], 38),
  (38, [.iconst (-102), .ireturn], 0),
  (41, [.iload 4, .iconst 1, .if_icmp .ne 57], 47),
  (47, [.aload 0, .iload 1, .iload 2, .iload 3, .invokevirtual 162, .goto 72], 0),
  (57, [.aload 0, .iload 1, .iload 2, .iload 3, .invokevirtual 164, .ifCond .eq 71], 67),
  (67, [.iconst 1, .goto 72], 0),
  (71, [.iconst 0], 72),
  (72, [.ireturn], 0)]
abbrev q_M_goes : Nat := 161
/-- MouthRiddlesModel.lacksOf(III)I -/
def cd_M_lacksOf : List (Nat × List Instr × Nat) := [(0, [.iconst 0, .istore 4, .iconst 0, .istore 5], 6),
  (6, [.iload 5, .aload 0, .getfield 777, .iload 1, .iaload, .if_icmp .ge 55], 17),
  (17, [.iload 4, .aload 0, .iload 3, .aload 0, .getfield 778, .iconst 6, .iload 1, .imul, .iload 5, .iadd, .iaload, .iload 2, .invokevirtual 163, .iconst (-1), .if_icmp .ne 45], 41),
  (41, [.iconst 1, .goto 46], 0),
  (45, [.iconst 0], 46),
  (46, [.iadd, .istore 4, .iinc 5 1, .goto 6], 0),
  (55, [.iload 4, .ireturn], 0)]
abbrev q_M_lacksOf : Nat := 162
/-- MouthRiddlesModel.byIn(III)I -/
def cd_M_byIn : List (Nat × List Instr × Nat) := [(0, [.aload 0, .iload 2, .iload 3, .iconst 7, .aload 0, .getfield 787, .iconst 16, .iload 1, .imul, .aload 0, .getfield 774, .iload 2, .iaload, .iadd, .iaload, .iconst (-1), .ixor, .iand, .invokevirtual 136, .ireturn], 0)]
abbrev q_M_byIn : Nat := 163
/-- MouthRiddlesModel.goesOf(III)Z -/
def cd_M_goesOf : List (Nat × List Instr × Nat) := [(0, [.iconst 1, .istore 4, .iconst 0, .istore 5], 6),
  (6, [.iload 5, .aload 0, .getfield 768, .if_icmp .ge 63], 15),
  (15, [.iload 4, .ifCond .eq 54], 20),
  (20, [.iload 5, .iload 2, .if_icmp .ne 30], 26),
  (26, [.iconst 1, .goto 31], 0),
  (30, [.iconst 0], 31),
  (31, [.aload 0, .iload 1, .iload 5, .iload 3, .invokevirtual 162, .ifCond .ne 46], 42),
  (42, [.iconst 1, .goto 47], 0),
  (46, [.iconst 0], 47),
  (47, [.if_icmp .ne 54], 50),
  (50, [.iconst 1, .goto 55], 0),
  (54, [.iconst 0], 55),
  (55, [.istore 4, .iinc 5 1, .goto 6], 0),
  (63, [.iload 4, .freturn], 0)]
abbrev q_M_goesOf : Nat := 164
/-- MouthRiddlesModel.nearest(II)I -/
def cd_M_nearest : List (Nat × List Instr × Nat) := [(0, [.aload 0, .iload 1, .invokevirtual 141, .ifCond .eq 16], 8),
  (8, [.aload 0, .iload 2, .invokevirtual 135, .ifCond .ne 19], 16),
  (16, [.iconst (-101), .ireturn], 0),
  (19, [.iconst (-1), .istore 3, .iconst 1000, .istore 4, .iconst 0, .istore 5], 29),
  (29, [.iload 5, .aload 0, .getfield 786, .if_icmp .ge 84], 38),
  (38, [.aload 0, .iload 1, .iload 2, .iload 5, .invokevirtual 162, .istore 6, .iload 6, .iload 4, .if_icmp .ge 60], 55),
  (55, [.iload 5, .goto 61], 0),
  (60, [.iload 3], 61),
  (61, [.istore 3, .iload 6, .iload 4, .if_icmp .ge 74], 69),
  (69, [.iload 6, .goto 76], 0),
  (74, [.iload 4], 76),
  (76, [.istore 4, .iinc 5 1, .goto 29], 0),
  (84, [.iload 3, .ireturn], 0)]
abbrev q_M_nearest : Nat := 165
/-- MouthRiddlesModel.letters(J)I -/
def cd_M_letters : List (Nat × List Instr × Nat) := [(0, [.iconst 0, .istore 3, .iconst 1, .istore 4, .lload 1, .lstore 5, .iconst 0, .istore 7], 11),
  (11, [.iload 7, .iconst 8, .if_icmp .ge 83], 18),
  (18, [.lload 5, .ldc2_w 255, .land, .l2i, .istore 8, .lload 5, .iconst 8, .lushr, .lstore 5, .iload 4, .ifCond .eq 61], 39),
  (39, [.iload 8, .iconst 126, .if_icmp .gt 61], 46),
  (46, [.iload 8, .ifCond .eq 57], 51),
  (51, [.iload 3, .iload 7, .if_icmp .ne 61], 57),
  (57, [.iconst 1, .goto 62], 0),
  (61, [.iconst 0], 62),
  (62, [.istore 4, .iload 3, .iload 8, .ifCond .le 74], 70),
  (70, [.iconst 1, .goto 75], 0),
  (74, [.iconst 0], 75),
  (75, [.iadd, .istore 3, .iinc 7 1, .goto 11], 0),
  (83, [.iload 4, .ifCond .ne 91], 88),
  (88, [.iconst (-102), .ireturn], 0),
  (91, [.aload 0, .getfield 789, .iload 3, .iadd, .iconst 40, .if_icmp .le 105], 102),
  (102, [.iconst (-104), .ireturn], 0),
  (105, [.iconst 0, .istore 7], 108),
  (108, [.iload 7, .iload 3, .if_icmp .ge 151], 114),
  (114, [.aload 0, .getfield 788, .aload 0, .getfield 789, .lload 1, .iconst 8, .iload 7, .imul, .lushr, .ldc2_w 255, .land, .l2i, .iastore, .aload 0, .dup, .getfield 789, .iconst 1, .iadd, .putfield 789, .iinc 7 1, .goto 108], 0),
  (151, [.aload 0, .getfield 789, .ireturn], 0)]
abbrev q_M_letters : Nat := 166
/-- MouthRiddlesModel.blank()I -/
def cd_M_blank : List (Nat × List Instr × Nat) := [(0, [.aload 0, .getfield 789, .istore 1, .aload 0, .iconst 0, .putfield 789, .iload 1, .ireturn], 0)]
abbrev q_M_blank : Nat := 167
/-- MouthRiddlesModel.fault()I -/
def cd_M_fault : List (Nat × List Instr × Nat) := [(0, [.aload 0, .invokevirtual 169, .ireturn], 0)]
abbrev q_M_fault : Nat := 168
/-- MouthRiddlesModel.faultOf()I -/
def cd_M_faultOf : List (Nat × List Instr × Nat) := [(0, [.aload 0, .iconst 1, .putfield 4890, .aload 0, .iconst (-1), .putfield 795, .aload 0, .iconst 0, .putfield 796, .aload 0, .iconst 0, .putfield 797, .iconst 0, .istore 1], 22),
  (22, [.iload 1, .aload 0, .getfield 789, .if_icmp .ge 49], 30),
  (30, [.aload 0, .aload 0, .getfield 788, .iload 1, .iaload, .invokevirtual 170, .ifCond .eq 49], 43),
  (43, [.iinc 1 1, .goto 22], 0),
  (49, [.iload 1, .ireturn], 0)]
abbrev q_M_faultOf : Nat := 169
/-- MouthRiddlesModel.go(I)Z -/
def cd_M_go : List (Nat × List Instr × Nat) := [(0, [.aload 0, .getfield 794, .ifCond .eq 30], 7),
  (7, [.iload 1, .iconst 40, .if_icmp .ne 30], 13),
  (13, [.aload 0, .iconst (-1), .invokevirtual 171, .aload 0, .aload 0, .getfield 797, .iconst 1, .isub, .putfield 795, .iconst 1, .freturn], 0),
  (30, [.aload 0, .getfield 794, .ifCond .eq 110], 37),
  (37, [.iload 1, .i2l, .ldc2_w 97, .ldc2_w 104, .invokestatic 127, .ifCond .eq 69], 51),
  (51, [.aload 0, .getfield 796, .iload 1, .iconst 97, .isub, .ishr, .iconst 1, .iand, .ifCond .ne 69], 65),
  (65, [.iconst 1, .goto 70], 0),
  (69, [.iconst 0], 70),
  (70, [.istore 2, .iload 2, .ifCond .eq 108], 75),
  (75, [.aload 0, .dup, .getfield 796, .iconst 1, .iload 1, .iconst 97, .isub, .ishl, .ior, .putfield 796, .aload 0, .iload 1, .iconst 97, .isub, .invokevirtual 171, .aload 0, .aload 0, .getfield 797, .iconst 1, .isub, .invokevirtual 172], 108),
  (108, [.iload 2, .freturn], 0),
  (110, [.aload 0, .getfield 795, .iconst (-1), .if_icmp .ne 120], 118),
  (118, [.iconst 0, .freturn], 0),
  (120, [.iload 1, .iconst 41, .if_icmp .ne 149], 126),
  (126, [.aload 0, .getfield 800, .aload 0, .getfield 795, .iaload, .iconst 1, .if_icmp .le 149], 139),
  (139, [.aload 0, .aload 0, .getfield 795, .invokevirtual 172, .iconst 1, .freturn], 0),
  (149, [.aload 0, .iconst 1, .putfield 4890, .iload 1, .iconst 44, .if_icmp .ne 177], 160),
  (160, [.aload 0, .getfield 800, .aload 0, .getfield 795, .iaload, .iconst 4, .if_icmp .ge 177], 173),
  (173, [.iconst 1, .goto 178], 0),
  (177, [.iconst 0], 178),
  (178, [.freturn], 0)]
abbrev q_M_go : Nat := 170
/-- MouthRiddlesModel.addNode(I)V -/
def cd_M_addNode : List (Nat × List Instr × Nat) := [(0, [.aload 0, .getfield 798, .aload 0, .getfield 797, .aload 0, .getfield 795, .iastore, .aload 0, .getfield 799, .aload 0, .getfield 797, .iload 1, .iastore, .aload 0, .getfield 800, .aload 0, .getfield 797, .iconst 0, .iastore, .aload 0, .dup, .getfield 797, .iconst 1, .iadd, .putfield 797, .return_], 0)]
abbrev q_M_addNode : Nat := 171
/-- MouthRiddlesModel.endNode(I)V -/
def cd_M_endNode : List (Nat × List Instr × Nat) := [(0, [.aload 0, .iconst 0, .putfield 4890, .aload 0, .aload 0, .getfield 798, .iload 1, .iaload, .putfield 795, .aload 0, .getfield 795, .iconst (-1), .if_icmp .eq 36], 23),
  (23, [.aload 0, .getfield 800, .aload 0, .getfield 795, .dup2, .iaload, .iconst 1, .iadd, .iastore], 36),
  (36, [.return_], 0)]
abbrev q_M_endNode : Nat := 172
/-- MouthRiddlesModel.tree()I -/
def cd_M_tree : List (Nat × List Instr × Nat) := [(0, [.aload 0, .invokevirtual 169, .aload 0, .getfield 789, .if_icmp .lt 26], 11),
  (11, [.aload 0, .getfield 794, .ifCond .ne 26], 18),
  (18, [.aload 0, .getfield 795, .iconst (-1), .if_icmp .eq 29], 26),
  (26, [.iconst (-103), .ireturn], 0),
  (29, [.aload 0, .aload 0, .getfield 797, .putfield 790, .iconst 0, .istore 1], 39),
  (39, [.iload 1, .aload 0, .getfield 790, .if_icmp .ge 77], 47),
  (47, [.aload 0, .getfield 791, .iload 1, .aload 0, .getfield 798, .iload 1, .iaload, .iastore, .aload 0, .getfield 792, .iload 1, .aload 0, .getfield 799, .iload 1, .iaload, .iastore, .iinc 1 1, .goto 39], 0),
  (77, [.aload 0, .iconst 0, .putfield 789, .aload 0, .getfield 790, .ireturn], 0)]
abbrev q_M_tree : Nat := 173
/-- MouthRiddlesModel.variant(II)I -/
def cd_M_variant : List (Nat × List Instr × Nat) := [(0, [.iload 1, .i2l, .ldc2_w 0, .ldc2_w 7, .invokestatic 127, .ifCond .ne 15], 12),
  (12, [.iconst (-101), .ireturn], 0),
  (15, [.iload 2, .i2l, .ldc2_w 18446744073709551615, .ldc2_w 7, .invokestatic 127, .ifCond .ne 32], 29),
  (29, [.iconst (-102), .ireturn], 0),
  (32, [.aload 0, .getfield 793, .iload 1, .iaload, .istore 3, .aload 0, .getfield 793, .iload 1, .iload 2, .iastore, .iload 3, .ireturn], 0)]
abbrev q_M_variant : Nat := 174
/-- MouthRiddlesModel.changes(I)I -/
def cd_M_changes : List (Nat × List Instr × Nat) := [(0, [.iload 1, .ifCond .eq 21], 4),
  (4, [.iload 1, .i2l, .ldc2_w 10, .ldc2_w 39, .invokestatic 127, .ifCond .ne 21], 18),
  (18, [.iconst (-102), .ireturn], 0),
  (21, [.aload 0, .getfield 790, .ifCond .ne 31], 28),
  (28, [.iconst (-103), .ireturn], 0),
  (31, [.iload 1, .ifCond .ne 40], 35),
  (35, [.aload 0, .invokevirtual 176, .ireturn], 0),
  (40, [.iload 1, .iconst 10, .isub, .aload 0, .getfield 790, .if_icmp .ge 62], 51),
  (51, [.aload 0, .iload 1, .iconst 10, .isub, .invokevirtual 178, .goto 63], 0),
  (62, [.iconst (-1)], 63),
  (63, [.ireturn], 0)]
abbrev q_M_changes : Nat := 175
/-- MouthRiddlesModel.leastChanges()I -/
def cd_M_leastChanges : List (Nat × List Instr × Nat) := [(0, [.aload 0, .getfield 790, .iconst 1, .isub, .istore 1], 7),
  (7, [.iload 1, .ifCond .lt 139], 11),
  (11, [.aload 0, .getfield 792, .iload 1, .iaload, .iconst (-1), .if_icmp .ne 25], 21),
  (21, [.iconst (-1), .goto 36], 0),
  (25, [.aload 0, .getfield 793, .aload 0, .getfield 792, .iload 1, .iaload, .iaload], 36),
  (36, [.istore 2, .iconst 0, .istore 3], 39),
  (39, [.iload 3, .iconst 8, .if_icmp .ge 133], 45),
  (45, [.iload 2, .iconst (-1), .if_icmp .eq 55], 50),
  (50, [.iload 2, .iload 3, .if_icmp .ne 59], 55),
  (55, [.iconst 0, .goto 62], 0),
  (59, [.iconst 1000], 62),
  (62, [.istore 4, .iload 1, .iconst 1, .iadd, .istore 5], 69),
  (69, [.iload 5, .aload 0, .getfield 790, .if_icmp .ge 114], 78),
  (78, [.iload 4, .aload 0, .getfield 791, .iload 5, .iaload, .iload 1, .if_icmp .ne 104], 91),
  (91, [.aload 0, .getfield 801, .iload 5, .iload 3, .invokestatic 177, .goto 105], 0),
  (104, [.iconst 0], 105),
  (105, [.iadd, .istore 4, .iinc 5 1, .goto 69], 0),
  (114, [.aload 0, .getfield 801, .iconst 8, .iload 1, .imul, .iload 3, .iadd, .iload 4, .iastore, .iinc 3 1, .goto 39], 0),
  (133, [.iinc 1 (-1), .goto 7], 0),
  (139, [.iconst 1000, .istore 1, .iconst 0, .istore 2], 145),
  (145, [.iload 2, .iconst 8, .if_icmp .ge 178], 151),
  (151, [.aload 0, .getfield 801, .iload 2, .iaload, .iload 1, .if_icmp .ge 170], 161),
  (161, [.aload 0, .getfield 801, .iload 2, .iaload, .goto 171], 0),
  (170, [.iload 1], 171),
  (171, [.istore 1, .iinc 2 1, .goto 145], 0),
  (178, [.iload 1, .ireturn], 0)]
abbrev q_M_leastChanges : Nat := 176
/-- MouthRiddlesModel.leastOf([III)I -/
def cd_M_leastOf : List (Nat × List Instr × Nat) := [(0, [.aload 0, .iconst 8, .iload 1, .imul, .iload 2, .iadd, .iaload, .istore 3, .iconst 0, .istore 4], 12),
  (12, [.iload 4, .iconst 8, .if_icmp .ge 56], 19),
  (19, [.aload 0, .iconst 8, .iload 1, .imul, .iload 4, .iadd, .iaload, .iconst 1, .iadd, .iload 3, .if_icmp .ge 48], 34),
  (34, [.aload 0, .iconst 8, .iload 1, .imul, .iload 4, .iadd, .iaload, .iconst 1, .iadd, .goto 49], 0),
  (48, [.iload 3], 49),
  (49, [.istore 3, .iinc 4 1, .goto 12], 0),
  (56, [.iload 3, .ireturn], 0)]
abbrev q_M_leastOf : Nat := 177
/-- MouthRiddlesModel.sureOf(I)I -/
def cd_M_sureOf : List (Nat × List Instr × Nat) := [(0, [.aload 0, .invokevirtual 176, .istore 2, .iconst 0, .istore 3], 7),
  (7, [.iload 3, .iconst 8, .if_icmp .ge 26], 13),
  (13, [.aload 0, .getfield 802, .iload 3, .iconst 0, .iastore, .iinc 3 1, .goto 7], 0),
  (26, [.iconst 1, .istore 3], 28),
  (28, [.iload 3, .aload 0, .getfield 790, .if_icmp .ge 196], 36),
  (36, [.iconst 0, .istore 4], 39),
  (39, [.iload 4, .iconst 8, .if_icmp .ge 105], 46),
  (46, [.aload 0, .getfield 803, .iload 4, .aload 0, .getfield 802, .iconst 8, .aload 0, .getfield 791, .iload 3, .iaload, .imul, .iload 4, .iadd, .iaload, .aload 0, .getfield 801, .iconst 8, .aload 0, .getfield 791, .iload 3, .iaload, .imul, .iload 4, .iadd, .iaload, .iadd, .aload 0, .getfield 801, .iload 3, .iload 4, .invokestatic 177, .isub, .iastore, .iinc 4 1, .goto 39], 0),
  (105, [.iconst 0, .istore 4], 108),
  (108, [.iload 4, .iconst 8, .if_icmp .ge 190], 115),
  (115, [.aload 0, .getfield 803, .iload 4, .iaload, .istore 5, .iconst 0, .istore 6], 127),
  (127, [.iload 6, .iconst 8, .if_icmp .ge 170], 134),
  (134, [.aload 0, .getfield 803, .iload 6, .iaload, .iconst 1, .iadd, .iload 5, .if_icmp .ge 160], 148),
  (148, [.aload 0, .getfield 803, .iload 6, .iaload, .iconst 1, .iadd, .goto 162], 0),
  (160, [.iload 5], 162),
  (162, [.istore 5, .iinc 6 1, .goto 127], 0),
  (170, [.aload 0, .getfield 802, .iconst 8, .iload 3, .imul, .iload 4, .iadd, .iload 5, .iastore, .iinc 4 1, .goto 108], 0),
  (190, [.iinc 3 1, .goto 28], 0),
  (196, [.iconst (-1), .istore 3, .iconst 0, .istore 4, .iconst 0, .istore 5], 204),
  (204, [.iload 5, .iconst 8, .if_icmp .ge 280], 211),
  (211, [.aload 0, .getfield 801, .iconst 8, .iload 1, .imul, .iload 5, .iadd, .iaload, .aload 0, .getfield 802, .iconst 8, .iload 1, .imul, .iload 5, .iadd, .iaload, .iadd, .iload 2, .if_icmp .ne 244], 240),
  (240, [.iconst 1, .goto 245], 0),
  (244, [.iconst 0], 245),
  (245, [.istore 6, .iload 6, .ifCond .eq 257], 252),
  (252, [.iload 5, .goto 258], 0),
  (257, [.iload 3], 258),
  (258, [.istore 3, .iload 4, .iload 6, .ifCond .eq 270], 266),
  (266, [.iconst 1, .goto 271], 0),
  (270, [.iconst 0], 271),
  (271, [.iadd, .istore 4, .iinc 5 1, .goto 204], 0),
  (280, [.iload 4, .iconst 1, .if_icmp .ne 290], 286),
  (286, [.iload 3, .goto 291], 0),
  (290, [.iconst (-1)], 291),
  (291, [.ireturn], 0)]
abbrev q_M_sureOf : Nat := 178
/-- MouthRiddlesModel.chance(I)I -/
def cd_M_chance : List (Nat × List Instr × Nat) := [(0, [.iload 1, .i2l, .ldc2_w 0, .ldc2_w 1, .invokestatic 127, .ifCond .ne 13], 10),
  (10, [.iconst (-102), .ireturn], 0),
  (13, [.aload 0, .getfield 790, .ifCond .eq 29], 20),
  (20, [.aload 0, .getfield 804, .iconst 12, .if_icmp .ne 32], 29),
  (29, [.iconst (-103), .ireturn], 0),
  (32, [.aload 0, .dup, .getfield 804, .iconst 1, .iadd, .putfield 804, .iconst 0, .istore 2, .iconst 1, .istore 3, .iconst 0, .istore 4], 49),
  (49, [.iload 4, .aload 0, .getfield 790, .if_icmp .ge 129], 58),
  (58, [.aload 0, .getfield 792, .iload 4, .iaload, .iconst (-1), .if_icmp .eq 123], 69),
  (69, [.aload 0, .getfield 793, .aload 0, .getfield 792, .iload 4, .iaload, .iaload, .iconst (-1), .if_icmp .eq 123], 85),
  (85, [.aload 0, .getfield 806, .iload 2, .aload 0, .getfield 792, .iload 4, .iaload, .iastore, .aload 0, .getfield 805, .iload 2, .aload 0, .getfield 793, .aload 0, .getfield 792, .iload 4, .iaload, .iaload, .iastore, .iinc 2 1, .iload 3, .iload 2, .imul, .istore 3], 123),
  (123, [.iinc 4 1, .goto 49], 0),
  (129, [.aload 0, .invokevirtual 176, .istore 4, .iconst 0, .istore 5, .iconst 0, .istore 6], 141),
  (141, [.iload 6, .iload 3, .if_icmp .ge 179], 147),
  (147, [.aload 0, .iload 2, .iload 6, .invokevirtual 180, .iload 5, .aload 0, .invokevirtual 176, .iload 4, .if_icmp .gt 169], 165),
  (165, [.iconst 1, .goto 170], 0),
  (169, [.iconst 0], 170),
  (170, [.iadd, .istore 5, .iinc 6 1, .goto 141], 0),
  (179, [.iconst 0, .istore 6], 182),
  (182, [.iload 6, .iload 2, .if_icmp .ge 213], 188),
  (188, [.aload 0, .getfield 793, .aload 0, .getfield 806, .iload 6, .iaload, .aload 0, .getfield 805, .iload 6, .iaload, .iastore, .iinc 6 1, .goto 182], 0),
  (213, [.iload 1, .ifCond .ne 222], 217),
  (217, [.iload 5, .goto 223], 0),
  (222, [.iload 3], 223),
  (223, [.iload 5, .iload 3, .invokestatic 181, .idiv, .ireturn], 0)]
abbrev q_M_chance : Nat := 179
/-- MouthRiddlesModel.deal(II)V -/
def cd_M_deal : List (Nat × List Instr × Nat) := [(0, [.iload 2, .istore 3, .iconst 1, .iload 1, .ishl, .iconst 1, .isub, .istore 4, .iconst 0, .istore 5], 12),
  (12, [.iload 5, .iload 1, .if_icmp .ge 103], 18),
  (18, [.iload 3, .iload 1, .iload 5, .isub, .irem, .istore 6, .iload 3, .iload 1, .iload 5, .isub, .idiv, .istore 3, .iconst 0, .istore 7], 36),
  (36, [.iload 4, .iload 7, .ishr, .iconst 1, .iand, .ifCond .eq 51], 46),
  (46, [.iload 6, .ifCond .le 69], 51),
  (51, [.iload 6, .iload 4, .iload 7, .ishr, .iconst 1, .iand, .isub, .istore 6, .iinc 7 1, .goto 36], 0),
  (69, [.iload 4, .iconst 1, .iload 7, .ishl, .isub, .istore 4, .aload 0, .getfield 793, .aload 0, .getfield 806, .iload 5, .iaload, .aload 0, .getfield 805, .iload 7, .iaload, .iastore, .iinc 5 1, .goto 12], 0),
  (103, [.return_], 0)]
abbrev q_M_deal : Nat := 180
/-- MouthRiddlesModel.common(II)I -/
def cd_M_common : List (Nat × List Instr × Nat) := [(0, [.iload 0, .istore 2, .iload 1, .istore 3], 4),
  (4, [.iload 2, .ifCond .eq 21], 8),
  (8, [.iload 3, .iload 2, .irem, .istore 4, .iload 2, .istore 3, .iload 4, .istore 2, .goto 4], 0),
  (21, [.iload 3, .ireturn], 0)]
abbrev q_M_common : Nat := 181
/-- MouthRiddlesModel.stake(III)I -/
def cd_M_stake : List (Nat × List Instr × Nat) := [(0, [.aload 0, .iload 1, .invokevirtual 154, .ifCond .eq 16], 8),
  (8, [.aload 0, .iload 2, .invokevirtual 141, .ifCond .ne 19], 16),
  (16, [.iconst (-101), .ireturn], 0),
  (19, [.iload 3, .i2l, .ldc2_w 0, .ldc2_w 999, .invokestatic 127, .ifCond .ne 34], 31),
  (31, [.iconst (-102), .ireturn], 0),
  (34, [.aload 0, .getfield 807, .iconst 10, .iload 1, .imul, .iload 2, .iadd, .iaload, .istore 4, .aload 0, .getfield 807, .iconst 10, .iload 1, .imul, .iload 2, .iadd, .iload 3, .iastore, .iload 4, .ireturn], 0)]
abbrev q_M_stake : Nat := 182
/-- MouthRiddlesModel.whom(I)I -/
def cd_M_whom : List (Nat × List Instr × Nat) := [(0, [.iload 1, .iconst (-1), .if_icmp .eq 16], 5),
  (5, [.aload 0, .iload 1, .invokevirtual 154, .ifCond .ne 16], 13),
  (13, [.iconst (-101), .ireturn], 0),
  (16, [.aload 0, .invokevirtual 184, .iload 1, .iconst (-1), .if_icmp .ne 34], 25),
  (25, [.aload 0, .getfield 808, .iconst 0, .iaload, .goto 39], 0),
  (34, [.aload 0, .iload 1, .invokevirtual 185], 39),
  (39, [.ireturn], 0)]
abbrev q_M_whom : Nat := 183
/-- MouthRiddlesModel.layBrings()V -/
def cd_M_layBrings : List (Nat × List Instr × Nat) := [(0, [.iconst 0, .istore 1], 2),
  (2, [.iload 1, .iconst 1024, .if_icmp .ge 31], 9),
  (9, [.aload 0, .getfield 808, .iconst 1024, .aload 0, .getfield 782, .imul, .iload 1, .iadd, .iconst 0, .iastore, .iinc 1 1, .goto 2], 0),
  (31, [.aload 0, .getfield 782, .iconst 1, .isub, .istore 1], 38),
  (38, [.iload 1, .ifCond .lt 170], 42),
  (42, [.iconst 0, .istore 2], 44),
  (44, [.iload 2, .iconst 1024, .if_icmp .ge 164], 51),
  (51, [.aload 0, .getfield 808, .iconst 1024, .iload 1, .iconst 1, .iadd, .imul, .iload 2, .iadd, .iaload, .istore 3, .iconst 0, .istore 4], 69),
  (69, [.iload 4, .aload 0, .getfield 776, .if_icmp .ge 145], 78),
  (78, [.iload 2, .iload 4, .ishr, .iconst 1, .iand, .iconst 1, .if_icmp .ne 92], 88),
  (88, [.iconst 0, .goto 124], 0),
  (92, [.aload 0, .getfield 807, .iconst 10, .iload 1, .imul, .iload 4, .iadd, .iaload, .aload 0, .getfield 808, .iconst 1024, .iload 1, .iconst 1, .iadd, .imul, .iload 2, .iconst 1, .iload 4, .ishl, .ior, .iadd, .iaload, .iadd], 124),
  (124, [.istore 5, .iload 5, .iload 3, .if_icmp .le 137], 132),
  (132, [.iload 5, .goto 138], 0),
  (137, [.iload 3], 138),
  (138, [.istore 3, .iinc 4 1, .goto 69], 0),
  (145, [.aload 0, .getfield 808, .iconst 1024, .iload 1, .imul, .iload 2, .iadd, .iload 3, .iastore, .iinc 2 1, .goto 44], 0),
  (164, [.iinc 1 (-1), .goto 38], 0),
  (170, [.return_], 0)]
abbrev q_M_layBrings : Nat := 184
/-- MouthRiddlesModel.chosen(I)I -/
def cd_M_chosen : List (Nat × List Instr × Nat) := [(0, [.iconst 0, .istore 2, .iconst (-1), .istore 3, .iconst 0, .istore 4], 7),
  (7, [.iload 4, .iload 1, .if_icmp .gt 133], 13),
  (13, [.iconst (-1), .istore 3, .aload 0, .getfield 776, .iconst 1, .isub, .istore 5], 23),
  (23, [.iload 5, .ifCond .lt 112], 28),
  (28, [.iload 2, .iload 5, .ishr, .iconst 1, .iand, .ifCond .ne 91], 37),
  (37, [.aload 0, .getfield 807, .iconst 10, .iload 4, .imul, .iload 5, .iadd, .iaload, .aload 0, .getfield 808, .iconst 1024, .iload 4, .iconst 1, .iadd, .imul, .iload 2, .iconst 1, .iload 5, .ishl, .ior, .iadd, .iaload, .iadd, .aload 0, .getfield 808, .iconst 1024, .iload 4, .imul, .iload 2, .iadd, .iaload, .if_icmp .ne 91], 87),
  (87, [.iconst 1, .goto 92], 0),
  (91, [.iconst 0], 92),
  (92, [.istore 6, .iload 6, .ifCond .eq 104], 99),
  (99, [.iload 5, .goto 105], 0),
  (104, [.iload 3], 105),
  (105, [.istore 3, .iinc 5 (-1), .goto 23], 0),
  (112, [.iload 2, .iload 3, .iconst (-1), .if_icmp .ne 122], 118),
  (118, [.iconst 0, .goto 125], 0),
  (122, [.iconst 1, .iload 3, .ishl], 125),
  (125, [.ior, .istore 2, .iinc 4 1, .goto 7], 0),
  (133, [.iload 3, .ireturn], 0)]
abbrev q_M_chosen : Nat := 185
/-- MouthRiddlesModel.count(I)I -/
def cd_M_count : List (Nat × List Instr × Nat) := [(0, [.aload 0, .iload 1, .invokevirtual 187, .ireturn], 0)]
abbrev q_M_count : Nat := 186
/-- MouthRiddlesModel.countOf(I)I -/
def cd_M_countOf : List (Nat × List Instr × Nat) := [(0, [.iconst 0, .istore 2, .iload 1, .tableswitch 126 0 9 #[56, 61, 86, 91, 96, 101, 106, 111, 116, 121]], 0),
  (56, [.aload 0, .getfield 768, .ireturn], 0),
  (61, [.iconst 0, .istore 3], 63),
  (63, [.iload 3, .iconst 16, .if_icmp .ge 84], 69),
  (69, [.iload 2, .aload 0, .getfield 770, .iload 3, .iaload, .iadd, .istore 2, .iinc 3 1, .goto 63], 0),
  (84, [.iload 2, .ireturn], 0),
  (86, [.aload 0, .getfield 772, .ireturn], 0),
  (91, [.aload 0, .getfield 776, .ireturn], 0),
  (96, [.aload 0, .getfield 782, .ireturn], 0),
  (101, [.aload 0, .getfield 786, .ireturn], 0),
  (106, [.aload 0, .getfield 790, .ireturn], 0),
  (111, [.aload 0, .getfield 789, .ireturn], 0),
  (116, [.aload 0, .getfield 779, .ireturn], 0),
  (121, [.aload 0, .getfield 804, .ireturn], 0),
  (126, [.iconst (-102), .ireturn], 0)]
abbrev q_M_countOf : Nat := 187
/-- MouthRiddlesModel.digest()J -/
def cd_M_digest : List (Nat × List Instr × Nat) := [(0, [.aload 0, .ldc2_w 349, .putfield 13097, .aload 0, .invokevirtual 189, .iconst 0, .istore 1], 13),
  (13, [.iload 1, .aload 0, .getfield 786, .if_icmp .ge 81], 21),
  (21, [.aload 0, .getfield 768, .ifCond .le 81], 28),
  (28, [.iconst 0, .istore 2], 30),
  (30, [.iload 2, .aload 0, .getfield 776, .if_icmp .ge 75], 38),
  (38, [.aload 0, .aload 0, .iload 2, .iconst 0, .iload 1, .invokevirtual 164, .ifCond .eq 53], 49),
  (49, [.ldc2_w 1, .goto 54], 0),
  (53, [.ldc2_w 0], 54),
  (54, [.invokevirtual 190, .aload 0, .aload 0, .iload 2, .iconst 0, .iload 1, .invokevirtual 162, .i2l, .invokevirtual 190, .iinc 2 1, .goto 30], 0),
  (75, [.iinc 1 1, .goto 13], 0),
  (81, [.iconst 0, .istore 1], 83),
  (83, [.iload 1, .iconst 8, .if_icmp .ge 106], 89),
  (89, [.aload 0, .aload 0, .getfield 793, .iload 1, .iaload, .i2l, .invokevirtual 190, .iinc 1 1, .goto 83], 0),
  (106, [.aload 0, .getfield 790, .ifCond .le 148], 113),
  (113, [.aload 0, .aload 0, .invokevirtual 176, .i2l, .invokevirtual 190, .iconst 0, .istore 1], 124),
  (124, [.iload 1, .aload 0, .getfield 790, .if_icmp .ge 148], 132),
  (132, [.aload 0, .aload 0, .iload 1, .invokevirtual 178, .i2l, .invokevirtual 190, .iinc 1 1, .goto 124], 0),
  (148, [.iconst 0, .istore 1], 150),
  (150, [.iload 1, .aload 0, .getfield 789, .if_icmp .ge 175], 158),
  (158, [.aload 0, .aload 0, .getfield 788, .iload 1, .iaload, .i2l, .invokevirtual 190, .iinc 1 1, .goto 150], 0),
  (175, [.iconst 0, .istore 1], 177),
  (177, [.iload 1, .iconst 10, .if_icmp .ge 199], 183),
  (183, [.aload 0, .aload 0, .iload 1, .invokevirtual 187, .i2l, .invokevirtual 190, .iinc 1 1, .goto 177], 0),
  (199, [.aload 0, .getfield 809, .lreturn], 0)]
abbrev q_M_digest : Nat := 188
/-- MouthRiddlesModel.tellSaid()V -/
def cd_M_tellSaid : List (Nat × List Instr × Nat) := [(0, [.iconst 0, .istore 1], 2),
  (2, [.iload 1, .aload 0, .getfield 768, .if_icmp .ge 27], 10),
  (10, [.aload 0, .aload 0, .getfield 769, .iload 1, .iaload, .i2l, .invokevirtual 190, .iinc 1 1, .goto 2], 0),
  (27, [.iconst 0, .istore 1], 29),
  (29, [.iload 1, .iconst 16, .if_icmp .ge 74], 35),
  (35, [.iconst 0, .istore 2], 37),
  (37, [.iload 2, .aload 0, .getfield 770, .iload 1, .iaload, .if_icmp .ge 68], 47),
  (47, [.aload 0, .aload 0, .getfield 771, .iconst 3, .iload 1, .imul, .iload 2, .iadd, .iaload, .i2l, .invokevirtual 190, .iinc 2 1, .goto 37], 0),
  (68, [.iinc 1 1, .goto 29], 0),
  (74, [.iconst 0, .istore 1], 76),
  (76, [.iload 1, .aload 0, .getfield 772, .if_icmp .ge 152], 84),
  (84, [.aload 0, .aload 0, .getfield 773, .iload 1, .iaload, .i2l, .invokevirtual 190, .aload 0, .aload 0, .getfield 774, .iload 1, .iaload, .i2l, .invokevirtual 190, .aload 0, .aload 0, .getfield 775, .iload 1, .iaload, .i2l, .invokevirtual 190, .iconst 0, .istore 2], 119),
  (119, [.iload 2, .aload 0, .getfield 768, .if_icmp .ge 146], 127),
  (127, [.aload 0, .aload 0, .iload 1, .iload 2, .iconst 7, .invokevirtual 136, .i2l, .invokevirtual 190, .iinc 2 1, .goto 119], 0),
  (146, [.iinc 1 1, .goto 76], 0),
  (152, [.iconst 0, .istore 1], 154),
  (154, [.iload 1, .aload 0, .getfield 776, .if_icmp .ge 264], 162),
  (162, [.iconst 0, .istore 2], 164),
  (164, [.iload 2, .aload 0, .getfield 777, .iload 1, .iaload, .if_icmp .ge 196], 174),
  (174, [.aload 0, .aload 0, .getfield 778, .iconst 6, .iload 1, .imul, .iload 2, .iadd, .iaload, .i2l, .invokevirtual 190, .iinc 2 1, .goto 164], 0),
  (196, [.aload 0, .aload 0, .iload 1, .invokevirtual 144, .i2l, .invokevirtual 190, .iconst 0, .istore 2], 208),
  (208, [.iload 2, .aload 0, .getfield 782, .if_icmp .ge 258], 216),
  (216, [.aload 0, .aload 0, .iload 2, .iload 1, .invokevirtual 155, .i2l, .invokevirtual 190, .aload 0, .aload 0, .getfield 785, .i2l, .invokevirtual 190, .aload 0, .aload 0, .getfield 807, .iconst 10, .iload 2, .imul, .iload 1, .iadd, .iaload, .i2l, .invokevirtual 190, .iinc 2 1, .goto 208], 0),
  (258, [.iinc 1 1, .goto 154], 0),
  (264, [.return_], 0)]
abbrev q_M_tellSaid : Nat := 189
/-- MouthRiddlesModel.tell(J)V -/
def cd_M_tell : List (Nat × List Instr × Nat) := [(0, [.aload 0, .ldc2_w 31, .aload 0, .getfield 809, .lmul, .lload 1, .ladd, .putfield 13097, .return_], 0)]
abbrev q_M_tell : Nat := 190
/-- java/util/Arrays.fill([II)V -/
def cd_Arrays_fill : List (Nat × List Instr × Nat) := [(0, [.iconst 0, .istore 2, .aload 0, .arraylength, .istore 3], 5),
  (5, [.iload 2, .iload 3, .if_icmp .ge 20], 10),
  (10, [.aload 0, .iload 2, .iload 1, .iastore, .iinc 2 1, .goto 5], 0),
  (20, [.return_], 0)]
abbrev q_Arrays_fill : Nat := 191
/-- java/lang/Integer.bitCount(I)I -/
def cd_Integer_bitCount : List (Nat × List Instr × Nat) := [(0, [.iload 0, .iload 0, .iconst 1, .iushr, .iconst 1431655765, .iand, .isub, .istore 0, .iload 0, .iconst 858993459, .iand, .iload 0, .iconst 2, .iushr, .iconst 858993459, .iand, .iadd, .istore 0, .iload 0, .iload 0, .iconst 4, .iushr, .iadd, .iconst 252645135, .iand, .istore 0, .iload 0, .iload 0, .iconst 8, .iushr, .iadd, .istore 0, .iload 0, .iload 0, .iconst 16, .iushr, .iadd, .istore 0, .iload 0, .iconst 63, .iand, .ireturn], 0)]
abbrev q_Integer_bitCount : Nat := 192
/-- java/util/Arrays.fill([JJ)V -/
def cd_Arrays_fill_L : List (Nat × List Instr × Nat) := [(0, [.iconst 0, .istore 3, .aload 0, .arraylength, .istore 4], 6),
  (6, [.iload 3, .iload 4, .if_icmp .ge 22], 12),
  (12, [.aload 0, .iload 3, .lload 1, .lastore, .iinc 3 1, .goto 6], 0),
  (22, [.return_], 0)]
abbrev q_Arrays_fill_L : Nat := 193
/-- MouthRiddlesLaw.law([I)Z -/
def cd_Law_law : List (Nat × List Instr × Nat) := [(0, [.new 11, .dup, .invokespecial 79, .astore 1, .new 12, .dup, .invokespecial 125, .astore 2, .iconst 0, .istore 3], 18),
  (18, [.iload 3, .aload 0, .arraylength, .iconst 5, .isub, .if_icmp .gt 1212], 26),
  (26, [.aload 0, .iload 3, .iaload, .iconst 63, .iand, .tableswitch 1206 0 32 #[180, 203, 236, 269, 312, 345, 378, 401, 434, 467, 490, 523, 566, 599, 632, 665, 708, 731, 764, 777, 846, 899, 932, 985, 998, 1011, 1024, 1057, 1080, 1103, 1146, 1169, 1192]], 0),
  (180, [.aload 1, .aload 0, .iload 3, .iconst 1, .iadd, .iaload, .invokevirtual 80, .aload 2, .aload 0, .iload 3, .iconst 1, .iadd, .iaload, .invokevirtual 126, .if_icmp .eq 1206], 201),
  (201, [.iconst 0, .freturn], 0),
  (203, [.aload 1, .aload 0, .iload 3, .iconst 1, .iadd, .iaload, .aload 0, .iload 3, .iconst 2, .iadd, .iaload, .invokevirtual 81, .aload 2, .aload 0, .iload 3, .iconst 1, .iadd, .iaload, .aload 0, .iload 3, .iconst 2, .iadd, .iaload, .invokevirtual 128, .if_icmp .eq 1206], 234),
  (234, [.iconst 0, .freturn], 0),
  (236, [.aload 1, .aload 0, .iload 3, .iconst 1, .iadd, .iaload, .aload 0, .iload 3, .iconst 2, .iadd, .iaload, .invokevirtual 83, .aload 2, .aload 0, .iload 3, .iconst 1, .iadd, .iaload, .aload 0, .iload 3, .iconst 2, .iadd, .iaload, .invokevirtual 130, .if_icmp .eq 1206], 267),
  (267, [.iconst 0, .freturn], 0),
  (269, [.aload 1, .aload 0, .iload 3, .iconst 1, .iadd, .iaload, .aload 0, .iload 3, .iconst 2, .iadd, .iaload, .aload 0, .iload 3, .iconst 3, .iadd, .iaload, .invokevirtual 84, .aload 2, .aload 0, .iload 3, .iconst 1, .iadd, .iaload, .aload 0, .iload 3, .iconst 2, .iadd, .iaload, .aload 0, .iload 3, .iconst 3, .iadd, .iaload, .invokevirtual 131, .if_icmp .eq 1206], 310),
  (310, [.iconst 0, .freturn], 0),
  (312, [.aload 1, .aload 0, .iload 3, .iconst 1, .iadd, .iaload, .aload 0, .iload 3, .iconst 2, .iadd, .iaload, .invokevirtual 86, .aload 2, .aload 0, .iload 3, .iconst 1, .iadd, .iaload, .aload 0, .iload 3, .iconst 2, .iadd, .iaload, .invokevirtual 132, .if_icmp .eq 1206], 343),
  (343, [.iconst 0, .freturn], 0),
  (345, [.aload 1, .aload 0, .iload 3, .iconst 1, .iadd, .iaload, .aload 0, .iload 3, .iconst 2, .iadd, .iaload, .invokevirtual 88, .aload 2, .aload 0, .iload 3, .iconst 1, .iadd, .iaload, .aload 0, .iload 3, .iconst 2, .iadd, .iaload, .invokevirtual 134, .if_icmp .eq 1206], 376),
  (376, [.iconst 0, .freturn], 0),
  (378, [.aload 1, .aload 0, .iload 3, .iconst 1, .iadd, .iaload, .invokevirtual 90, .aload 2, .aload 0, .iload 3, .iconst 1, .iadd, .iaload, .invokevirtual 139, .if_icmp .eq 1206], 399),
  (399, [.iconst 0, .freturn], 0),
  (401, [.aload 1, .aload 0, .iload 3, .iconst 1, .iadd, .iaload, .aload 0, .iload 3, .iconst 2, .iadd, .iaload, .invokevirtual 91, .aload 2, .aload 0, .iload 3, .iconst 1, .iadd, .iaload, .aload 0, .iload 3, .iconst 2, .iadd, .iaload, .invokevirtual 140, .if_icmp .eq 1206], 432),
  (432, [.iconst 0, .freturn], 0),
  (434, [.aload 1, .aload 0, .iload 3, .iconst 1, .iadd, .iaload, .aload 0, .iload 3, .iconst 2, .iadd, .iaload, .invokevirtual 93, .aload 2, .aload 0, .iload 3, .iconst 1, .iadd, .iaload, .aload 0, .iload 3, .iconst 2, .iadd, .iaload, .invokevirtual 142, .if_icmp .eq 1206], 465),
  (465, [.iconst 0, .freturn], 0),
  (467, [.aload 1, .aload 0, .iload 3, .iconst 1, .iadd, .iaload, .invokevirtual 94, .aload 2, .aload 0, .iload 3, .iconst 1, .iadd, .iaload, .invokevirtual 143, .if_icmp .eq 1206], 488),
  (488, [.iconst 0, .freturn], 0),
  (490, [.aload 1, .aload 0, .iload 3, .iconst 1, .iadd, .iaload, .aload 0, .iload 3, .iconst 2, .iadd, .iaload, .invokevirtual 95, .aload 2, .aload 0, .iload 3, .iconst 1, .iadd, .iaload, .aload 0, .iload 3, .iconst 2, .iadd, .iaload, .invokevirtual 146, .if_icmp .eq 1206], 521),
  (521, [.iconst 0, .freturn], 0),
  (523, [.aload 1, .aload 0, .iload 3, .iconst 1, .iadd, .iaload, .aload 0, .iload 3, .iconst 2, .iadd, .iaload, .aload 0, .iload 3, .iconst 3, .iadd, .iaload, .invokevirtual 96, .aload 2, .aload 0, .iload 3, .iconst 1, .iadd, .iaload, .aload 0, .iload 3, .iconst 2, .iadd, .iaload, .aload 0, .iload 3, .iconst 3, .iadd, .iaload, .invokevirtual 148, .if_icmp .eq 1206], 564),
  (564, [.iconst 0, .freturn], 0),
  (566, [.aload 1, .aload 0, .iload 3, .iconst 1, .iadd, .iaload, .aload 0, .iload 3, .iconst 2, .iadd, .iaload, .invokevirtual 97, .aload 2, .aload 0, .iload 3, .iconst 1, .iadd, .iaload, .aload 0, .iload 3, .iconst 2, .iadd, .iaload, .invokevirtual 149, .if_icmp .eq 1206], 597),
  (597, [.iconst 0, .freturn], 0),
  (599, [.aload 1, .aload 0, .iload 3, .iconst 1, .iadd, .iaload, .aload 0, .iload 3, .iconst 2, .iadd, .iaload, .invokevirtual 98, .aload 2, .aload 0, .iload 3, .iconst 1, .iadd, .iaload, .aload 0, .iload 3, .iconst 2, .iadd, .iaload, .invokevirtual 150, .if_icmp .eq 1206], 630),
  (630, [.iconst 0, .freturn], 0),
  (632, [.aload 1, .aload 0, .iload 3, .iconst 1, .iadd, .iaload, .aload 0, .iload 3, .iconst 2, .iadd, .iaload, .invokevirtual 99, .aload 2, .aload 0, .iload 3, .iconst 1, .iadd, .iaload, .aload 0, .iload 3, .iconst 2, .iadd, .iaload, .invokevirtual 152, .if_icmp .eq 1206], 663),
  (663, [.iconst 0, .freturn], 0),
  (665, [.aload 1, .aload 0, .iload 3, .iconst 1, .iadd, .iaload, .aload 0, .iload 3, .iconst 2, .iadd, .iaload, .aload 0, .iload 3, .iconst 3, .iadd, .iaload, .invokevirtual 100, .aload 2, .aload 0, .iload 3, .iconst 1, .iadd, .iaload, .aload 0, .iload 3, .iconst 2, .iadd, .iaload, .aload 0, .iload 3, .iconst 3, .iadd, .iaload, .invokevirtual 153, .if_icmp .eq 1206], 706),
  (706, [.iconst 0, .freturn], 0),
  (708, [.aload 1, .aload 0, .iload 3, .iconst 1, .iadd, .iaload, .invokevirtual 102, .aload 2, .aload 0, .iload 3, .iconst 1, .iadd, .iaload, .invokevirtual 156, .if_icmp .eq 1206], 729),
  (729, [.iconst 0, .freturn], 0),
  (731, [.aload 1, .aload 0, .iload 3, .iconst 1, .iadd, .iaload, .aload 0, .iload 3, .iconst 2, .iadd, .iaload, .invokevirtual 103, .aload 2, .aload 0, .iload 3, .iconst 1, .iadd, .iaload, .aload 0, .iload 3, .iconst 2, .iadd, .iaload, .invokevirtual 157, .if_icmp .eq 1206], 762),
  (762, [.iconst 0, .freturn], 0),
  (764, [.aload 1, .invokevirtual 104, .aload 2, .invokevirtual 158, .if_icmp .eq 1206], 775),
  (775, [.iconst 0, .freturn], 0),
  (777, [.aload 1, .aload 0, .iload 3, .iconst 1, .iadd, .iaload, .aload 0, .iload 3, .iconst 2, .iadd, .iaload, .aload 0, .iload 3, .iconst 3, .iadd, .iaload, .aload 0, .iload 3, .iconst 4, .iadd, .iaload, .ifCond .eq 805], 801),
  (801, [.iconst 1, .goto 806], 0),
  (805, [.iconst 0], 806),
  (806, [.invokevirtual 105, .aload 2, .aload 0, .iload 3, .iconst 1, .iadd, .iaload, .aload 0, .iload 3, .iconst 2, .iadd, .iaload, .aload 0, .iload 3, .iconst 3, .iadd, .iaload, .aload 0, .iload 3, .iconst 4, .iadd, .iaload, .ifCond .eq 837], 833),
  (833, [.iconst 1, .goto 838], 0),
  (837, [.iconst 0], 838),
  (838, [.invokevirtual 159, .if_icmp .eq 1206], 844),
  (844, [.iconst 0, .freturn], 0),
  (846, [.aload 1, .aload 0, .iload 3, .iconst 1, .iadd, .iaload, .aload 0, .iload 3, .iconst 2, .iadd, .iaload, .aload 0, .iload 3, .iconst 3, .iadd, .iaload, .aload 0, .iload 3, .iconst 4, .iadd, .iaload, .invokevirtual 107, .aload 2, .aload 0, .iload 3, .iconst 1, .iadd, .iaload, .aload 0, .iload 3, .iconst 2, .iadd, .iaload, .aload 0, .iload 3, .iconst 3, .iadd, .iaload, .aload 0, .iload 3, .iconst 4, .iadd, .iaload, .invokevirtual 161, .if_icmp .eq 1206], 897),
  (897, [.iconst 0, .freturn], 0),
  (899, [.aload 1, .aload 0, .iload 3, .iconst 1, .iadd, .iaload, .aload 0, .iload 3, .iconst 2, .iadd, .iaload, .invokevirtual 108, .aload 2, .aload 0, .iload 3, .iconst 1, .iadd, .iaload, .aload 0, .iload 3, .iconst 2, .iadd, .iaload, .invokevirtual 165, .if_icmp .eq 1206], 930),
  (930, [.iconst 0, .freturn], 0),
  (932, [.aload 1, .aload 0, .iload 3, .iconst 1, .iadd, .iaload, .i2l, .iconst 32, .lshl, .aload 0, .iload 3, .iconst 2, .iadd, .iaload, .i2l, .ldc2_w 4294967295, .land, .lor, .invokevirtual 109, .aload 2, .aload 0, .iload 3, .iconst 1, .iadd, .iaload, .i2l, .iconst 32, .lshl, .aload 0, .iload 3, .iconst 2, .iadd, .iaload, .i2l, .ldc2_w 4294967295, .land, .lor, .invokevirtual 166, .if_icmp .eq 1206], 983),
  (983, [.iconst 0, .freturn], 0),
  (985, [.aload 1, .invokevirtual 110, .aload 2, .invokevirtual 167, .if_icmp .eq 1206], 996),
  (996, [.iconst 0, .freturn], 0),
  (998, [.aload 1, .invokevirtual 111, .aload 2, .invokevirtual 168, .if_icmp .eq 1206], 1009),
  (1009, [.iconst 0, .freturn], 0),
  (1011, [.aload 1, .invokevirtual 112, .aload 2, .invokevirtual 173, .if_icmp .eq 1206], 1022),
  (1022, [.iconst 0, .freturn], 0),
  (1024, [.aload 1, .aload 0, .iload 3, .iconst 1, .iadd, .iaload, .aload 0, .iload 3, .iconst 2, .iadd, .iaload, .invokevirtual 113, .aload 2, .aload 0, .iload 3, .iconst 1, .iadd, .iaload, .aload 0, .iload 3, .iconst 2, .iadd, .iaload, .invokevirtual 174, .if_icmp .eq 1206], 1055),
  (1055, [.iconst 0, .freturn], 0),
  (1057, [.aload 1, .aload 0, .iload 3, .iconst 1, .iadd, .iaload, .invokevirtual 114, .aload 2, .aload 0, .iload 3, .iconst 1, .iadd, .iaload, .invokevirtual 175, .if_icmp .eq 1206], 1078),
  (1078, [.iconst 0, .freturn], 0),
  (1080, [.aload 1, .aload 0, .iload 3, .iconst 1, .iadd, .iaload, .invokevirtual 115, .aload 2, .aload 0, .iload 3, .iconst 1, .iadd, .iaload, .invokevirtual 179, .if_icmp .eq 1206], 1101),
  (1101, [.iconst 0, .freturn], 0),
  (1103, [.aload 1, .aload 0, .iload 3, .iconst 1, .iadd, .iaload, .aload 0, .iload 3, .iconst 2, .iadd, .iaload, .aload 0, .iload 3, .iconst 3, .iadd, .iaload, .invokevirtual 117, .aload 2, .aload 0, .iload 3, .iconst 1, .iadd, .iaload, .aload 0, .iload 3, .iconst 2, .iadd, .iaload, .aload 0, .iload 3, .iconst 3, .iadd, .iaload, .invokevirtual 182, .if_icmp .eq 1206], 1144),
  (1144, [.iconst 0, .freturn], 0),
  (1146, [.aload 1, .aload 0, .iload 3, .iconst 1, .iadd, .iaload, .invokevirtual 118, .aload 2, .aload 0, .iload 3, .iconst 1, .iadd, .iaload, .invokevirtual 183, .if_icmp .eq 1206], 1167),
  (1167, [.iconst 0, .freturn], 0),
  (1169, [.aload 1, .aload 0, .iload 3, .iconst 1, .iadd, .iaload, .invokevirtual 119, .aload 2, .aload 0, .iload 3, .iconst 1, .iadd, .iaload, .invokevirtual 186, .if_icmp .eq 1206], 1190),
  (1190, [.iconst 0, .freturn], 0),
  (1192, [.aload 1, .invokevirtual 120, .aload 2, .invokevirtual 188, .lcmp, .ifCond .eq 1206], 1204),
  (1204, [.iconst 0, .freturn], 0),
  (1206, [.iinc 3 5, .goto 18], 0),
  (1212, [.iconst 1, .freturn], 0)]
abbrev q_Law_law : Nat := 194
def am_cds : List (List (Nat × List Instr × Nat)) := [cd_Changes_init, cd_Changes_least, cd_Changes_weighBelow, cd_Changes_addToAbove, cd_Changes_leastOf, cd_Changes_weighAll, cd_Changes_weighWhole, cd_Changes_sureOf, cd_Deal_init, cd_Deal_countWays, cd_Deal_dealFrom, cd_Deal_hasTwinBefore, cd_Heads_init, cd_Heads_add, cd_Heads_stageOfAnswer, cd_Heads_secondOf, cd_Heads_answerIn, cd_Heads_unlikePairs, cd_Heads_answerOf, cd_Heads_answeringOther, cd_Lore_init, cd_Lore_addThing, cd_Lore_fitAnew, cd_Lore_tryOut, cd_Lore_havingSense, cd_Lore_traitOf, cd_Lore_hasSense, cd_Lore_addSense, cd_Lore_addSaying, cd_Lore_isOfKind, cd_Lore_leastSense, cd_Lore_allThings, cd_Lore_fittingBySight, cd_Lore_senseCount, cd_Maker_init, cd_Maker_fewest, cd_Maker_gather, cd_Maker_choose, cd_Maker_consider, cd_Page_init, cd_Page_areLetters, cd_Page_lettersIn, cd_Page_codeAt, cd_Page_append, cd_Page_empty, cd_Riddles_init, cd_Riddles_begin, cd_Riddles_append, cd_Riddles_sayingAt, cd_Riddles_fitting, cd_Riddles_fittingWithout, cd_Riddles_turnedOnes, cd_Riddles_misleadingPlace, cd_Riddles_countWithout, cd_Riddles_unfitCount, cd_Sight_init, cd_Sight_sees, cd_Sight_set, cd_Stakes_init, cd_Stakes_put, cd_Stakes_of, cd_Stakes_best, cd_Stakes_giveRiddle, cd_Stakes_sumIn, cd_Stakes_riddleIn, cd_Tongues_init, cd_Tongues_add, cd_Tongues_carries, cd_Tongues_lacking, cd_Tongues_leastLacking, cd_Tree_init, cd_Tree_read, cd_Tree_take, cd_Tree_openNode, cd_Tree_beginNode, cd_Tree_landNode, cd_Tree_awaitNext, cd_Tree_closeNode, cd_Tree_isWhole, cd_X_init, cd_X_thing, cd_X_sense, cd_X_isWord, cd_X_senseOf, cd_X_saying, cd_X_isKind, cd_X_as, cd_X_isSaying, cd_X_fits, cd_X_isThing, cd_X_riddle, cd_X_more, cd_X_isRiddle, cd_X_said, cd_X_answers, cd_X_turns, cd_X_judge, cd_X_astray, cd_X_made, cd_X_head, cd_X_hears, cd_X_isHead, cd_X_parts, cd_X_blind, cd_X_tongue, cd_X_lack, cd_X_isTongue, cd_X_goes, cd_X_nearest, cd_X_letters, cd_X_blank, cd_X_fault, cd_X_tree, cd_X_variant, cd_X_changes, cd_X_chance, cd_X_greatestDivisor, cd_X_stake, cd_X_whom, cd_X_count, cd_X_digest, cd_X_digestLore, cd_X_digestRiddles, cd_X_digestTongues, cd_X_digestLands, cd_M_init, cd_M_thing, cd_M_in, cd_M_sense, cd_M_isWord, cd_M_senseOf, cd_M_saying, cd_M_as, cd_M_isSaying, cd_M_fits, cd_M_isThing, cd_M_by, cd_M_bitsOf, cd_M_has, cd_M_riddle, cd_M_more, cd_M_isRiddle, cd_M_said, cd_M_answers, cd_M_answersOf, cd_M_answersBy, cd_M_turns, cd_M_turnsOf, cd_M_judge, cd_M_astray, cd_M_made, cd_M_bestOf, cd_M_head, cd_M_hears, cd_M_isHead, cd_M_hearsOf, cd_M_parts, cd_M_blind, cd_M_tongue, cd_M_lack, cd_M_isTongue, cd_M_goes, cd_M_lacksOf, cd_M_byIn, cd_M_goesOf, cd_M_nearest, cd_M_letters, cd_M_blank, cd_M_fault, cd_M_faultOf, cd_M_go, cd_M_addNode, cd_M_endNode, cd_M_tree, cd_M_variant, cd_M_changes, cd_M_leastChanges, cd_M_leastOf, cd_M_sureOf, cd_M_chance, cd_M_deal, cd_M_common, cd_M_stake, cd_M_whom, cd_M_layBrings, cd_M_chosen, cd_M_count, cd_M_countOf, cd_M_digest, cd_M_tellSaid, cd_M_tell, cd_Arrays_fill, cd_Integer_bitCount, cd_Arrays_fill_L, cd_Law_law]
/-- own class, values popped, locals, receiver -/
def am_ms : List (Nat × Nat × Nat × Nat) := [(0, 1, 1, 0), (0, 3, 3, 0), (0, 3, 7, 0), (0, 3, 5, 0), (0, 2, 4, 99), (0, 3, 4, 0), (0, 3, 6, 0), (0, 2, 5, 0), (1, 1, 1, 1), (1, 4, 5, 1), (1, 4, 5, 99), (1, 2, 3, 1), (2, 2, 3, 2), (2, 3, 3, 2), (2, 3, 5, 2), (2, 3, 3, 2), (2, 3, 4, 2), (2, 2, 5, 2), (2, 3, 3, 2), (2, 3, 5, 2), (3, 1, 1, 3), (3, 2, 5, 3), (3, 1, 3, 3), (3, 3, 5, 3), (3, 3, 3, 3), (3, 3, 3, 3), (3, 3, 4, 3), (3, 3, 3, 3), (3, 4, 4, 3), (3, 3, 4, 3), (3, 3, 4, 3), (3, 1, 1, 3), (3, 3, 6, 3), (3, 1, 3, 3), (4, 1, 1, 4), (4, 4, 5, 4), (4, 3, 5, 4), (4, 6, 8, 99), (4, 3, 3, 4), (5, 1, 1, 5), (5, 1, 5, 99), (5, 1, 3, 99), (5, 2, 3, 99), (5, 2, 5, 5), (5, 1, 2, 5), (6, 2, 2, 6), (6, 2, 2, 6), (6, 3, 3, 6), (6, 3, 3, 6), (6, 2, 2, 6), (6, 4, 6, 6), (6, 3, 6, 6), (6, 2, 6, 6), (6, 3, 3, 6), (6, 4, 6, 6), (7, 2, 2, 7), (7, 3, 3, 7), (7, 4, 4, 7), (8, 1, 1, 8), (8, 4, 5, 8), (8, 3, 3, 8), (8, 3, 6, 8), (8, 4, 7, 8), (8, 1, 2, 99), (8, 2, 4, 99), (9, 2, 3, 9), (9, 1, 1, 9), (9, 4, 4, 9), (9, 4, 4, 9), (9, 3, 7, 9), (10, 1, 1, 10), (10, 2, 3, 10), (10, 2, 2, 10), (10, 1, 1, 10), (10, 2, 2, 10), (10, 2, 2, 10), (10, 1, 1, 10), (10, 1, 1, 10), (10, 1, 1, 10), (11, 1, 1, 11), (11, 2, 2, 11), (11, 3, 3, 11), (11, 1, 1, 99), (11, 3, 3, 11), (11, 4, 4, 11), (11, 1, 1, 99), (11, 3, 3, 11), (11, 2, 2, 11), (11, 3, 3, 11), (11, 2, 2, 11), (11, 2, 2, 11), (11, 3, 3, 11), (11, 2, 2, 11), (11, 3, 3, 11), (11, 2, 2, 11), (11, 3, 3, 11), (11, 4, 8, 11), (11, 3, 4, 11), (11, 3, 3, 11), (11, 3, 3, 11), (11, 4, 5, 11), (11, 2, 2, 11), (11, 2, 6, 11), (11, 3, 3, 11), (11, 1, 1, 11), (11, 5, 6, 11), (11, 2, 2, 11), (11, 5, 5, 11), (11, 3, 3, 11), (11, 2, 3, 11), (11, 1, 1, 11), (11, 1, 1, 11), (11, 1, 2, 11), (11, 3, 4, 11), (11, 2, 2, 11), (11, 2, 3, 11), (11, 2, 6, 99), (11, 4, 4, 11), (11, 2, 4, 11), (11, 2, 2, 11), (11, 1, 4, 11), (11, 2, 7, 11), (11, 2, 8, 11), (11, 2, 7, 11), (11, 2, 6, 11), (12, 1, 2, 12), (12, 2, 2, 12), (12, 3, 6, 99), (12, 3, 5, 12), (12, 1, 1, 99), (12, 3, 3, 12), (12, 4, 4, 12), (12, 3, 4, 12), (12, 2, 2, 12), (12, 3, 3, 12), (12, 2, 2, 12), (12, 4, 10, 12), (12, 1, 3, 99), (12, 3, 3, 12), (12, 2, 2, 12), (12, 3, 3, 12), (12, 2, 2, 12), (12, 3, 3, 12), (12, 2, 2, 12), (12, 2, 2, 12), (12, 4, 8, 12), (12, 3, 3, 12), (12, 3, 5, 12), (12, 4, 6, 12), (12, 3, 7, 12), (12, 3, 5, 12), (12, 3, 10, 12), (12, 3, 3, 12), (12, 4, 5, 12), (12, 2, 2, 12), (12, 3, 8, 12), (12, 2, 8, 12), (12, 3, 5, 12), (12, 1, 1, 12), (12, 5, 7, 12), (12, 2, 2, 12), (12, 5, 5, 12), (12, 4, 6, 12), (12, 4, 4, 12), (12, 4, 6, 12), (12, 3, 7, 12), (12, 2, 9, 12), (12, 1, 2, 12), (12, 1, 1, 12), (12, 1, 2, 12), (12, 2, 3, 12), (12, 2, 2, 12), (12, 2, 2, 12), (12, 1, 2, 12), (12, 3, 4, 12), (12, 2, 2, 12), (12, 1, 6, 12), (12, 3, 5, 99), (12, 2, 7, 12), (12, 2, 7, 12), (12, 3, 8, 12), (12, 2, 5, 99), (12, 4, 5, 12), (12, 2, 2, 12), (12, 1, 6, 12), (12, 2, 7, 12), (12, 2, 2, 12), (12, 2, 4, 12), (12, 1, 3, 12), (12, 1, 3, 12), (12, 2, 3, 12), (15, 2, 4, 99), (14, 1, 1, 99), (15, 2, 5, 99), (13, 1, 4, 99)]
def am_ys : List MethodName := [yX0_init, yX0_least, yX0_weighBelow, yX0_addToAbove, yX0_leastOf, yX0_weighAll, yX0_weighWhole, yX0_sureOf, yX1_init, yX1_countWays, yX1_dealFrom, yX1_hasTwinBefore, yX2_init, yX2_add, yX2_stageOfAnswer, yX2_secondOf, yX2_answerIn, yX2_unlikePairs, yX2_answerOf, yX2_answeringOther, yX3_init, yX3_addThing, yX3_fitAnew, yX3_tryOut, yX3_havingSense, yX3_traitOf, yX3_hasSense, yX3_addSense, yX3_addSaying, yX3_isOfKind, yX3_leastSense, yX3_allThings, yX3_fittingBySight, yX3_senseCount, yX4_init, yX4_fewest, yX4_gather, yX4_choose, yX4_consider, yX5_init, yX5_areLetters, yX5_lettersIn, yX5_codeAt, yX5_append, yX5_empty, yX6_init, yX6_begin, yX6_append, yX6_sayingAt, yX6_fitting, yX6_fittingWithout, yX6_turnedOnes, yX6_misleadingPlace, yX6_countWithout, yX6_unfitCount, yX7_init, yX7_sees, yX7_set, yX8_init, yX8_put, yX8_of, yX8_best, yX8_giveRiddle, yX8_sumIn, yX8_riddleIn, yX9_init, yX9_add, yX9_carries, yX9_lacking, yX9_leastLacking, yX10_init, yX10_read, yX10_take, yX10_openNode, yX10_beginNode, yX10_landNode, yX10_awaitNext, yX10_closeNode, yX10_isWhole, yX11_init, yX11_thing, yX11_sense, yX11_isWord, yX11_senseOf, yX11_saying, yX11_isKind, yX11_as, yX11_isSaying, yX11_fits, yX11_isThing, yX11_riddle, yX11_more, yX11_isRiddle, yX11_said, yX11_answers, yX11_turns, yX11_judge, yX11_astray, yX11_made, yX11_head, yX11_hears, yX11_isHead, yX11_parts, yX11_blind, yX11_tongue, yX11_lack, yX11_isTongue, yX11_goes, yX11_nearest, yX11_letters, yX11_blank, yX11_fault, yX11_tree, yX11_variant, yX11_changes, yX11_chance, yX11_greatestDivisor, yX11_stake, yX11_whom, yX11_count, yX11_digest, yX11_digestLore, yX11_digestRiddles, yX11_digestTongues, yX11_digestLands, yX12_init, yX12_thing, yX12_in, yX12_sense, yX12_isWord, yX12_senseOf, yX12_saying, yX12_as, yX12_isSaying, yX12_fits, yX12_isThing, yX12_by, yX12_bitsOf, yX12_has, yX12_riddle, yX12_more, yX12_isRiddle, yX12_said, yX12_answers, yX12_answersOf, yX12_answersBy, yX12_turns, yX12_turnsOf, yX12_judge, yX12_astray, yX12_made, yX12_bestOf, yX12_head, yX12_hears, yX12_isHead, yX12_hearsOf, yX12_parts, yX12_blind, yX12_tongue, yX12_lack, yX12_isTongue, yX12_goes, yX12_lacksOf, yX12_byIn, yX12_goesOf, yX12_nearest, yX12_letters, yX12_blank, yX12_fault, yX12_faultOf, yX12_go, yX12_addNode, yX12_endNode, yX12_tree, yX12_variant, yX12_changes, yX12_leastChanges, yX12_leastOf, yX12_sureOf, yX12_chance, yX12_deal, yX12_common, yX12_stake, yX12_whom, yX12_layBrings, yX12_chosen, yX12_count, yX12_countOf, yX12_digest, yX12_tellSaid, yX12_tell, yJ7_fill_53178, yJ6_bitCount_0f7a4, yJ7_fill_d0a16, yL_law]
def am_bs : List ByteArray := [prog_2_method_1_code, prog_2_method_2_code, prog_2_method_5_code, prog_2_method_6_code, prog_2_method_8_code, prog_2_method_3_code, prog_2_method_7_code, prog_2_method_4_code, prog_3_method_1_code, prog_3_method_2_code, prog_3_method_3_code, prog_3_method_4_code, prog_4_method_1_code, prog_4_method_2_code, prog_4_method_4_code, prog_4_method_3_code, prog_4_method_5_code, prog_4_method_7_code, prog_4_method_6_code, prog_4_method_8_code, prog_5_method_1_code, prog_5_method_2_code, prog_5_method_12_code, prog_5_method_13_code, prog_5_method_14_code, prog_5_method_5_code, prog_5_method_6_code, prog_5_method_3_code, prog_5_method_4_code, prog_5_method_8_code, prog_5_method_11_code, prog_5_method_9_code, prog_5_method_10_code, prog_5_method_7_code, prog_6_method_1_code, prog_6_method_2_code, prog_6_method_3_code, prog_6_method_4_code, prog_6_method_5_code, prog_7_method_1_code, prog_7_method_4_code, prog_7_method_3_code, prog_7_method_2_code, prog_7_method_5_code, prog_7_method_6_code, prog_8_method_1_code, prog_8_method_2_code, prog_8_method_3_code, prog_8_method_4_code, prog_8_method_5_code, prog_8_method_6_code, prog_8_method_9_code, prog_8_method_8_code, prog_8_method_7_code, prog_8_method_10_code, prog_9_method_1_code, prog_9_method_2_code, prog_9_method_3_code, prog_10_method_1_code, prog_10_method_3_code, prog_10_method_2_code, prog_10_method_4_code, prog_10_method_5_code, prog_10_method_6_code, prog_10_method_7_code, prog_11_method_1_code, prog_11_method_2_code, prog_11_method_3_code, prog_11_method_4_code, prog_11_method_5_code, prog_12_method_1_code, prog_12_method_3_code, prog_12_method_4_code, prog_12_method_5_code, prog_12_method_7_code, prog_12_method_6_code, prog_12_method_8_code, prog_12_method_9_code, prog_12_method_2_code, prog_1_method_1_code, prog_1_method_2_code, prog_1_method_3_code, prog_1_method_39_code, prog_1_method_4_code, prog_1_method_5_code, prog_1_method_40_code, prog_1_method_6_code, prog_1_method_42_code, prog_1_method_7_code, prog_1_method_41_code, prog_1_method_8_code, prog_1_method_9_code, prog_1_method_43_code, prog_1_method_10_code, prog_1_method_11_code, prog_1_method_12_code, prog_1_method_13_code, prog_1_method_14_code, prog_1_method_15_code, prog_1_method_16_code, prog_1_method_17_code, prog_1_method_44_code, prog_1_method_18_code, prog_1_method_19_code, prog_1_method_20_code, prog_1_method_21_code, prog_1_method_45_code, prog_1_method_22_code, prog_1_method_23_code, prog_1_method_24_code, prog_1_method_25_code, prog_1_method_26_code, prog_1_method_27_code, prog_1_method_28_code, prog_1_method_29_code, prog_1_method_30_code, prog_1_method_46_code, prog_1_method_31_code, prog_1_method_32_code, prog_1_method_33_code, prog_1_method_34_code, prog_1_method_35_code, prog_1_method_36_code, prog_1_method_37_code, prog_1_method_38_code, prog_14_method_1_code, prog_14_method_4_code, prog_14_method_2_code, prog_14_method_7_code, prog_14_method_6_code, prog_14_method_8_code, prog_14_method_9_code, prog_14_method_11_code, prog_14_method_10_code, prog_14_method_14_code, prog_14_method_5_code, prog_14_method_13_code, prog_14_method_3_code, prog_14_method_12_code, prog_14_method_15_code, prog_14_method_17_code, prog_14_method_16_code, prog_14_method_18_code, prog_14_method_21_code, prog_14_method_20_code, prog_14_method_19_code, prog_14_method_23_code, prog_14_method_22_code, prog_14_method_24_code, prog_14_method_25_code, prog_14_method_27_code, prog_14_method_26_code, prog_14_method_28_code, prog_14_method_31_code, prog_14_method_29_code, prog_14_method_30_code, prog_14_method_32_code, prog_14_method_33_code, prog_14_method_34_code, prog_14_method_36_code, prog_14_method_35_code, prog_14_method_40_code, prog_14_method_38_code, prog_14_method_37_code, prog_14_method_39_code, prog_14_method_41_code, prog_14_method_42_code, prog_14_method_43_code, prog_14_method_48_code, prog_14_method_47_code, prog_14_method_46_code, prog_14_method_44_code, prog_14_method_45_code, prog_14_method_49_code, prog_14_method_50_code, prog_14_method_54_code, prog_14_method_52_code, prog_14_method_51_code, prog_14_method_53_code, prog_14_method_57_code, prog_14_method_56_code, prog_14_method_55_code, prog_14_method_58_code, prog_14_method_61_code, prog_14_method_59_code, prog_14_method_60_code, prog_14_method_63_code, prog_14_method_62_code, prog_14_method_66_code, prog_14_method_65_code, prog_14_method_64_code, prog_18_method_103_code, prog_15_method_49_code, prog_18_method_101_code, code]
def am_rs : List (Option FieldType) := [none, (some .int), none, none, (some .int), none, none, (some .int), none, none, none, (some .boolean), none, (some .int), (some .int), (some .int), (some .int), (some .int), (some .int), (some .int), none, (some .int), none, (some .int), (some .int), (some .int), (some .boolean), (some .int), (some .int), (some .boolean), (some .int), (some .int), (some .int), (some .int), none, (some .int), none, none, none, none, (some .boolean), (some .int), (some .int), (some .int), (some .int), none, (some .int), (some .int), (some .int), (some .int), (some .int), (some .int), (some .int), (some .int), (some .int), none, (some .boolean), none, none, (some .int), (some .int), (some .long), none, (some .int), (some .int), none, (some .int), (some .int), (some .int), (some .int), none, (some .int), (some .boolean), (some .boolean), (some .int), (some .boolean), (some .boolean), (some .boolean), (some .boolean), none, (some .int), (some .int), (some .boolean), (some .int), (some .int), (some .boolean), (some .int), (some .boolean), (some .int), (some .boolean), (some .int), (some .int), (some .boolean), (some .int), (some .int), (some .int), (some .int), (some .int), (some .int), (some .int), (some .int), (some .boolean), (some .int), (some .int), (some .int), (some .int), (some .boolean), (some .int), (some .int), (some .int), (some .int), (some .int), (some .int), (some .int), (some .int), (some .int), (some .int), (some .int), (some .int), (some .int), (some .long), (some .long), (some .long), (some .long), (some .long), none, (some .int), (some .boolean), (some .int), (some .boolean), (some .int), (some .int), (some .int), (some .boolean), (some .int), (some .boolean), (some .int), (some .int), (some .boolean), (some .int), (some .int), (some .boolean), (some .int), (some .int), (some .int), (some .int), (some .int), (some .int), (some .int), (some .int), (some .int), (some .int), (some .int), (some .int), (some .boolean), (some .int), (some .int), (some .int), (some .int), (some .int), (some .boolean), (some .int), (some .int), (some .int), (some .boolean), (some .int), (some .int), (some .int), (some .int), (some .int), (some .boolean), none, none, (some .int), (some .int), (some .int), (some .int), (some .int), (some .int), (some .int), none, (some .int), (some .int), (some .int), none, (some .int), (some .int), (some .int), (some .long), none, none, none, (some .int), none, (some .boolean)]
def am_pl : List (Nat × Nat × Nat × Nat) := [(286, 285, 0, 64), (779, 777, 778, 64), (783, 782, 17, 64), (787, 786, 18, 64), (790, 789, 0, 64), (795, 793, 794, 64), (802, 801, 19, 64), (806, 804, 805, 64), (302, 301, 0, 65), (814, 812, 813, 65), (820, 819, 0, 65), (824, 823, 20, 65), (206, 205, 0, 60), (606, 604, 605, 60), (618, 616, 617, 60), (622, 620, 621, 60), (626, 624, 625, 60), (638, 636, 637, 60), (642, 641, 9, 60), (651, 649, 650, 60), (83, 82, 0, 55), (416, 414, 415, 55), (426, 425, 0, 55), (430, 429, 1, 55), (434, 433, 2, 55), (438, 436, 437, 55), (449, 447, 448, 55), (453, 451, 452, 55), (469, 467, 468, 55), (481, 479, 480, 55), (493, 491, 492, 55), (538, 536, 537, 55), (543, 541, 542, 55), (875, 873, 874, 55), (170, 169, 0, 59), (584, 582, 583, 59), (588, 587, 6, 59), (594, 593, 0, 59), (598, 597, 7, 59), (255, 254, 0, 62), (708, 707, 0, 62), (711, 710, 0, 62), (714, 713, 0, 62), (719, 717, 718, 62), (727, 725, 726, 62), (132, 131, 0, 56), (501, 499, 500, 56), (505, 503, 504, 56), (522, 520, 521, 56), (530, 528, 529, 56), (534, 532, 533, 56), (551, 549, 550, 56), (570, 568, 569, 56), (574, 572, 573, 56), (692, 690, 691, 56), (138, 137, 0, 57), (671, 669, 670, 57), (675, 673, 674, 57), (272, 271, 0, 63), (835, 833, 834, 63), (839, 837, 838, 63), (847, 845, 846, 63), (854, 853, 21, 63), (863, 862, 0, 63), (866, 865, 0, 63), (235, 234, 0, 61), (659, 657, 658, 61), (683, 681, 682, 61), (688, 686, 687, 61), (700, 698, 699, 61), (335, 334, 0, 66), (735, 733, 734, 66), (739, 738, 11, 66), (743, 742, 12, 66), (747, 746, 13, 66), (751, 750, 14, 66), (755, 754, 15, 66), (759, 758, 16, 66), (767, 765, 766, 66), (75, 74, 0, 54), (411, 409, 410, 54), (442, 440, 441, 54), (445, 444, 0, 54), (457, 455, 456, 54), (462, 460, 461, 54), (465, 464, 0, 54), (473, 471, 472, 54), (477, 476, 3, 54), (485, 483, 484, 54), (489, 488, 4, 54), (497, 495, 496, 54), (509, 507, 508, 54), (513, 512, 5, 54), (518, 516, 517, 54), (526, 524, 525, 54), (547, 545, 546, 54), (556, 554, 555, 54), (566, 564, 565, 54), (580, 578, 579, 54), (602, 600, 601, 54), (610, 608, 609, 54), (614, 613, 8, 54), (634, 632, 633, 54), (647, 645, 646, 54), (655, 653, 654, 54), (663, 661, 662, 54), (667, 666, 10, 54), (679, 677, 678, 54), (696, 694, 695, 54), (705, 703, 704, 54), (723, 721, 722, 54), (731, 729, 730, 54), (763, 761, 762, 54), (771, 769, 770, 54), (775, 773, 774, 54), (810, 808, 809, 54), (827, 826, 0, 54), (831, 829, 830, 54), (843, 841, 842, 54), (871, 869, 870, 54), (879, 877, 878, 54), (884, 883, 22, 54), (889, 888, 23, 54), (894, 893, 24, 54), (898, 897, 25, 54), (904, 903, 0, 67), (1036, 1034, 1035, 67), (1040, 1039, 0, 67), (1044, 1042, 1043, 67), (1047, 1046, 0, 67), (1053, 1051, 1052, 67), (1057, 1055, 1056, 67), (1062, 1060, 1061, 67), (1066, 1065, 26, 67), (1070, 1068, 1069, 67), (1074, 1073, 27, 67), (1078, 1077, 28, 67), (1081, 1080, 0, 67), (1085, 1084, 29, 67), (1089, 1087, 1088, 67), (1093, 1091, 1092, 67), (1097, 1096, 30, 67), (1101, 1099, 1100, 67), (1105, 1103, 1104, 67), (1109, 1108, 31, 67), (1113, 1112, 32, 67), (1117, 1115, 1116, 67), (1121, 1120, 33, 67), (1125, 1123, 1124, 67), (1129, 1127, 1128, 67), (1133, 1131, 1132, 67), (1138, 1137, 34, 67), (1142, 1140, 1141, 67), (1147, 1145, 1146, 67), (1151, 1150, 35, 67), (1155, 1154, 36, 67), (1159, 1157, 1158, 67), (1163, 1161, 1162, 67), (1167, 1165, 1166, 67), (1171, 1169, 1170, 67), (1175, 1174, 37, 67), (1180, 1178, 1179, 67), (1184, 1183, 38, 67), (1188, 1187, 39, 67), (1192, 1191, 40, 67), (1196, 1194, 1195, 67), (1200, 1198, 1199, 67), (1205, 1203, 1204, 67), (1209, 1207, 1208, 67), (1213, 1212, 41, 67), (1217, 1216, 42, 67), (1221, 1220, 43, 67), (1227, 1226, 44, 67), (1231, 1229, 1230, 67), (1235, 1233, 1234, 67), (1241, 1239, 1240, 67), (1247, 1246, 45, 67), (1250, 1249, 0, 67), (1254, 1253, 46, 67), (1258, 1256, 1257, 67), (1262, 1261, 47, 67), (1265, 1264, 0, 67), (1269, 1267, 1268, 67), (1274, 1272, 1273, 67), (1278, 1277, 48, 67), (1282, 1281, 49, 67), (1286, 1284, 1285, 67), (1290, 1289, 50, 67), (1294, 1292, 1293, 67), (1299, 1298, 51, 67), (1303, 1302, 52, 67), (142, 141, 0, 58), (419, 418, 0, 68), (850, 849, 0, 58), (0, 0, 0, 0)]
def am_on : List String := ["MouthRiddles$Changes", "MouthRiddles$Deal", "MouthRiddles$Heads", "MouthRiddles$Lore", "MouthRiddles$Maker", "MouthRiddles$Page", "MouthRiddles$Riddles", "MouthRiddles$Sight", "MouthRiddles$Stakes", "MouthRiddles$Tongues", "MouthRiddles$Tree", "MouthRiddles", "MouthRiddlesModel", "MouthRiddlesLaw", "java/lang/Integer", "java/util/Arrays"]
def am_fl : List ((Nat × Nat) × Nat × Nat × Nat × Bool × Nat) := [((0, 9), 0, 0, 2, false, 288), ((0, 15), 0, 1, 2, false, 289), ((0, 18), 0, 2, 2, false, 290), ((0, 35), 10, 3, 0, true, 343), ((0, 41), 10, 0, 2, true, 338), ((0, 48), 10, 1, 2, true, 340), ((1, 9), 1, 0, 2, false, 304), ((1, 15), 1, 1, 2, false, 305), ((1, 18), 1, 2, 2, false, 306), ((1, 21), 1, 3, 2, false, 307), ((1, 30), 1, 4, 0, false, 308), ((1, 34), 10, 4, 0, true, 346), ((1, 51), 1, 5, 0, false, 309), ((1, 54), 1, 6, 0, false, 310), ((1, 57), 1, 7, 0, false, 312), ((2, 13), 2, 1, 2, false, 212), ((2, 17), 2, 2, 2, false, 213), ((2, 21), 2, 3, 2, false, 214), ((2, 24), 2, 4, 2, false, 215), ((2, 27), 2, 5, 0, false, 216), ((2, 31), 2, 0, 2, false, 211), ((3, 9), 3, 0, 0, false, 85), ((3, 15), 3, 1, 0, false, 87), ((3, 18), 3, 2, 2, false, 90), ((3, 22), 3, 3, 2, false, 92), ((3, 25), 3, 4, 2, false, 93), ((3, 28), 3, 5, 2, false, 94), ((3, 31), 3, 6, 2, false, 95), ((3, 34), 3, 7, 2, false, 97), ((3, 37), 3, 8, 2, false, 99), ((3, 40), 3, 9, 2, false, 101), ((3, 43), 3, 10, 2, false, 103), ((3, 61), 7, 0, 2, true, 144), ((4, 9), 4, 0, 2, false, 174), ((4, 15), 4, 1, 2, false, 175), ((4, 18), 4, 2, 2, false, 176), ((4, 21), 4, 3, 2, false, 177), ((4, 29), 4, 4, 2, false, 178), ((4, 37), 4, 7, 0, false, 181), ((4, 41), 4, 8, 0, false, 182), ((4, 54), 4, 5, 0, false, 179), ((4, 57), 4, 6, 0, false, 180), ((4, 60), 3, 1, 0, true, 88), ((5, 9), 5, 0, 2, false, 257), ((5, 15), 5, 1, 0, false, 260), ((6, 14), 6, 1, 2, false, 149), ((6, 20), 6, 2, 2, false, 150), ((6, 24), 6, 3, 2, false, 151), ((6, 27), 6, 4, 0, false, 153), ((6, 31), 6, 0, 2, false, 148), ((7, 9), 7, 0, 2, false, 143), ((8, 9), 8, 0, 2, false, 274), ((8, 15), 8, 1, 2, false, 275), ((9, 11), 9, 1, 2, false, 240), ((9, 17), 9, 2, 0, false, 242), ((9, 21), 9, 0, 2, false, 239), ((10, 9), 10, 0, 2, false, 337), ((10, 15), 10, 1, 2, false, 339), ((10, 18), 10, 2, 2, false, 341), ((10, 21), 10, 3, 0, false, 342), ((10, 25), 10, 4, 0, false, 345), ((10, 28), 10, 5, 0, false, 347), ((10, 31), 10, 6, 1, false, 348), ((10, 35), 5, 1, 0, true, 261), ((10, 40), 5, 0, 2, true, 258), ((11, 10), 11, 0, 2, false, 365), ((11, 21), 11, 1, 2, false, 366), ((11, 28), 11, 2, 2, false, 367), ((11, 37), 11, 3, 2, false, 368), ((11, 44), 11, 4, 2, false, 369), ((11, 51), 11, 5, 2, false, 370), ((11, 58), 11, 6, 2, false, 371), ((11, 65), 11, 7, 2, false, 372), ((11, 72), 11, 8, 2, false, 373), ((11, 76), 11, 9, 2, false, 374), ((11, 83), 11, 10, 2, false, 375), ((11, 87), 11, 11, 2, false, 376), ((11, 90), 11, 12, 0, false, 377), ((11, 94), 11, 13, 0, false, 378), ((11, 104), 3, 0, 0, true, 86), ((11, 119), 3, 6, 2, true, 96), ((11, 132), 3, 1, 0, true, 89), ((11, 151), 6, 4, 0, true, 154), ((11, 160), 6, 3, 2, true, 152), ((11, 193), 2, 5, 0, true, 217), ((11, 215), 9, 2, 0, true, 243), ((11, 222), 9, 1, 2, true, 241), ((11, 248), 5, 1, 0, true, 262), ((11, 266), 10, 3, 0, true, 344), ((11, 284), 1, 6, 0, true, 311), ((11, 287), 1, 7, 0, true, 313), ((11, 327), 5, 0, 2, true, 259), ((11, 333), 3, 2, 2, true, 91), ((11, 336), 3, 7, 2, true, 98), ((11, 339), 3, 8, 2, true, 100), ((11, 342), 3, 9, 2, true, 102), ((12, 7), 12, 1, 2, false, 907), ((12, 13), 12, 2, 2, false, 908), ((12, 16), 12, 3, 2, false, 909), ((12, 19), 12, 5, 2, false, 911), ((12, 22), 12, 6, 2, false, 912), ((12, 25), 12, 7, 2, false, 913), ((12, 28), 12, 9, 2, false, 915), ((12, 31), 12, 10, 2, false, 916), ((12, 34), 12, 12, 2, false, 918), ((12, 37), 12, 13, 2, false, 919), ((12, 40), 12, 15, 2, false, 921), ((12, 43), 12, 16, 2, false, 922), ((12, 46), 12, 19, 2, false, 925), ((12, 49), 12, 20, 2, false, 926), ((12, 52), 12, 23, 2, false, 929), ((12, 55), 12, 24, 2, false, 930), ((12, 58), 12, 25, 2, false, 931), ((12, 61), 12, 30, 2, false, 936), ((12, 64), 12, 31, 2, false, 937), ((12, 67), 12, 32, 2, false, 938), ((12, 70), 12, 33, 2, false, 939), ((12, 73), 12, 34, 2, false, 940), ((12, 76), 12, 35, 2, false, 941), ((12, 79), 12, 37, 2, false, 943), ((12, 82), 12, 38, 2, false, 944), ((12, 85), 12, 39, 2, false, 945), ((12, 88), 12, 40, 2, false, 946), ((12, 97), 12, 0, 0, false, 906), ((12, 111), 12, 4, 0, false, 910), ((12, 132), 12, 8, 0, false, 914), ((12, 150), 12, 11, 0, false, 917), ((12, 158), 12, 14, 0, false, 920), ((12, 161), 12, 17, 0, false, 923), ((12, 170), 12, 18, 0, false, 924), ((12, 190), 12, 21, 0, false, 927), ((12, 193), 12, 29, 0, false, 935), ((12, 196), 12, 27, 0, false, 933), ((12, 199), 12, 26, 1, false, 932), ((12, 211), 12, 28, 0, false, 934), ((12, 224), 12, 22, 0, false, 928), ((12, 245), 12, 36, 0, false, 942), ((12, 268), 12, 41, 3, false, 947)]
def am_ml : List ((Nat × Nat) × Nat × Bool × Nat) := [((0, 3), 1000, false, 287), ((0, 21), 2, false, 780), ((0, 25), 4, false, 788), ((0, 29), 1001, false, 796), ((0, 44), 6, false, 799), ((0, 51), 3, false, 784), ((0, 54), 1002, false, 791), ((1, 3), 1000, false, 303), ((1, 24), 191, false, 815), ((1, 39), 1001, false, 816), ((1, 45), 1, false, 817), ((1, 60), 10, false, 818), ((1, 64), 11, false, 821), ((2, 3), 1000, false, 207), ((2, 35), 55, false, 210), ((2, 38), 15, false, 619), ((2, 42), 16, false, 623), ((2, 45), 50, false, 627), ((2, 51), 192, false, 628), ((2, 57), 14, false, 643), ((2, 60), 18, false, 639), ((3, 3), 1000, false, 84), ((3, 46), 192, false, 417), ((3, 52), 22, false, 423), ((3, 55), 25, false, 435), ((3, 64), 23, false, 427), ((3, 67), 24, false, 431), ((4, 3), 1000, false, 171), ((4, 26), 55, false, 173), ((4, 33), 36, false, 585), ((4, 44), 31, false, 591), ((4, 50), 37, false, 592), ((4, 63), 30, false, 589), ((4, 67), 32, false, 590), ((4, 71), 38, false, 595), ((5, 3), 1000, false, 256), ((5, 19), 42, false, 712), ((5, 23), 41, false, 709), ((6, 3), 1000, false, 133), ((6, 11), 55, false, 136), ((6, 35), 47, false, 502), ((6, 39), 50, false, 531), ((6, 43), 31, false, 535), ((6, 49), 48, false, 539), ((6, 52), 32, false, 540), ((6, 56), 192, false, 575), ((6, 62), 53, false, 571), ((6, 65), 30, false, 552), ((7, 3), 1000, false, 139), ((7, 15), 191, false, 140), ((8, 3), 1000, false, 273), ((8, 19), 60, false, 836), ((8, 23), 193, false, 848), ((8, 29), 62, false, 851), ((8, 38), 1004, false, 858), ((9, 3), 1000, false, 236), ((9, 25), 55, false, 238), ((9, 28), 50, false, 684), ((9, 34), 54, false, 689), ((9, 37), 68, false, 701), ((10, 3), 1000, false, 336), ((10, 43), 72, false, 736), ((10, 47), 73, false, 740), ((10, 51), 75, false, 748), ((10, 54), 76, false, 752), ((10, 57), 77, false, 756), ((10, 60), 74, false, 744), ((11, 1), 1000, false, 76), ((11, 9), 20, true, 81), ((11, 18), 45, false, 130), ((11, 27), 34, true, 168), ((11, 34), 12, false, 204), ((11, 43), 65, false, 233), ((11, 50), 39, true, 253), ((11, 57), 58, true, 270), ((11, 64), 0, true, 284), ((11, 71), 8, true, 300), ((11, 82), 70, true, 333), ((11, 97), 191, false, 364), ((11, 107), 21, false, 413), ((11, 111), 82, false, 443), ((11, 115), 26, false, 446), ((11, 122), 27, false, 450), ((11, 126), 25, false, 458), ((11, 129), 85, false, 463), ((11, 135), 28, false, 466), ((11, 139), 87, false, 474), ((11, 142), 29, false, 478), ((11, 145), 89, false, 486), ((11, 148), 30, false, 490), ((11, 154), 46, false, 498), ((11, 157), 92, false, 510), ((11, 163), 47, false, 514), ((11, 166), 48, false, 519), ((11, 169), 49, false, 527), ((11, 172), 51, false, 548), ((11, 175), 1002, false, 557), ((11, 180), 1003, false, 560), ((11, 183), 52, false, 567), ((11, 186), 53, false, 576), ((11, 189), 35, false, 581), ((11, 194), 13, false, 603), ((11, 197), 101, false, 611), ((11, 200), 14, false, 615), ((11, 203), 16, false, 629), ((11, 206), 15, false, 630), ((11, 209), 17, false, 635), ((11, 212), 19, false, 648), ((11, 216), 66, false, 656), ((11, 219), 106, false, 664), ((11, 226), 56, false, 668), ((11, 231), 57, false, 672), ((11, 235), 67, false, 680), ((11, 238), 68, false, 685), ((11, 241), 69, false, 697), ((11, 244), 40, false, 706), ((11, 249), 41, false, 715), ((11, 253), 43, false, 716), ((11, 255), 44, false, 724), ((11, 258), 71, false, 732), ((11, 262), 78, false, 764), ((11, 269), 1, false, 776), ((11, 273), 5, false, 792), ((11, 277), 7, false, 803), ((11, 280), 9, false, 811), ((11, 290), 116, false, 825), ((11, 293), 59, false, 832), ((11, 296), 61, false, 844), ((11, 300), 63, false, 861), ((11, 303), 64, false, 864), ((11, 307), 33, false, 872), ((11, 312), 121, false, 881), ((11, 316), 122, false, 886), ((11, 319), 123, false, 891), ((11, 322), 124, false, 895), ((11, 330), 119, false, 899), ((11, 345), 60, false, 890), ((12, 1), 1000, false, 905), ((12, 93), 127, false, 1038), ((12, 103), 129, false, 1045), ((12, 114), 133, false, 1063), ((12, 117), 137, false, 1079), ((12, 121), 138, false, 1082), ((12, 125), 135, false, 1071), ((12, 128), 136, false, 1075), ((12, 135), 141, false, 1094), ((12, 138), 145, false, 1110), ((12, 141), 144, false, 1106), ((12, 144), 147, false, 1118), ((12, 153), 151, false, 1135), ((12, 164), 154, false, 1148), ((12, 167), 155, false, 1152), ((12, 173), 160, false, 1172), ((12, 178), 163, false, 1185), ((12, 181), 162, false, 1181), ((12, 184), 164, false, 1189), ((12, 203), 171, false, 1218), ((12, 214), 172, false, 1224), ((12, 217), 170, false, 1214), ((12, 220), 169, false, 1210), ((12, 231), 177, false, 1248), ((12, 235), 176, false, 1244), ((12, 242), 178, false, 1251), ((12, 248), 180, false, 1259), ((12, 252), 181, false, 1263), ((12, 257), 184, false, 1275), ((12, 260), 185, false, 1279), ((12, 263), 187, false, 1287), ((12, 272), 190, false, 1300), ((12, 278), 189, false, 1296), ((13, 9), 79, false, 73), ((13, 12), 125, false, 902), ((13, 13), 80, false, 408), ((13, 17), 126, false, 1033), ((13, 18), 81, false, 439), ((13, 22), 128, false, 1041), ((13, 23), 83, false, 454), ((13, 26), 130, false, 1050), ((13, 27), 84, false, 459), ((13, 31), 131, false, 1054), ((13, 32), 86, false, 470), ((13, 35), 132, false, 1059), ((13, 36), 88, false, 482), ((13, 39), 134, false, 1067), ((13, 40), 90, false, 494), ((13, 43), 139, false, 1086), ((13, 44), 91, false, 506), ((13, 47), 140, false, 1090), ((13, 48), 93, false, 515), ((13, 51), 142, false, 1098), ((13, 52), 94, false, 523), ((13, 55), 143, false, 1102), ((13, 56), 95, false, 544), ((13, 59), 146, false, 1114), ((13, 60), 96, false, 553), ((13, 63), 148, false, 1122), ((13, 64), 97, false, 563), ((13, 67), 149, false, 1126), ((13, 68), 98, false, 577), ((13, 71), 150, false, 1130), ((13, 72), 99, false, 599), ((13, 75), 152, false, 1139), ((13, 76), 100, false, 607), ((13, 79), 153, false, 1144), ((13, 80), 102, false, 631), ((13, 83), 156, false, 1156), ((13, 84), 103, false, 644), ((13, 87), 157, false, 1160), ((13, 88), 104, false, 652), ((13, 92), 158, false, 1164), ((13, 93), 105, false, 660), ((13, 97), 159, false, 1168), ((13, 98), 107, false, 676), ((13, 102), 161, false, 1177), ((13, 103), 108, false, 693), ((13, 106), 165, false, 1193), ((13, 109), 109, false, 702), ((13, 113), 166, false, 1197), ((13, 114), 110, false, 720), ((13, 117), 167, false, 1202), ((13, 118), 111, false, 728), ((13, 121), 168, false, 1206), ((13, 122), 112, false, 760), ((13, 125), 173, false, 1228), ((13, 126), 113, false, 768), ((13, 129), 174, false, 1232), ((13, 130), 114, false, 772), ((13, 133), 175, false, 1238), ((13, 134), 115, false, 807), ((13, 137), 179, false, 1255), ((13, 138), 117, false, 828), ((13, 141), 182, false, 1266), ((13, 142), 118, false, 840), ((13, 145), 183, false, 1271), ((13, 146), 119, false, 868), ((13, 149), 186, false, 1283), ((13, 150), 120, false, 876), ((13, 154), 188, false, 1291)]
def am_cl : List ((Nat × Nat) × Nat × Nat) := [((2, 11), 7, 208), ((4, 24), 7, 172), ((6, 9), 7, 134), ((9, 9), 7, 237), ((11, 7), 3, 79), ((11, 16), 6, 128), ((11, 25), 4, 166), ((11, 32), 2, 202), ((11, 41), 9, 231), ((11, 48), 5, 251), ((11, 55), 8, 268), ((11, 62), 0, 282), ((11, 69), 1, 298), ((11, 80), 10, 331), ((13, 7), 11, 71), ((13, 10), 12, 900)]
def am_ki : List ((Nat × Nat) × Int × Nat) := [((11, 103), 16777216, 412), ((14, 265), 1431655765, 420), ((14, 266), 858993459, 421), ((14, 267), 252645135, 422)]
def am_kl : List ((Nat × Nat) × Nat × Nat) := [((8, 33), 1771561, 855), ((8, 44), 11, 867), ((11, 310), 349, 880), ((11, 325), 31, 885), ((12, 91), 16777215, 1037), ((12, 101), 15, 1048), ((12, 107), 23, 1049), ((12, 109), 5, 1058), ((12, 148), 6, 1134), ((12, 156), 99, 1143), ((12, 176), 2, 1176), ((12, 188), 255, 1201), ((12, 207), 97, 1222), ((12, 209), 104, 1223), ((12, 227), 7, 1236), ((12, 229), 18446744073709551615, 1237), ((12, 238), 10, 1242), ((12, 240), 39, 1243), ((12, 255), 999, 1270), ((12, 266), 31, 1304), ((12, 276), 349, 1295), ((13, 107), 4294967295, 1305)]
def am_sg : Nat × Nat × Nat := (8, 35, 856)
def am_df : List (List Value) := [[.null, .null, .null], [.null, .null, .null, .null, .int 0, .int 0, .int 0, .int 0], [.null, .null, .null, .null, .null, .int 0], [.int 0, .int 0, .null, .null, .null, .null, .null, .null, .null, .null, .null], [.null, .null, .null, .null, .null, .int 0, .int 0, .int 0, .int 0], [.null, .int 0], [.null, .null, .null, .null, .int 0], [.null], [.null, .null], [.null, .null, .int 0], [.null, .null, .null, .int 0, .int 0, .int 0, .int 0], [.null, .null, .null, .null, .null, .null, .null, .null, .null, .null, .null, .null, .int 0, .int 0], [.int 0, .null, .null, .null, .int 0, .null, .null, .null, .int 0, .null, .null, .int 0, .null, .null, .int 0, .null, .null, .int 0, .int 0, .null, .null, .int 0, .int 0, .null, .null, .null, .int 0, .int 0, .int 0, .int 0, .null, .null, .null, .null, .null, .null, .int 0, .null, .null, .null, .null, .long 0]]
def am_tc : List (List Nat) := [[2, 2, 2], [2, 2, 2, 2, 0, 0, 0, 0], [2, 2, 2, 2, 2, 0], [0, 0, 2, 2, 2, 2, 2, 2, 2, 2, 2], [2, 2, 2, 2, 2, 0, 0, 0, 0], [2, 0], [2, 2, 2, 2, 0], [2], [2, 2], [2, 2, 0], [2, 2, 2, 0, 0, 0, 1], [2, 2, 2, 2, 2, 2, 2, 2, 2, 2, 2, 2, 0, 0], [0, 2, 2, 2, 0, 2, 2, 2, 0, 2, 2, 0, 2, 2, 0, 2, 2, 0, 0, 2, 2, 0, 0, 2, 2, 2, 1, 0, 0, 0, 2, 2, 2, 2, 2, 2, 0, 2, 2, 2, 2, 3]]
/-- places of instantiable and initialized of each class, and of its lays words -/
def am_cp : List (Nat × Nat × List Nat) := [(283, 64, [291, 293, 295]), (299, 65, [314, 316, 318, 320, 322, 324, 326, 328]), (203, 60, [218, 220, 222, 224, 226, 228]), (80, 55, [104, 106, 108, 110, 112, 114, 116, 118, 120, 122, 124]), (167, 59, [183, 185, 187, 189, 191, 193, 195, 197, 199]), (252, 62, [263, 265]), (129, 56, [155, 157, 159, 161, 163]), (135, 57, [145]), (269, 63, [276, 278]), (232, 61, [244, 246, 248]), (332, 66, [349, 351, 353, 355, 357, 359, 361]), (72, 54, [379, 381, 383, 385, 387, 389, 391, 393, 395, 397, 399, 401, 403, 405]), (901, 67, [948, 950, 952, 954, 956, 958, 960, 962, 964, 966, 968, 970, 972, 974, 976, 978, 980, 982, 984, 986, 988, 990, 992, 994, 996, 998, 1000, 1002, 1004, 1006, 1008, 1010, 1012, 1014, 1016, 1018, 1020, 1022, 1024, 1026, 1028, 1030])]
