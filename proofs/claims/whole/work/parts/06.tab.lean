/-! THE TABLES OF THE ABSTRACT MACHINE ARE THE STATEMENT'S -/
theorem am_lk {α β : Type} [BEq α] [LawfulBEq α] {k : α} {v : β} : ∀ {l : List (α × β)}, l.lookup k = some v → (k, v) ∈ l
  | [], h => by simp at h
  | (a, b) :: l, h => by
    rw [List.lookup_cons] at h
    by_cases e : (k == a) = true
    · rw [e] at h
      simp only [Option.some.injEq] at h
      rw [eq_of_beq e, h]
      exact List.mem_cons_self
    · rw [Bool.eq_false_iff.mpr e] at h
      exact List.mem_cons_of_mem _ (am_lk h)
def am_cz_0 : List (Nat × List (Nat × List Instr × Nat)) := [(0, cd_Changes_init), (1, cd_Changes_least), (2, cd_Changes_weighBelow), (3, cd_Changes_addToAbove), (4, cd_Changes_leastOf), (5, cd_Changes_weighAll), (6, cd_Changes_weighWhole), (7, cd_Changes_sureOf), (8, cd_Deal_init), (9, cd_Deal_countWays), (10, cd_Deal_dealFrom), (11, cd_Deal_hasTwinBefore), (12, cd_Heads_init), (13, cd_Heads_add), (14, cd_Heads_stageOfAnswer), (15, cd_Heads_secondOf)]
theorem am_cw_0 : ∀ p ∈ am_cz_0, p.2.all (fun b => am_okb p.1 b.1 b.2.1 b.2.2) = true := List.forall_mem_cons.mpr ⟨ck_Changes_init, List.forall_mem_cons.mpr ⟨ck_Changes_least, List.forall_mem_cons.mpr ⟨ck_Changes_weighBelow, List.forall_mem_cons.mpr ⟨ck_Changes_addToAbove, List.forall_mem_cons.mpr ⟨ck_Changes_leastOf, List.forall_mem_cons.mpr ⟨ck_Changes_weighAll, List.forall_mem_cons.mpr ⟨ck_Changes_weighWhole, List.forall_mem_cons.mpr ⟨ck_Changes_sureOf, List.forall_mem_cons.mpr ⟨ck_Deal_init, List.forall_mem_cons.mpr ⟨ck_Deal_countWays, List.forall_mem_cons.mpr ⟨ck_Deal_dealFrom, List.forall_mem_cons.mpr ⟨ck_Deal_hasTwinBefore, List.forall_mem_cons.mpr ⟨ck_Heads_init, List.forall_mem_cons.mpr ⟨ck_Heads_add, List.forall_mem_cons.mpr ⟨ck_Heads_stageOfAnswer, List.forall_mem_cons.mpr ⟨ck_Heads_secondOf, fun _ h => absurd h List.not_mem_nil⟩⟩⟩⟩⟩⟩⟩⟩⟩⟩⟩⟩⟩⟩⟩⟩
def am_cz_1 : List (Nat × List (Nat × List Instr × Nat)) := [(16, cd_Heads_answerIn), (17, cd_Heads_unlikePairs), (18, cd_Heads_answerOf), (19, cd_Heads_answeringOther), (20, cd_Lore_init), (21, cd_Lore_addThing), (22, cd_Lore_fitAnew), (23, cd_Lore_tryOut), (24, cd_Lore_havingSense), (25, cd_Lore_traitOf), (26, cd_Lore_hasSense), (27, cd_Lore_addSense), (28, cd_Lore_addSaying), (29, cd_Lore_isOfKind), (30, cd_Lore_leastSense), (31, cd_Lore_allThings)]
theorem am_cw_1 : ∀ p ∈ am_cz_1, p.2.all (fun b => am_okb p.1 b.1 b.2.1 b.2.2) = true := List.forall_mem_cons.mpr ⟨ck_Heads_answerIn, List.forall_mem_cons.mpr ⟨ck_Heads_unlikePairs, List.forall_mem_cons.mpr ⟨ck_Heads_answerOf, List.forall_mem_cons.mpr ⟨ck_Heads_answeringOther, List.forall_mem_cons.mpr ⟨ck_Lore_init, List.forall_mem_cons.mpr ⟨ck_Lore_addThing, List.forall_mem_cons.mpr ⟨ck_Lore_fitAnew, List.forall_mem_cons.mpr ⟨ck_Lore_tryOut, List.forall_mem_cons.mpr ⟨ck_Lore_havingSense, List.forall_mem_cons.mpr ⟨ck_Lore_traitOf, List.forall_mem_cons.mpr ⟨ck_Lore_hasSense, List.forall_mem_cons.mpr ⟨ck_Lore_addSense, List.forall_mem_cons.mpr ⟨ck_Lore_addSaying, List.forall_mem_cons.mpr ⟨ck_Lore_isOfKind, List.forall_mem_cons.mpr ⟨ck_Lore_leastSense, List.forall_mem_cons.mpr ⟨ck_Lore_allThings, fun _ h => absurd h List.not_mem_nil⟩⟩⟩⟩⟩⟩⟩⟩⟩⟩⟩⟩⟩⟩⟩⟩
def am_cz_2 : List (Nat × List (Nat × List Instr × Nat)) := [(32, cd_Lore_fittingBySight), (33, cd_Lore_senseCount), (34, cd_Maker_init), (35, cd_Maker_fewest), (36, cd_Maker_gather), (37, cd_Maker_choose), (38, cd_Maker_consider), (39, cd_Page_init), (40, cd_Page_areLetters), (41, cd_Page_lettersIn), (42, cd_Page_codeAt), (43, cd_Page_append), (44, cd_Page_empty), (45, cd_Riddles_init), (46, cd_Riddles_begin), (47, cd_Riddles_append)]
theorem am_cw_2 : ∀ p ∈ am_cz_2, p.2.all (fun b => am_okb p.1 b.1 b.2.1 b.2.2) = true := List.forall_mem_cons.mpr ⟨ck_Lore_fittingBySight, List.forall_mem_cons.mpr ⟨ck_Lore_senseCount, List.forall_mem_cons.mpr ⟨ck_Maker_init, List.forall_mem_cons.mpr ⟨ck_Maker_fewest, List.forall_mem_cons.mpr ⟨ck_Maker_gather, List.forall_mem_cons.mpr ⟨ck_Maker_choose, List.forall_mem_cons.mpr ⟨ck_Maker_consider, List.forall_mem_cons.mpr ⟨ck_Page_init, List.forall_mem_cons.mpr ⟨ck_Page_areLetters, List.forall_mem_cons.mpr ⟨ck_Page_lettersIn, List.forall_mem_cons.mpr ⟨ck_Page_codeAt, List.forall_mem_cons.mpr ⟨ck_Page_append, List.forall_mem_cons.mpr ⟨ck_Page_empty, List.forall_mem_cons.mpr ⟨ck_Riddles_init, List.forall_mem_cons.mpr ⟨ck_Riddles_begin, List.forall_mem_cons.mpr ⟨ck_Riddles_append, fun _ h => absurd h List.not_mem_nil⟩⟩⟩⟩⟩⟩⟩⟩⟩⟩⟩⟩⟩⟩⟩⟩
def am_cz_3 : List (Nat × List (Nat × List Instr × Nat)) := [(48, cd_Riddles_sayingAt), (49, cd_Riddles_fitting), (50, cd_Riddles_fittingWithout), (51, cd_Riddles_turnedOnes), (52, cd_Riddles_misleadingPlace), (53, cd_Riddles_countWithout), (54, cd_Riddles_unfitCount), (55, cd_Sight_init), (56, cd_Sight_sees), (57, cd_Sight_set), (58, cd_Stakes_init), (59, cd_Stakes_put), (60, cd_Stakes_of), (61, cd_Stakes_best), (62, cd_Stakes_giveRiddle), (63, cd_Stakes_sumIn)]
theorem am_cw_3 : ∀ p ∈ am_cz_3, p.2.all (fun b => am_okb p.1 b.1 b.2.1 b.2.2) = true := List.forall_mem_cons.mpr ⟨ck_Riddles_sayingAt, List.forall_mem_cons.mpr ⟨ck_Riddles_fitting, List.forall_mem_cons.mpr ⟨ck_Riddles_fittingWithout, List.forall_mem_cons.mpr ⟨ck_Riddles_turnedOnes, List.forall_mem_cons.mpr ⟨ck_Riddles_misleadingPlace, List.forall_mem_cons.mpr ⟨ck_Riddles_countWithout, List.forall_mem_cons.mpr ⟨ck_Riddles_unfitCount, List.forall_mem_cons.mpr ⟨ck_Sight_init, List.forall_mem_cons.mpr ⟨ck_Sight_sees, List.forall_mem_cons.mpr ⟨ck_Sight_set, List.forall_mem_cons.mpr ⟨ck_Stakes_init, List.forall_mem_cons.mpr ⟨ck_Stakes_put, List.forall_mem_cons.mpr ⟨ck_Stakes_of, List.forall_mem_cons.mpr ⟨ck_Stakes_best, List.forall_mem_cons.mpr ⟨ck_Stakes_giveRiddle, List.forall_mem_cons.mpr ⟨ck_Stakes_sumIn, fun _ h => absurd h List.not_mem_nil⟩⟩⟩⟩⟩⟩⟩⟩⟩⟩⟩⟩⟩⟩⟩⟩
def am_cz_4 : List (Nat × List (Nat × List Instr × Nat)) := [(64, cd_Stakes_riddleIn), (65, cd_Tongues_init), (66, cd_Tongues_add), (67, cd_Tongues_carries), (68, cd_Tongues_lacking), (69, cd_Tongues_leastLacking), (70, cd_Tree_init), (71, cd_Tree_read), (72, cd_Tree_take), (73, cd_Tree_openNode), (74, cd_Tree_beginNode), (75, cd_Tree_landNode), (76, cd_Tree_awaitNext), (77, cd_Tree_closeNode), (78, cd_Tree_isWhole), (79, cd_X_init)]
theorem am_cw_4 : ∀ p ∈ am_cz_4, p.2.all (fun b => am_okb p.1 b.1 b.2.1 b.2.2) = true := List.forall_mem_cons.mpr ⟨ck_Stakes_riddleIn, List.forall_mem_cons.mpr ⟨ck_Tongues_init, List.forall_mem_cons.mpr ⟨ck_Tongues_add, List.forall_mem_cons.mpr ⟨ck_Tongues_carries, List.forall_mem_cons.mpr ⟨ck_Tongues_lacking, List.forall_mem_cons.mpr ⟨ck_Tongues_leastLacking, List.forall_mem_cons.mpr ⟨ck_Tree_init, List.forall_mem_cons.mpr ⟨ck_Tree_read, List.forall_mem_cons.mpr ⟨ck_Tree_take, List.forall_mem_cons.mpr ⟨ck_Tree_openNode, List.forall_mem_cons.mpr ⟨ck_Tree_beginNode, List.forall_mem_cons.mpr ⟨ck_Tree_landNode, List.forall_mem_cons.mpr ⟨ck_Tree_awaitNext, List.forall_mem_cons.mpr ⟨ck_Tree_closeNode, List.forall_mem_cons.mpr ⟨ck_Tree_isWhole, List.forall_mem_cons.mpr ⟨ck_X_init, fun _ h => absurd h List.not_mem_nil⟩⟩⟩⟩⟩⟩⟩⟩⟩⟩⟩⟩⟩⟩⟩⟩
def am_cz_5 : List (Nat × List (Nat × List Instr × Nat)) := [(80, cd_X_thing), (81, cd_X_sense), (82, cd_X_isWord), (83, cd_X_senseOf), (84, cd_X_saying), (85, cd_X_isKind), (86, cd_X_as), (87, cd_X_isSaying), (88, cd_X_fits), (89, cd_X_isThing), (90, cd_X_riddle), (91, cd_X_more), (92, cd_X_isRiddle), (93, cd_X_said), (94, cd_X_answers), (95, cd_X_turns)]
theorem am_cw_5 : ∀ p ∈ am_cz_5, p.2.all (fun b => am_okb p.1 b.1 b.2.1 b.2.2) = true := List.forall_mem_cons.mpr ⟨ck_X_thing, List.forall_mem_cons.mpr ⟨ck_X_sense, List.forall_mem_cons.mpr ⟨ck_X_isWord, List.forall_mem_cons.mpr ⟨ck_X_senseOf, List.forall_mem_cons.mpr ⟨ck_X_saying, List.forall_mem_cons.mpr ⟨ck_X_isKind, List.forall_mem_cons.mpr ⟨ck_X_as, List.forall_mem_cons.mpr ⟨ck_X_isSaying, List.forall_mem_cons.mpr ⟨ck_X_fits, List.forall_mem_cons.mpr ⟨ck_X_isThing, List.forall_mem_cons.mpr ⟨ck_X_riddle, List.forall_mem_cons.mpr ⟨ck_X_more, List.forall_mem_cons.mpr ⟨ck_X_isRiddle, List.forall_mem_cons.mpr ⟨ck_X_said, List.forall_mem_cons.mpr ⟨ck_X_answers, List.forall_mem_cons.mpr ⟨ck_X_turns, fun _ h => absurd h List.not_mem_nil⟩⟩⟩⟩⟩⟩⟩⟩⟩⟩⟩⟩⟩⟩⟩⟩
def am_cz_6 : List (Nat × List (Nat × List Instr × Nat)) := [(96, cd_X_judge), (97, cd_X_astray), (98, cd_X_made), (99, cd_X_head), (100, cd_X_hears), (101, cd_X_isHead), (102, cd_X_parts), (103, cd_X_blind), (104, cd_X_tongue), (105, cd_X_lack), (106, cd_X_isTongue), (107, cd_X_goes), (108, cd_X_nearest), (109, cd_X_letters), (110, cd_X_blank), (111, cd_X_fault)]
theorem am_cw_6 : ∀ p ∈ am_cz_6, p.2.all (fun b => am_okb p.1 b.1 b.2.1 b.2.2) = true := List.forall_mem_cons.mpr ⟨ck_X_judge, List.forall_mem_cons.mpr ⟨ck_X_astray, List.forall_mem_cons.mpr ⟨ck_X_made, List.forall_mem_cons.mpr ⟨ck_X_head, List.forall_mem_cons.mpr ⟨ck_X_hears, List.forall_mem_cons.mpr ⟨ck_X_isHead, List.forall_mem_cons.mpr ⟨ck_X_parts, List.forall_mem_cons.mpr ⟨ck_X_blind, List.forall_mem_cons.mpr ⟨ck_X_tongue, List.forall_mem_cons.mpr ⟨ck_X_lack, List.forall_mem_cons.mpr ⟨ck_X_isTongue, List.forall_mem_cons.mpr ⟨ck_X_goes, List.forall_mem_cons.mpr ⟨ck_X_nearest, List.forall_mem_cons.mpr ⟨ck_X_letters, List.forall_mem_cons.mpr ⟨ck_X_blank, List.forall_mem_cons.mpr ⟨ck_X_fault, fun _ h => absurd h List.not_mem_nil⟩⟩⟩⟩⟩⟩⟩⟩⟩⟩⟩⟩⟩⟩⟩⟩
def am_cz_7 : List (Nat × List (Nat × List Instr × Nat)) := [(112, cd_X_tree), (113, cd_X_variant), (114, cd_X_changes), (115, cd_X_chance), (116, cd_X_greatestDivisor), (117, cd_X_stake), (118, cd_X_whom), (119, cd_X_count), (120, cd_X_digest), (121, cd_X_digestLore), (122, cd_X_digestRiddles), (123, cd_X_digestTongues), (124, cd_X_digestLands), (125, cd_M_init), (126, cd_M_thing), (127, cd_M_in)]
theorem am_cw_7 : ∀ p ∈ am_cz_7, p.2.all (fun b => am_okb p.1 b.1 b.2.1 b.2.2) = true := List.forall_mem_cons.mpr ⟨ck_X_tree, List.forall_mem_cons.mpr ⟨ck_X_variant, List.forall_mem_cons.mpr ⟨ck_X_changes, List.forall_mem_cons.mpr ⟨ck_X_chance, List.forall_mem_cons.mpr ⟨ck_X_greatestDivisor, List.forall_mem_cons.mpr ⟨ck_X_stake, List.forall_mem_cons.mpr ⟨ck_X_whom, List.forall_mem_cons.mpr ⟨ck_X_count, List.forall_mem_cons.mpr ⟨ck_X_digest, List.forall_mem_cons.mpr ⟨ck_X_digestLore, List.forall_mem_cons.mpr ⟨ck_X_digestRiddles, List.forall_mem_cons.mpr ⟨ck_X_digestTongues, List.forall_mem_cons.mpr ⟨ck_X_digestLands, List.forall_mem_cons.mpr ⟨ck_M_init, List.forall_mem_cons.mpr ⟨ck_M_thing, List.forall_mem_cons.mpr ⟨ck_M_in, fun _ h => absurd h List.not_mem_nil⟩⟩⟩⟩⟩⟩⟩⟩⟩⟩⟩⟩⟩⟩⟩⟩
def am_cz_8 : List (Nat × List (Nat × List Instr × Nat)) := [(128, cd_M_sense), (129, cd_M_isWord), (130, cd_M_senseOf), (131, cd_M_saying), (132, cd_M_as), (133, cd_M_isSaying), (134, cd_M_fits), (135, cd_M_isThing), (136, cd_M_by), (137, cd_M_bitsOf), (138, cd_M_has), (139, cd_M_riddle), (140, cd_M_more), (141, cd_M_isRiddle), (142, cd_M_said), (143, cd_M_answers)]
theorem am_cw_8 : ∀ p ∈ am_cz_8, p.2.all (fun b => am_okb p.1 b.1 b.2.1 b.2.2) = true := List.forall_mem_cons.mpr ⟨ck_M_sense, List.forall_mem_cons.mpr ⟨ck_M_isWord, List.forall_mem_cons.mpr ⟨ck_M_senseOf, List.forall_mem_cons.mpr ⟨ck_M_saying, List.forall_mem_cons.mpr ⟨ck_M_as, List.forall_mem_cons.mpr ⟨ck_M_isSaying, List.forall_mem_cons.mpr ⟨ck_M_fits, List.forall_mem_cons.mpr ⟨ck_M_isThing, List.forall_mem_cons.mpr ⟨ck_M_by, List.forall_mem_cons.mpr ⟨ck_M_bitsOf, List.forall_mem_cons.mpr ⟨ck_M_has, List.forall_mem_cons.mpr ⟨ck_M_riddle, List.forall_mem_cons.mpr ⟨ck_M_more, List.forall_mem_cons.mpr ⟨ck_M_isRiddle, List.forall_mem_cons.mpr ⟨ck_M_said, List.forall_mem_cons.mpr ⟨ck_M_answers, fun _ h => absurd h List.not_mem_nil⟩⟩⟩⟩⟩⟩⟩⟩⟩⟩⟩⟩⟩⟩⟩⟩
def am_cz_9 : List (Nat × List (Nat × List Instr × Nat)) := [(144, cd_M_answersOf), (145, cd_M_answersBy), (146, cd_M_turns), (147, cd_M_turnsOf), (148, cd_M_judge), (149, cd_M_astray), (150, cd_M_made), (151, cd_M_bestOf), (152, cd_M_head), (153, cd_M_hears), (154, cd_M_isHead), (155, cd_M_hearsOf), (156, cd_M_parts), (157, cd_M_blind), (158, cd_M_tongue), (159, cd_M_lack)]
theorem am_cw_9 : ∀ p ∈ am_cz_9, p.2.all (fun b => am_okb p.1 b.1 b.2.1 b.2.2) = true := List.forall_mem_cons.mpr ⟨ck_M_answersOf, List.forall_mem_cons.mpr ⟨ck_M_answersBy, List.forall_mem_cons.mpr ⟨ck_M_turns, List.forall_mem_cons.mpr ⟨ck_M_turnsOf, List.forall_mem_cons.mpr ⟨ck_M_judge, List.forall_mem_cons.mpr ⟨ck_M_astray, List.forall_mem_cons.mpr ⟨ck_M_made, List.forall_mem_cons.mpr ⟨ck_M_bestOf, List.forall_mem_cons.mpr ⟨ck_M_head, List.forall_mem_cons.mpr ⟨ck_M_hears, List.forall_mem_cons.mpr ⟨ck_M_isHead, List.forall_mem_cons.mpr ⟨ck_M_hearsOf, List.forall_mem_cons.mpr ⟨ck_M_parts, List.forall_mem_cons.mpr ⟨ck_M_blind, List.forall_mem_cons.mpr ⟨ck_M_tongue, List.forall_mem_cons.mpr ⟨ck_M_lack, fun _ h => absurd h List.not_mem_nil⟩⟩⟩⟩⟩⟩⟩⟩⟩⟩⟩⟩⟩⟩⟩⟩
def am_cz_10 : List (Nat × List (Nat × List Instr × Nat)) := [(160, cd_M_isTongue), (161, cd_M_goes), (162, cd_M_lacksOf), (163, cd_M_byIn), (164, cd_M_goesOf), (165, cd_M_nearest), (166, cd_M_letters), (167, cd_M_blank), (168, cd_M_fault), (169, cd_M_faultOf), (170, cd_M_go), (171, cd_M_addNode), (172, cd_M_endNode), (173, cd_M_tree), (174, cd_M_variant), (175, cd_M_changes)]
theorem am_cw_10 : ∀ p ∈ am_cz_10, p.2.all (fun b => am_okb p.1 b.1 b.2.1 b.2.2) = true := List.forall_mem_cons.mpr ⟨ck_M_isTongue, List.forall_mem_cons.mpr ⟨ck_M_goes, List.forall_mem_cons.mpr ⟨ck_M_lacksOf, List.forall_mem_cons.mpr ⟨ck_M_byIn, List.forall_mem_cons.mpr ⟨ck_M_goesOf, List.forall_mem_cons.mpr ⟨ck_M_nearest, List.forall_mem_cons.mpr ⟨ck_M_letters, List.forall_mem_cons.mpr ⟨ck_M_blank, List.forall_mem_cons.mpr ⟨ck_M_fault, List.forall_mem_cons.mpr ⟨ck_M_faultOf, List.forall_mem_cons.mpr ⟨ck_M_go, List.forall_mem_cons.mpr ⟨ck_M_addNode, List.forall_mem_cons.mpr ⟨ck_M_endNode, List.forall_mem_cons.mpr ⟨ck_M_tree, List.forall_mem_cons.mpr ⟨ck_M_variant, List.forall_mem_cons.mpr ⟨ck_M_changes, fun _ h => absurd h List.not_mem_nil⟩⟩⟩⟩⟩⟩⟩⟩⟩⟩⟩⟩⟩⟩⟩⟩
def am_cz_11 : List (Nat × List (Nat × List Instr × Nat)) := [(176, cd_M_leastChanges), (177, cd_M_leastOf), (178, cd_M_sureOf), (179, cd_M_chance), (180, cd_M_deal), (181, cd_M_common), (182, cd_M_stake), (183, cd_M_whom), (184, cd_M_layBrings), (185, cd_M_chosen), (186, cd_M_count), (187, cd_M_countOf), (188, cd_M_digest), (189, cd_M_tellSaid), (190, cd_M_tell), (191, cd_Arrays_fill)]
theorem am_cw_11 : ∀ p ∈ am_cz_11, p.2.all (fun b => am_okb p.1 b.1 b.2.1 b.2.2) = true := List.forall_mem_cons.mpr ⟨ck_M_leastChanges, List.forall_mem_cons.mpr ⟨ck_M_leastOf, List.forall_mem_cons.mpr ⟨ck_M_sureOf, List.forall_mem_cons.mpr ⟨ck_M_chance, List.forall_mem_cons.mpr ⟨ck_M_deal, List.forall_mem_cons.mpr ⟨ck_M_common, List.forall_mem_cons.mpr ⟨ck_M_stake, List.forall_mem_cons.mpr ⟨ck_M_whom, List.forall_mem_cons.mpr ⟨ck_M_layBrings, List.forall_mem_cons.mpr ⟨ck_M_chosen, List.forall_mem_cons.mpr ⟨ck_M_count, List.forall_mem_cons.mpr ⟨ck_M_countOf, List.forall_mem_cons.mpr ⟨ck_M_digest, List.forall_mem_cons.mpr ⟨ck_M_tellSaid, List.forall_mem_cons.mpr ⟨ck_M_tell, List.forall_mem_cons.mpr ⟨ck_Arrays_fill, fun _ h => absurd h List.not_mem_nil⟩⟩⟩⟩⟩⟩⟩⟩⟩⟩⟩⟩⟩⟩⟩⟩
def am_cz_12 : List (Nat × List (Nat × List Instr × Nat)) := [(192, cd_Integer_bitCount), (193, cd_Arrays_fill_L), (194, cd_Law_law)]
theorem am_cw_12 : ∀ p ∈ am_cz_12, p.2.all (fun b => am_okb p.1 b.1 b.2.1 b.2.2) = true := List.forall_mem_cons.mpr ⟨ck_Integer_bitCount, List.forall_mem_cons.mpr ⟨ck_Arrays_fill_L, List.forall_mem_cons.mpr ⟨ck_Law_law, fun _ h => absurd h List.not_mem_nil⟩⟩⟩
def am_cz : List (Nat × List (Nat × List Instr × Nat)) := am_cz_0 ++ (am_cz_1 ++ (am_cz_2 ++ (am_cz_3 ++ (am_cz_4 ++ (am_cz_5 ++ (am_cz_6 ++ (am_cz_7 ++ (am_cz_8 ++ (am_cz_9 ++ (am_cz_10 ++ (am_cz_11 ++ (am_cz_12))))))))))))
theorem am_cw : ∀ p ∈ am_cz, p.2.all (fun b => am_okb p.1 b.1 b.2.1 b.2.2) = true := by
  intro p h
  simp only [am_cz, List.mem_append] at h
  rcases h with h | h | h | h | h | h | h | h | h | h | h | h | h
  · exact am_cw_0 p h
  · exact am_cw_1 p h
  · exact am_cw_2 p h
  · exact am_cw_3 p h
  · exact am_cw_4 p h
  · exact am_cw_5 p h
  · exact am_cw_6 p h
  · exact am_cw_7 p h
  · exact am_cw_8 p h
  · exact am_cw_9 p h
  · exact am_cw_10 p h
  · exact am_cw_11 p h
  · exact am_cw_12 p h
theorem am_cz1 : am_cz.map (fun p => p.1) = List.range 195 := by decide +kernel
set_option maxRecDepth 100000 in
theorem am_cz2 : am_cz.map (fun p => p.2) = am_cds := rfl
theorem am_code_ok {y pc nx : Nat} {is : List Instr} (h : am_blk y pc = some (is, nx)) : am_okb y pc is nx = true ∧ y < 195 := by
  have h1 := am_lk h
  by_cases hy : y < 195
  · refine ⟨?_, hy⟩
    have hl : am_cz.length = 195 := by rw [← List.length_map (f := fun p => p.1), am_cz1, List.length_range]
    have hy2 : y < am_cz.length := by omega
    have e1 : am_cz[y].1 = y := by
      have : (am_cz.map (fun p => p.1))[y]'(by simpa using hy2) = y := by simp only [am_cz1, List.getElem_range]
      simpa using this
    have e2 : am_cds.getD y [] = am_cz[y].2 := by
      rw [← am_cz2, List.getD_eq_getElem?_getD, List.getElem?_map, List.getElem?_eq_getElem hy2]
      rfl
    have h2 := am_cw am_cz[y] (List.getElem_mem hy2)
    rw [e1, ← e2] at h2
    exact List.all_eq_true.mp h2 _ h1
  · have : am_cds.getD y [] = [] := by
      rw [List.getD_eq_getElem?_getD, List.getElem?_eq_none]
      · rfl
      · rw [← am_cz2, List.length_map, ← List.length_map (f := fun p => p.1), am_cz1, List.length_range]; omega
    rw [this] at h1
    cases h1
def am_nest : Cond → Bool
  | .fieldLinkNest .. | .methodLinkNest .. => true
  | _ => false
def am_tyf (ci : Nat) : Nat → FieldType := match ci with
  | 0 => tyX0
  | 1 => tyX1
  | 2 => tyX2
  | 3 => tyX3
  | 4 => tyX4
  | 5 => tyX5
  | 6 => tyX6
  | 7 => tyX7
  | 8 => tyX8
  | 9 => tyX9
  | 10 => tyX10
  | 11 => tyX11
  | _ => tyX12
def am_tcd (t : FieldType) : Nat := match t with
  | .int => 0
  | .boolean => 1
  | .object _ => 2
  | .array _ => 2
  | .long => 3
  | _ => 5
def am_ckf (e : (Nat × Nat) × Nat × Nat × Nat × Bool × Nat) : Bool := match vwCl[e.2.1]? with
  | some r => decide (e.2.2.1 < r.2.2) && decide (e.2.2.1 < 64) && decide (e.2.1 < 64) && decide ((r.2.1 e.2.2.1).1 = r.1) && (am_tcd (am_tyf e.2.1 e.2.2.1) == e.2.2.2.1) && decide (e.2.2.2.1 < 5) &&
    decide (lw_tbl[e.2.2.2.2.2]? = some (if e.2.2.2.2.1 = true then .fieldLinkNest (am_nm e.1.1) e.1.2 r.1 (r.2.1 e.2.2.1).2.1 (r.2.1 e.2.2.1).2.2.1 "MouthRiddles" else .fieldLink (am_nm e.1.1) e.1.2 r.1 (r.2.1 e.2.2.1).2.1 (r.2.1 e.2.2.1).2.2.1))
  | none => false
set_option maxRecDepth 100000 in
theorem am_fl_ok : am_fl.all am_ckf = true := by decide +kernel
def am_ckm (e : (Nat × Nat) × Nat × Bool × Nat) : Bool := decide (lw_tbl[e.2.2.2]? = some (if e.2.2.1 = true then .methodLinkNest (am_nm e.1.1) e.1.2 (am_y e.2.1) "MouthRiddles" else .methodLink (am_nm e.1.1) e.1.2 (if e.2.1 = 1000 then objectInit else if e.2.1 = 1001 then arraycopyName else if e.2.1 = 1002 then Lib.Math.min.name else if e.2.1 = 1003 then Lib.Math.max.name else if e.2.1 = 1004 then Lib.MathLoose.max_long.x else am_y e.2.1))) && decide (e.2.1 < 194 ∨ e.2.1 = 1000 ∨ e.2.1 = 1001 ∨ e.2.1 = 1002 ∨ e.2.1 = 1003 ∨ e.2.1 = 1004)
set_option maxRecDepth 100000 in
theorem am_ml_ok : am_ml.all am_ckm = true := by decide +kernel
def am_ckq (q : Nat) : Bool :=
  decide ((am_y q).cls = am_nm (am_oc q)) && decide (am_nl q ≤ 40) && plainName (am_y q).cls && decide ((am_y q).cls ≠ "java/lang/invoke/MethodHandle" ∧ (am_y q).cls ≠ "java/lang/invoke/VarHandle") &&
  decide (lw_tbl[(am_pl.getD q (0, 0, 0, 0)).1]? = some (.code (am_y q) (am_by q) (am_nl q) (am_rt q))) &&
  decide (lw_tbl[(am_pl.getD q (0, 0, 0, 0)).2.2.2]? = some (.initialized (am_y q).cls)) &&
  (if (am_m q).2.2.2 = 99 then decide (lw_tbl[(am_pl.getD q (0, 0, 0, 0)).2.1]? = some (.static (am_y q))) && decide ((parseMethodDescriptor (am_y q).desc).map (fun d => d.parameters.length) = some (am_m q).2.1)
   else decide (lw_tbl[(am_pl.getD q (0, 0, 0, 0)).2.1]? = some (.instanceMethod (am_y q))) && decide ((parseMethodDescriptor (am_y q).desc).map (fun d => d.parameters.length + 1) = some (am_m q).2.1) &&
     (match vwCl[(am_m q).2.2.2]? with
      | some r => decide (r.1 = (am_y q).cls)
      | none => false) &&
     (if (am_y q).name = "<init>" then decide (am_rt q = none) else decide (lw_tbl[(am_pl.getD q (0, 0, 0, 0)).2.2.1]? = some (.selects (am_y q).cls (am_y q) (am_y q)))))
set_option maxRecDepth 100000 in
theorem am_q_0 : ((List.range 12).drop 0).all am_ckq = true := by decide +kernel
set_option maxRecDepth 100000 in
theorem am_q_12 : ((List.range 24).drop 12).all am_ckq = true := by decide +kernel
set_option maxRecDepth 100000 in
theorem am_q_24 : ((List.range 36).drop 24).all am_ckq = true := by decide +kernel
set_option maxRecDepth 100000 in
theorem am_q_36 : ((List.range 48).drop 36).all am_ckq = true := by decide +kernel
set_option maxRecDepth 100000 in
theorem am_q_48 : ((List.range 60).drop 48).all am_ckq = true := by decide +kernel
set_option maxRecDepth 100000 in
theorem am_q_60 : ((List.range 72).drop 60).all am_ckq = true := by decide +kernel
set_option maxRecDepth 100000 in
theorem am_q_72 : ((List.range 84).drop 72).all am_ckq = true := by decide +kernel
set_option maxRecDepth 100000 in
theorem am_q_84 : ((List.range 96).drop 84).all am_ckq = true := by decide +kernel
set_option maxRecDepth 100000 in
theorem am_q_96 : ((List.range 108).drop 96).all am_ckq = true := by decide +kernel
set_option maxRecDepth 100000 in
theorem am_q_108 : ((List.range 120).drop 108).all am_ckq = true := by decide +kernel
set_option maxRecDepth 100000 in
theorem am_q_120 : ((List.range 132).drop 120).all am_ckq = true := by decide +kernel
set_option maxRecDepth 100000 in
theorem am_q_132 : ((List.range 144).drop 132).all am_ckq = true := by decide +kernel
set_option maxRecDepth 100000 in
theorem am_q_144 : ((List.range 156).drop 144).all am_ckq = true := by decide +kernel
set_option maxRecDepth 100000 in
theorem am_q_156 : ((List.range 168).drop 156).all am_ckq = true := by decide +kernel
set_option maxRecDepth 100000 in
theorem am_q_168 : ((List.range 180).drop 168).all am_ckq = true := by decide +kernel
set_option maxRecDepth 100000 in
theorem am_q_180 : ((List.range 192).drop 180).all am_ckq = true := by decide +kernel
set_option maxRecDepth 100000 in
theorem am_q_192 : ((List.range 194).drop 192).all am_ckq = true := by decide +kernel
theorem am_q_ok {q : Nat} (h : q < 194) : am_ckq q = true := by
  by_cases h0 : q < 12
  · exact List.all_eq_true.mp am_q_0 q (by rw [List.mem_drop_iff_getElem]; exact ⟨q - 0, by simp <;> omega, by simp <;> omega⟩)
  by_cases h12 : q < 24
  · exact List.all_eq_true.mp am_q_12 q (by rw [List.mem_drop_iff_getElem]; exact ⟨q - 12, by simp <;> omega, by simp <;> omega⟩)
  by_cases h24 : q < 36
  · exact List.all_eq_true.mp am_q_24 q (by rw [List.mem_drop_iff_getElem]; exact ⟨q - 24, by simp <;> omega, by simp <;> omega⟩)
  by_cases h36 : q < 48
  · exact List.all_eq_true.mp am_q_36 q (by rw [List.mem_drop_iff_getElem]; exact ⟨q - 36, by simp <;> omega, by simp <;> omega⟩)
  by_cases h48 : q < 60
  · exact List.all_eq_true.mp am_q_48 q (by rw [List.mem_drop_iff_getElem]; exact ⟨q - 48, by simp <;> omega, by simp <;> omega⟩)
  by_cases h60 : q < 72
  · exact List.all_eq_true.mp am_q_60 q (by rw [List.mem_drop_iff_getElem]; exact ⟨q - 60, by simp <;> omega, by simp <;> omega⟩)
  by_cases h72 : q < 84
  · exact List.all_eq_true.mp am_q_72 q (by rw [List.mem_drop_iff_getElem]; exact ⟨q - 72, by simp <;> omega, by simp <;> omega⟩)
  by_cases h84 : q < 96
  · exact List.all_eq_true.mp am_q_84 q (by rw [List.mem_drop_iff_getElem]; exact ⟨q - 84, by simp <;> omega, by simp <;> omega⟩)
  by_cases h96 : q < 108
  · exact List.all_eq_true.mp am_q_96 q (by rw [List.mem_drop_iff_getElem]; exact ⟨q - 96, by simp <;> omega, by simp <;> omega⟩)
  by_cases h108 : q < 120
  · exact List.all_eq_true.mp am_q_108 q (by rw [List.mem_drop_iff_getElem]; exact ⟨q - 108, by simp <;> omega, by simp <;> omega⟩)
  by_cases h120 : q < 132
  · exact List.all_eq_true.mp am_q_120 q (by rw [List.mem_drop_iff_getElem]; exact ⟨q - 120, by simp <;> omega, by simp <;> omega⟩)
  by_cases h132 : q < 144
  · exact List.all_eq_true.mp am_q_132 q (by rw [List.mem_drop_iff_getElem]; exact ⟨q - 132, by simp <;> omega, by simp <;> omega⟩)
  by_cases h144 : q < 156
  · exact List.all_eq_true.mp am_q_144 q (by rw [List.mem_drop_iff_getElem]; exact ⟨q - 144, by simp <;> omega, by simp <;> omega⟩)
  by_cases h156 : q < 168
  · exact List.all_eq_true.mp am_q_156 q (by rw [List.mem_drop_iff_getElem]; exact ⟨q - 156, by simp <;> omega, by simp <;> omega⟩)
  by_cases h168 : q < 180
  · exact List.all_eq_true.mp am_q_168 q (by rw [List.mem_drop_iff_getElem]; exact ⟨q - 168, by simp <;> omega, by simp <;> omega⟩)
  by_cases h180 : q < 192
  · exact List.all_eq_true.mp am_q_180 q (by rw [List.mem_drop_iff_getElem]; exact ⟨q - 180, by simp <;> omega, by simp <;> omega⟩)
  by_cases h192 : q < 194
  · exact List.all_eq_true.mp am_q_192 q (by rw [List.mem_drop_iff_getElem]; exact ⟨q - 192, by simp <;> omega, by simp <;> omega⟩)
  omega
def am_ckc (ci : Nat) : Bool := match vwCl[ci]? with
  | some r => decide (lw_tbl[(am_cp.getD ci (0, 0, [])).1]? = some (.instantiable r.1 r.2.2)) && decide (lw_tbl[(am_cp.getD ci (0, 0, [])).2.1]? = some (.initialized r.1)) &&
    decide (u_ws r.1 r.2.1 r.2.2 = (am_cp.getD ci (0, 0, [])).2.2.filterMap (fun i => lw_tbl[i]?)) && decide ((am_df.getD ci []).length = r.2.2) && (List.range r.2.2).all (fun j => decide (defaultValue (am_tyf ci j) = vp_V (am_df.getD ci []) j))
  | none => false
set_option maxRecDepth 100000 in
theorem am_c_ok : (List.range 13).all am_ckc = true := by decide +kernel
def am_ckl (e : (Nat × Nat) × Nat × Nat) : Bool := match vwCl[e.2.1]? with
  | some r => decide (lw_tbl[e.2.2]? = some (.classLink (am_nm e.1.1) e.1.2 r.1)) && decide (e.2.1 < 13)
  | none => false
set_option maxRecDepth 100000 in
theorem am_cl_ok : am_cl.all am_ckl = true := by decide +kernel
set_option maxRecDepth 100000 in
theorem am_ki_ok : am_ki.all (fun e => decide (lw_tbl[e.2.2]? = some (.constant (am_nm e.1.1) e.1.2 (Int32.ofInt e.2.1)))) = true := by decide +kernel
set_option maxRecDepth 100000 in
theorem am_kl_ok : am_kl.all (fun e => decide (lw_tbl[e.2.2]? = some (.constantLong (am_nm e.1.1) e.1.2 (Int64.ofNat e.2.1)))) = true := by decide +kernel
set_option maxRecDepth 100000 in
theorem am_sg_ok : lw_tbl[am_sg.2.2]? = some (.fieldLink (am_nm am_sg.1) am_sg.2.1 "MouthRiddles$Stakes" "HEAD_PLACES" "[J") := by decide +kernel
set_option maxRecDepth 100000 in
theorem am_w_oi : (Cond.instanceMethod objectInit) ∈ lw_tbl := by decide +kernel
set_option maxRecDepth 100000 in
theorem am_w_oc : (Cond.code objectInit ⟨#[0xb1]⟩ 1 none) ∈ lw_tbl := by decide +kernel
set_option maxRecDepth 100000 in
theorem am_w_an : (Cond.native arraycopyName) ∈ lw_tbl := by decide +kernel
set_option maxRecDepth 100000 in
theorem am_w_as : (Cond.static arraycopyName) ∈ lw_tbl := by decide +kernel
set_option maxRecDepth 100000 in
theorem am_w_ai : (Cond.initialized "java/lang/System") ∈ lw_tbl := by decide +kernel
set_option maxRecDepth 100000 in
theorem am_w_mi : (Cond.initialized "java/lang/Math") ∈ lw_tbl := by decide +kernel
set_option maxRecDepth 100000 in
theorem am_w_m1 : (Cond.static Lib.Math.min.name) ∈ lw_tbl := by decide +kernel
set_option maxRecDepth 100000 in
theorem am_w_m2 : (Cond.static Lib.Math.max.name) ∈ lw_tbl := by decide +kernel
set_option maxRecDepth 100000 in
theorem am_w_m3 : (Cond.static Lib.MathLoose.max_long.x) ∈ lw_tbl := by decide +kernel
set_option maxRecDepth 100000 in
theorem am_w_n1 : (Cond.code Lib.Math.min.name Lib.Math.min.code 2 (some .int)) ∈ lw_tbl := by decide +kernel
set_option maxRecDepth 100000 in
theorem am_w_n2 : (Cond.code Lib.Math.max.name Lib.Math.max.code 2 (some .int)) ∈ lw_tbl := by decide +kernel
set_option maxRecDepth 100000 in
theorem am_w_n3 : (Cond.code Lib.MathLoose.max_long.x Lib.MathLoose.max_long.code 4 (some .long)) ∈ lw_tbl := by decide +kernel
set_option maxRecDepth 100000 in
theorem am_w_ci : (Cond.arrayClass .int) ∈ lw_tbl := by decide +kernel
set_option maxRecDepth 100000 in
theorem am_w_cj : (Cond.arrayClass .long) ∈ lw_tbl := by decide +kernel
set_option maxRecDepth 100000 in
theorem am_w_ca : (Cond.arrayOver (.object "MouthRiddles$Sight")) ∈ lw_tbl := by decide +kernel
theorem am_tyf_ok : ∀ (ci : Nat) (r : vw_C), vwCl[ci]? = some r → ∀ k, k < r.2.2 → parseFieldDescriptor (r.2.1 k).2.2.1 = some (am_tyf ci k)
  | 0, r, h => by cases h; exact tyX0_ok
  | 1, r, h => by cases h; exact tyX1_ok
  | 2, r, h => by cases h; exact tyX2_ok
  | 3, r, h => by cases h; exact tyX3_ok
  | 4, r, h => by cases h; exact tyX4_ok
  | 5, r, h => by cases h; exact tyX5_ok
  | 6, r, h => by cases h; exact tyX6_ok
  | 7, r, h => by cases h; exact tyX7_ok
  | 8, r, h => by cases h; exact tyX8_ok
  | 9, r, h => by cases h; exact tyX9_ok
  | 10, r, h => by cases h; exact tyX10_ok
  | 11, r, h => by cases h; exact tyX11_ok
  | 12, r, h => by cases h; exact tyX12_ok
  | n + 13, r, h => by simp [vwCl] at h
theorem am_nmf_ok : ∀ (ci : Nat) (r : vw_C), vwCl[ci]? = some r → ∀ a, a < r.2.2 → ∀ b, b < r.2.2 → a ≠ b → (r.2.1 a).2.1 ≠ (r.2.1 b).2.1
  | 0, r, h => by cases h; exact nmX0
  | 1, r, h => by cases h; exact nmX1
  | 2, r, h => by cases h; exact nmX2
  | 3, r, h => by cases h; exact nmX3
  | 4, r, h => by cases h; exact nmX4
  | 5, r, h => by cases h; exact nmX5
  | 6, r, h => by cases h; exact nmX6
  | 7, r, h => by cases h; exact nmX7
  | 8, r, h => by cases h; exact nmX8
  | 9, r, h => by cases h; exact nmX9
  | 10, r, h => by cases h; exact nmX10
  | 11, r, h => by cases h; exact nmX11
  | 12, r, h => by cases h; exact nmX12
  | n + 13, r, h => by simp [vwCl] at h
