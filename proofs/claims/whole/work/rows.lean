section
-- ===== PART A: goes FIRST, ahead of the names: the tables' words, and 'selects' of the private methods out of them =====
/-- a private method of a class that the tables say can be made, by its rows of tables_1 -/
def lw_okq (q : MethodName × Nat) : Prop := (q.1.cls ≠ "java/lang/invoke/MethodHandle" ∧ q.1.cls ≠ "java/lang/invoke/VarHandle") ∧ Cond.instantiable q.1.cls q.2 ∈ tables_1 ∧ Cond.privateMethod q.1 ∈ tables_1 ∧ Cond.instanceMethod q.1 ∈ tables_1
theorem lw_p0 : lw_okq (⟨"MouthRiddles$Lore", "fitAnew", "()V"⟩, 11) := ⟨⟨by decide +kernel, by decide +kernel⟩, List.mem_of_getElem? (i := 27) (by decide +kernel), List.mem_of_getElem? (i := 371) (by decide +kernel), List.mem_of_getElem? (i := 372) (by decide +kernel)⟩
theorem lw_p1 : lw_okq (⟨"MouthRiddles$Lore", "tryOut", "(II)I"⟩, 11) := ⟨⟨by decide +kernel, by decide +kernel⟩, List.mem_of_getElem? (i := 27) (by decide +kernel), List.mem_of_getElem? (i := 375) (by decide +kernel), List.mem_of_getElem? (i := 376) (by decide +kernel)⟩
theorem lw_p2 : lw_okq (⟨"MouthRiddles$Lore", "havingSense", "(II)I"⟩, 11) := ⟨⟨by decide +kernel, by decide +kernel⟩, List.mem_of_getElem? (i := 27) (by decide +kernel), List.mem_of_getElem? (i := 379) (by decide +kernel), List.mem_of_getElem? (i := 380) (by decide +kernel)⟩
theorem lw_p3 : lw_okq (⟨"MouthRiddles", "isSaying", "(I)Z"⟩, 14) := ⟨⟨by decide +kernel, by decide +kernel⟩, List.mem_of_getElem? (i := 19) (by decide +kernel), List.mem_of_getElem? (i := 422) (by decide +kernel), List.mem_of_getElem? (i := 423) (by decide +kernel)⟩
theorem lw_p4 : lw_okq (⟨"MouthRiddles", "isThing", "(I)Z"⟩, 14) := ⟨⟨by decide +kernel, by decide +kernel⟩, List.mem_of_getElem? (i := 19) (by decide +kernel), List.mem_of_getElem? (i := 434) (by decide +kernel), List.mem_of_getElem? (i := 435) (by decide +kernel)⟩
theorem lw_p5 : lw_okq (⟨"MouthRiddles", "isRiddle", "(I)Z"⟩, 14) := ⟨⟨by decide +kernel, by decide +kernel⟩, List.mem_of_getElem? (i := 19) (by decide +kernel), List.mem_of_getElem? (i := 458) (by decide +kernel), List.mem_of_getElem? (i := 459) (by decide +kernel)⟩
theorem lw_p6 : lw_okq (⟨"MouthRiddles$Maker", "gather", "(LMouthRiddles$Lore;I)V"⟩, 9) := ⟨⟨by decide +kernel, by decide +kernel⟩, List.mem_of_getElem? (i := 114) (by decide +kernel), List.mem_of_getElem? (i := 533) (by decide +kernel), List.mem_of_getElem? (i := 534) (by decide +kernel)⟩
theorem lw_p7 : lw_okq (⟨"MouthRiddles$Maker", "consider", "(II)V"⟩, 9) := ⟨⟨by decide +kernel, by decide +kernel⟩, List.mem_of_getElem? (i := 114) (by decide +kernel), List.mem_of_getElem? (i := 543) (by decide +kernel), List.mem_of_getElem? (i := 544) (by decide +kernel)⟩
theorem lw_p8 : lw_okq (⟨"MouthRiddles", "isHead", "(I)Z"⟩, 14) := ⟨⟨by decide +kernel, by decide +kernel⟩, List.mem_of_getElem? (i := 19) (by decide +kernel), List.mem_of_getElem? (i := 559) (by decide +kernel), List.mem_of_getElem? (i := 560) (by decide +kernel)⟩
theorem lw_p9 : lw_okq (⟨"MouthRiddles$Heads", "answerOf", "(II)I"⟩, 6) := ⟨⟨by decide +kernel, by decide +kernel⟩, List.mem_of_getElem? (i := 150) (by decide +kernel), List.mem_of_getElem? (i := 587) (by decide +kernel), List.mem_of_getElem? (i := 588) (by decide +kernel)⟩
theorem lw_p10 : lw_okq (⟨"MouthRiddles", "isTongue", "(I)Z"⟩, 14) := ⟨⟨by decide +kernel, by decide +kernel⟩, List.mem_of_getElem? (i := 19) (by decide +kernel), List.mem_of_getElem? (i := 612) (by decide +kernel), List.mem_of_getElem? (i := 613) (by decide +kernel)⟩
theorem lw_p11 : lw_okq (⟨"MouthRiddles$Tree", "take", "(I)Z"⟩, 7) := ⟨⟨by decide +kernel, by decide +kernel⟩, List.mem_of_getElem? (i := 279) (by decide +kernel), List.mem_of_getElem? (i := 684) (by decide +kernel), List.mem_of_getElem? (i := 685) (by decide +kernel)⟩
theorem lw_p12 : lw_okq (⟨"MouthRiddles$Tree", "openNode", "()Z"⟩, 7) := ⟨⟨by decide +kernel, by decide +kernel⟩, List.mem_of_getElem? (i := 279) (by decide +kernel), List.mem_of_getElem? (i := 688) (by decide +kernel), List.mem_of_getElem? (i := 689) (by decide +kernel)⟩
theorem lw_p13 : lw_okq (⟨"MouthRiddles$Tree", "beginNode", "(I)I"⟩, 7) := ⟨⟨by decide +kernel, by decide +kernel⟩, List.mem_of_getElem? (i := 279) (by decide +kernel), List.mem_of_getElem? (i := 692) (by decide +kernel), List.mem_of_getElem? (i := 693) (by decide +kernel)⟩
theorem lw_p14 : lw_okq (⟨"MouthRiddles$Tree", "landNode", "(I)Z"⟩, 7) := ⟨⟨by decide +kernel, by decide +kernel⟩, List.mem_of_getElem? (i := 279) (by decide +kernel), List.mem_of_getElem? (i := 696) (by decide +kernel), List.mem_of_getElem? (i := 697) (by decide +kernel)⟩
theorem lw_p15 : lw_okq (⟨"MouthRiddles$Tree", "awaitNext", "()Z"⟩, 7) := ⟨⟨by decide +kernel, by decide +kernel⟩, List.mem_of_getElem? (i := 279) (by decide +kernel), List.mem_of_getElem? (i := 700) (by decide +kernel), List.mem_of_getElem? (i := 701) (by decide +kernel)⟩
def lw_privs_1 : List (MethodName × Nat) := [(⟨"MouthRiddles$Lore", "fitAnew", "()V"⟩, 11), (⟨"MouthRiddles$Lore", "tryOut", "(II)I"⟩, 11), (⟨"MouthRiddles$Lore", "havingSense", "(II)I"⟩, 11), (⟨"MouthRiddles", "isSaying", "(I)Z"⟩, 14), (⟨"MouthRiddles", "isThing", "(I)Z"⟩, 14), (⟨"MouthRiddles", "isRiddle", "(I)Z"⟩, 14), (⟨"MouthRiddles$Maker", "gather", "(LMouthRiddles$Lore;I)V"⟩, 9), (⟨"MouthRiddles$Maker", "consider", "(II)V"⟩, 9), (⟨"MouthRiddles", "isHead", "(I)Z"⟩, 14), (⟨"MouthRiddles$Heads", "answerOf", "(II)I"⟩, 6), (⟨"MouthRiddles", "isTongue", "(I)Z"⟩, 14), (⟨"MouthRiddles$Tree", "take", "(I)Z"⟩, 7), (⟨"MouthRiddles$Tree", "openNode", "()Z"⟩, 7), (⟨"MouthRiddles$Tree", "beginNode", "(I)I"⟩, 7), (⟨"MouthRiddles$Tree", "landNode", "(I)Z"⟩, 7), (⟨"MouthRiddles$Tree", "awaitNext", "()Z"⟩, 7)]
theorem lw_r1 : ∀ q ∈ lw_privs_1, lw_okq q := List.forall_mem_cons.mpr ⟨lw_p0, List.forall_mem_cons.mpr ⟨lw_p1, List.forall_mem_cons.mpr ⟨lw_p2, List.forall_mem_cons.mpr ⟨lw_p3, List.forall_mem_cons.mpr ⟨lw_p4, List.forall_mem_cons.mpr ⟨lw_p5, List.forall_mem_cons.mpr ⟨lw_p6, List.forall_mem_cons.mpr ⟨lw_p7, List.forall_mem_cons.mpr ⟨lw_p8, List.forall_mem_cons.mpr ⟨lw_p9, List.forall_mem_cons.mpr ⟨lw_p10, List.forall_mem_cons.mpr ⟨lw_p11, List.forall_mem_cons.mpr ⟨lw_p12, List.forall_mem_cons.mpr ⟨lw_p13, List.forall_mem_cons.mpr ⟨lw_p14, List.forall_mem_cons.mpr ⟨lw_p15, fun _ h => absurd h List.not_mem_nil⟩⟩⟩⟩⟩⟩⟩⟩⟩⟩⟩⟩⟩⟩⟩⟩
theorem lw_p16 : lw_okq (⟨"MouthRiddles$Tree", "closeNode", "()Z"⟩, 7) := ⟨⟨by decide +kernel, by decide +kernel⟩, List.mem_of_getElem? (i := 279) (by decide +kernel), List.mem_of_getElem? (i := 704) (by decide +kernel), List.mem_of_getElem? (i := 705) (by decide +kernel)⟩
theorem lw_p17 : lw_okq (⟨"MouthRiddles$Changes", "weighBelow", "(LMouthRiddles$Tree;[I)V"⟩, 3) := ⟨⟨by decide +kernel, by decide +kernel⟩, List.mem_of_getElem? (i := 230) (by decide +kernel), List.mem_of_getElem? (i := 728) (by decide +kernel), List.mem_of_getElem? (i := 729) (by decide +kernel)⟩
theorem lw_p18 : lw_okq (⟨"MouthRiddles$Changes", "addToAbove", "(II)V"⟩, 3) := ⟨⟨by decide +kernel, by decide +kernel⟩, List.mem_of_getElem? (i := 230) (by decide +kernel), List.mem_of_getElem? (i := 732) (by decide +kernel), List.mem_of_getElem? (i := 733) (by decide +kernel)⟩
theorem lw_p19 : lw_okq (⟨"MouthRiddles$Changes", "weighWhole", "(II)V"⟩, 3) := ⟨⟨by decide +kernel, by decide +kernel⟩, List.mem_of_getElem? (i := 230) (by decide +kernel), List.mem_of_getElem? (i := 747) (by decide +kernel), List.mem_of_getElem? (i := 748) (by decide +kernel)⟩
theorem lw_p20 : lw_okq (⟨"MouthRiddles$Deal", "hasTwinBefore", "(I)Z"⟩, 8) := ⟨⟨by decide +kernel, by decide +kernel⟩, List.mem_of_getElem? (i := 246) (by decide +kernel), List.mem_of_getElem? (i := 769) (by decide +kernel), List.mem_of_getElem? (i := 770) (by decide +kernel)⟩
theorem lw_p21 : lw_okq (⟨"MouthRiddles$Stakes", "giveRiddle", "(III)V"⟩, 2) := ⟨⟨by decide +kernel, by decide +kernel⟩, List.mem_of_getElem? (i := 216) (by decide +kernel), List.mem_of_getElem? (i := 799) (by decide +kernel), List.mem_of_getElem? (i := 800) (by decide +kernel)⟩
theorem lw_p22 : lw_okq (⟨"MouthRiddles", "digestLore", "(J)J"⟩, 14) := ⟨⟨by decide +kernel, by decide +kernel⟩, List.mem_of_getElem? (i := 19) (by decide +kernel), List.mem_of_getElem? (i := 829) (by decide +kernel), List.mem_of_getElem? (i := 830) (by decide +kernel)⟩
theorem lw_p23 : lw_okq (⟨"MouthRiddles", "digestRiddles", "(J)J"⟩, 14) := ⟨⟨by decide +kernel, by decide +kernel⟩, List.mem_of_getElem? (i := 19) (by decide +kernel), List.mem_of_getElem? (i := 834) (by decide +kernel), List.mem_of_getElem? (i := 835) (by decide +kernel)⟩
theorem lw_p24 : lw_okq (⟨"MouthRiddles", "digestTongues", "(J)J"⟩, 14) := ⟨⟨by decide +kernel, by decide +kernel⟩, List.mem_of_getElem? (i := 19) (by decide +kernel), List.mem_of_getElem? (i := 839) (by decide +kernel), List.mem_of_getElem? (i := 840) (by decide +kernel)⟩
theorem lw_p25 : lw_okq (⟨"MouthRiddles", "digestLands", "(J)J"⟩, 14) := ⟨⟨by decide +kernel, by decide +kernel⟩, List.mem_of_getElem? (i := 19) (by decide +kernel), List.mem_of_getElem? (i := 843) (by decide +kernel), List.mem_of_getElem? (i := 844) (by decide +kernel)⟩
theorem lw_p26 : lw_okq (⟨"MouthRiddlesModel", "isSaying", "(I)Z"⟩, 42) := ⟨⟨by decide +kernel, by decide +kernel⟩, List.mem_of_getElem? (i := 848) (by decide +kernel), List.mem_of_getElem? (i := 1011) (by decide +kernel), List.mem_of_getElem? (i := 1012) (by decide +kernel)⟩
theorem lw_p27 : lw_okq (⟨"MouthRiddlesModel", "isThing", "(I)Z"⟩, 42) := ⟨⟨by decide +kernel, by decide +kernel⟩, List.mem_of_getElem? (i := 848) (by decide +kernel), List.mem_of_getElem? (i := 1019) (by decide +kernel), List.mem_of_getElem? (i := 1020) (by decide +kernel)⟩
theorem lw_p28 : lw_okq (⟨"MouthRiddlesModel", "by", "(III)I"⟩, 42) := ⟨⟨by decide +kernel, by decide +kernel⟩, List.mem_of_getElem? (i := 848) (by decide +kernel), List.mem_of_getElem? (i := 1023) (by decide +kernel), List.mem_of_getElem? (i := 1024) (by decide +kernel)⟩
theorem lw_p29 : lw_okq (⟨"MouthRiddlesModel", "has", "(II)Z"⟩, 42) := ⟨⟨by decide +kernel, by decide +kernel⟩, List.mem_of_getElem? (i := 848) (by decide +kernel), List.mem_of_getElem? (i := 1030) (by decide +kernel), List.mem_of_getElem? (i := 1031) (by decide +kernel)⟩
theorem lw_p30 : lw_okq (⟨"MouthRiddlesModel", "isRiddle", "(I)Z"⟩, 42) := ⟨⟨by decide +kernel, by decide +kernel⟩, List.mem_of_getElem? (i := 848) (by decide +kernel), List.mem_of_getElem? (i := 1042) (by decide +kernel), List.mem_of_getElem? (i := 1043) (by decide +kernel)⟩
theorem lw_p31 : lw_okq (⟨"MouthRiddlesModel", "answersOf", "(I)I"⟩, 42) := ⟨⟨by decide +kernel, by decide +kernel⟩, List.mem_of_getElem? (i := 848) (by decide +kernel), List.mem_of_getElem? (i := 1054) (by decide +kernel), List.mem_of_getElem? (i := 1055) (by decide +kernel)⟩
def lw_privs_2 : List (MethodName × Nat) := [(⟨"MouthRiddles$Tree", "closeNode", "()Z"⟩, 7), (⟨"MouthRiddles$Changes", "weighBelow", "(LMouthRiddles$Tree;[I)V"⟩, 3), (⟨"MouthRiddles$Changes", "addToAbove", "(II)V"⟩, 3), (⟨"MouthRiddles$Changes", "weighWhole", "(II)V"⟩, 3), (⟨"MouthRiddles$Deal", "hasTwinBefore", "(I)Z"⟩, 8), (⟨"MouthRiddles$Stakes", "giveRiddle", "(III)V"⟩, 2), (⟨"MouthRiddles", "digestLore", "(J)J"⟩, 14), (⟨"MouthRiddles", "digestRiddles", "(J)J"⟩, 14), (⟨"MouthRiddles", "digestTongues", "(J)J"⟩, 14), (⟨"MouthRiddles", "digestLands", "(J)J"⟩, 14), (⟨"MouthRiddlesModel", "isSaying", "(I)Z"⟩, 42), (⟨"MouthRiddlesModel", "isThing", "(I)Z"⟩, 42), (⟨"MouthRiddlesModel", "by", "(III)I"⟩, 42), (⟨"MouthRiddlesModel", "has", "(II)Z"⟩, 42), (⟨"MouthRiddlesModel", "isRiddle", "(I)Z"⟩, 42), (⟨"MouthRiddlesModel", "answersOf", "(I)I"⟩, 42)]
theorem lw_r2 : ∀ q ∈ lw_privs_2, lw_okq q := List.forall_mem_cons.mpr ⟨lw_p16, List.forall_mem_cons.mpr ⟨lw_p17, List.forall_mem_cons.mpr ⟨lw_p18, List.forall_mem_cons.mpr ⟨lw_p19, List.forall_mem_cons.mpr ⟨lw_p20, List.forall_mem_cons.mpr ⟨lw_p21, List.forall_mem_cons.mpr ⟨lw_p22, List.forall_mem_cons.mpr ⟨lw_p23, List.forall_mem_cons.mpr ⟨lw_p24, List.forall_mem_cons.mpr ⟨lw_p25, List.forall_mem_cons.mpr ⟨lw_p26, List.forall_mem_cons.mpr ⟨lw_p27, List.forall_mem_cons.mpr ⟨lw_p28, List.forall_mem_cons.mpr ⟨lw_p29, List.forall_mem_cons.mpr ⟨lw_p30, List.forall_mem_cons.mpr ⟨lw_p31, fun _ h => absurd h List.not_mem_nil⟩⟩⟩⟩⟩⟩⟩⟩⟩⟩⟩⟩⟩⟩⟩⟩
theorem lw_p32 : lw_okq (⟨"MouthRiddlesModel", "answersBy", "(III)I"⟩, 42) := ⟨⟨by decide +kernel, by decide +kernel⟩, List.mem_of_getElem? (i := 848) (by decide +kernel), List.mem_of_getElem? (i := 1058) (by decide +kernel), List.mem_of_getElem? (i := 1059) (by decide +kernel)⟩
theorem lw_p33 : lw_okq (⟨"MouthRiddlesModel", "turnsOf", "(II)I"⟩, 42) := ⟨⟨by decide +kernel, by decide +kernel⟩, List.mem_of_getElem? (i := 848) (by decide +kernel), List.mem_of_getElem? (i := 1066) (by decide +kernel), List.mem_of_getElem? (i := 1067) (by decide +kernel)⟩
theorem lw_p34 : lw_okq (⟨"MouthRiddlesModel", "bestOf", "(II)I"⟩, 42) := ⟨⟨by decide +kernel, by decide +kernel⟩, List.mem_of_getElem? (i := 848) (by decide +kernel), List.mem_of_getElem? (i := 1083) (by decide +kernel), List.mem_of_getElem? (i := 1084) (by decide +kernel)⟩
theorem lw_p35 : lw_okq (⟨"MouthRiddlesModel", "isHead", "(I)Z"⟩, 42) := ⟨⟨by decide +kernel, by decide +kernel⟩, List.mem_of_getElem? (i := 848) (by decide +kernel), List.mem_of_getElem? (i := 1096) (by decide +kernel), List.mem_of_getElem? (i := 1097) (by decide +kernel)⟩
theorem lw_p36 : lw_okq (⟨"MouthRiddlesModel", "hearsOf", "(II)I"⟩, 42) := ⟨⟨by decide +kernel, by decide +kernel⟩, List.mem_of_getElem? (i := 848) (by decide +kernel), List.mem_of_getElem? (i := 1100) (by decide +kernel), List.mem_of_getElem? (i := 1101) (by decide +kernel)⟩
theorem lw_p37 : lw_okq (⟨"MouthRiddlesModel", "isTongue", "(I)Z"⟩, 42) := ⟨⟨by decide +kernel, by decide +kernel⟩, List.mem_of_getElem? (i := 848) (by decide +kernel), List.mem_of_getElem? (i := 1120) (by decide +kernel), List.mem_of_getElem? (i := 1121) (by decide +kernel)⟩
theorem lw_p38 : lw_okq (⟨"MouthRiddlesModel", "lacksOf", "(III)I"⟩, 42) := ⟨⟨by decide +kernel, by decide +kernel⟩, List.mem_of_getElem? (i := 848) (by decide +kernel), List.mem_of_getElem? (i := 1129) (by decide +kernel), List.mem_of_getElem? (i := 1130) (by decide +kernel)⟩
theorem lw_p39 : lw_okq (⟨"MouthRiddlesModel", "byIn", "(III)I"⟩, 42) := ⟨⟨by decide +kernel, by decide +kernel⟩, List.mem_of_getElem? (i := 848) (by decide +kernel), List.mem_of_getElem? (i := 1133) (by decide +kernel), List.mem_of_getElem? (i := 1134) (by decide +kernel)⟩
theorem lw_p40 : lw_okq (⟨"MouthRiddlesModel", "goesOf", "(III)Z"⟩, 42) := ⟨⟨by decide +kernel, by decide +kernel⟩, List.mem_of_getElem? (i := 848) (by decide +kernel), List.mem_of_getElem? (i := 1137) (by decide +kernel), List.mem_of_getElem? (i := 1138) (by decide +kernel)⟩
theorem lw_p41 : lw_okq (⟨"MouthRiddlesModel", "faultOf", "()I"⟩, 42) := ⟨⟨by decide +kernel, by decide +kernel⟩, List.mem_of_getElem? (i := 848) (by decide +kernel), List.mem_of_getElem? (i := 1158) (by decide +kernel), List.mem_of_getElem? (i := 1159) (by decide +kernel)⟩
theorem lw_p42 : lw_okq (⟨"MouthRiddlesModel", "go", "(I)Z"⟩, 42) := ⟨⟨by decide +kernel, by decide +kernel⟩, List.mem_of_getElem? (i := 848) (by decide +kernel), List.mem_of_getElem? (i := 1162) (by decide +kernel), List.mem_of_getElem? (i := 1163) (by decide +kernel)⟩
theorem lw_p43 : lw_okq (⟨"MouthRiddlesModel", "addNode", "(I)V"⟩, 42) := ⟨⟨by decide +kernel, by decide +kernel⟩, List.mem_of_getElem? (i := 848) (by decide +kernel), List.mem_of_getElem? (i := 1166) (by decide +kernel), List.mem_of_getElem? (i := 1167) (by decide +kernel)⟩
theorem lw_p44 : lw_okq (⟨"MouthRiddlesModel", "endNode", "(I)V"⟩, 42) := ⟨⟨by decide +kernel, by decide +kernel⟩, List.mem_of_getElem? (i := 848) (by decide +kernel), List.mem_of_getElem? (i := 1172) (by decide +kernel), List.mem_of_getElem? (i := 1173) (by decide +kernel)⟩
theorem lw_p45 : lw_okq (⟨"MouthRiddlesModel", "leastChanges", "()I"⟩, 42) := ⟨⟨by decide +kernel, by decide +kernel⟩, List.mem_of_getElem? (i := 848) (by decide +kernel), List.mem_of_getElem? (i := 1192) (by decide +kernel), List.mem_of_getElem? (i := 1193) (by decide +kernel)⟩
theorem lw_p46 : lw_okq (⟨"MouthRiddlesModel", "sureOf", "(I)I"⟩, 42) := ⟨⟨by decide +kernel, by decide +kernel⟩, List.mem_of_getElem? (i := 848) (by decide +kernel), List.mem_of_getElem? (i := 1199) (by decide +kernel), List.mem_of_getElem? (i := 1200) (by decide +kernel)⟩
theorem lw_p47 : lw_okq (⟨"MouthRiddlesModel", "deal", "(II)V"⟩, 42) := ⟨⟨by decide +kernel, by decide +kernel⟩, List.mem_of_getElem? (i := 848) (by decide +kernel), List.mem_of_getElem? (i := 1207) (by decide +kernel), List.mem_of_getElem? (i := 1208) (by decide +kernel)⟩
def lw_privs_3 : List (MethodName × Nat) := [(⟨"MouthRiddlesModel", "answersBy", "(III)I"⟩, 42), (⟨"MouthRiddlesModel", "turnsOf", "(II)I"⟩, 42), (⟨"MouthRiddlesModel", "bestOf", "(II)I"⟩, 42), (⟨"MouthRiddlesModel", "isHead", "(I)Z"⟩, 42), (⟨"MouthRiddlesModel", "hearsOf", "(II)I"⟩, 42), (⟨"MouthRiddlesModel", "isTongue", "(I)Z"⟩, 42), (⟨"MouthRiddlesModel", "lacksOf", "(III)I"⟩, 42), (⟨"MouthRiddlesModel", "byIn", "(III)I"⟩, 42), (⟨"MouthRiddlesModel", "goesOf", "(III)Z"⟩, 42), (⟨"MouthRiddlesModel", "faultOf", "()I"⟩, 42), (⟨"MouthRiddlesModel", "go", "(I)Z"⟩, 42), (⟨"MouthRiddlesModel", "addNode", "(I)V"⟩, 42), (⟨"MouthRiddlesModel", "endNode", "(I)V"⟩, 42), (⟨"MouthRiddlesModel", "leastChanges", "()I"⟩, 42), (⟨"MouthRiddlesModel", "sureOf", "(I)I"⟩, 42), (⟨"MouthRiddlesModel", "deal", "(II)V"⟩, 42)]
theorem lw_r3 : ∀ q ∈ lw_privs_3, lw_okq q := List.forall_mem_cons.mpr ⟨lw_p32, List.forall_mem_cons.mpr ⟨lw_p33, List.forall_mem_cons.mpr ⟨lw_p34, List.forall_mem_cons.mpr ⟨lw_p35, List.forall_mem_cons.mpr ⟨lw_p36, List.forall_mem_cons.mpr ⟨lw_p37, List.forall_mem_cons.mpr ⟨lw_p38, List.forall_mem_cons.mpr ⟨lw_p39, List.forall_mem_cons.mpr ⟨lw_p40, List.forall_mem_cons.mpr ⟨lw_p41, List.forall_mem_cons.mpr ⟨lw_p42, List.forall_mem_cons.mpr ⟨lw_p43, List.forall_mem_cons.mpr ⟨lw_p44, List.forall_mem_cons.mpr ⟨lw_p45, List.forall_mem_cons.mpr ⟨lw_p46, List.forall_mem_cons.mpr ⟨lw_p47, fun _ h => absurd h List.not_mem_nil⟩⟩⟩⟩⟩⟩⟩⟩⟩⟩⟩⟩⟩⟩⟩⟩
theorem lw_p48 : lw_okq (⟨"MouthRiddlesModel", "layBrings", "()V"⟩, 42) := ⟨⟨by decide +kernel, by decide +kernel⟩, List.mem_of_getElem? (i := 848) (by decide +kernel), List.mem_of_getElem? (i := 1223) (by decide +kernel), List.mem_of_getElem? (i := 1224) (by decide +kernel)⟩
theorem lw_p49 : lw_okq (⟨"MouthRiddlesModel", "chosen", "(I)I"⟩, 42) := ⟨⟨by decide +kernel, by decide +kernel⟩, List.mem_of_getElem? (i := 848) (by decide +kernel), List.mem_of_getElem? (i := 1227) (by decide +kernel), List.mem_of_getElem? (i := 1228) (by decide +kernel)⟩
theorem lw_p50 : lw_okq (⟨"MouthRiddlesModel", "countOf", "(I)I"⟩, 42) := ⟨⟨by decide +kernel, by decide +kernel⟩, List.mem_of_getElem? (i := 848) (by decide +kernel), List.mem_of_getElem? (i := 1235) (by decide +kernel), List.mem_of_getElem? (i := 1236) (by decide +kernel)⟩
theorem lw_p51 : lw_okq (⟨"MouthRiddlesModel", "tellSaid", "()V"⟩, 42) := ⟨⟨by decide +kernel, by decide +kernel⟩, List.mem_of_getElem? (i := 848) (by decide +kernel), List.mem_of_getElem? (i := 1244) (by decide +kernel), List.mem_of_getElem? (i := 1245) (by decide +kernel)⟩
theorem lw_p52 : lw_okq (⟨"MouthRiddlesModel", "tell", "(J)V"⟩, 42) := ⟨⟨by decide +kernel, by decide +kernel⟩, List.mem_of_getElem? (i := 848) (by decide +kernel), List.mem_of_getElem? (i := 1248) (by decide +kernel), List.mem_of_getElem? (i := 1249) (by decide +kernel)⟩
def lw_privs_4 : List (MethodName × Nat) := [(⟨"MouthRiddlesModel", "layBrings", "()V"⟩, 42), (⟨"MouthRiddlesModel", "chosen", "(I)I"⟩, 42), (⟨"MouthRiddlesModel", "countOf", "(I)I"⟩, 42), (⟨"MouthRiddlesModel", "tellSaid", "()V"⟩, 42), (⟨"MouthRiddlesModel", "tell", "(J)V"⟩, 42)]
theorem lw_r4 : ∀ q ∈ lw_privs_4, lw_okq q := List.forall_mem_cons.mpr ⟨lw_p48, List.forall_mem_cons.mpr ⟨lw_p49, List.forall_mem_cons.mpr ⟨lw_p50, List.forall_mem_cons.mpr ⟨lw_p51, List.forall_mem_cons.mpr ⟨lw_p52, fun _ h => absurd h List.not_mem_nil⟩⟩⟩⟩⟩
def lw_privs : List (MethodName × Nat) := lw_privs_1 ++ (lw_privs_2 ++ (lw_privs_3 ++ (lw_privs_4)))
def lw_tbl : List Cond := k2_sels lw_privs ++ tables_1
theorem lw_privs_ok : ∀ q ∈ lw_privs, lw_okq q := by
  show ∀ q ∈ lw_privs_1 ++ (lw_privs_2 ++ (lw_privs_3 ++ (lw_privs_4))), lw_okq q
  exact List.forall_mem_append.mpr ⟨lw_r1, List.forall_mem_append.mpr ⟨lw_r2, List.forall_mem_append.mpr ⟨lw_r3, lw_r4⟩⟩⟩
end
section
def RX0 : String := "MouthRiddles$Changes"
def TX0 : u_T := fun k => match k with
  | 0 => ("MouthRiddles$Changes", "below", "[I", true)
  | 1 => ("MouthRiddles$Changes", "whole", "[I", true)
  | _ => ("MouthRiddles$Changes", "rest", "[I", true)
def tyX0 : Nat → FieldType := fun k => match k with
  | 0 => .array .int
  | 1 => .array .int
  | _ => .array .int
theorem nmX0 : ∀ a, a < 3 → ∀ b, b < 3 → a ≠ b → (TX0 a).2.1 ≠ (TX0 b).2.1 := by decide +kernel
theorem tyX0_ok : ∀ k, k < 3 → parseFieldDescriptor (TX0 k).2.2.1 = some (tyX0 k) := by decide +kernel
abbrev cX0_init : ByteArray := prog_2_method_1_code
def yX0_init : MethodName := ⟨RX0, "<init>", "()V"⟩
abbrev cX0_least : ByteArray := prog_2_method_2_code
def yX0_least : MethodName := ⟨RX0, "least", "(LMouthRiddles$Tree;[I)I"⟩
abbrev cX0_weighAll : ByteArray := prog_2_method_3_code
def yX0_weighAll : MethodName := ⟨RX0, "weighAll", "(LMouthRiddles$Tree;[I)V"⟩
abbrev cX0_sureOf : ByteArray := prog_2_method_4_code
def yX0_sureOf : MethodName := ⟨RX0, "sureOf", "(I)I"⟩
abbrev cX0_weighBelow : ByteArray := prog_2_method_5_code
def yX0_weighBelow : MethodName := ⟨RX0, "weighBelow", "(LMouthRiddles$Tree;[I)V"⟩
abbrev cX0_addToAbove : ByteArray := prog_2_method_6_code
def yX0_addToAbove : MethodName := ⟨RX0, "addToAbove", "(II)V"⟩
abbrev cX0_weighWhole : ByteArray := prog_2_method_7_code
def yX0_weighWhole : MethodName := ⟨RX0, "weighWhole", "(II)V"⟩
abbrev cX0_leastOf : ByteArray := prog_2_method_8_code
def yX0_leastOf : MethodName := ⟨RX0, "leastOf", "([II)I"⟩
def RX1 : String := "MouthRiddles$Deal"
def TX1 : u_T := fun k => match k with
  | 0 => ("MouthRiddles$Deal", "dealt", "[I", true)
  | 1 => ("MouthRiddles$Deal", "seats", "[I", true)
  | 2 => ("MouthRiddles$Deal", "had", "[I", true)
  | 3 => ("MouthRiddles$Deal", "left", "[I", true)
  | 4 => ("MouthRiddles$Deal", "seatCount", "I", false)
  | 5 => ("MouthRiddles$Deal", "bound", "I", false)
  | 6 => ("MouthRiddles$Deal", "all", "I", false)
  | _ => ("MouthRiddles$Deal", "few", "I", false)
def tyX1 : Nat → FieldType := fun k => match k with
  | 0 => .array .int
  | 1 => .array .int
  | 2 => .array .int
  | 3 => .array .int
  | 4 => .int
  | 5 => .int
  | 6 => .int
  | _ => .int
theorem nmX1 : ∀ a, a < 8 → ∀ b, b < 8 → a ≠ b → (TX1 a).2.1 ≠ (TX1 b).2.1 := by decide +kernel
theorem tyX1_ok : ∀ k, k < 8 → parseFieldDescriptor (TX1 k).2.2.1 = some (tyX1 k) := by decide +kernel
abbrev cX1_init : ByteArray := prog_3_method_1_code
def yX1_init : MethodName := ⟨RX1, "<init>", "()V"⟩
abbrev cX1_countWays : ByteArray := prog_3_method_2_code
def yX1_countWays : MethodName := ⟨RX1, "countWays", "(LMouthRiddles$Tree;[ILMouthRiddles$Changes;)V"⟩
abbrev cX1_dealFrom : ByteArray := prog_3_method_3_code
def yX1_dealFrom : MethodName := ⟨RX1, "dealFrom", "(LMouthRiddles$Deal;ILMouthRiddles$Tree;LMouthRiddles$Changes;)V"⟩
abbrev cX1_hasTwinBefore : ByteArray := prog_3_method_4_code
def yX1_hasTwinBefore : MethodName := ⟨RX1, "hasTwinBefore", "(I)Z"⟩
def RX2 : String := "MouthRiddles$Heads"
def TX2 : u_T := fun k => match k with
  | 0 => ("MouthRiddles$Heads", "riddles", "LMouthRiddles$Riddles;", true)
  | 1 => ("MouthRiddles$Heads", "sights", "[LMouthRiddles$Sight;", true)
  | 2 => ("MouthRiddles$Heads", "plain", "[I", true)
  | 3 => ("MouthRiddles$Heads", "turned", "[I", true)
  | 4 => ("MouthRiddles$Heads", "heard", "[I", true)
  | _ => ("MouthRiddles$Heads", "size", "I", false)
def tyX2 : Nat → FieldType := fun k => match k with
  | 0 => .object "MouthRiddles$Riddles"
  | 1 => .array (.object "MouthRiddles$Sight")
  | 2 => .array .int
  | 3 => .array .int
  | 4 => .array .int
  | _ => .int
theorem nmX2 : ∀ a, a < 6 → ∀ b, b < 6 → a ≠ b → (TX2 a).2.1 ≠ (TX2 b).2.1 := by decide +kernel
theorem tyX2_ok : ∀ k, k < 6 → parseFieldDescriptor (TX2 k).2.2.1 = some (tyX2 k) := by decide +kernel
abbrev cX2_init : ByteArray := prog_4_method_1_code
def yX2_init : MethodName := ⟨RX2, "<init>", "(LMouthRiddles$Riddles;)V"⟩
abbrev cX2_add : ByteArray := prog_4_method_2_code
def yX2_add : MethodName := ⟨RX2, "add", "(II)I"⟩
abbrev cX2_secondOf : ByteArray := prog_4_method_3_code
def yX2_secondOf : MethodName := ⟨RX2, "secondOf", "(II)I"⟩
abbrev cX2_stageOfAnswer : ByteArray := prog_4_method_4_code
def yX2_stageOfAnswer : MethodName := ⟨RX2, "stageOfAnswer", "(II)I"⟩
abbrev cX2_answerIn : ByteArray := prog_4_method_5_code
def yX2_answerIn : MethodName := ⟨RX2, "answerIn", "(II)I"⟩
abbrev cX2_answerOf : ByteArray := prog_4_method_6_code
def yX2_answerOf : MethodName := ⟨RX2, "answerOf", "(II)I"⟩
abbrev cX2_unlikePairs : ByteArray := prog_4_method_7_code
def yX2_unlikePairs : MethodName := ⟨RX2, "unlikePairs", "(I)I"⟩
abbrev cX2_answeringOther : ByteArray := prog_4_method_8_code
def yX2_answeringOther : MethodName := ⟨RX2, "answeringOther", "(II)I"⟩
def RX3 : String := "MouthRiddles$Lore"
def TX3 : u_T := fun k => match k with
  | 0 => ("MouthRiddles$Lore", "things", "I", false)
  | 1 => ("MouthRiddles$Lore", "sayings", "I", false)
  | 2 => ("MouthRiddles$Lore", "traits", "[I", true)
  | 3 => ("MouthRiddles$Lore", "having", "[I", true)
  | 4 => ("MouthRiddles$Lore", "ofAtLeast", "[I", true)
  | 5 => ("MouthRiddles$Lore", "senses", "[I", true)
  | 6 => ("MouthRiddles$Lore", "senseCounts", "[I", true)
  | 7 => ("MouthRiddles$Lore", "kinds", "[I", true)
  | 8 => ("MouthRiddles$Lore", "words", "[I", true)
  | 9 => ("MouthRiddles$Lore", "numbers", "[I", true)
  | _ => ("MouthRiddles$Lore", "fittingBy", "[I", true)
def tyX3 : Nat → FieldType := fun k => match k with
  | 0 => .int
  | 1 => .int
  | 2 => .array .int
  | 3 => .array .int
  | 4 => .array .int
  | 5 => .array .int
  | 6 => .array .int
  | 7 => .array .int
  | 8 => .array .int
  | 9 => .array .int
  | _ => .array .int
theorem nmX3 : ∀ a, a < 11 → ∀ b, b < 11 → a ≠ b → (TX3 a).2.1 ≠ (TX3 b).2.1 := by decide +kernel
theorem tyX3_ok : ∀ k, k < 11 → parseFieldDescriptor (TX3 k).2.2.1 = some (tyX3 k) := by decide +kernel
abbrev cX3_init : ByteArray := prog_5_method_1_code
def yX3_init : MethodName := ⟨RX3, "<init>", "()V"⟩
abbrev cX3_addThing : ByteArray := prog_5_method_2_code
def yX3_addThing : MethodName := ⟨RX3, "addThing", "(I)I"⟩
abbrev cX3_addSense : ByteArray := prog_5_method_3_code
def yX3_addSense : MethodName := ⟨RX3, "addSense", "(II)I"⟩
abbrev cX3_addSaying : ByteArray := prog_5_method_4_code
def yX3_addSaying : MethodName := ⟨RX3, "addSaying", "(III)I"⟩
abbrev cX3_traitOf : ByteArray := prog_5_method_5_code
def yX3_traitOf : MethodName := ⟨RX3, "traitOf", "(II)I"⟩
abbrev cX3_hasSense : ByteArray := prog_5_method_6_code
def yX3_hasSense : MethodName := ⟨RX3, "hasSense", "(II)Z"⟩
abbrev cX3_senseCount : ByteArray := prog_5_method_7_code
def yX3_senseCount : MethodName := ⟨RX3, "senseCount", "()I"⟩
abbrev cX3_isOfKind : ByteArray := prog_5_method_8_code
def yX3_isOfKind : MethodName := ⟨RX3, "isOfKind", "(II)Z"⟩
abbrev cX3_allThings : ByteArray := prog_5_method_9_code
def yX3_allThings : MethodName := ⟨RX3, "allThings", "()I"⟩
abbrev cX3_fittingBySight : ByteArray := prog_5_method_10_code
def yX3_fittingBySight : MethodName := ⟨RX3, "fittingBySight", "(ILMouthRiddles$Sight;)I"⟩
abbrev cX3_leastSense : ByteArray := prog_5_method_11_code
def yX3_leastSense : MethodName := ⟨RX3, "leastSense", "(II)I"⟩
abbrev cX3_fitAnew : ByteArray := prog_5_method_12_code
def yX3_fitAnew : MethodName := ⟨RX3, "fitAnew", "()V"⟩
abbrev cX3_tryOut : ByteArray := prog_5_method_13_code
def yX3_tryOut : MethodName := ⟨RX3, "tryOut", "(II)I"⟩
abbrev cX3_havingSense : ByteArray := prog_5_method_14_code
def yX3_havingSense : MethodName := ⟨RX3, "havingSense", "(II)I"⟩
def RX4 : String := "MouthRiddles$Maker"
def TX4 : u_T := fun k => match k with
  | 0 => ("MouthRiddles$Maker", "fitting", "[I", true)
  | 1 => ("MouthRiddles$Maker", "turned", "[I", true)
  | 2 => ("MouthRiddles$Maker", "bits", "[I", true)
  | 3 => ("MouthRiddles$Maker", "fittingRest", "[I", true)
  | 4 => ("MouthRiddles$Maker", "full", "LMouthRiddles$Sight;", true)
  | 5 => ("MouthRiddles$Maker", "size", "I", false)
  | 6 => ("MouthRiddles$Maker", "wanted", "I", false)
  | 7 => ("MouthRiddles$Maker", "bestTurns", "I", false)
  | _ => ("MouthRiddles$Maker", "bestBits", "I", false)
def tyX4 : Nat → FieldType := fun k => match k with
  | 0 => .array .int
  | 1 => .array .int
  | 2 => .array .int
  | 3 => .array .int
  | 4 => .object "MouthRiddles$Sight"
  | 5 => .int
  | 6 => .int
  | 7 => .int
  | _ => .int
theorem nmX4 : ∀ a, a < 9 → ∀ b, b < 9 → a ≠ b → (TX4 a).2.1 ≠ (TX4 b).2.1 := by decide +kernel
theorem tyX4_ok : ∀ k, k < 9 → parseFieldDescriptor (TX4 k).2.2.1 = some (tyX4 k) := by decide +kernel
abbrev cX4_init : ByteArray := prog_6_method_1_code
def yX4_init : MethodName := ⟨RX4, "<init>", "()V"⟩
abbrev cX4_fewest : ByteArray := prog_6_method_2_code
def yX4_fewest : MethodName := ⟨RX4, "fewest", "(LMouthRiddles$Lore;II)I"⟩
abbrev cX4_gather : ByteArray := prog_6_method_3_code
def yX4_gather : MethodName := ⟨RX4, "gather", "(LMouthRiddles$Lore;I)V"⟩
abbrev cX4_choose : ByteArray := prog_6_method_4_code
def yX4_choose : MethodName := ⟨RX4, "choose", "(LMouthRiddles$Maker;IIIII)V"⟩
abbrev cX4_consider : ByteArray := prog_6_method_5_code
def yX4_consider : MethodName := ⟨RX4, "consider", "(II)V"⟩
def RX5 : String := "MouthRiddles$Page"
def TX5 : u_T := fun k => match k with
  | 0 => ("MouthRiddles$Page", "codes", "[I", true)
  | _ => ("MouthRiddles$Page", "size", "I", false)
def tyX5 : Nat → FieldType := fun k => match k with
  | 0 => .array .int
  | _ => .int
theorem nmX5 : ∀ a, a < 2 → ∀ b, b < 2 → a ≠ b → (TX5 a).2.1 ≠ (TX5 b).2.1 := by decide +kernel
theorem tyX5_ok : ∀ k, k < 2 → parseFieldDescriptor (TX5 k).2.2.1 = some (tyX5 k) := by decide +kernel
abbrev cX5_init : ByteArray := prog_7_method_1_code
def yX5_init : MethodName := ⟨RX5, "<init>", "()V"⟩
abbrev cX5_codeAt : ByteArray := prog_7_method_2_code
def yX5_codeAt : MethodName := ⟨RX5, "codeAt", "(JI)I"⟩
abbrev cX5_lettersIn : ByteArray := prog_7_method_3_code
def yX5_lettersIn : MethodName := ⟨RX5, "lettersIn", "(J)I"⟩
abbrev cX5_areLetters : ByteArray := prog_7_method_4_code
def yX5_areLetters : MethodName := ⟨RX5, "areLetters", "(J)Z"⟩
abbrev cX5_append : ByteArray := prog_7_method_5_code
def yX5_append : MethodName := ⟨RX5, "append", "(J)I"⟩
abbrev cX5_empty : ByteArray := prog_7_method_6_code
def yX5_empty : MethodName := ⟨RX5, "empty", "()I"⟩
def RX6 : String := "MouthRiddles$Riddles"
def TX6 : u_T := fun k => match k with
  | 0 => ("MouthRiddles$Riddles", "lore", "LMouthRiddles$Lore;", true)
  | 1 => ("MouthRiddles$Riddles", "full", "LMouthRiddles$Sight;", true)
  | 2 => ("MouthRiddles$Riddles", "rows", "[I", true)
  | 3 => ("MouthRiddles$Riddles", "lengths", "[I", true)
  | _ => ("MouthRiddles$Riddles", "size", "I", false)
def tyX6 : Nat → FieldType := fun k => match k with
  | 0 => .object "MouthRiddles$Lore"
  | 1 => .object "MouthRiddles$Sight"
  | 2 => .array .int
  | 3 => .array .int
  | _ => .int
theorem nmX6 : ∀ a, a < 5 → ∀ b, b < 5 → a ≠ b → (TX6 a).2.1 ≠ (TX6 b).2.1 := by decide +kernel
theorem tyX6_ok : ∀ k, k < 5 → parseFieldDescriptor (TX6 k).2.2.1 = some (tyX6 k) := by decide +kernel
abbrev cX6_init : ByteArray := prog_8_method_1_code
def yX6_init : MethodName := ⟨RX6, "<init>", "(LMouthRiddles$Lore;)V"⟩
abbrev cX6_begin : ByteArray := prog_8_method_2_code
def yX6_begin : MethodName := ⟨RX6, "begin", "(I)I"⟩
abbrev cX6_append : ByteArray := prog_8_method_3_code
def yX6_append : MethodName := ⟨RX6, "append", "(II)I"⟩
abbrev cX6_sayingAt : ByteArray := prog_8_method_4_code
def yX6_sayingAt : MethodName := ⟨RX6, "sayingAt", "(II)I"⟩
abbrev cX6_fitting : ByteArray := prog_8_method_5_code
def yX6_fitting : MethodName := ⟨RX6, "fitting", "(I)I"⟩
abbrev cX6_fittingWithout : ByteArray := prog_8_method_6_code
def yX6_fittingWithout : MethodName := ⟨RX6, "fittingWithout", "(IILMouthRiddles$Sight;)I"⟩
abbrev cX6_countWithout : ByteArray := prog_8_method_7_code
def yX6_countWithout : MethodName := ⟨RX6, "countWithout", "(II)I"⟩
abbrev cX6_misleadingPlace : ByteArray := prog_8_method_8_code
def yX6_misleadingPlace : MethodName := ⟨RX6, "misleadingPlace", "(I)I"⟩
abbrev cX6_turnedOnes : ByteArray := prog_8_method_9_code
def yX6_turnedOnes : MethodName := ⟨RX6, "turnedOnes", "(II)I"⟩
abbrev cX6_unfitCount : ByteArray := prog_8_method_10_code
def yX6_unfitCount : MethodName := ⟨RX6, "unfitCount", "(IILMouthRiddles$Sight;)I"⟩
def RX7 : String := "MouthRiddles$Sight"
def TX7 : u_T := fun k => match k with
  | _ => ("MouthRiddles$Sight", "seen", "[I", true)
def tyX7 : Nat → FieldType := fun k => match k with
  | _ => .array .int
theorem nmX7 : ∀ a, a < 1 → ∀ b, b < 1 → a ≠ b → (TX7 a).2.1 ≠ (TX7 b).2.1 := by decide +kernel
theorem tyX7_ok : ∀ k, k < 1 → parseFieldDescriptor (TX7 k).2.2.1 = some (tyX7 k) := by decide +kernel
abbrev cX7_init : ByteArray := prog_9_method_1_code
def yX7_init : MethodName := ⟨RX7, "<init>", "(I)V"⟩
abbrev cX7_sees : ByteArray := prog_9_method_2_code
def yX7_sees : MethodName := ⟨RX7, "sees", "(II)Z"⟩
abbrev cX7_set : ByteArray := prog_9_method_3_code
def yX7_set : MethodName := ⟨RX7, "set", "(IIZ)V"⟩
def RX8 : String := "MouthRiddles$Stakes"
def TX8 : u_T := fun k => match k with
  | 0 => ("MouthRiddles$Stakes", "values", "[I", true)
  | _ => ("MouthRiddles$Stakes", "bestOf", "[J", true)
def tyX8 : Nat → FieldType := fun k => match k with
  | 0 => .array .int
  | _ => .array .long
theorem nmX8 : ∀ a, a < 2 → ∀ b, b < 2 → a ≠ b → (TX8 a).2.1 ≠ (TX8 b).2.1 := by decide +kernel
theorem tyX8_ok : ∀ k, k < 2 → parseFieldDescriptor (TX8 k).2.2.1 = some (tyX8 k) := by decide +kernel
abbrev cX8_init : ByteArray := prog_10_method_1_code
def yX8_init : MethodName := ⟨RX8, "<init>", "()V"⟩
abbrev cX8_of : ByteArray := prog_10_method_2_code
def yX8_of : MethodName := ⟨RX8, "of", "(II)I"⟩
abbrev cX8_put : ByteArray := prog_10_method_3_code
def yX8_put : MethodName := ⟨RX8, "put", "(III)I"⟩
abbrev cX8_best : ByteArray := prog_10_method_4_code
def yX8_best : MethodName := ⟨RX8, "best", "(II)J"⟩
abbrev cX8_giveRiddle : ByteArray := prog_10_method_5_code
def yX8_giveRiddle : MethodName := ⟨RX8, "giveRiddle", "(III)V"⟩
abbrev cX8_sumIn : ByteArray := prog_10_method_6_code
def yX8_sumIn : MethodName := ⟨RX8, "sumIn", "(J)I"⟩
abbrev cX8_riddleIn : ByteArray := prog_10_method_7_code
def yX8_riddleIn : MethodName := ⟨RX8, "riddleIn", "(JI)I"⟩
def RX9 : String := "MouthRiddles$Tongues"
def TX9 : u_T := fun k => match k with
  | 0 => ("MouthRiddles$Tongues", "riddles", "LMouthRiddles$Riddles;", true)
  | 1 => ("MouthRiddles$Tongues", "sights", "[LMouthRiddles$Sight;", true)
  | _ => ("MouthRiddles$Tongues", "size", "I", false)
def tyX9 : Nat → FieldType := fun k => match k with
  | 0 => .object "MouthRiddles$Riddles"
  | 1 => .array (.object "MouthRiddles$Sight")
  | _ => .int
theorem nmX9 : ∀ a, a < 3 → ∀ b, b < 3 → a ≠ b → (TX9 a).2.1 ≠ (TX9 b).2.1 := by decide +kernel
theorem tyX9_ok : ∀ k, k < 3 → parseFieldDescriptor (TX9 k).2.2.1 = some (tyX9 k) := by decide +kernel
abbrev cX9_init : ByteArray := prog_11_method_1_code
def yX9_init : MethodName := ⟨RX9, "<init>", "(LMouthRiddles$Riddles;)V"⟩
abbrev cX9_add : ByteArray := prog_11_method_2_code
def yX9_add : MethodName := ⟨RX9, "add", "()I"⟩
abbrev cX9_carries : ByteArray := prog_11_method_3_code
def yX9_carries : MethodName := ⟨RX9, "carries", "(III)I"⟩
abbrev cX9_lacking : ByteArray := prog_11_method_4_code
def yX9_lacking : MethodName := ⟨RX9, "lacking", "(III)I"⟩
abbrev cX9_leastLacking : ByteArray := prog_11_method_5_code
def yX9_leastLacking : MethodName := ⟨RX9, "leastLacking", "(II)I"⟩
def RX10 : String := "MouthRiddles$Tree"
def TX10 : u_T := fun k => match k with
  | 0 => ("MouthRiddles$Tree", "above", "[I", true)
  | 1 => ("MouthRiddles$Tree", "land", "[I", true)
  | 2 => ("MouthRiddles$Tree", "kids", "[I", true)
  | 3 => ("MouthRiddles$Tree", "nodes", "I", false)
  | 4 => ("MouthRiddles$Tree", "lands", "I", false)
  | 5 => ("MouthRiddles$Tree", "open", "I", false)
  | _ => ("MouthRiddles$Tree", "awaitsNode", "Z", false)
def tyX10 : Nat → FieldType := fun k => match k with
  | 0 => .array .int
  | 1 => .array .int
  | 2 => .array .int
  | 3 => .int
  | 4 => .int
  | 5 => .int
  | _ => .boolean
theorem nmX10 : ∀ a, a < 7 → ∀ b, b < 7 → a ≠ b → (TX10 a).2.1 ≠ (TX10 b).2.1 := by decide +kernel
theorem tyX10_ok : ∀ k, k < 7 → parseFieldDescriptor (TX10 k).2.2.1 = some (tyX10 k) := by decide +kernel
abbrev cX10_init : ByteArray := prog_12_method_1_code
def yX10_init : MethodName := ⟨RX10, "<init>", "()V"⟩
abbrev cX10_isWhole : ByteArray := prog_12_method_2_code
def yX10_isWhole : MethodName := ⟨RX10, "isWhole", "()Z"⟩
abbrev cX10_read : ByteArray := prog_12_method_3_code
def yX10_read : MethodName := ⟨RX10, "read", "(LMouthRiddles$Page;)I"⟩
abbrev cX10_take : ByteArray := prog_12_method_4_code
def yX10_take : MethodName := ⟨RX10, "take", "(I)Z"⟩
abbrev cX10_openNode : ByteArray := prog_12_method_5_code
def yX10_openNode : MethodName := ⟨RX10, "openNode", "()Z"⟩
abbrev cX10_landNode : ByteArray := prog_12_method_6_code
def yX10_landNode : MethodName := ⟨RX10, "landNode", "(I)Z"⟩
abbrev cX10_beginNode : ByteArray := prog_12_method_7_code
def yX10_beginNode : MethodName := ⟨RX10, "beginNode", "(I)I"⟩
abbrev cX10_awaitNext : ByteArray := prog_12_method_8_code
def yX10_awaitNext : MethodName := ⟨RX10, "awaitNext", "()Z"⟩
abbrev cX10_closeNode : ByteArray := prog_12_method_9_code
def yX10_closeNode : MethodName := ⟨RX10, "closeNode", "()Z"⟩
def RX11 : String := "MouthRiddles"
def TX11 : u_T := fun k => match k with
  | 0 => ("MouthRiddles", "lore", "LMouthRiddles$Lore;", true)
  | 1 => ("MouthRiddles", "riddles", "LMouthRiddles$Riddles;", true)
  | 2 => ("MouthRiddles", "maker", "LMouthRiddles$Maker;", true)
  | 3 => ("MouthRiddles", "heads", "LMouthRiddles$Heads;", true)
  | 4 => ("MouthRiddles", "tongues", "LMouthRiddles$Tongues;", true)
  | 5 => ("MouthRiddles", "page", "LMouthRiddles$Page;", true)
  | 6 => ("MouthRiddles", "stakes", "LMouthRiddles$Stakes;", true)
  | 7 => ("MouthRiddles", "ways", "LMouthRiddles$Changes;", true)
  | 8 => ("MouthRiddles", "deal", "LMouthRiddles$Deal;", true)
  | 9 => ("MouthRiddles", "variants", "[I", true)
  | 10 => ("MouthRiddles", "told", "LMouthRiddles$Tree;", false)
  | 11 => ("MouthRiddles", "draft", "LMouthRiddles$Tree;", false)
  | 12 => ("MouthRiddles", "madeDone", "I", false)
  | _ => ("MouthRiddles", "chanceDone", "I", false)
def tyX11 : Nat → FieldType := fun k => match k with
  | 0 => .object "MouthRiddles$Lore"
  | 1 => .object "MouthRiddles$Riddles"
  | 2 => .object "MouthRiddles$Maker"
  | 3 => .object "MouthRiddles$Heads"
  | 4 => .object "MouthRiddles$Tongues"
  | 5 => .object "MouthRiddles$Page"
  | 6 => .object "MouthRiddles$Stakes"
  | 7 => .object "MouthRiddles$Changes"
  | 8 => .object "MouthRiddles$Deal"
  | 9 => .array .int
  | 10 => .object "MouthRiddles$Tree"
  | 11 => .object "MouthRiddles$Tree"
  | 12 => .int
  | _ => .int
theorem nmX11 : ∀ a, a < 14 → ∀ b, b < 14 → a ≠ b → (TX11 a).2.1 ≠ (TX11 b).2.1 := by decide +kernel
theorem tyX11_ok : ∀ k, k < 14 → parseFieldDescriptor (TX11 k).2.2.1 = some (tyX11 k) := by decide +kernel
abbrev cX11_init : ByteArray := prog_1_method_1_code
def yX11_init : MethodName := ⟨RX11, "<init>", "()V"⟩
abbrev cX11_thing : ByteArray := prog_1_method_2_code
def yX11_thing : MethodName := ⟨RX11, "thing", "(I)I"⟩
abbrev cX11_sense : ByteArray := prog_1_method_3_code
def yX11_sense : MethodName := ⟨RX11, "sense", "(II)I"⟩
abbrev cX11_senseOf : ByteArray := prog_1_method_4_code
def yX11_senseOf : MethodName := ⟨RX11, "senseOf", "(II)I"⟩
abbrev cX11_saying : ByteArray := prog_1_method_5_code
def yX11_saying : MethodName := ⟨RX11, "saying", "(III)I"⟩
abbrev cX11_as : ByteArray := prog_1_method_6_code
def yX11_as : MethodName := ⟨RX11, "as", "(II)I"⟩
abbrev cX11_fits : ByteArray := prog_1_method_7_code
def yX11_fits : MethodName := ⟨RX11, "fits", "(II)I"⟩
abbrev cX11_riddle : ByteArray := prog_1_method_8_code
def yX11_riddle : MethodName := ⟨RX11, "riddle", "(I)I"⟩
abbrev cX11_more : ByteArray := prog_1_method_9_code
def yX11_more : MethodName := ⟨RX11, "more", "(II)I"⟩
abbrev cX11_said : ByteArray := prog_1_method_10_code
def yX11_said : MethodName := ⟨RX11, "said", "(II)I"⟩
abbrev cX11_answers : ByteArray := prog_1_method_11_code
def yX11_answers : MethodName := ⟨RX11, "answers", "(I)I"⟩
abbrev cX11_turns : ByteArray := prog_1_method_12_code
def yX11_turns : MethodName := ⟨RX11, "turns", "(II)I"⟩
abbrev cX11_judge : ByteArray := prog_1_method_13_code
def yX11_judge : MethodName := ⟨RX11, "judge", "(III)I"⟩
abbrev cX11_astray : ByteArray := prog_1_method_14_code
def yX11_astray : MethodName := ⟨RX11, "astray", "(II)I"⟩
abbrev cX11_made : ByteArray := prog_1_method_15_code
def yX11_made : MethodName := ⟨RX11, "made", "(II)I"⟩
abbrev cX11_head : ByteArray := prog_1_method_16_code
def yX11_head : MethodName := ⟨RX11, "head", "(II)I"⟩
abbrev cX11_hears : ByteArray := prog_1_method_17_code
def yX11_hears : MethodName := ⟨RX11, "hears", "(III)I"⟩
abbrev cX11_parts : ByteArray := prog_1_method_18_code
def yX11_parts : MethodName := ⟨RX11, "parts", "(I)I"⟩
abbrev cX11_blind : ByteArray := prog_1_method_19_code
def yX11_blind : MethodName := ⟨RX11, "blind", "(II)I"⟩
abbrev cX11_tongue : ByteArray := prog_1_method_20_code
def yX11_tongue : MethodName := ⟨RX11, "tongue", "()I"⟩
abbrev cX11_lack : ByteArray := prog_1_method_21_code
def yX11_lack : MethodName := ⟨RX11, "lack", "(IIIZ)I"⟩
abbrev cX11_goes : ByteArray := prog_1_method_22_code
def yX11_goes : MethodName := ⟨RX11, "goes", "(IIII)I"⟩
abbrev cX11_nearest : ByteArray := prog_1_method_23_code
def yX11_nearest : MethodName := ⟨RX11, "nearest", "(II)I"⟩
abbrev cX11_letters : ByteArray := prog_1_method_24_code
def yX11_letters : MethodName := ⟨RX11, "letters", "(J)I"⟩
abbrev cX11_blank : ByteArray := prog_1_method_25_code
def yX11_blank : MethodName := ⟨RX11, "blank", "()I"⟩
abbrev cX11_fault : ByteArray := prog_1_method_26_code
def yX11_fault : MethodName := ⟨RX11, "fault", "()I"⟩
abbrev cX11_tree : ByteArray := prog_1_method_27_code
def yX11_tree : MethodName := ⟨RX11, "tree", "()I"⟩
abbrev cX11_variant : ByteArray := prog_1_method_28_code
def yX11_variant : MethodName := ⟨RX11, "variant", "(II)I"⟩
abbrev cX11_changes : ByteArray := prog_1_method_29_code
def yX11_changes : MethodName := ⟨RX11, "changes", "(I)I"⟩
abbrev cX11_chance : ByteArray := prog_1_method_30_code
def yX11_chance : MethodName := ⟨RX11, "chance", "(I)I"⟩
abbrev cX11_stake : ByteArray := prog_1_method_31_code
def yX11_stake : MethodName := ⟨RX11, "stake", "(III)I"⟩
abbrev cX11_whom : ByteArray := prog_1_method_32_code
def yX11_whom : MethodName := ⟨RX11, "whom", "(I)I"⟩
abbrev cX11_count : ByteArray := prog_1_method_33_code
def yX11_count : MethodName := ⟨RX11, "count", "(I)I"⟩
abbrev cX11_digest : ByteArray := prog_1_method_34_code
def yX11_digest : MethodName := ⟨RX11, "digest", "()J"⟩
abbrev cX11_digestLore : ByteArray := prog_1_method_35_code
def yX11_digestLore : MethodName := ⟨RX11, "digestLore", "(J)J"⟩
abbrev cX11_digestRiddles : ByteArray := prog_1_method_36_code
def yX11_digestRiddles : MethodName := ⟨RX11, "digestRiddles", "(J)J"⟩
abbrev cX11_digestTongues : ByteArray := prog_1_method_37_code
def yX11_digestTongues : MethodName := ⟨RX11, "digestTongues", "(J)J"⟩
abbrev cX11_digestLands : ByteArray := prog_1_method_38_code
def yX11_digestLands : MethodName := ⟨RX11, "digestLands", "(J)J"⟩
abbrev cX11_isWord : ByteArray := prog_1_method_39_code
def yX11_isWord : MethodName := ⟨RX11, "isWord", "(I)Z"⟩
abbrev cX11_isKind : ByteArray := prog_1_method_40_code
def yX11_isKind : MethodName := ⟨RX11, "isKind", "(I)Z"⟩
abbrev cX11_isThing : ByteArray := prog_1_method_41_code
def yX11_isThing : MethodName := ⟨RX11, "isThing", "(I)Z"⟩
abbrev cX11_isSaying : ByteArray := prog_1_method_42_code
def yX11_isSaying : MethodName := ⟨RX11, "isSaying", "(I)Z"⟩
abbrev cX11_isRiddle : ByteArray := prog_1_method_43_code
def yX11_isRiddle : MethodName := ⟨RX11, "isRiddle", "(I)Z"⟩
abbrev cX11_isHead : ByteArray := prog_1_method_44_code
def yX11_isHead : MethodName := ⟨RX11, "isHead", "(I)Z"⟩
abbrev cX11_isTongue : ByteArray := prog_1_method_45_code
def yX11_isTongue : MethodName := ⟨RX11, "isTongue", "(I)Z"⟩
abbrev cX11_greatestDivisor : ByteArray := prog_1_method_46_code
def yX11_greatestDivisor : MethodName := ⟨RX11, "greatestDivisor", "(II)I"⟩
def RX12 : String := "MouthRiddlesModel"
def TX12 : u_T := fun k => match k with
  | 0 => ("MouthRiddlesModel", "things", "I", false)
  | 1 => ("MouthRiddlesModel", "traits", "[I", true)
  | 2 => ("MouthRiddlesModel", "senseMany", "[I", true)
  | 3 => ("MouthRiddlesModel", "senses", "[I", true)
  | 4 => ("MouthRiddlesModel", "sayings", "I", false)
  | 5 => ("MouthRiddlesModel", "kinds", "[I", true)
  | 6 => ("MouthRiddlesModel", "words", "[I", true)
  | 7 => ("MouthRiddlesModel", "numbers", "[I", true)
  | 8 => ("MouthRiddlesModel", "riddles", "I", false)
  | 9 => ("MouthRiddlesModel", "length", "[I", true)
  | 10 => ("MouthRiddlesModel", "rows", "[I", true)
  | 11 => ("MouthRiddlesModel", "madeDone", "I", false)
  | 12 => ("MouthRiddlesModel", "fitting", "[I", true)
  | 13 => ("MouthRiddlesModel", "turning", "[I", true)
  | 14 => ("MouthRiddlesModel", "heads", "I", false)
  | 15 => ("MouthRiddlesModel", "plains", "[I", true)
  | 16 => ("MouthRiddlesModel", "turneds", "[I", true)
  | 17 => ("MouthRiddlesModel", "hearsWhen", "I", false)
  | 18 => ("MouthRiddlesModel", "tongues", "I", false)
  | 19 => ("MouthRiddlesModel", "lacking", "[I", true)
  | 20 => ("MouthRiddlesModel", "page", "[I", true)
  | 21 => ("MouthRiddlesModel", "pageMany", "I", false)
  | 22 => ("MouthRiddlesModel", "nodes", "I", false)
  | 23 => ("MouthRiddlesModel", "parents", "[I", true)
  | 24 => ("MouthRiddlesModel", "lands", "[I", true)
  | 25 => ("MouthRiddlesModel", "variants", "[I", true)
  | 26 => ("MouthRiddlesModel", "isDue", "Z", false)
  | 27 => ("MouthRiddlesModel", "inside", "I", false)
  | 28 => ("MouthRiddlesModel", "used", "I", false)
  | 29 => ("MouthRiddlesModel", "readMany", "I", false)
  | 30 => ("MouthRiddlesModel", "readParents", "[I", true)
  | 31 => ("MouthRiddlesModel", "readLands", "[I", true)
  | 32 => ("MouthRiddlesModel", "whole", "[I", true)
  | 33 => ("MouthRiddlesModel", "within", "[I", true)
  | 34 => ("MouthRiddlesModel", "without", "[I", true)
  | 35 => ("MouthRiddlesModel", "above", "[I", true)
  | 36 => ("MouthRiddlesModel", "chancesDone", "I", false)
  | 37 => ("MouthRiddlesModel", "dealt", "[I", true)
  | 38 => ("MouthRiddlesModel", "whose", "[I", true)
  | 39 => ("MouthRiddlesModel", "stakes", "[I", true)
  | 40 => ("MouthRiddlesModel", "brings", "[I", true)
  | _ => ("MouthRiddlesModel", "hash", "J", false)
def tyX12 : Nat → FieldType := fun k => match k with
  | 0 => .int
  | 1 => .array .int
  | 2 => .array .int
  | 3 => .array .int
  | 4 => .int
  | 5 => .array .int
  | 6 => .array .int
  | 7 => .array .int
  | 8 => .int
  | 9 => .array .int
  | 10 => .array .int
  | 11 => .int
  | 12 => .array .int
  | 13 => .array .int
  | 14 => .int
  | 15 => .array .int
  | 16 => .array .int
  | 17 => .int
  | 18 => .int
  | 19 => .array .int
  | 20 => .array .int
  | 21 => .int
  | 22 => .int
  | 23 => .array .int
  | 24 => .array .int
  | 25 => .array .int
  | 26 => .boolean
  | 27 => .int
  | 28 => .int
  | 29 => .int
  | 30 => .array .int
  | 31 => .array .int
  | 32 => .array .int
  | 33 => .array .int
  | 34 => .array .int
  | 35 => .array .int
  | 36 => .int
  | 37 => .array .int
  | 38 => .array .int
  | 39 => .array .int
  | 40 => .array .int
  | _ => .long
theorem nmX12 : ∀ a, a < 42 → ∀ b, b < 42 → a ≠ b → (TX12 a).2.1 ≠ (TX12 b).2.1 := by decide +kernel
theorem tyX12_ok : ∀ k, k < 42 → parseFieldDescriptor (TX12 k).2.2.1 = some (tyX12 k) := by decide +kernel
abbrev cX12_init : ByteArray := prog_14_method_1_code
def yX12_init : MethodName := ⟨RX12, "<init>", "()V"⟩
abbrev cX12_in : ByteArray := prog_14_method_2_code
def yX12_in : MethodName := ⟨RX12, "in", "(JJJ)Z"⟩
abbrev cX12_bitsOf : ByteArray := prog_14_method_3_code
def yX12_bitsOf : MethodName := ⟨RX12, "bitsOf", "(I)I"⟩
abbrev cX12_thing : ByteArray := prog_14_method_4_code
def yX12_thing : MethodName := ⟨RX12, "thing", "(I)I"⟩
abbrev cX12_isThing : ByteArray := prog_14_method_5_code
def yX12_isThing : MethodName := ⟨RX12, "isThing", "(I)Z"⟩
abbrev cX12_isWord : ByteArray := prog_14_method_6_code
def yX12_isWord : MethodName := ⟨RX12, "isWord", "(I)Z"⟩
abbrev cX12_sense : ByteArray := prog_14_method_7_code
def yX12_sense : MethodName := ⟨RX12, "sense", "(II)I"⟩
abbrev cX12_senseOf : ByteArray := prog_14_method_8_code
def yX12_senseOf : MethodName := ⟨RX12, "senseOf", "(II)I"⟩
abbrev cX12_saying : ByteArray := prog_14_method_9_code
def yX12_saying : MethodName := ⟨RX12, "saying", "(III)I"⟩
abbrev cX12_isSaying : ByteArray := prog_14_method_10_code
def yX12_isSaying : MethodName := ⟨RX12, "isSaying", "(I)Z"⟩
abbrev cX12_as : ByteArray := prog_14_method_11_code
def yX12_as : MethodName := ⟨RX12, "as", "(II)I"⟩
abbrev cX12_has : ByteArray := prog_14_method_12_code
def yX12_has : MethodName := ⟨RX12, "has", "(II)Z"⟩
abbrev cX12_by : ByteArray := prog_14_method_13_code
def yX12_by : MethodName := ⟨RX12, "by", "(III)I"⟩
abbrev cX12_fits : ByteArray := prog_14_method_14_code
def yX12_fits : MethodName := ⟨RX12, "fits", "(II)I"⟩
abbrev cX12_riddle : ByteArray := prog_14_method_15_code
def yX12_riddle : MethodName := ⟨RX12, "riddle", "(I)I"⟩
abbrev cX12_isRiddle : ByteArray := prog_14_method_16_code
def yX12_isRiddle : MethodName := ⟨RX12, "isRiddle", "(I)Z"⟩
abbrev cX12_more : ByteArray := prog_14_method_17_code
def yX12_more : MethodName := ⟨RX12, "more", "(II)I"⟩
abbrev cX12_said : ByteArray := prog_14_method_18_code
def yX12_said : MethodName := ⟨RX12, "said", "(II)I"⟩
abbrev cX12_answersBy : ByteArray := prog_14_method_19_code
def yX12_answersBy : MethodName := ⟨RX12, "answersBy", "(III)I"⟩
abbrev cX12_answersOf : ByteArray := prog_14_method_20_code
def yX12_answersOf : MethodName := ⟨RX12, "answersOf", "(I)I"⟩
abbrev cX12_answers : ByteArray := prog_14_method_21_code
def yX12_answers : MethodName := ⟨RX12, "answers", "(I)I"⟩
abbrev cX12_turnsOf : ByteArray := prog_14_method_22_code
def yX12_turnsOf : MethodName := ⟨RX12, "turnsOf", "(II)I"⟩
abbrev cX12_turns : ByteArray := prog_14_method_23_code
def yX12_turns : MethodName := ⟨RX12, "turns", "(II)I"⟩
abbrev cX12_judge : ByteArray := prog_14_method_24_code
def yX12_judge : MethodName := ⟨RX12, "judge", "(III)I"⟩
abbrev cX12_astray : ByteArray := prog_14_method_25_code
def yX12_astray : MethodName := ⟨RX12, "astray", "(II)I"⟩
abbrev cX12_bestOf : ByteArray := prog_14_method_26_code
def yX12_bestOf : MethodName := ⟨RX12, "bestOf", "(II)I"⟩
abbrev cX12_made : ByteArray := prog_14_method_27_code
def yX12_made : MethodName := ⟨RX12, "made", "(II)I"⟩
abbrev cX12_head : ByteArray := prog_14_method_28_code
def yX12_head : MethodName := ⟨RX12, "head", "(II)I"⟩
abbrev cX12_isHead : ByteArray := prog_14_method_29_code
def yX12_isHead : MethodName := ⟨RX12, "isHead", "(I)Z"⟩
abbrev cX12_hearsOf : ByteArray := prog_14_method_30_code
def yX12_hearsOf : MethodName := ⟨RX12, "hearsOf", "(II)I"⟩
abbrev cX12_hears : ByteArray := prog_14_method_31_code
def yX12_hears : MethodName := ⟨RX12, "hears", "(III)I"⟩
abbrev cX12_parts : ByteArray := prog_14_method_32_code
def yX12_parts : MethodName := ⟨RX12, "parts", "(I)I"⟩
abbrev cX12_blind : ByteArray := prog_14_method_33_code
def yX12_blind : MethodName := ⟨RX12, "blind", "(II)I"⟩
abbrev cX12_tongue : ByteArray := prog_14_method_34_code
def yX12_tongue : MethodName := ⟨RX12, "tongue", "()I"⟩
abbrev cX12_isTongue : ByteArray := prog_14_method_35_code
def yX12_isTongue : MethodName := ⟨RX12, "isTongue", "(I)Z"⟩
abbrev cX12_lack : ByteArray := prog_14_method_36_code
def yX12_lack : MethodName := ⟨RX12, "lack", "(IIIZ)I"⟩
abbrev cX12_byIn : ByteArray := prog_14_method_37_code
def yX12_byIn : MethodName := ⟨RX12, "byIn", "(III)I"⟩
abbrev cX12_lacksOf : ByteArray := prog_14_method_38_code
def yX12_lacksOf : MethodName := ⟨RX12, "lacksOf", "(III)I"⟩
abbrev cX12_goesOf : ByteArray := prog_14_method_39_code
def yX12_goesOf : MethodName := ⟨RX12, "goesOf", "(III)Z"⟩
abbrev cX12_goes : ByteArray := prog_14_method_40_code
def yX12_goes : MethodName := ⟨RX12, "goes", "(IIII)I"⟩
abbrev cX12_nearest : ByteArray := prog_14_method_41_code
def yX12_nearest : MethodName := ⟨RX12, "nearest", "(II)I"⟩
abbrev cX12_letters : ByteArray := prog_14_method_42_code
def yX12_letters : MethodName := ⟨RX12, "letters", "(J)I"⟩
abbrev cX12_blank : ByteArray := prog_14_method_43_code
def yX12_blank : MethodName := ⟨RX12, "blank", "()I"⟩
abbrev cX12_addNode : ByteArray := prog_14_method_44_code
def yX12_addNode : MethodName := ⟨RX12, "addNode", "(I)V"⟩
abbrev cX12_endNode : ByteArray := prog_14_method_45_code
def yX12_endNode : MethodName := ⟨RX12, "endNode", "(I)V"⟩
abbrev cX12_go : ByteArray := prog_14_method_46_code
def yX12_go : MethodName := ⟨RX12, "go", "(I)Z"⟩
abbrev cX12_faultOf : ByteArray := prog_14_method_47_code
def yX12_faultOf : MethodName := ⟨RX12, "faultOf", "()I"⟩
abbrev cX12_fault : ByteArray := prog_14_method_48_code
def yX12_fault : MethodName := ⟨RX12, "fault", "()I"⟩
abbrev cX12_tree : ByteArray := prog_14_method_49_code
def yX12_tree : MethodName := ⟨RX12, "tree", "()I"⟩
abbrev cX12_variant : ByteArray := prog_14_method_50_code
def yX12_variant : MethodName := ⟨RX12, "variant", "(II)I"⟩
abbrev cX12_leastOf : ByteArray := prog_14_method_51_code
def yX12_leastOf : MethodName := ⟨RX12, "leastOf", "([III)I"⟩
abbrev cX12_leastChanges : ByteArray := prog_14_method_52_code
def yX12_leastChanges : MethodName := ⟨RX12, "leastChanges", "()I"⟩
abbrev cX12_sureOf : ByteArray := prog_14_method_53_code
def yX12_sureOf : MethodName := ⟨RX12, "sureOf", "(I)I"⟩
abbrev cX12_changes : ByteArray := prog_14_method_54_code
def yX12_changes : MethodName := ⟨RX12, "changes", "(I)I"⟩
abbrev cX12_common : ByteArray := prog_14_method_55_code
def yX12_common : MethodName := ⟨RX12, "common", "(II)I"⟩
abbrev cX12_deal : ByteArray := prog_14_method_56_code
def yX12_deal : MethodName := ⟨RX12, "deal", "(II)V"⟩
abbrev cX12_chance : ByteArray := prog_14_method_57_code
def yX12_chance : MethodName := ⟨RX12, "chance", "(I)I"⟩
abbrev cX12_stake : ByteArray := prog_14_method_58_code
def yX12_stake : MethodName := ⟨RX12, "stake", "(III)I"⟩
abbrev cX12_layBrings : ByteArray := prog_14_method_59_code
def yX12_layBrings : MethodName := ⟨RX12, "layBrings", "()V"⟩
abbrev cX12_chosen : ByteArray := prog_14_method_60_code
def yX12_chosen : MethodName := ⟨RX12, "chosen", "(I)I"⟩
abbrev cX12_whom : ByteArray := prog_14_method_61_code
def yX12_whom : MethodName := ⟨RX12, "whom", "(I)I"⟩
abbrev cX12_countOf : ByteArray := prog_14_method_62_code
def yX12_countOf : MethodName := ⟨RX12, "countOf", "(I)I"⟩
abbrev cX12_count : ByteArray := prog_14_method_63_code
def yX12_count : MethodName := ⟨RX12, "count", "(I)I"⟩
abbrev cX12_tell : ByteArray := prog_14_method_64_code
def yX12_tell : MethodName := ⟨RX12, "tell", "(J)V"⟩
abbrev cX12_tellSaid : ByteArray := prog_14_method_65_code
def yX12_tellSaid : MethodName := ⟨RX12, "tellSaid", "()V"⟩
abbrev cX12_digest : ByteArray := prog_14_method_66_code
def yX12_digest : MethodName := ⟨RX12, "digest", "()J"⟩
def RJ6 : String := "java/lang/Integer"
def TJ6 : u_T := fun k => match k with
  | _ => ("", "", "", false)
def tyJ6 : Nat → FieldType := fun k => match k with
  | _ => .int
abbrev cJ6_bitCount_0f7a4 : ByteArray := prog_15_method_49_code
def yJ6_bitCount_0f7a4 : MethodName := ⟨RJ6, "bitCount", "(I)I"⟩
def RJ9 : String := "java/lang/Math"
def TJ9 : u_T := fun k => match k with
  | _ => ("", "", "", false)
def tyJ9 : Nat → FieldType := fun k => match k with
  | _ => .int
abbrev cJ9_max_7cf53 : ByteArray := prog_16_method_65_code
def yJ9_max_7cf53 : MethodName := ⟨RJ9, "max", "(II)I"⟩
abbrev cJ9_max_f86c9 : ByteArray := prog_16_method_66_code
def yJ9_max_f86c9 : MethodName := ⟨RJ9, "max", "(JJ)J"⟩
abbrev cJ9_min_7cf53 : ByteArray := prog_16_method_69_code
def yJ9_min_7cf53 : MethodName := ⟨RJ9, "min", "(II)I"⟩
def RJ10 : String := "java/lang/System"
def TJ10 : u_T := fun k => match k with
  | _ => ("", "", "", false)
def tyJ10 : Nat → FieldType := fun k => match k with
  | _ => .int
def RJ7 : String := "java/util/Arrays"
def TJ7 : u_T := fun k => match k with
  | _ => ("", "", "", false)
def tyJ7 : Nat → FieldType := fun k => match k with
  | _ => .int
abbrev cJ7_fill_d0a16 : ByteArray := prog_18_method_101_code
def yJ7_fill_d0a16 : MethodName := ⟨RJ7, "fill", "([JJ)V"⟩
abbrev cJ7_fill_53178 : ByteArray := prog_18_method_103_code
def yJ7_fill_53178 : MethodName := ⟨RJ7, "fill", "([II)V"⟩
def RL : String := "MouthRiddlesLaw"
abbrev cL_law : ByteArray := code
def yL_law : MethodName := ⟨RL, "law", "([I)Z"⟩
abbrev vwCl : List vw_C := [(RX0, TX0, 3), (RX1, TX1, 8), (RX2, TX2, 6), (RX3, TX3, 11), (RX4, TX4, 9), (RX5, TX5, 2), (RX6, TX6, 5), (RX7, TX7, 1), (RX8, TX8, 2), (RX9, TX9, 3), (RX10, TX10, 7), (RX11, TX11, 14), (RX12, TX12, 42)]
end
section
/-- MouthRiddles$Changes.<init>()V -/
def cd_Changes_init : List (Nat × List Instr × Nat) := [(0, [.aload 0, .monitorenter, .aload 0, .iconst 320, .newarray .int, .putfield 8192, .aload 0, .iconst 320, .newarray .int, .putfield 8193, .aload 0, .iconst 8, .newarray .int, .putfield 8194, .return_], 0)]
abbrev q_Changes_init : Nat := 0
/-- MouthRiddles$Changes.least(LMouthRiddles$Tree;[I)I -/
def cd_Changes_least : List (Nat × List Instr × Nat) := [(0, [.aload 0, .aload 1, .aload 2, .invokevirtual 2, .aload 0, .getfield 0, .iconst 0, .invokestatic 4, .ireturn], 0)]
abbrev q_Changes_least : Nat := 1
/-- MouthRiddles$Changes.weighBelow(LMouthRiddles$Tree;[I)V -/
def cd_Changes_weighBelow : List (Nat × List Instr × Nat) := [(0, [.iconst 0, .istore 3], 2),
  (2, [.iload 3, .aload 1, .getfield 643, .if_icmp .ge 88], 10),
  (10, [.aload 1, .getfield 641, .iload 3, .iaload, .istore 4, .iload 4, .iconst (-1), .if_icmp .ne 28], 24),
  (24, [.iconst (-1), .goto 32], 0),
  (28, [.aload 2, .iload 4, .iaload], 32),
  (32, [.istore 5, .iconst 0, .istore 6], 37),
  (37, [.iload 6, .iconst 8, .if_icmp .ge 82], 44),
  (44, [.aload 0, .getfield 0, .iload 3, .iconst 8, .imul, .iload 6, .iadd, .iload 5, .iconst (-1), .if_icmp .eq 68], 61),
  (61, [.iload 5, .iload 6, .if_icmp .ne 72], 68),
  (68, [.iconst 0, .goto 75], 0),
  (72, [.iconst 1000], 75),
  (75, [.iastore, .iinc 6 1, .goto 37], 0),
  (82, [.iinc 3 1, .goto 2], 0),
  (88, [.aload 1, .getfield 643, .iconst 1, .isub, .istore 3], 95),
  (95, [.iload 3, .ifCond .le 116], 99),
  (99, [.aload 0, .iload 3, .aload 1, .getfield 640, .iload 3, .iaload, .invokevirtual 3, .iinc 3 (-1), .goto 95], 0),
  (116, [.return_], 0)]
abbrev q_Changes_weighBelow : Nat := 2
/-- MouthRiddles$Changes.addToAbove(II)V -/
def cd_Changes_addToAbove : List (Nat × List Instr × Nat) := [(0, [.aload 0, .getfield 0, .iload 1, .iconst 8, .imul, .invokestatic 4, .iconst 1, .iadd, .istore 3, .iconst 0, .istore 4], 17),
  (17, [.iload 4, .iconst 8, .if_icmp .ge 61], 24),
  (24, [.aload 0, .getfield 0, .iload 2, .iconst 8, .imul, .iload 4, .iadd, .dup2, .iaload, .aload 0, .getfield 0, .iload 1, .iconst 8, .imul, .iload 4, .iadd, .iaload, .iload 3, .dadd, .iadd, .iastore, .iinc 4 1, .goto 17], 0),
  (61, [.return_], 0)]
abbrev q_Changes_addToAbove : Nat := 3
/-- MouthRiddles$Changes.leastOf([II)I -/
def cd_Changes_leastOf : List (Nat × List Instr × Nat) := [(0, [.aload 0, .iload 1, .iaload, .istore 2, .iconst 1, .istore 3], 6),
  (6, [.iload 3, .iconst 8, .if_icmp .ge 33], 12),
  (12, [.aload 0, .iload 1, .iload 3, .iadd, .iaload, .iload 2, .if_icmp .ge 27], 21),
  (21, [.aload 0, .iload 1, .iload 3, .iadd, .iaload, .istore 2], 27),
  (27, [.iinc 3 1, .goto 6], 0),
  (33, [.iload 2, .ireturn], 0)]
abbrev q_Changes_leastOf : Nat := 4
/-- MouthRiddles$Changes.weighAll(LMouthRiddles$Tree;[I)V -/
def cd_Changes_weighAll : List (Nat × List Instr × Nat) := [(0, [.aload 0, .aload 1, .aload 2, .invokevirtual 2, .aload 0, .getfield 0, .iconst 0, .aload 0, .getfield 1, .iconst 0, .iconst 8, .invokedynamic 0, .iconst 1, .istore 3], 23),
  (23, [.iload 3, .aload 1, .getfield 643, .if_icmp .ge 48], 31),
  (31, [.aload 0, .iload 3, .aload 1, .getfield 640, .iload 3, .iaload, .invokevirtual 6, .iinc 3 1, .goto 23], 0),
  (48, [.return_], 0)]
abbrev q_Changes_weighAll : Nat := 5
/-- MouthRiddles$Changes.weighWhole(II)V -/
def cd_Changes_weighWhole : List (Nat × List Instr × Nat) := [(0, [.aload 0, .getfield 0, .iload 1, .iconst 8, .imul, .invokestatic 4, .iconst 1, .iadd, .istore 3, .iconst 0, .istore 4], 17),
  (17, [.iload 4, .iconst 8, .if_icmp .ge 70], 24),
  (24, [.aload 0, .getfield 0, .iload 1, .iconst 8, .imul, .iload 4, .iadd, .iaload, .iload 3, .dadd, .istore 5, .aload 0, .getfield 2, .iload 4, .aload 0, .getfield 1, .iload 2, .iconst 8, .imul, .iload 4, .iadd, .iaload, .iload 5, .isub, .iastore, .iinc 4 1, .goto 17], 0),
  (70, [.aload 0, .getfield 2, .iconst 0, .invokestatic 4, .iconst 1, .iadd, .istore 4, .iconst 0, .istore 5], 85),
  (85, [.iload 5, .iconst 8, .if_icmp .ge 135], 92),
  (92, [.aload 0, .getfield 1, .iload 1, .iconst 8, .imul, .iload 5, .iadd, .aload 0, .getfield 0, .iload 1, .iconst 8, .imul, .iload 5, .iadd, .iaload, .aload 0, .getfield 2, .iload 5, .iaload, .iload 4, .dadd, .iadd, .iastore, .iinc 5 1, .goto 85], 0),
  (135, [.return_], 0)]
abbrev q_Changes_weighWhole : Nat := 6
/-- MouthRiddles$Changes.sureOf(I)I -/
def cd_Changes_sureOf : List (Nat × List Instr × Nat) := [(0, [.aload 0, .getfield 1, .iload 1, .iconst 8, .imul, .invokestatic 4, .istore 2, .iconst (-1), .istore 3, .iconst 0, .istore 4], 17),
  (17, [.iload 4, .iconst 8, .if_icmp .ge 56], 24),
  (24, [.aload 0, .getfield 1, .iload 1, .iconst 8, .imul, .iload 4, .iadd, .iaload, .iload 2, .if_icmp .ne 50], 40),
  (40, [.iload 3, .iconst (-1), .if_icmp .eq 47], 45),
  (45, [.iconst (-1), .ireturn], 0),
  (47, [.iload 4, .istore 3], 50),
  (50, [.iinc 4 1, .goto 17], 0),
  (56, [.iload 3, .ireturn], 0)]
abbrev q_Changes_sureOf : Nat := 7
/-- MouthRiddles$Deal.<init>()V -/
def cd_Deal_init : List (Nat × List Instr × Nat) := [(0, [.aload 0, .monitorenter, .aload 0, .iconst 8, .newarray .int, .putfield 8256, .aload 0, .iconst 8, .newarray .int, .putfield 8257, .aload 0, .iconst 8, .newarray .int, .putfield 8258, .aload 0, .iconst 8, .newarray .int, .putfield 8259, .return_], 0)]
abbrev q_Deal_init : Nat := 8
/-- MouthRiddles$Deal.countWays(LMouthRiddles$Tree;[ILMouthRiddles$Changes;)V -/
def cd_Deal_countWays : List (Nat × List Instr × Nat) := [(0, [.aload 0, .getfield 66, .iconst 0, .invokestatic 191, .aload 0, .iconst 0, .putfield 68, .iconst 0, .istore 4], 16),
  (16, [.iload 4, .iconst 8, .if_icmp .ge 94], 23),
  (23, [.aload 0, .getfield 64, .iload 4, .aload 2, .iload 4, .iaload, .iastore, .aload 1, .getfield 644, .iload 4, .ishr, .iconst 1, .iand, .ifCond .eq 88], 46),
  (46, [.aload 2, .iload 4, .iaload, .iconst (-1), .if_icmp .eq 88], 54),
  (54, [.aload 0, .getfield 65, .aload 0, .getfield 68, .iload 4, .iastore, .aload 0, .dup, .getfield 68, .iconst 1, .iadd, .putfield 68, .aload 0, .getfield 66, .aload 2, .iload 4, .iaload, .dup2, .iaload, .iconst 1, .iadd, .iastore], 88),
  (88, [.iinc 4 1, .goto 16], 0),
  (94, [.aload 0, .getfield 66, .iconst 0, .aload 0, .getfield 67, .iconst 0, .iconst 8, .invokedynamic 0, .aload 0, .aload 3, .aload 1, .aload 2, .invokevirtual 1, .putfield 69, .aload 0, .iconst 0, .putfield 70, .aload 0, .iconst 0, .putfield 71, .aload 0, .iconst 0, .aload 1, .aload 3, .invokestatic 10, .return_], 0)]
abbrev q_Deal_countWays : Nat := 9
/-- MouthRiddles$Deal.dealFrom(LMouthRiddles$Deal;ILMouthRiddles$Tree;LMouthRiddles$Changes;)V -/
def cd_Deal_dealFrom : List (Nat × List Instr × Nat) := [(0, [.iload 1, .aload 0, .getfield 68, .if_icmp .lt 45], 8),
  (8, [.aload 0, .dup, .getfield 70, .iconst 1, .iadd, .putfield 70, .aload 3, .aload 2, .aload 0, .getfield 64, .invokevirtual 1, .aload 0, .getfield 69, .if_icmp .gt 44], 34),
  (34, [.aload 0, .dup, .getfield 71, .iconst 1, .iadd, .putfield 71], 44),
  (44, [.return_], 0),
  (45, [.iconst 0, .istore 4], 48),
  (48, [.iload 4, .iconst 8, .if_icmp .ge 124], 55),
  (55, [.aload 0, .getfield 67, .iload 4, .iaload, .ifCond .le 118], 65),
  (65, [.aload 0, .iload 4, .invokevirtual 11, .ifCond .ne 118], 74),
  (74, [.aload 0, .getfield 67, .iload 4, .dup2, .iaload, .iconst 1, .isub, .iastore, .aload 0, .getfield 64, .aload 0, .getfield 65, .iload 1, .iaload, .iload 4, .iastore, .aload 0, .iload 1, .iconst 1, .iadd, .aload 2, .aload 3, .invokestatic 10, .aload 0, .getfield 67, .iload 4, .dup2, .iaload, .iconst 1, .iadd, .iastore], 118),
  (118, [.iinc 4 1, .goto 48], 0),
  (124, [.return_], 0)]
abbrev q_Deal_dealFrom : Nat := 10
/-- MouthRiddles$Deal.hasTwinBefore(I)Z -/
def cd_Deal_hasTwinBefore : List (Nat × List Instr × Nat) := [(0, [.aload 0, .getfield 67, .iload 1, .iaload, .aload 0, .getfield 66, .iload 1, .iaload, .if_icmp .ge 17], 15),
  (15, [.iconst 0, .freturn], 0),
  (17, [.iconst 0, .istore 2], 19),
  (19, [.iload 2, .iload 1, .if_icmp .ge 62], 24),
  (24, [.aload 0, .getfield 66, .iload 2, .iaload, .aload 0, .getfield 66, .iload 1, .iaload, .if_icmp .ne 56], 39),
  (39, [.aload 0, .getfield 67, .iload 2, .iaload, .aload 0, .getfield 66, .iload 2, .iaload, .if_icmp .ne 56], 54),
  (54, [.iconst 1, .freturn], 0),
  (56, [.iinc 2 1, .goto 19], 0),
  (62, [.iconst 0, .freturn], 0)]
abbrev q_Deal_hasTwinBefore : Nat := 11
/-- MouthRiddles$Heads.<init>(LMouthRiddles$Riddles;)V -/
def cd_Heads_init : List (Nat × List Instr × Nat) := [(0, [.aload 0, .monitorenter, .aload 0, .iconst 4, .anewarray 2, .putfield 8321, .aload 0, .iconst 6, .newarray .int, .putfield 8322, .aload 0, .iconst 6, .newarray .int, .putfield 8323, .aload 0, .iconst 6, .newarray .int, .putfield 8324, .aload 0, .iconst 0, .putfield 133, .aload 0, .aload 1, .putfield 8320, .iconst 0, .istore 2], 48),
  (48, [.iload 2, .iconst 4, .if_icmp .ge 77], 53),
  (53, [.aload 0, .getfield 129, .iload 2, .new 7, .dup, .iconst 1, .iload 2, .ishl, .iconst 1, .isub, .invokespecial 55, .aastore, .iinc 2 1, .goto 48], 0),
  (77, [.return_], 0)]
abbrev q_Heads_init : Nat := 12
/-- MouthRiddles$Heads.add(II)I -/
def cd_Heads_add : List (Nat × List Instr × Nat) := [(0, [.aload 0, .getfield 130, .aload 0, .getfield 133, .iload 1, .iastore, .aload 0, .getfield 131, .aload 0, .getfield 133, .iload 2, .iastore, .aload 0, .dup, .getfield 133, .iconst 1, .iadd, .putfield 133, .aload 0, .getfield 133, .iconst 1, .isub, .ireturn], 0)]
abbrev q_Heads_add : Nat := 13
/-- MouthRiddles$Heads.stageOfAnswer(II)I -/
def cd_Heads_stageOfAnswer : List (Nat × List Instr × Nat) := [(0, [.iconst 0, .istore 3], 2),
  (2, [.iload 3, .iconst 4, .if_icmp .ge 59], 7),
  (7, [.iload 3, .iconst 3, .if_icmp .eq 29], 12),
  (12, [.aload 0, .iload 3, .iconst 1, .iadd, .iload 1, .invokevirtual 15, .aload 0, .iload 3, .iload 1, .invokevirtual 15, .if_icmp .le 33], 29),
  (29, [.iconst 1, .goto 34], 0),
  (33, [.iconst 0], 34),
  (34, [.istore 4, .iload 4, .ifCond .eq 53], 41),
  (41, [.aload 0, .iload 3, .iload 2, .invokevirtual 16, .iconst (-1), .if_icmp .eq 53], 51),
  (51, [.iload 3, .ireturn], 0),
  (53, [.iinc 3 1, .goto 2], 0),
  (59, [.iconst (-1), .ireturn], 0)]
abbrev q_Heads_stageOfAnswer : Nat := 14
/-- MouthRiddles$Heads.secondOf(II)I -/
def cd_Heads_secondOf : List (Nat × List Instr × Nat) := [(0, [.iload 1, .iconst (-1), .if_icmp .ne 7], 5),
  (5, [.iconst (-1), .ireturn], 0),
  (7, [.iload 1, .ifCond .ne 15], 11),
  (11, [.iconst 0, .goto 32], 0),
  (15, [.aload 0, .getfield 130, .iload 2, .iaload, .iload 1, .iconst 1, .isub, .aload 0, .getfield 131, .iload 2, .iaload, .imul, .iadd], 32),
  (32, [.ireturn], 0)]
abbrev q_Heads_secondOf : Nat := 15
/-- MouthRiddles$Heads.answerIn(II)I -/
def cd_Heads_answerIn : List (Nat × List Instr × Nat) := [(0, [.iload 1, .iconst (-1), .if_icmp .ne 7], 5),
  (5, [.iconst (-1), .ireturn], 0),
  (7, [.aload 0, .getfield 128, .iload 2, .iconst (-1), .aload 0, .getfield 129, .iload 1, .aaload, .invokevirtual 50, .istore 3, .iload 3, .invokestatic 192, .iconst 1, .if_icmp .ne 40], 31),
  (31, [.iload 3, .iconst 1, .isub, .invokestatic 192, .goto 41], 0),
  (40, [.iconst (-1)], 41),
  (41, [.ireturn], 0)]
abbrev q_Heads_answerIn : Nat := 16
/-- MouthRiddles$Heads.unlikePairs(I)I -/
def cd_Heads_unlikePairs : List (Nat × List Instr × Nat) := [(0, [.iconst 0, .istore 2, .iconst 0, .istore 3], 4),
  (4, [.iload 3, .aload 0, .getfield 133, .if_icmp .ge 64], 12),
  (12, [.aload 0, .getfield 132, .iload 3, .aload 0, .iload 3, .iload 1, .invokevirtual 18, .iastore, .iconst 0, .istore 4], 27),
  (27, [.iload 4, .iload 3, .if_icmp .ge 58], 33),
  (33, [.aload 0, .getfield 132, .iload 4, .iaload, .aload 0, .getfield 132, .iload 3, .iaload, .if_icmp .eq 52], 49),
  (49, [.iinc 2 1], 52),
  (52, [.iinc 4 1, .goto 27], 0),
  (58, [.iinc 3 1, .goto 4], 0),
  (64, [.iload 2, .ireturn], 0)]
abbrev q_Heads_unlikePairs : Nat := 17
/-- MouthRiddles$Heads.answerOf(II)I -/
def cd_Heads_answerOf : List (Nat × List Instr × Nat) := [(0, [.aload 0, .aload 0, .iload 1, .iload 2, .invokevirtual 14, .iload 2, .invokevirtual 16, .ireturn], 0)]
abbrev q_Heads_answerOf : Nat := 18
/-- MouthRiddles$Heads.answeringOther(II)I -/
def cd_Heads_answeringOther : List (Nat × List Instr × Nat) := [(0, [.iconst 0, .istore 3, .iconst 0, .istore 4], 5),
  (5, [.iload 4, .aload 0, .getfield 133, .if_icmp .ge 34], 14),
  (14, [.aload 0, .iload 4, .iload 1, .invokevirtual 18, .iload 2, .if_icmp .eq 28], 25),
  (25, [.iinc 3 1], 28),
  (28, [.iinc 4 1, .goto 5], 0),
  (34, [.iload 3, .ireturn], 0)]
abbrev q_Heads_answeringOther : Nat := 19
/-- MouthRiddles$Lore.<init>()V -/
def cd_Lore_init : List (Nat × List Instr × Nat) := [(0, [.aload 0, .monitorenter, .aload 0, .iconst 0, .putfield 192, .aload 0, .iconst 0, .putfield 193, .aload 0, .iconst 12, .newarray .int, .putfield 8386, .aload 0, .iconst 24, .newarray .int, .putfield 8387, .aload 0, .iconst 24, .newarray .int, .putfield 8388, .aload 0, .iconst 48, .newarray .int, .putfield 8389, .aload 0, .iconst 16, .newarray .int, .putfield 8390, .aload 0, .iconst 20, .newarray .int, .putfield 8391, .aload 0, .iconst 20, .newarray .int, .putfield 8392, .aload 0, .iconst 20, .newarray .int, .putfield 8393, .aload 0, .iconst 60, .newarray .int, .putfield 8394, .return_], 0)]
abbrev q_Lore_init : Nat := 20
/-- MouthRiddles$Lore.addThing(I)I -/
def cd_Lore_addThing : List (Nat × List Instr × Nat) := [(0, [.iconst 1, .aload 0, .getfield 192, .ishl, .istore 2, .iload 1, .invokestatic 192, .istore 3, .iconst 0, .istore 4], 15),
  (15, [.iload 4, .iconst 24, .if_icmp .ge 48], 22),
  (22, [.iload 1, .iload 4, .ishr, .iconst 1, .iand, .ifCond .eq 42], 31),
  (31, [.aload 0, .getfield 195, .iload 4, .dup2, .iaload, .iload 2, .ior, .iastore], 42),
  (42, [.iinc 4 1, .goto 15], 0),
  (48, [.iconst 0, .istore 4], 51),
  (51, [.iload 4, .iconst 23, .if_icmp .gt 81], 58),
  (58, [.iload 4, .iload 3, .if_icmp .gt 81], 64),
  (64, [.aload 0, .getfield 196, .iload 4, .dup2, .iaload, .iload 2, .ior, .iastore, .iinc 4 1, .goto 51], 0),
  (81, [.aload 0, .getfield 194, .aload 0, .getfield 192, .iload 1, .iastore, .aload 0, .dup, .getfield 192, .iconst 1, .iadd, .putfield 192, .aload 0, .invokevirtual 22, .aload 0, .getfield 192, .iconst 1, .isub, .ireturn], 0)]
abbrev q_Lore_addThing : Nat := 21
/-- MouthRiddles$Lore.fitAnew()V -/
def cd_Lore_fitAnew : List (Nat × List Instr × Nat) := [(0, [.iconst 0, .istore 1], 2),
  (2, [.iload 1, .aload 0, .getfield 193, .if_icmp .ge 45], 10),
  (10, [.iconst 0, .istore 2], 12),
  (12, [.iload 2, .iconst 3, .if_icmp .ge 39], 17),
  (17, [.aload 0, .getfield 202, .iload 1, .iconst 3, .imul, .iload 2, .iadd, .aload 0, .iload 1, .iload 2, .invokevirtual 23, .iastore, .iinc 2 1, .goto 12], 0),
  (39, [.iinc 1 1, .goto 2], 0),
  (45, [.return_], 0)]
abbrev q_Lore_fitAnew : Nat := 22
/-- MouthRiddles$Lore.tryOut(II)I -/
def cd_Lore_tryOut : List (Nat × List Instr × Nat) := [(0, [.aload 0, .getfield 200, .iload 1, .iaload, .istore 3, .aload 0, .getfield 201, .iload 1, .iaload, .istore 4, .aload 0, .getfield 199, .iload 1, .iaload, .tableswitch 147 1 5 #[56, 71, 86, 110, 125]], 0),
  (56, [.iload 2, .ifCond .ne 69], 60),
  (60, [.aload 0, .iload 3, .iload 2, .invokevirtual 24, .goto 70], 0),
  (69, [.iconst 0], 70),
  (70, [.ireturn], 0),
  (71, [.iload 2, .ifCond .le 84], 75),
  (75, [.aload 0, .iload 3, .iload 2, .invokevirtual 24, .goto 85], 0),
  (84, [.iconst 0], 85),
  (85, [.ireturn], 0),
  (86, [.iload 2, .ifCond .le 108], 90),
  (90, [.aload 0, .iload 3, .iload 2, .invokevirtual 24, .aload 0, .iload 3, .iconst 0, .invokevirtual 24, .iconst (-1), .ixor, .iand, .goto 109], 0),
  (108, [.iconst 0], 109),
  (109, [.ireturn], 0),
  (110, [.aload 0, .iload 3, .iload 2, .invokevirtual 24, .aload 0, .getfield 196, .iload 4, .iaload, .iand, .ireturn], 0),
  (125, [.iload 2, .ifCond .ne 145], 129),
  (129, [.iload 4, .aload 0, .getfield 192, .if_icmp .ge 145], 138),
  (138, [.iconst 1, .iload 4, .ishl, .goto 146], 0),
  (145, [.iconst 0], 146),
  (146, [.ireturn], 0),
  (147, [.aload 0, .iload 3, .iload 2, .invokevirtual 24, .ireturn], 0)]
abbrev q_Lore_tryOut : Nat := 23
/-- MouthRiddles$Lore.havingSense(II)I -/
def cd_Lore_havingSense : List (Nat × List Instr × Nat) := [(0, [.iload 2, .aload 0, .getfield 198, .iload 1, .iaload, .if_icmp .ge 24], 10),
  (10, [.aload 0, .getfield 195, .aload 0, .iload 1, .iload 2, .invokevirtual 25, .iaload, .goto 25], 0),
  (24, [.iconst 0], 25),
  (25, [.ireturn], 0)]
abbrev q_Lore_havingSense : Nat := 24
/-- MouthRiddles$Lore.traitOf(II)I -/
def cd_Lore_traitOf : List (Nat × List Instr × Nat) := [(0, [.aload 0, .getfield 197, .iload 1, .iconst 3, .imul, .iload 2, .iadd, .iaload, .ireturn], 0)]
abbrev q_Lore_traitOf : Nat := 25
/-- MouthRiddles$Lore.hasSense(II)Z -/
def cd_Lore_hasSense : List (Nat × List Instr × Nat) := [(0, [.iconst 0, .istore 3], 2),
  (2, [.iload 3, .aload 0, .getfield 198, .iload 1, .iaload, .if_icmp .ge 30], 12),
  (12, [.aload 0, .iload 1, .iload 3, .invokevirtual 25, .iload 2, .if_icmp .ne 24], 22),
  (22, [.iconst 1, .freturn], 0),
  (24, [.iinc 3 1, .goto 2], 0),
  (30, [.iconst 0, .freturn], 0)]
abbrev q_Lore_hasSense : Nat := 26
/-- MouthRiddles$Lore.addSense(II)I -/
def cd_Lore_addSense : List (Nat × List Instr × Nat) := [(0, [.aload 0, .getfield 197, .iload 1, .iconst 3, .imul, .aload 0, .getfield 198, .iload 1, .iaload, .iadd, .iload 2, .iastore, .aload 0, .getfield 198, .iload 1, .dup2, .iaload, .iconst 1, .iadd, .iastore, .aload 0, .invokevirtual 22, .aload 0, .getfield 198, .iload 1, .iaload, .ireturn], 0)]
abbrev q_Lore_addSense : Nat := 27
/-- MouthRiddles$Lore.addSaying(III)I -/
def cd_Lore_addSaying : List (Nat × List Instr × Nat) := [(0, [.aload 0, .getfield 199, .aload 0, .getfield 193, .iload 1, .iastore, .aload 0, .getfield 200, .aload 0, .getfield 193, .iload 2, .iastore, .aload 0, .getfield 201, .aload 0, .getfield 193, .iload 3, .iastore, .aload 0, .dup, .getfield 193, .iconst 1, .iadd, .putfield 193, .aload 0, .invokevirtual 22, .aload 0, .getfield 193, .iconst 1, .isub, .ireturn], 0)]
abbrev q_Lore_addSaying : Nat := 28
/-- MouthRiddles$Lore.isOfKind(II)Z -/
def cd_Lore_isOfKind : List (Nat × List Instr × Nat) := [(0, [.aload 0, .getfield 199, .iload 1, .iaload, .istore 3, .iload 2, .ifCond .eq 26], 11),
  (11, [.iload 2, .iload 3, .if_icmp .eq 26], 16),
  (16, [.iload 2, .iconst 2, .if_icmp .ne 30], 21),
  (21, [.iload 3, .iconst 3, .if_icmp .ne 30], 26),
  (26, [.iconst 1, .goto 31], 0),
  (30, [.iconst 0], 31),
  (31, [.freturn], 0)]
abbrev q_Lore_isOfKind : Nat := 29
/-- MouthRiddles$Lore.leastSense(II)I -/
def cd_Lore_leastSense : List (Nat × List Instr × Nat) := [(0, [.iconst 0, .istore 3], 2),
  (2, [.iload 3, .iconst 3, .if_icmp .ge 32], 7),
  (7, [.aload 0, .getfield 202, .iload 1, .iconst 3, .imul, .iload 3, .iadd, .iaload, .iload 2, .ishr, .iconst 1, .iand, .ifCond .eq 26], 24),
  (24, [.iload 3, .ireturn], 0),
  (26, [.iinc 3 1, .goto 2], 0),
  (32, [.iconst (-1), .ireturn], 0)]
abbrev q_Lore_leastSense : Nat := 30
/-- MouthRiddles$Lore.allThings()I -/
def cd_Lore_allThings : List (Nat × List Instr × Nat) := [(0, [.iconst 1, .aload 0, .getfield 192, .ishl, .iconst 1, .isub, .ireturn], 0)]
abbrev q_Lore_allThings : Nat := 31
/-- MouthRiddles$Lore.fittingBySight(ILMouthRiddles$Sight;)I -/
def cd_Lore_fittingBySight : List (Nat × List Instr × Nat) := [(0, [.aload 0, .getfield 199, .iload 1, .iaload, .iconst 5, .if_icmp .ne 15], 10),
  (10, [.iconst 7, .goto 26], 0),
  (15, [.aload 2, .getfield 448, .aload 0, .getfield 200, .iload 1, .iaload, .iaload], 26),
  (26, [.istore 3, .iconst 0, .istore 4, .iconst 0, .istore 5], 33),
  (33, [.iload 5, .iconst 3, .if_icmp .ge 70], 39),
  (39, [.iload 3, .iload 5, .ishr, .iconst 1, .iand, .ifCond .eq 64], 48),
  (48, [.iload 4, .aload 0, .getfield 202, .iload 1, .iconst 3, .imul, .iload 5, .iadd, .iaload, .ior, .istore 4], 64),
  (64, [.iinc 5 1, .goto 33], 0),
  (70, [.iload 4, .ireturn], 0)]
abbrev q_Lore_fittingBySight : Nat := 32
/-- MouthRiddles$Lore.senseCount()I -/
def cd_Lore_senseCount : List (Nat × List Instr × Nat) := [(0, [.iconst 0, .istore 1, .iconst 0, .istore 2], 4),
  (4, [.iload 2, .iconst 16, .if_icmp .ge 25], 10),
  (10, [.iload 1, .aload 0, .getfield 198, .iload 2, .iaload, .iadd, .istore 1, .iinc 2 1, .goto 4], 0),
  (25, [.iload 1, .ireturn], 0)]
abbrev q_Lore_senseCount : Nat := 33
/-- MouthRiddles$Maker.<init>()V -/
def cd_Maker_init : List (Nat × List Instr × Nat) := [(0, [.aload 0, .monitorenter, .aload 0, .iconst 20, .newarray .int, .putfield 8448, .aload 0, .iconst 20, .newarray .int, .putfield 8449, .aload 0, .iconst 20, .newarray .int, .putfield 8450, .aload 0, .iconst 21, .newarray .int, .putfield 8451, .aload 0, .new 7, .dup, .iconst 7, .invokespecial 55, .putfield 8452, .return_], 0)]
abbrev q_Maker_init : Nat := 34
/-- MouthRiddles$Maker.fewest(LMouthRiddles$Lore;II)I -/
def cd_Maker_fewest : List (Nat × List Instr × Nat) := [(0, [.aload 0, .aload 1, .iload 2, .invokevirtual 36, .aload 0, .iconst (-1), .putfield 263, .aload 0, .iconst (-1), .putfield 264, .iconst 1, .istore 4], 19),
  (19, [.iload 4, .iload 3, .if_icmp .gt 52], 25),
  (25, [.aload 0, .getfield 264, .iconst (-1), .if_icmp .ne 52], 33),
  (33, [.aload 0, .iconst 0, .iload 4, .aload 1, .invokevirtual 31, .iconst 0, .iconst 0, .invokestatic 37, .iinc 4 1, .goto 19], 0),
  (52, [.aload 0, .getfield 264, .ireturn], 0)]
abbrev q_Maker_fewest : Nat := 35
/-- MouthRiddles$Maker.gather(LMouthRiddles$Lore;I)V -/
def cd_Maker_gather : List (Nat × List Instr × Nat) := [(0, [.aload 0, .iconst 0, .putfield 261, .aload 0, .iconst 1, .iload 2, .ishl, .putfield 262, .iconst 0, .istore 3], 14),
  (14, [.iload 3, .aload 1, .getfield 193, .if_icmp .ge 101], 22),
  (22, [.aload 1, .iload 3, .iload 2, .invokevirtual 30, .istore 4, .iload 4, .iconst (-1), .if_icmp .eq 95], 36),
  (36, [.aload 0, .getfield 256, .aload 0, .getfield 261, .aload 1, .iload 3, .aload 0, .getfield 260, .invokevirtual 32, .iastore, .aload 0, .getfield 257, .aload 0, .getfield 261, .iload 4, .ifCond .le 71], 67),
  (67, [.iconst 1, .goto 72], 0),
  (71, [.iconst 0], 72),
  (72, [.iastore, .aload 0, .getfield 258, .aload 0, .getfield 261, .iconst 1, .iload 3, .ishl, .iastore, .aload 0, .dup, .getfield 261, .iconst 1, .iadd, .putfield 261], 95),
  (95, [.iinc 3 1, .goto 14], 0),
  (101, [.aload 0, .getfield 259, .aload 0, .getfield 261, .aload 1, .invokevirtual 31, .iastore, .aload 0, .getfield 261, .iconst 1, .isub, .istore 3], 121),
  (121, [.iload 3, .ifCond .lt 152], 125),
  (125, [.aload 0, .getfield 259, .iload 3, .aload 0, .getfield 259, .iload 3, .iconst 1, .iadd, .iaload, .aload 0, .getfield 256, .iload 3, .iaload, .iand, .iastore, .iinc 3 (-1), .goto 121], 0),
  (152, [.return_], 0)]
abbrev q_Maker_gather : Nat := 36
/-- MouthRiddles$Maker.choose(LMouthRiddles$Maker;IIIII)V -/
def cd_Maker_choose : List (Nat × List Instr × Nat) := [(0, [.iload 3, .aload 0, .getfield 259, .iload 1, .iaload, .iand, .aload 0, .getfield 262, .if_icmp .eq 16], 15),
  (15, [.return_], 0),
  (16, [.iload 1, .istore 6], 19),
  (19, [.iload 6, .iload 2, .iadd, .aload 0, .getfield 261, .if_icmp .gt 121], 30),
  (30, [.iload 3, .aload 0, .getfield 256, .iload 6, .iaload, .iand, .istore 7, .iload 2, .iconst 1, .if_icmp .le 82], 46),
  (46, [.aload 0, .iload 6, .iconst 1, .iadd, .iload 2, .iconst 1, .isub, .iload 7, .iload 4, .aload 0, .getfield 257, .iload 6, .iaload, .iadd, .iload 5, .aload 0, .getfield 258, .iload 6, .iaload, .ior, .invokestatic 37, .goto 115], 0),
  (82, [.iload 7, .aload 0, .getfield 262, .if_icmp .ne 115], 91),
  (91, [.aload 0, .iload 4, .aload 0, .getfield 257, .iload 6, .iaload, .iadd, .iload 5, .aload 0, .getfield 258, .iload 6, .iaload, .ior, .invokevirtual 38], 115),
  (115, [.iinc 6 1, .goto 19], 0),
  (121, [.return_], 0)]
abbrev q_Maker_choose : Nat := 37
/-- MouthRiddles$Maker.consider(II)V -/
def cd_Maker_consider : List (Nat × List Instr × Nat) := [(0, [.iload 1, .aload 0, .getfield 263, .if_icmp .lt 24], 8),
  (8, [.iload 1, .aload 0, .getfield 263, .if_icmp .ne 25], 16),
  (16, [.iload 2, .aload 0, .getfield 264, .if_icmp .le 25], 24),
  (24, [.return_], 0),
  (25, [.aload 0, .iload 1, .putfield 263, .aload 0, .iload 2, .putfield 264, .return_], 0)]
abbrev q_Maker_consider : Nat := 38
/-- MouthRiddles$Page.<init>()V -/
def cd_Page_init : List (Nat × List Instr × Nat) := [(0, [.aload 0, .monitorenter, .aload 0, .iconst 40, .newarray .int, .putfield 8512, .aload 0, .iconst 0, .putfield 321, .return_], 0)]
abbrev q_Page_init : Nat := 39
/-- MouthRiddles$Page.areLetters(J)Z -/
def cd_Page_areLetters : List (Nat × List Instr × Nat) := [(0, [.lload 0, .invokestatic 41, .istore 2, .iconst 0, .istore 3], 7),
  (7, [.iload 3, .iconst 8, .if_icmp .ge 45], 13),
  (13, [.lload 0, .iload 3, .invokestatic 42, .istore 4, .iload 4, .iconst 126, .if_icmp .gt 37], 27),
  (27, [.iload 3, .iload 2, .if_icmp .le 39], 32),
  (32, [.iload 4, .ifCond .eq 39], 37),
  (37, [.iconst 0, .freturn], 0),
  (39, [.iinc 3 1, .goto 7], 0),
  (45, [.iconst 1, .freturn], 0)]
abbrev q_Page_areLetters : Nat := 40
/-- MouthRiddles$Page.lettersIn(J)I -/
def cd_Page_lettersIn : List (Nat × List Instr × Nat) := [(0, [.iconst 0, .istore 2], 2),
  (2, [.iload 2, .iconst 8, .if_icmp .ge 22], 8),
  (8, [.lload 0, .iload 2, .invokestatic 42, .ifCond .eq 22], 16),
  (16, [.iinc 2 1, .goto 2], 0),
  (22, [.iload 2, .ireturn], 0)]
abbrev q_Page_lettersIn : Nat := 41
/-- MouthRiddles$Page.codeAt(JI)I -/
def cd_Page_codeAt : List (Nat × List Instr × Nat) := [(0, [.lload 0, .iconst 8, .iload 2, .imul, .lushr, .l2i, .iconst 255, .iand, .ireturn], 0)]
abbrev q_Page_codeAt : Nat := 42
/-- MouthRiddles$Page.append(J)I -/
def cd_Page_append : List (Nat × List Instr × Nat) := [(0, [.lload 1, .invokestatic 41, .istore 3, .iconst 0, .istore 4], 8),
  (8, [.iload 4, .iload 3, .if_icmp .ge 54], 14),
  (14, [.aload 0, .getfield 321, .iconst 40, .if_icmp .ge 54], 23),
  (23, [.aload 0, .getfield 320, .aload 0, .getfield 321, .lload 1, .iload 4, .invokestatic 42, .iastore, .aload 0, .dup, .getfield 321, .iconst 1, .iadd, .putfield 321, .iinc 4 1, .goto 8], 0),
  (54, [.aload 0, .getfield 321, .ireturn], 0)]
abbrev q_Page_append : Nat := 43
/-- MouthRiddles$Page.empty()I -/
def cd_Page_empty : List (Nat × List Instr × Nat) := [(0, [.aload 0, .getfield 321, .istore 1, .aload 0, .iconst 0, .putfield 321, .iload 1, .ireturn], 0)]
abbrev q_Page_empty : Nat := 44
/-- MouthRiddles$Riddles.<init>(LMouthRiddles$Lore;)V -/
def cd_Riddles_init : List (Nat × List Instr × Nat) := [(0, [.aload 0, .monitorenter, .aload 0, .new 7, .dup, .iconst 7, .invokespecial 55, .putfield 8577, .aload 0, .iconst 60, .newarray .int, .putfield 8578, .aload 0, .iconst 10, .newarray .int, .putfield 8579, .aload 0, .iconst 0, .putfield 388, .aload 0, .aload 1, .putfield 8576, .return_], 0)]
abbrev q_Riddles_init : Nat := 45
/-- MouthRiddles$Riddles.begin(I)I -/
def cd_Riddles_begin : List (Nat × List Instr × Nat) := [(0, [.aload 0, .aload 0, .getfield 388, .iload 1, .invokevirtual 47, .pop, .aload 0, .dup, .getfield 388, .iconst 1, .iadd, .putfield 388, .aload 0, .getfield 388, .iconst 1, .isub, .ireturn], 0)]
abbrev q_Riddles_begin : Nat := 46
/-- MouthRiddles$Riddles.append(II)I -/
def cd_Riddles_append : List (Nat × List Instr × Nat) := [(0, [.aload 0, .getfield 386, .iload 1, .iconst 6, .imul, .aload 0, .getfield 387, .iload 1, .iaload, .iadd, .iload 2, .iastore, .aload 0, .getfield 387, .iload 1, .dup2, .iaload, .iconst 1, .iadd, .iastore, .aload 0, .getfield 387, .iload 1, .iaload, .ireturn], 0)]
abbrev q_Riddles_append : Nat := 47
/-- MouthRiddles$Riddles.sayingAt(II)I -/
def cd_Riddles_sayingAt : List (Nat × List Instr × Nat) := [(0, [.aload 0, .getfield 386, .iload 1, .iconst 6, .imul, .iload 2, .iadd, .iaload, .ireturn], 0)]
abbrev q_Riddles_sayingAt : Nat := 48
/-- MouthRiddles$Riddles.fitting(I)I -/
def cd_Riddles_fitting : List (Nat × List Instr × Nat) := [(0, [.aload 0, .iload 1, .iconst (-1), .aload 0, .getfield 385, .invokevirtual 50, .ireturn], 0)]
abbrev q_Riddles_fitting : Nat := 49
/-- MouthRiddles$Riddles.fittingWithout(IILMouthRiddles$Sight;)I -/
def cd_Riddles_fittingWithout : List (Nat × List Instr × Nat) := [(0, [.aload 0, .getfield 384, .invokevirtual 31, .istore 4, .iconst 0, .istore 5], 12),
  (12, [.iload 5, .aload 0, .getfield 387, .iload 1, .iaload, .if_icmp .ge 55], 23),
  (23, [.iload 5, .iload 2, .if_icmp .eq 49], 29),
  (29, [.iload 4, .aload 0, .getfield 384, .aload 0, .iload 1, .iload 5, .invokevirtual 48, .aload 3, .invokevirtual 32, .iand, .istore 4], 49),
  (49, [.iinc 5 1, .goto 12], 0),
  (55, [.iload 4, .ireturn], 0)]
abbrev q_Riddles_fittingWithout : Nat := 50
/-- MouthRiddles$Riddles.turnedOnes(II)I -/
def cd_Riddles_turnedOnes : List (Nat × List Instr × Nat) := [(0, [.iconst 0, .istore 3, .iconst 0, .istore 4], 5),
  (5, [.iload 4, .aload 0, .getfield 387, .iload 1, .iaload, .if_icmp .ge 55], 16),
  (16, [.aload 0, .getfield 384, .aload 0, .iload 1, .iload 4, .invokevirtual 48, .iload 2, .invokevirtual 30, .istore 5, .iload 5, .iconst (-1), .if_icmp .ne 41], 39),
  (39, [.iconst (-1), .ireturn], 0),
  (41, [.iload 5, .ifCond .le 49], 46),
  (46, [.iinc 3 1], 49),
  (49, [.iinc 4 1, .goto 5], 0),
  (55, [.iload 3, .ireturn], 0)]
abbrev q_Riddles_turnedOnes : Nat := 51
/-- MouthRiddles$Riddles.misleadingPlace(I)I -/
def cd_Riddles_misleadingPlace : List (Nat × List Instr × Nat) := [(0, [.iconst 0, .istore 2, .iconst (-1), .istore 3, .iconst 0, .istore 4], 7),
  (7, [.iload 4, .aload 0, .getfield 387, .iload 1, .iaload, .if_icmp .ge 45], 18),
  (18, [.aload 0, .iload 1, .iload 4, .invokevirtual 53, .istore 5, .iload 5, .iload 3, .if_icmp .le 39], 33),
  (33, [.iload 4, .istore 2, .iload 5, .istore 3], 39),
  (39, [.iinc 4 1, .goto 7], 0),
  (45, [.iload 2, .ireturn], 0)]
abbrev q_Riddles_misleadingPlace : Nat := 52
/-- MouthRiddles$Riddles.countWithout(II)I -/
def cd_Riddles_countWithout : List (Nat × List Instr × Nat) := [(0, [.aload 0, .iload 1, .iload 2, .aload 0, .getfield 385, .invokevirtual 50, .invokestatic 192, .ireturn], 0)]
abbrev q_Riddles_countWithout : Nat := 53
/-- MouthRiddles$Riddles.unfitCount(IILMouthRiddles$Sight;)I -/
def cd_Riddles_unfitCount : List (Nat × List Instr × Nat) := [(0, [.iconst 0, .istore 4, .iconst 0, .istore 5], 6),
  (6, [.iload 5, .aload 0, .getfield 387, .iload 1, .iaload, .if_icmp .ge 48], 17),
  (17, [.aload 0, .getfield 384, .aload 0, .iload 1, .iload 5, .invokevirtual 48, .aload 3, .invokevirtual 32, .iload 2, .ishr, .iconst 1, .iand, .ifCond .ne 42], 39),
  (39, [.iinc 4 1], 42),
  (42, [.iinc 5 1, .goto 6], 0),
  (48, [.iload 4, .ireturn], 0)]
abbrev q_Riddles_unfitCount : Nat := 54
/-- MouthRiddles$Sight.<init>(I)V -/
def cd_Sight_init : List (Nat × List Instr × Nat) := [(0, [.aload 0, .monitorenter, .aload 0, .iconst 16, .newarray .int, .putfield 8640, .aload 0, .getfield 448, .iload 1, .iconst 7, .iand, .invokestatic 191, .return_], 0)]
abbrev q_Sight_init : Nat := 55
/-- MouthRiddles$Sight.sees(II)Z -/
def cd_Sight_sees : List (Nat × List Instr × Nat) := [(0, [.aload 0, .getfield 448, .iload 1, .iaload, .iload 2, .ishr, .iconst 1, .iand, .ifCond .eq 17], 13),
  (13, [.iconst 1, .goto 18], 0),
  (17, [.iconst 0], 18),
  (18, [.freturn], 0)]
abbrev q_Sight_sees : Nat := 56
/-- MouthRiddles$Sight.set(IIZ)V -/
def cd_Sight_set : List (Nat × List Instr × Nat) := [(0, [.iload 3, .ifCond .eq 19], 4),
  (4, [.aload 0, .getfield 448, .iload 1, .dup2, .iaload, .iconst 1, .iload 2, .ishl, .ior, .iastore, .goto 33], 0),
  (19, [.aload 0, .getfield 448, .iload 1, .dup2, .iaload, .iconst 1, .iload 2, .ishl, .iconst (-1), .ixor, .iand, .iastore], 33),
  (33, [.return_], 0)]
abbrev q_Sight_set : Nat := 57
/-- MouthRiddles$Stakes.<init>()V -/
def cd_Stakes_init : List (Nat × List Instr × Nat) := [(0, [.aload 0, .monitorenter, .aload 0, .iconst 60, .newarray .int, .putfield 8704, .aload 0, .iconst 64, .newarray .long, .putfield 8705, .return_], 0)]
abbrev q_Stakes_init : Nat := 58
/-- MouthRiddles$Stakes.put(III)I -/
def cd_Stakes_put : List (Nat × List Instr × Nat) := [(0, [.aload 0, .iload 1, .iload 2, .invokevirtual 60, .istore 4, .aload 0, .getfield 512, .iload 1, .iconst 10, .imul, .iload 2, .iadd, .iload 3, .iastore, .iload 4, .ireturn], 0)]
abbrev q_Stakes_put : Nat := 59
/-- MouthRiddles$Stakes.of(II)I -/
def cd_Stakes_of : List (Nat × List Instr × Nat) := [(0, [.aload 0, .getfield 512, .iload 1, .iconst 10, .imul, .iload 2, .iadd, .iaload, .ireturn], 0)]
abbrev q_Stakes_of : Nat := 60
/-- MouthRiddles$Stakes.best(II)J -/
def cd_Stakes_best : List (Nat × List Instr × Nat) := [(0, [.iconst 1, .iload 1, .ishl, .istore 3, .aload 0, .getfield 513, .ldc2_w 0, .invokestatic 193, .iconst 0, .istore 4], 15),
  (15, [.iload 4, .iload 2, .if_icmp .ge 52], 21),
  (21, [.iload 3, .iconst 1, .isub, .istore 5], 26),
  (26, [.iload 5, .ifCond .le 46], 31),
  (31, [.aload 0, .iload 4, .iload 5, .iload 1, .invokevirtual 62, .iinc 5 (-1), .goto 26], 0),
  (46, [.iinc 4 1, .goto 15], 0),
  (52, [.aload 0, .getfield 513, .iload 3, .iconst 1, .isub, .laload, .lreturn], 0)]
abbrev q_Stakes_best : Nat := 61
/-- MouthRiddles$Stakes.giveRiddle(III)V -/
def cd_Stakes_giveRiddle : List (Nat × List Instr × Nat) := [(0, [.iconst 0, .istore 4], 3),
  (3, [.iload 4, .iload 3, .if_icmp .ge 80], 9),
  (9, [.iload 2, .iload 4, .ishr, .iconst 1, .iand, .ifCond .eq 74], 18),
  (18, [.aload 0, .iload 4, .iload 1, .invokevirtual 60, .i2l, .ldc2_w 1771561, .lmul, .iconst 10, .iload 1, .isub, .i2l, .getstatic 0, .iload 4, .laload, .lmul, .ladd, .lstore 5, .aload 0, .getfield 513, .iload 2, .aload 0, .getfield 513, .iload 2, .laload, .aload 0, .getfield 513, .iload 2, .iconst 1, .iload 4, .ishl, .ixor, .laload, .lload 5, .ladd, .dmul, .lastore], 74),
  (74, [.iinc 4 1, .goto 3], 0),
  (80, [.return_], 0)]
abbrev q_Stakes_giveRiddle : Nat := 62
/-- MouthRiddles$Stakes.sumIn(J)I -/
def cd_Stakes_sumIn : List (Nat × List Instr × Nat) := [(0, [.lload 0, .ldc2_w 1771561, .ldiv, .l2i, .ireturn], 0)]
abbrev q_Stakes_sumIn : Nat := 63
/-- MouthRiddles$Stakes.riddleIn(JI)I -/
def cd_Stakes_riddleIn : List (Nat × List Instr × Nat) := [(0, [.lload 0, .getstatic 0, .iload 2, .laload, .ldiv, .ldc2_w 11, .lrem, .l2i, .istore 3, .iload 3, .ifCond .ne 21], 17),
  (17, [.iconst (-1), .goto 25], 0),
  (21, [.iconst 10, .iload 3, .isub], 25),
  (25, [.ireturn], 0)]
abbrev q_Stakes_riddleIn : Nat := 64
/-- MouthRiddles$Tongues.<init>(LMouthRiddles$Riddles;)V -/
def cd_Tongues_init : List (Nat × List Instr × Nat) := [(0, [.aload 0, .monitorenter, .aload 0, .iconst 4, .anewarray 2, .putfield 8769, .aload 0, .iconst 0, .putfield 578, .aload 0, .aload 1, .putfield 8768, .iconst 0, .istore 2], 24),
  (24, [.iload 2, .iconst 4, .if_icmp .ge 50], 29),
  (29, [.aload 0, .getfield 577, .iload 2, .new 7, .dup, .iconst 7, .invokespecial 55, .aastore, .iinc 2 1, .goto 24], 0),
  (50, [.return_], 0)]
abbrev q_Tongues_init : Nat := 65
/-- MouthRiddles$Tongues.add()I -/
def cd_Tongues_add : List (Nat × List Instr × Nat) := [(0, [.aload 0, .dup, .getfield 578, .iconst 1, .iadd, .putfield 578, .aload 0, .getfield 578, .iconst 1, .isub, .ireturn], 0)]
abbrev q_Tongues_add : Nat := 66
/-- MouthRiddles$Tongues.carries(III)I -/
def cd_Tongues_carries : List (Nat × List Instr × Nat) := [(0, [.aload 0, .getfield 576, .iload 2, .iconst (-1), .aload 0, .getfield 577, .iload 1, .aaload, .invokevirtual 50, .iconst 1, .iload 3, .ishl, .if_icmp .ne 25], 21),
  (21, [.iconst 1, .goto 26], 0),
  (25, [.iconst 0], 26),
  (26, [.ireturn], 0)]
abbrev q_Tongues_carries : Nat := 67
/-- MouthRiddles$Tongues.lacking(III)I -/
def cd_Tongues_lacking : List (Nat × List Instr × Nat) := [(0, [.aload 0, .getfield 576, .iload 2, .iload 3, .aload 0, .getfield 577, .iload 1, .aaload, .invokevirtual 54, .ireturn], 0)]
abbrev q_Tongues_lacking : Nat := 68
/-- MouthRiddles$Tongues.leastLacking(II)I -/
def cd_Tongues_leastLacking : List (Nat × List Instr × Nat) := [(0, [.iconst (-1), .istore 3, .iconst 7, .istore 4, .iconst 0, .istore 5], 9),
  (9, [.iload 5, .aload 0, .getfield 578, .if_icmp .ge 48], 18),
  (18, [.aload 0, .iload 5, .iload 1, .iload 2, .invokevirtual 68, .istore 6, .iload 6, .iload 4, .if_icmp .ge 42], 35),
  (35, [.iload 5, .istore 3, .iload 6, .istore 4], 42),
  (42, [.iinc 5 1, .goto 9], 0),
  (48, [.iload 3, .ireturn], 0)]
abbrev q_Tongues_leastLacking : Nat := 69
/-- MouthRiddles$Tree.<init>()V -/
def cd_Tree_init : List (Nat × List Instr × Nat) := [(0, [.aload 0, .monitorenter, .aload 0, .iconst 40, .newarray .int, .putfield 8832, .aload 0, .iconst 40, .newarray .int, .putfield 8833, .aload 0, .iconst 40, .newarray .int, .putfield 8834, .aload 0, .iconst 0, .putfield 643, .aload 0, .iconst 0, .putfield 644, .aload 0, .iconst (-1), .putfield 645, .aload 0, .iconst 1, .putfield 4742, .return_], 0)]
abbrev q_Tree_init : Nat := 70
/-- MouthRiddles$Tree.read(LMouthRiddles$Page;)I -/
def cd_Tree_read : List (Nat × List Instr × Nat) := [(0, [.aload 0, .iconst 0, .putfield 643, .aload 0, .iconst 0, .putfield 644, .aload 0, .iconst (-1), .putfield 645, .aload 0, .iconst 1, .putfield 4742, .iconst 0, .istore 2], 22),
  (22, [.iload 2, .aload 1, .getfield 321, .if_icmp .ge 51], 30),
  (30, [.aload 0, .aload 1, .getfield 320, .iload 2, .iaload, .invokevirtual 72, .ifCond .ne 45], 43),
  (43, [.iload 2, .ireturn], 0),
  (45, [.iinc 2 1, .goto 22], 0),
  (51, [.aload 1, .getfield 321, .ireturn], 0)]
abbrev q_Tree_read : Nat := 71
/-- MouthRiddles$Tree.take(I)Z -/
def cd_Tree_take : List (Nat × List Instr × Nat) := [(0, [.aload 0, .getfield 646, .ifCond .eq 29], 7),
  (7, [.iload 1, .iconst 40, .if_icmp .ne 20], 13),
  (13, [.aload 0, .invokevirtual 73, .goto 28], 0),
  (20, [.aload 0, .iload 1, .iconst 97, .isub, .invokevirtual 75], 28),
  (28, [.freturn], 0),
  (29, [.aload 0, .getfield 645, .iconst (-1), .if_icmp .ne 39], 37),
  (37, [.iconst 0, .freturn], 0),
  (39, [.iload 1, .iconst 44, .if_icmp .ne 50], 45),
  (45, [.aload 0, .invokevirtual 76, .freturn], 0),
  (50, [.iload 1, .iconst 41, .if_icmp .ne 67], 56),
  (56, [.aload 0, .invokevirtual 77, .ifCond .eq 67], 63),
  (63, [.iconst 1, .goto 68], 0),
  (67, [.iconst 0], 68),
  (68, [.freturn], 0)]
abbrev q_Tree_take : Nat := 72
/-- MouthRiddles$Tree.openNode()Z -/
def cd_Tree_openNode : List (Nat × List Instr × Nat) := [(0, [.aload 0, .aload 0, .iconst (-1), .invokevirtual 74, .putfield 645, .iconst 1, .freturn], 0)]
abbrev q_Tree_openNode : Nat := 73
/-- MouthRiddles$Tree.beginNode(I)I -/
def cd_Tree_beginNode : List (Nat × List Instr × Nat) := [(0, [.aload 0, .getfield 640, .aload 0, .getfield 643, .aload 0, .getfield 645, .iastore, .aload 0, .getfield 641, .aload 0, .getfield 643, .iload 1, .iastore, .aload 0, .getfield 642, .aload 0, .getfield 643, .iconst 0, .iastore, .aload 0, .getfield 645, .iconst (-1), .if_icmp .eq 54], 41),
  (41, [.aload 0, .getfield 642, .aload 0, .getfield 645, .dup2, .iaload, .iconst 1, .iadd, .iastore], 54),
  (54, [.aload 0, .dup, .getfield 643, .iconst 1, .iadd, .putfield 643, .aload 0, .getfield 643, .iconst 1, .isub, .ireturn], 0)]
abbrev q_Tree_beginNode : Nat := 74
/-- MouthRiddles$Tree.landNode(I)Z -/
def cd_Tree_landNode : List (Nat × List Instr × Nat) := [(0, [.iload 1, .ifCond .lt 21], 4),
  (4, [.iload 1, .iconst 8, .if_icmp .ge 21], 10),
  (10, [.aload 0, .getfield 644, .iload 1, .ishr, .iconst 1, .iand, .ifCond .eq 23], 21),
  (21, [.iconst 0, .freturn], 0),
  (23, [.aload 0, .dup, .getfield 644, .iconst 1, .iload 1, .ishl, .ior, .putfield 644, .aload 0, .iload 1, .invokevirtual 74, .pop, .aload 0, .iconst 0, .putfield 4742, .iconst 1, .freturn], 0)]
abbrev q_Tree_landNode : Nat := 75
/-- MouthRiddles$Tree.awaitNext()Z -/
def cd_Tree_awaitNext : List (Nat × List Instr × Nat) := [(0, [.aload 0, .aload 0, .getfield 642, .aload 0, .getfield 645, .iaload, .iconst 4, .if_icmp .ge 18], 14),
  (14, [.iconst 1, .goto 19], 0),
  (18, [.iconst 0], 19),
  (19, [.putfield 4742, .aload 0, .getfield 646, .freturn], 0)]
abbrev q_Tree_awaitNext : Nat := 76
/-- MouthRiddles$Tree.closeNode()Z -/
def cd_Tree_closeNode : List (Nat × List Instr × Nat) := [(0, [.aload 0, .getfield 642, .aload 0, .getfield 645, .iaload, .iconst 2, .if_icmp .ge 15], 13),
  (13, [.iconst 0, .freturn], 0),
  (15, [.aload 0, .aload 0, .getfield 640, .aload 0, .getfield 645, .iaload, .putfield 645, .iconst 1, .freturn], 0)]
abbrev q_Tree_closeNode : Nat := 77
/-- MouthRiddles$Tree.isWhole()Z -/
def cd_Tree_isWhole : List (Nat × List Instr × Nat) := [(0, [.aload 0, .getfield 646, .ifCond .ne 19], 7),
  (7, [.aload 0, .getfield 645, .iconst (-1), .if_icmp .ne 19], 15),
  (15, [.iconst 1, .goto 20], 0),
  (19, [.iconst 0], 20),
  (20, [.freturn], 0)]
abbrev q_Tree_isWhole : Nat := 78
/-- MouthRiddles.<init>()V -/
def cd_X_init : List (Nat × List Instr × Nat) := [(0, [.aload 0, .monitorenter, .aload 0, .new 3, .dup, .invokespecial 20, .putfield 8896, .aload 0, .new 6, .dup, .aload 0, .getfield 704, .invokespecial 45, .putfield 8897, .aload 0, .new 4, .dup, .invokespecial 34, .putfield 8898, .aload 0, .new 2, .dup, .aload 0, .getfield 705, .invokespecial 12, .putfield 8899, .aload 0, .new 9, .dup, .aload 0, .getfield 705, .invokespecial 65, .putfield 8900, .aload 0, .new 5, .dup, .invokespecial 39, .putfield 8901, .aload 0, .new 8, .dup, .invokespecial 58, .putfield 8902, .aload 0, .new 0, .dup, .invokespecial 0, .putfield 8903, .aload 0, .new 1, .dup, .invokespecial 8, .putfield 8904, .aload 0, .iconst 8, .newarray .int, .putfield 8905, .aload 0, .new 10, .dup, .invokespecial 70, .putfield 8906, .aload 0, .new 10, .dup, .invokespecial 70, .putfield 8907, .aload 0, .iconst 0, .putfield 716, .aload 0, .iconst 0, .putfield 717, .aload 0, .getfield 713, .iconst (-1), .invokestatic 191, .return_], 0)]
abbrev q_X_init : Nat := 79
/-- MouthRiddles.thing(I)I -/
def cd_X_thing : List (Nat × List Instr × Nat) := [(0, [.iload 1, .ifCond .lt 10], 4),
  (4, [.iload 1, .iconst 16777216, .if_icmp .lt 13], 10),
  (10, [.iconst (-102), .ireturn], 0),
  (13, [.aload 0, .getfield 704, .getfield 192, .iconst 12, .if_icmp .lt 28], 25),
  (25, [.iconst (-104), .ireturn], 0),
  (28, [.aload 0, .getfield 704, .iload 1, .invokevirtual 21, .ireturn], 0)]
abbrev q_X_thing : Nat := 80
/-- MouthRiddles.sense(II)I -/
def cd_X_sense : List (Nat × List Instr × Nat) := [(0, [.iload 1, .invokestatic 82, .ifCond .ne 10], 7),
  (7, [.iconst (-101), .ireturn], 0),
  (10, [.iload 2, .ifCond .lt 32], 14),
  (14, [.iload 2, .iconst 24, .if_icmp .ge 32], 20),
  (20, [.aload 0, .getfield 704, .iload 1, .iload 2, .invokevirtual 26, .ifCond .eq 35], 32),
  (32, [.iconst (-102), .ireturn], 0),
  (35, [.aload 0, .getfield 704, .getfield 198, .iload 1, .iaload, .iconst 3, .if_icmp .lt 51], 48),
  (48, [.iconst (-104), .ireturn], 0),
  (51, [.aload 0, .getfield 704, .iload 1, .iload 2, .invokevirtual 27, .ireturn], 0)]
abbrev q_X_sense : Nat := 81
/-- MouthRiddles.isWord(I)Z -/
def cd_X_isWord : List (Nat × List Instr × Nat) := [(0, [.iload 0, .ifCond .lt 14], 4),
  (4, [.iload 0, .iconst 16, .if_icmp .ge 14], 10),
  (10, [.iconst 1, .goto 15], 0),
  (14, [.iconst 0], 15),
  (15, [.freturn], 0)]
abbrev q_X_isWord : Nat := 82
/-- MouthRiddles.senseOf(II)I -/
def cd_X_senseOf : List (Nat × List Instr × Nat) := [(0, [.iload 1, .invokestatic 82, .ifCond .ne 10], 7),
  (7, [.iconst (-101), .ireturn], 0),
  (10, [.iload 2, .ifCond .lt 27], 14),
  (14, [.iload 2, .aload 0, .getfield 704, .getfield 198, .iload 1, .iaload, .if_icmp .lt 29], 27),
  (27, [.iconst (-1), .ireturn], 0),
  (29, [.aload 0, .getfield 704, .iload 1, .iload 2, .invokevirtual 25, .ireturn], 0)]
abbrev q_X_senseOf : Nat := 83
/-- MouthRiddles.saying(III)I -/
def cd_X_saying : List (Nat × List Instr × Nat) := [(0, [.iload 1, .invokestatic 85, .ifCond .eq 17], 7),
  (7, [.iload 3, .ifCond .lt 17], 11),
  (11, [.iload 3, .iconst 23, .if_icmp .le 20], 17),
  (17, [.iconst (-102), .ireturn], 0),
  (20, [.iload 2, .invokestatic 82, .ifCond .ne 30], 27),
  (27, [.iconst (-101), .ireturn], 0),
  (30, [.aload 0, .getfield 704, .getfield 193, .iconst 20, .if_icmp .lt 45], 42),
  (42, [.iconst (-104), .ireturn], 0),
  (45, [.aload 0, .getfield 704, .iload 1, .iload 2, .iload 3, .invokevirtual 28, .ireturn], 0)]
abbrev q_X_saying : Nat := 84
/-- MouthRiddles.isKind(I)Z -/
def cd_X_isKind : List (Nat × List Instr × Nat) := [(0, [.iload 0, .ifCond .lt 14], 4),
  (4, [.iload 0, .iconst 6, .if_icmp .ge 14], 10),
  (10, [.iconst 1, .goto 15], 0),
  (14, [.iconst 0], 15),
  (15, [.freturn], 0)]
abbrev q_X_isKind : Nat := 85
/-- MouthRiddles.as(II)I -/
def cd_X_as : List (Nat × List Instr × Nat) := [(0, [.aload 0, .iload 1, .invokevirtual 87, .ifCond .ne 11], 8),
  (8, [.iconst (-101), .ireturn], 0),
  (11, [.iload 2, .invokestatic 85, .ifCond .ne 21], 18),
  (18, [.iconst (-102), .ireturn], 0),
  (21, [.aload 0, .getfield 704, .iload 1, .iload 2, .invokevirtual 29, .ifCond .eq 37], 33),
  (33, [.iload 1, .goto 38], 0),
  (37, [.iconst (-1)], 38),
  (38, [.ireturn], 0)]
abbrev q_X_as : Nat := 86
/-- MouthRiddles.isSaying(I)Z -/
def cd_X_isSaying : List (Nat × List Instr × Nat) := [(0, [.iload 1, .ifCond .lt 19], 4),
  (4, [.iload 1, .aload 0, .getfield 704, .getfield 193, .if_icmp .ge 19], 15),
  (15, [.iconst 1, .goto 20], 0),
  (19, [.iconst 0], 20),
  (20, [.freturn], 0)]
abbrev q_X_isSaying : Nat := 87
/-- MouthRiddles.fits(II)I -/
def cd_X_fits : List (Nat × List Instr × Nat) := [(0, [.aload 0, .iload 1, .invokevirtual 87, .ifCond .eq 16], 8),
  (8, [.aload 0, .iload 2, .invokevirtual 89, .ifCond .ne 19], 16),
  (16, [.iconst (-101), .ireturn], 0),
  (19, [.aload 0, .getfield 704, .iload 1, .iload 2, .invokevirtual 30, .ireturn], 0)]
abbrev q_X_fits : Nat := 88
/-- MouthRiddles.isThing(I)Z -/
def cd_X_isThing : List (Nat × List Instr × Nat) := [(0, [.iload 1, .ifCond .lt 19], 4),
  (4, [.iload 1, .aload 0, .getfield 704, .getfield 192, .if_icmp .ge 19], 15),
  (15, [.iconst 1, .goto 20], 0),
  (19, [.iconst 0], 20),
  (20, [.freturn], 0)]
abbrev q_X_isThing : Nat := 89
/-- MouthRiddles.riddle(I)I -/
def cd_X_riddle : List (Nat × List Instr × Nat) := [(0, [.aload 0, .iload 1, .invokevirtual 87, .ifCond .ne 11], 8),
  (8, [.iconst (-101), .ireturn], 0),
  (11, [.aload 0, .getfield 705, .getfield 388, .iconst 10, .if_icmp .lt 26], 23),
  (23, [.iconst (-104), .ireturn], 0),
  (26, [.aload 0, .getfield 705, .iload 1, .invokevirtual 46, .ireturn], 0)]
abbrev q_X_riddle : Nat := 90
/-- MouthRiddles.more(II)I -/
def cd_X_more : List (Nat × List Instr × Nat) := [(0, [.aload 0, .iload 1, .invokevirtual 92, .ifCond .eq 16], 8),
  (8, [.aload 0, .iload 2, .invokevirtual 87, .ifCond .ne 19], 16),
  (16, [.iconst (-101), .ireturn], 0),
  (19, [.aload 0, .getfield 705, .getfield 387, .iload 1, .iaload, .iconst 6, .if_icmp .lt 36], 33),
  (33, [.iconst (-104), .ireturn], 0),
  (36, [.aload 0, .getfield 705, .iload 1, .iload 2, .invokevirtual 47, .ireturn], 0)]
abbrev q_X_more : Nat := 91
/-- MouthRiddles.isRiddle(I)Z -/
def cd_X_isRiddle : List (Nat × List Instr × Nat) := [(0, [.iload 1, .ifCond .lt 19], 4),
  (4, [.iload 1, .aload 0, .getfield 705, .getfield 388, .if_icmp .ge 19], 15),
  (15, [.iconst 1, .goto 20], 0),
  (19, [.iconst 0], 20),
  (20, [.freturn], 0)]
abbrev q_X_isRiddle : Nat := 92
/-- MouthRiddles.said(II)I -/
def cd_X_said : List (Nat × List Instr × Nat) := [(0, [.aload 0, .iload 1, .invokevirtual 92, .ifCond .ne 11], 8),
  (8, [.iconst (-101), .ireturn], 0),
  (11, [.iload 2, .ifCond .lt 28], 15),
  (15, [.iload 2, .aload 0, .getfield 705, .getfield 387, .iload 1, .iaload, .if_icmp .lt 30], 28),
  (28, [.iconst (-1), .ireturn], 0),
  (30, [.aload 0, .getfield 705, .iload 1, .iload 2, .invokevirtual 48, .ireturn], 0)]
abbrev q_X_said : Nat := 93
/-- MouthRiddles.answers(I)I -/
def cd_X_answers : List (Nat × List Instr × Nat) := [(0, [.aload 0, .iload 1, .invokevirtual 92, .ifCond .ne 11], 8),
  (8, [.iconst (-101), .ireturn], 0),
  (11, [.aload 0, .getfield 705, .iload 1, .invokevirtual 49, .ireturn], 0)]
abbrev q_X_answers : Nat := 94
/-- MouthRiddles.turns(II)I -/
def cd_X_turns : List (Nat × List Instr × Nat) := [(0, [.aload 0, .iload 1, .invokevirtual 92, .ifCond .eq 16], 8),
  (8, [.aload 0, .iload 2, .invokevirtual 89, .ifCond .ne 19], 16),
  (16, [.iconst (-101), .ireturn], 0),
  (19, [.aload 0, .getfield 705, .iload 1, .iload 2, .invokevirtual 51, .ireturn], 0)]
abbrev q_X_turns : Nat := 95
/-- MouthRiddles.judge(III)I -/
def cd_X_judge : List (Nat × List Instr × Nat) := [(0, [.aload 0, .iload 1, .invokevirtual 92, .ifCond .eq 24], 8),
  (8, [.aload 0, .iload 2, .invokevirtual 89, .ifCond .eq 24], 16),
  (16, [.aload 0, .iload 3, .invokevirtual 89, .ifCond .ne 27], 24),
  (24, [.iconst (-101), .ireturn], 0),
  (27, [.iload 2, .iload 3, .dadd, .istore 4, .iload 2, .iload 3, .dsub, .istore 5, .aload 0, .getfield 705, .iload 1, .iload 4, .invokevirtual 51, .istore 6, .aload 0, .getfield 705, .iload 1, .iload 5, .invokevirtual 51, .istore 7, .iload 7, .iconst (-1), .if_icmp .ne 84], 71),
  (71, [.iload 6, .iconst (-1), .if_icmp .ne 81], 77),
  (77, [.iconst (-1), .goto 83], 0),
  (81, [.iload 4], 83),
  (83, [.ireturn], 0),
  (84, [.iload 6, .iconst (-1), .if_icmp .eq 97], 90),
  (90, [.iload 7, .iload 6, .if_icmp .ge 102], 97),
  (97, [.iload 5, .goto 104], 0),
  (102, [.iload 4], 104),
  (104, [.ireturn], 0)]
abbrev q_X_judge : Nat := 96
/-- MouthRiddles.astray(II)I -/
def cd_X_astray : List (Nat × List Instr × Nat) := [(0, [.aload 0, .iload 1, .invokevirtual 92, .ifCond .ne 11], 8),
  (8, [.iconst (-101), .ireturn], 0),
  (11, [.iload 2, .ifCond .lt 20], 15),
  (15, [.iload 2, .iconst 1, .if_icmp .le 23], 20),
  (20, [.iconst (-102), .ireturn], 0),
  (23, [.aload 0, .getfield 705, .iload 1, .invokevirtual 52, .istore 3, .iload 2, .ifCond .ne 40], 36),
  (36, [.iload 3, .goto 49], 0),
  (40, [.aload 0, .getfield 705, .iload 1, .iload 3, .invokevirtual 53], 49),
  (49, [.ireturn], 0)]
abbrev q_X_astray : Nat := 97
/-- MouthRiddles.made(II)I -/
def cd_X_made : List (Nat × List Instr × Nat) := [(0, [.aload 0, .iload 1, .invokevirtual 89, .ifCond .ne 11], 8),
  (8, [.iconst (-101), .ireturn], 0),
  (11, [.iload 2, .iconst 1, .if_icmp .lt 22], 16),
  (16, [.iload 2, .iconst 6, .if_icmp .le 25], 22),
  (22, [.iconst (-102), .ireturn], 0),
  (25, [.aload 0, .getfield 716, .iconst 20, .if_icmp .lt 37], 34),
  (34, [.iconst (-103), .ireturn], 0),
  (37, [.aload 0, .dup, .getfield 716, .iconst 1, .iadd, .putfield 716, .aload 0, .getfield 706, .aload 0, .getfield 704, .iload 1, .iload 2, .invokevirtual 35, .ireturn], 0)]
abbrev q_X_made : Nat := 98
/-- MouthRiddles.head(II)I -/
def cd_X_head : List (Nat × List Instr × Nat) := [(0, [.iload 1, .ifCond .lt 20], 4),
  (4, [.iload 1, .iconst 99, .if_icmp .gt 20], 10),
  (10, [.iload 2, .ifCond .lt 20], 14),
  (14, [.iload 2, .iconst 99, .if_icmp .le 23], 20),
  (20, [.iconst (-102), .ireturn], 0),
  (23, [.aload 0, .getfield 707, .getfield 133, .iconst 6, .if_icmp .lt 38], 35),
  (35, [.iconst (-104), .ireturn], 0),
  (38, [.aload 0, .getfield 707, .iload 1, .iload 2, .invokevirtual 13, .ireturn], 0)]
abbrev q_X_head : Nat := 99
/-- MouthRiddles.hears(III)I -/
def cd_X_hears : List (Nat × List Instr × Nat) := [(0, [.aload 0, .iload 1, .invokevirtual 101, .ifCond .eq 16], 8),
  (8, [.aload 0, .iload 2, .invokevirtual 92, .ifCond .ne 19], 16),
  (16, [.iconst (-101), .ireturn], 0),
  (19, [.iload 3, .ifCond .lt 28], 23),
  (23, [.iload 3, .iconst 1, .if_icmp .le 31], 28),
  (28, [.iconst (-102), .ireturn], 0),
  (31, [.aload 0, .getfield 707, .iload 1, .iload 2, .invokevirtual 14, .istore 4, .iload 3, .ifCond .ne 59], 46),
  (46, [.aload 0, .getfield 707, .iload 4, .iload 2, .invokevirtual 16, .goto 69], 0),
  (59, [.aload 0, .getfield 707, .iload 4, .iload 1, .invokevirtual 15], 69),
  (69, [.ireturn], 0)]
abbrev q_X_hears : Nat := 100
/-- MouthRiddles.isHead(I)Z -/
def cd_X_isHead : List (Nat × List Instr × Nat) := [(0, [.iload 1, .ifCond .lt 19], 4),
  (4, [.iload 1, .aload 0, .getfield 707, .getfield 133, .if_icmp .ge 19], 15),
  (15, [.iconst 1, .goto 20], 0),
  (19, [.iconst 0], 20),
  (20, [.freturn], 0)]
abbrev q_X_isHead : Nat := 101
/-- MouthRiddles.parts(I)I -/
def cd_X_parts : List (Nat × List Instr × Nat) := [(0, [.iload 1, .ifCond .lt 9], 4),
  (4, [.iload 1, .iconst 1, .if_icmp .le 12], 9),
  (9, [.iconst (-102), .ireturn], 0),
  (12, [.iconst (-1), .istore 2, .iconst (-1), .istore 3, .iconst 0, .istore 4], 19),
  (19, [.iload 4, .aload 0, .getfield 705, .getfield 388, .if_icmp .ge 60], 31),
  (31, [.aload 0, .getfield 707, .iload 4, .invokevirtual 17, .istore 5, .iload 5, .iload 3, .if_icmp .le 54], 48),
  (48, [.iload 4, .istore 2, .iload 5, .istore 3], 54),
  (54, [.iinc 4 1, .goto 19], 0),
  (60, [.iload 1, .ifCond .ne 68], 64),
  (64, [.iload 2, .goto 69], 0),
  (68, [.iload 3], 69),
  (69, [.ireturn], 0)]
abbrev q_X_parts : Nat := 102
/-- MouthRiddles.blind(II)I -/
def cd_X_blind : List (Nat × List Instr × Nat) := [(0, [.aload 0, .iload 1, .invokevirtual 92, .ifCond .eq 16], 8),
  (8, [.aload 0, .iload 2, .invokevirtual 89, .ifCond .ne 19], 16),
  (16, [.iconst (-101), .ireturn], 0),
  (19, [.aload 0, .getfield 707, .iload 1, .iload 2, .invokevirtual 19, .ireturn], 0)]
abbrev q_X_blind : Nat := 103
/-- MouthRiddles.tongue()I -/
def cd_X_tongue : List (Nat × List Instr × Nat) := [(0, [.aload 0, .getfield 708, .getfield 578, .iconst 4, .if_icmp .lt 14], 11),
  (11, [.iconst (-104), .ireturn], 0),
  (14, [.aload 0, .getfield 708, .invokevirtual 66, .ireturn], 0)]
abbrev q_X_tongue : Nat := 104
/-- MouthRiddles.lack(IIIZ)I -/
def cd_X_lack : List (Nat × List Instr × Nat) := [(0, [.aload 0, .iload 1, .invokevirtual 106, .ifCond .eq 15], 8),
  (8, [.iload 2, .invokestatic 82, .ifCond .ne 18], 15),
  (15, [.iconst (-101), .ireturn], 0),
  (18, [.iload 3, .ifCond .lt 27], 22),
  (22, [.iload 3, .iconst 3, .if_icmp .lt 30], 27),
  (27, [.iconst (-102), .ireturn], 0),
  (30, [.aload 0, .getfield 708, .getfield 577, .iload 1, .aaload, .iload 2, .iload 3, .invokevirtual 56, .ifCond .ne 51], 47),
  (47, [.iconst 1, .goto 52], 0),
  (51, [.iconst 0], 52),
  (52, [.istore 5, .aload 0, .getfield 708, .getfield 577, .iload 1, .aaload, .iload 2, .iload 3, .iload 4, .ifCond .ne 74], 70),
  (70, [.iconst 1, .goto 75], 0),
  (74, [.iconst 0], 75),
  (75, [.invokevirtual 57, .iload 5, .ifCond .eq 87], 83),
  (83, [.iconst 1, .goto 88], 0),
  (87, [.iconst 0], 88),
  (88, [.ireturn], 0)]
abbrev q_X_lack : Nat := 105
/-- MouthRiddles.isTongue(I)Z -/
def cd_X_isTongue : List (Nat × List Instr × Nat) := [(0, [.iload 1, .ifCond .lt 19], 4),
  (4, [.iload 1, .aload 0, .getfield 708, .getfield 578, .if_icmp .ge 19], 15),
  (15, [.iconst 1, .goto 20], 0),
  (19, [.iconst 0], 20),
  (20, [.freturn], 0)]
abbrev q_X_isTongue : Nat := 106
/-- MouthRiddles.goes(IIII)I -/
def cd_X_goes : List (Nat × List Instr × Nat) := [(0, [.aload 0, .iload 1, .invokevirtual 92, .ifCond .eq 24], 8),
  (8, [.aload 0, .iload 2, .invokevirtual 89, .ifCond .eq 24], 16),
  (16, [.aload 0, .iload 3, .invokevirtual 106, .ifCond .ne 27], 24),
  (24, [.iconst (-101), .ireturn], 0),
  (27, [.iload 4, .ifCond .lt 38], 32),
  (32, [.iload 4, .iconst 1, .if_icmp .le 41], 38),
  (38, [.iconst (-102), .ireturn], 0),
  (41, [.iload 4, .ifCond .ne 59], 46),
  (46, [.aload 0, .getfield 708, .iload 3, .iload 1, .iload 2, .invokevirtual 67, .goto 69], 0),
  (59, [.aload 0, .getfield 708, .iload 3, .iload 1, .iload 2, .invokevirtual 68], 69),
  (69, [.ireturn], 0)]
abbrev q_X_goes : Nat := 107
/-- MouthRiddles.nearest(II)I -/
def cd_X_nearest : List (Nat × List Instr × Nat) := [(0, [.aload 0, .iload 1, .invokevirtual 92, .ifCond .eq 16], 8),
  (8, [.aload 0, .iload 2, .invokevirtual 89, .ifCond .ne 19], 16),
  (16, [.iconst (-101), .ireturn], 0),
  (19, [.aload 0, .getfield 708, .iload 1, .iload 2, .invokevirtual 69, .ireturn], 0)]
abbrev q_X_nearest : Nat := 108
/-- MouthRiddles.letters(J)I -/
def cd_X_letters : List (Nat × List Instr × Nat) := [(0, [.lload 1, .invokestatic 40, .ifCond .ne 10], 7),
  (7, [.iconst (-102), .ireturn], 0),
  (10, [.aload 0, .getfield 709, .getfield 321, .lload 1, .invokestatic 41, .iadd, .iconst 40, .if_icmp .le 30], 27),
  (27, [.iconst (-104), .ireturn], 0),
  (30, [.aload 0, .getfield 709, .lload 1, .invokevirtual 43, .ireturn], 0)]
abbrev q_X_letters : Nat := 109
/-- MouthRiddles.blank()I -/
def cd_X_blank : List (Nat × List Instr × Nat) := [(0, [.aload 0, .getfield 709, .invokevirtual 44, .ireturn], 0)]
abbrev q_X_blank : Nat := 110
/-- MouthRiddles.fault()I -/
def cd_X_fault : List (Nat × List Instr × Nat) := [(0, [.aload 0, .getfield 715, .aload 0, .getfield 709, .invokevirtual 71, .ireturn], 0)]
abbrev q_X_fault : Nat := 111
/-- MouthRiddles.tree()I -/
def cd_X_tree : List (Nat × List Instr × Nat) := [(0, [.aload 0, .getfield 715, .aload 0, .getfield 709, .invokevirtual 71, .aload 0, .getfield 709, .getfield 321, .if_icmp .lt 31], 21),
  (21, [.aload 0, .getfield 715, .invokevirtual 78, .ifCond .ne 34], 31),
  (31, [.iconst (-103), .ireturn], 0),
  (34, [.aload 0, .getfield 714, .astore 1, .aload 0, .aload 0, .getfield 715, .putfield 8906, .aload 0, .aload 1, .putfield 8907, .aload 0, .getfield 709, .invokevirtual 44, .pop, .aload 0, .getfield 714, .getfield 643, .ireturn], 0)]
abbrev q_X_tree : Nat := 112
/-- MouthRiddles.variant(II)I -/
def cd_X_variant : List (Nat × List Instr × Nat) := [(0, [.iload 1, .ifCond .lt 10], 4),
  (4, [.iload 1, .iconst 8, .if_icmp .lt 13], 10),
  (10, [.iconst (-101), .ireturn], 0),
  (13, [.iload 2, .iconst (-1), .if_icmp .eq 31], 18),
  (18, [.iload 2, .ifCond .lt 28], 22),
  (22, [.iload 2, .iconst 8, .if_icmp .lt 31], 28),
  (28, [.iconst (-102), .ireturn], 0),
  (31, [.aload 0, .getfield 713, .iload 1, .iaload, .istore 3, .aload 0, .getfield 713, .iload 1, .iload 2, .iastore, .iload 3, .ireturn], 0)]
abbrev q_X_variant : Nat := 113
/-- MouthRiddles.changes(I)I -/
def cd_X_changes : List (Nat × List Instr × Nat) := [(0, [.iload 1, .ifCond .eq 19], 4),
  (4, [.iload 1, .iconst 10, .if_icmp .lt 16], 10),
  (10, [.iload 1, .iconst 39, .if_icmp .le 19], 16),
  (16, [.iconst (-102), .ireturn], 0),
  (19, [.aload 0, .getfield 714, .invokevirtual 78, .ifCond .ne 32], 29),
  (29, [.iconst (-103), .ireturn], 0),
  (32, [.iload 1, .ifCond .ne 52], 36),
  (36, [.aload 0, .getfield 711, .aload 0, .getfield 714, .aload 0, .getfield 713, .invokevirtual 1, .ireturn], 0),
  (52, [.iload 1, .iconst 10, .isub, .aload 0, .getfield 714, .getfield 643, .if_icmp .lt 68], 66),
  (66, [.iconst (-1), .ireturn], 0),
  (68, [.aload 0, .getfield 711, .aload 0, .getfield 714, .aload 0, .getfield 713, .invokevirtual 5, .aload 0, .getfield 711, .iload 1, .iconst 10, .isub, .invokevirtual 7, .ireturn], 0)]
abbrev q_X_changes : Nat := 114
/-- MouthRiddles.chance(I)I -/
def cd_X_chance : List (Nat × List Instr × Nat) := [(0, [.iload 1, .ifCond .lt 9], 4),
  (4, [.iload 1, .iconst 1, .if_icmp .le 12], 9),
  (9, [.iconst (-102), .ireturn], 0),
  (12, [.aload 0, .getfield 714, .invokevirtual 78, .ifCond .eq 31], 22),
  (22, [.aload 0, .getfield 717, .iconst 12, .if_icmp .lt 34], 31),
  (31, [.iconst (-103), .ireturn], 0),
  (34, [.aload 0, .dup, .getfield 717, .iconst 1, .iadd, .putfield 717, .aload 0, .getfield 712, .aload 0, .getfield 714, .aload 0, .getfield 713, .aload 0, .getfield 711, .invokevirtual 9, .aload 0, .getfield 712, .getfield 70, .aload 0, .getfield 712, .getfield 71, .invokestatic 116, .istore 2, .iload 1, .ifCond .ne 95], 85),
  (85, [.aload 0, .getfield 712, .getfield 71, .goto 102], 0),
  (95, [.aload 0, .getfield 712, .getfield 70], 102),
  (102, [.iload 2, .idiv, .ireturn], 0)]
abbrev q_X_chance : Nat := 115
/-- MouthRiddles.greatestDivisor(II)I -/
def cd_X_greatestDivisor : List (Nat × List Instr × Nat) := [(0, [.iload 0, .istore 2, .iload 1, .istore 3, .iconst 0, .istore 4], 7),
  (7, [.iload 4, .iconst 64, .if_icmp .ge 34], 14),
  (14, [.iload 3, .ifCond .eq 34], 18),
  (18, [.iload 2, .iload 3, .irem, .istore 5, .iload 3, .istore 2, .iload 5, .istore 3, .iinc 4 1, .goto 7], 0),
  (34, [.iload 2, .iconst 1, .dsub, .ireturn], 0)]
abbrev q_X_greatestDivisor : Nat := 116
/-- MouthRiddles.stake(III)I -/
def cd_X_stake : List (Nat × List Instr × Nat) := [(0, [.aload 0, .iload 1, .invokevirtual 101, .ifCond .eq 16], 8),
  (8, [.aload 0, .iload 2, .invokevirtual 92, .ifCond .ne 19], 16),
  (16, [.iconst (-101), .ireturn], 0),
  (19, [.iload 3, .ifCond .lt 30], 23),
  (23, [.iload 3, .iconst 999, .if_icmp .le 33], 30),
  (30, [.iconst (-102), .ireturn], 0),
  (33, [.aload 0, .getfield 710, .iload 1, .iload 2, .iload 3, .invokevirtual 59, .ireturn], 0)]
abbrev q_X_stake : Nat := 117
/-- MouthRiddles.whom(I)I -/
def cd_X_whom : List (Nat × List Instr × Nat) := [(0, [.iload 1, .iconst (-1), .if_icmp .eq 16], 5),
  (5, [.aload 0, .iload 1, .invokevirtual 101, .ifCond .ne 16], 13),
  (13, [.iconst (-101), .ireturn], 0),
  (16, [.aload 0, .getfield 710, .aload 0, .getfield 707, .getfield 133, .aload 0, .getfield 705, .getfield 388, .invokevirtual 61, .lstore 2, .iload 1, .iconst (-1), .if_icmp .ne 50], 43),
  (43, [.lload 2, .invokestatic 63, .goto 55], 0),
  (50, [.lload 2, .iload 1, .invokestatic 64], 55),
  (55, [.ireturn], 0)]
abbrev q_X_whom : Nat := 118
/-- MouthRiddles.count(I)I -/
def cd_X_count : List (Nat × List Instr × Nat) := [(0, [.iload 1, .tableswitch 130 0 9 #[56, 64, 72, 80, 88, 96, 104, 112, 120, 125]], 0),
  (56, [.aload 0, .getfield 704, .getfield 192, .ireturn], 0),
  (64, [.aload 0, .getfield 704, .invokevirtual 33, .ireturn], 0),
  (72, [.aload 0, .getfield 704, .getfield 193, .ireturn], 0),
  (80, [.aload 0, .getfield 705, .getfield 388, .ireturn], 0),
  (88, [.aload 0, .getfield 707, .getfield 133, .ireturn], 0),
  (96, [.aload 0, .getfield 708, .getfield 578, .ireturn], 0),
  (104, [.aload 0, .getfield 714, .getfield 643, .ireturn], 0),
  (112, [.aload 0, .getfield 709, .getfield 321, .ireturn], 0),
  (120, [.aload 0, .getfield 716, .ireturn], 0),
  (125, [.aload 0, .getfield 717, .ireturn], 0),
  (130, [.iconst (-102), .ireturn], 0)]
abbrev q_X_count : Nat := 119
/-- MouthRiddles.digest()J -/
def cd_X_digest : List (Nat × List Instr × Nat) := [(0, [.aload 0, .ldc2_w 349, .invokevirtual 121, .lstore 1, .aload 0, .lload 1, .invokevirtual 122, .lstore 1, .aload 0, .lload 1, .invokevirtual 123, .lstore 1, .aload 0, .lload 1, .invokevirtual 124, .lstore 1, .iconst 0, .istore 3], 28),
  (28, [.iload 3, .aload 0, .getfield 709, .getfield 321, .if_icmp .ge 62], 39),
  (39, [.ldc2_w 31, .lload 1, .lmul, .aload 0, .getfield 709, .getfield 320, .iload 3, .iaload, .i2l, .ladd, .lstore 1, .iinc 3 1, .goto 28], 0),
  (62, [.iconst 0, .istore 3], 64),
  (64, [.iload 3, .iconst 10, .if_icmp .ge 89], 70),
  (70, [.ldc2_w 31, .lload 1, .lmul, .aload 0, .iload 3, .invokevirtual 119, .i2l, .ladd, .lstore 1, .iinc 3 1, .goto 64], 0),
  (89, [.lload 1, .lreturn], 0)]
abbrev q_X_digest : Nat := 120
/-- MouthRiddles.digestLore(J)J -/
def cd_X_digestLore : List (Nat × List Instr × Nat) := [(0, [.lload 1, .lstore 3, .iconst 0, .istore 5], 5),
  (5, [.iload 5, .aload 0, .getfield 704, .getfield 192, .if_icmp .ge 41], 17),
  (17, [.ldc2_w 31, .lload 3, .lmul, .aload 0, .getfield 704, .getfield 194, .iload 5, .iaload, .i2l, .ladd, .lstore 3, .iinc 5 1, .goto 5], 0),
  (41, [.iconst 0, .istore 5], 44),
  (44, [.iload 5, .iconst 16, .if_icmp .ge 100], 51),
  (51, [.iconst 0, .istore 6], 54),
  (54, [.iload 6, .aload 0, .getfield 704, .getfield 198, .iload 5, .iaload, .if_icmp .ge 94], 69),
  (69, [.ldc2_w 31, .lload 3, .lmul, .aload 0, .getfield 704, .iload 5, .iload 6, .invokevirtual 25, .i2l, .ladd, .lstore 3, .iinc 6 1, .goto 54], 0),
  (94, [.iinc 5 1, .goto 44], 0),
  (100, [.iconst 0, .istore 5], 103),
  (103, [.iload 5, .aload 0, .getfield 704, .getfield 193, .if_icmp .ge 215], 115),
  (115, [.ldc2_w 31, .lload 3, .lmul, .aload 0, .getfield 704, .getfield 199, .iload 5, .iaload, .i2l, .ladd, .lstore 3, .ldc2_w 31, .lload 3, .lmul, .aload 0, .getfield 704, .getfield 200, .iload 5, .iaload, .i2l, .ladd, .lstore 3, .ldc2_w 31, .lload 3, .lmul, .aload 0, .getfield 704, .getfield 201, .iload 5, .iaload, .i2l, .ladd, .lstore 3, .iconst 0, .istore 6], 172),
  (172, [.iload 6, .aload 0, .getfield 704, .getfield 192, .if_icmp .ge 209], 184),
  (184, [.ldc2_w 31, .lload 3, .lmul, .aload 0, .getfield 704, .iload 5, .iload 6, .invokevirtual 30, .i2l, .ladd, .lstore 3, .iinc 6 1, .goto 172], 0),
  (209, [.iinc 5 1, .goto 103], 0),
  (215, [.lload 3, .lreturn], 0)]
abbrev q_X_digestLore : Nat := 121
/-- MouthRiddles.digestRiddles(J)J -/
def cd_X_digestRiddles : List (Nat × List Instr × Nat) := [(0, [.lload 1, .lstore 3, .iconst 0, .istore 5], 5),
  (5, [.iload 5, .aload 0, .getfield 705, .getfield 388, .if_icmp .ge 174], 17),
  (17, [.iconst 0, .istore 6], 20),
  (20, [.iload 6, .aload 0, .getfield 705, .getfield 387, .iload 5, .iaload, .if_icmp .ge 60], 35),
  (35, [.ldc2_w 31, .lload 3, .lmul, .aload 0, .getfield 705, .iload 5, .iload 6, .invokevirtual 48, .i2l, .ladd, .lstore 3, .iinc 6 1, .goto 20], 0),
  (60, [.ldc2_w 31, .lload 3, .lmul, .aload 0, .getfield 705, .iload 5, .invokevirtual 49, .i2l, .ladd, .lstore 3, .iconst 0, .istore 6], 80),
  (80, [.iload 6, .aload 0, .getfield 707, .getfield 133, .if_icmp .ge 168], 92),
  (92, [.aload 0, .getfield 707, .iload 6, .iload 5, .invokevirtual 14, .istore 7, .ldc2_w 31, .lload 3, .lmul, .aload 0, .getfield 707, .iload 7, .iload 5, .invokevirtual 16, .i2l, .ladd, .lstore 3, .ldc2_w 31, .lload 3, .lmul, .aload 0, .getfield 707, .iload 7, .iload 6, .invokevirtual 15, .i2l, .ladd, .lstore 3, .ldc2_w 31, .lload 3, .lmul, .aload 0, .getfield 710, .iload 6, .iload 5, .invokevirtual 60, .i2l, .ladd, .lstore 3, .iinc 6 1, .goto 80], 0),
  (168, [.iinc 5 1, .goto 5], 0),
  (174, [.lload 3, .lreturn], 0)]
abbrev q_X_digestRiddles : Nat := 122
/-- MouthRiddles.digestTongues(J)J -/
def cd_X_digestTongues : List (Nat × List Instr × Nat) := [(0, [.lload 1, .lstore 3, .aload 0, .getfield 704, .getfield 192, .ifCond .ne 14], 12),
  (12, [.lload 3, .lreturn], 0),
  (14, [.iconst 0, .istore 5], 17),
  (17, [.iload 5, .aload 0, .getfield 708, .getfield 578, .if_icmp .ge 96], 29),
  (29, [.iconst 0, .istore 6], 32),
  (32, [.iload 6, .aload 0, .getfield 705, .getfield 388, .if_icmp .ge 90], 44),
  (44, [.ldc2_w 31, .lload 3, .lmul, .aload 0, .getfield 708, .iload 5, .iload 6, .iconst 0, .invokevirtual 67, .i2l, .ladd, .lstore 3, .ldc2_w 31, .lload 3, .lmul, .aload 0, .getfield 708, .iload 5, .iload 6, .iconst 0, .invokevirtual 68, .i2l, .ladd, .lstore 3, .iinc 6 1, .goto 32], 0),
  (90, [.iinc 5 1, .goto 17], 0),
  (96, [.lload 3, .lreturn], 0)]
abbrev q_X_digestTongues : Nat := 123
/-- MouthRiddles.digestLands(J)J -/
def cd_X_digestLands : List (Nat × List Instr × Nat) := [(0, [.lload 1, .lstore 3, .iconst 0, .istore 5], 5),
  (5, [.iload 5, .iconst 8, .if_icmp .ge 33], 12),
  (12, [.ldc2_w 31, .lload 3, .lmul, .aload 0, .getfield 713, .iload 5, .iaload, .i2l, .ladd, .lstore 3, .iinc 5 1, .goto 5], 0),
  (33, [.aload 0, .getfield 714, .invokevirtual 78, .ifCond .ne 45], 43),
  (43, [.lload 3, .lreturn], 0),
  (45, [.ldc2_w 31, .lload 3, .lmul, .aload 0, .getfield 711, .aload 0, .getfield 714, .aload 0, .getfield 713, .invokevirtual 1, .i2l, .ladd, .lstore 3, .aload 0, .getfield 711, .aload 0, .getfield 714, .aload 0, .getfield 713, .invokevirtual 5, .iconst 0, .istore 5], 86),
  (86, [.iload 5, .aload 0, .getfield 714, .getfield 643, .if_icmp .ge 121], 98),
  (98, [.ldc2_w 31, .lload 3, .lmul, .aload 0, .getfield 711, .iload 5, .invokevirtual 7, .i2l, .ladd, .lstore 3, .iinc 5 1, .goto 86], 0),
  (121, [.lload 3, .lreturn], 0)]
abbrev q_X_digestLands : Nat := 124
/-- MouthRiddlesModel.<init>()V -/
def cd_M_init : List (Nat × List Instr × Nat) := [(0, [.aload 0, .monitorenter, .aload 0, .iconst 12, .newarray .int, .putfield 8961, .aload 0, .iconst 16, .newarray .int, .putfield 8962, .aload 0, .iconst 48, .newarray .int, .putfield 8963, .aload 0, .iconst 20, .newarray .int, .putfield 8965, .aload 0, .iconst 20, .newarray .int, .putfield 8966, .aload 0, .iconst 20, .newarray .int, .putfield 8967, .aload 0, .iconst 10, .newarray .int, .putfield 8969, .aload 0, .iconst 60, .newarray .int, .putfield 8970, .aload 0, .iconst 20, .newarray .int, .putfield 8972, .aload 0, .iconst 20, .newarray .int, .putfield 8973, .aload 0, .iconst 6, .newarray .int, .putfield 8975, .aload 0, .iconst 6, .newarray .int, .putfield 8976, .aload 0, .iconst 64, .newarray .int, .putfield 8979, .aload 0, .iconst 40, .newarray .int, .putfield 8980, .aload 0, .iconst 40, .newarray .int, .putfield 8983, .aload 0, .iconst 40, .newarray .int, .putfield 8984, .aload 0, .iconst 8, .newarray .int, .putfield 8985, .aload 0, .iconst 40, .newarray .int, .putfield 8990, .aload 0, .iconst 40, .newarray .int, .putfield 8991, .aload 0, .iconst 40, .newarray .int, .putfield 8992, .aload 0, .iconst 320, .newarray .int, .putfield 8993, .aload 0, .iconst 320, .newarray .int, .putfield 8994, .aload 0, .iconst 8, .newarray .int, .putfield 8995, .aload 0, .iconst 8, .newarray .int, .putfield 8997, .aload 0, .iconst 8, .newarray .int, .putfield 8998, .aload 0, .iconst 60, .newarray .int, .putfield 8999, .aload 0, .iconst 7168, .newarray .int, .putfield 9000, .iconst 0, .istore 1], 225),
  (225, [.iload 1, .iconst 8, .if_icmp .ge 244], 231),
  (231, [.aload 0, .getfield 793, .iload 1, .iconst (-1), .iastore, .iinc 1 1, .goto 225], 0),
  (244, [.return_], 0)]
abbrev q_M_init : Nat := 125
/-- MouthRiddlesModel.thing(I)I -/
def cd_M_thing : List (Nat × List Instr × Nat) := [(0, [.iload 1, .i2l, .ldc2_w 0, .ldc2_w 16777215, .invokestatic 127, .ifCond .ne 15], 12),
  (12, [.iconst (-102), .ireturn], 0),
  (15, [.aload 0, .getfield 768, .iconst 12, .if_icmp .ne 27], 24),
  (24, [.iconst (-104), .ireturn], 0),
  (27, [.aload 0, .getfield 769, .aload 0, .getfield 768, .iload 1, .iastore, .aload 0, .dup, .getfield 768, .iconst 1, .iadd, .putfield 768, .aload 0, .getfield 768, .iconst 1, .isub, .ireturn], 0)]
abbrev q_M_thing : Nat := 126
/-- MouthRiddlesModel.in(JJJ)Z -/
def cd_M_in : List (Nat × List Instr × Nat) := [(0, [.lload 0, .lload 2, .lcmp, .ifCond .lt 17], 6),
  (6, [.lload 0, .lload 4, .lcmp, .ifCond .gt 17], 13),
  (13, [.iconst 1, .goto 18], 0),
  (17, [.iconst 0], 18),
  (18, [.freturn], 0)]
abbrev q_M_in : Nat := 127
/-- MouthRiddlesModel.sense(II)I -/
def cd_M_sense : List (Nat × List Instr × Nat) := [(0, [.iload 1, .invokestatic 129, .ifCond .ne 10], 7),
  (7, [.iconst (-101), .ireturn], 0),
  (10, [.iload 2, .i2l, .ldc2_w 0, .ldc2_w 23, .invokestatic 127, .istore 3, .iconst 0, .istore 4], 23),
  (23, [.iload 4, .aload 0, .getfield 770, .iload 1, .iaload, .if_icmp .ge 65], 34),
  (34, [.iload 3, .ifCond .eq 57], 38),
  (38, [.aload 0, .getfield 771, .iconst 3, .iload 1, .imul, .iload 4, .iadd, .iaload, .iload 2, .if_icmp .eq 57], 53),
  (53, [.iconst 1, .goto 58], 0),
  (57, [.iconst 0], 58),
  (58, [.istore 3, .iinc 4 1, .goto 23], 0),
  (65, [.iload 3, .ifCond .ne 72], 69),
  (69, [.iconst (-102), .ireturn], 0),
  (72, [.aload 0, .getfield 770, .iload 1, .iaload, .iconst 3, .if_icmp .ne 85], 82),
  (82, [.iconst (-104), .ireturn], 0),
  (85, [.aload 0, .getfield 771, .iconst 3, .iload 1, .imul, .aload 0, .getfield 770, .iload 1, .iaload, .iadd, .iload 2, .iastore, .aload 0, .getfield 770, .iload 1, .dup2, .iaload, .iconst 1, .iadd, .iastore, .aload 0, .getfield 770, .iload 1, .iaload, .ireturn], 0)]
abbrev q_M_sense : Nat := 128
/-- MouthRiddlesModel.isWord(I)Z -/
def cd_M_isWord : List (Nat × List Instr × Nat) := [(0, [.iload 0, .i2l, .ldc2_w 0, .ldc2_w 15, .invokestatic 127, .freturn], 0)]
abbrev q_M_isWord : Nat := 129
/-- MouthRiddlesModel.senseOf(II)I -/
def cd_M_senseOf : List (Nat × List Instr × Nat) := [(0, [.iload 1, .invokestatic 129, .ifCond .ne 10], 7),
  (7, [.iconst (-101), .ireturn], 0),
  (10, [.iload 2, .i2l, .ldc2_w 0, .aload 0, .getfield 770, .iload 1, .iaload, .iconst 1, .isub, .i2l, .invokestatic 127, .ifCond .eq 41], 28),
  (28, [.aload 0, .getfield 771, .iconst 3, .iload 1, .imul, .iload 2, .iadd, .iaload, .goto 42], 0),
  (41, [.iconst (-1)], 42),
  (42, [.ireturn], 0)]
abbrev q_M_senseOf : Nat := 130
/-- MouthRiddlesModel.saying(III)I -/
def cd_M_saying : List (Nat × List Instr × Nat) := [(0, [.iload 1, .i2l, .ldc2_w 0, .ldc2_w 5, .invokestatic 127, .ifCond .eq 24], 12),
  (12, [.iload 3, .i2l, .ldc2_w 0, .ldc2_w 23, .invokestatic 127, .ifCond .ne 27], 24),
  (24, [.iconst (-102), .ireturn], 0),
  (27, [.iload 2, .invokestatic 129, .ifCond .ne 37], 34),
  (34, [.iconst (-101), .ireturn], 0),
  (37, [.aload 0, .getfield 772, .iconst 20, .if_icmp .ne 49], 46),
  (46, [.iconst (-104), .ireturn], 0),
  (49, [.aload 0, .getfield 773, .aload 0, .getfield 772, .iload 1, .iastore, .aload 0, .getfield 774, .aload 0, .getfield 772, .iload 2, .iastore, .aload 0, .getfield 775, .aload 0, .getfield 772, .iload 3, .iastore, .aload 0, .dup, .getfield 772, .iconst 1, .iadd, .putfield 772, .aload 0, .getfield 772, .iconst 1, .isub, .ireturn], 0)]
abbrev q_M_saying : Nat := 131
/-- MouthRiddlesModel.as(II)I -/
def cd_M_as : List (Nat × List Instr × Nat) := [(0, [.aload 0, .iload 1, .invokevirtual 133, .ifCond .ne 11], 8),
  (8, [.iconst (-101), .ireturn], 0),
  (11, [.iload 2, .i2l, .ldc2_w 0, .ldc2_w 5, .invokestatic 127, .ifCond .ne 26], 23),
  (23, [.iconst (-102), .ireturn], 0),
  (26, [.iload 2, .ifCond .eq 55], 30),
  (30, [.iload 2, .aload 0, .getfield 773, .iload 1, .iaload, .if_icmp .eq 55], 40),
  (40, [.iload 2, .iconst 2, .if_icmp .ne 59], 45),
  (45, [.aload 0, .getfield 773, .iload 1, .iaload, .iconst 3, .if_icmp .ne 59], 55),
  (55, [.iconst 1, .goto 60], 0),
  (59, [.iconst 0], 60),
  (60, [.istore 3, .iload 3, .ifCond .eq 69], 65),
  (65, [.iload 1, .goto 70], 0),
  (69, [.iconst (-1)], 70),
  (70, [.ireturn], 0)]
abbrev q_M_as : Nat := 132
/-- MouthRiddlesModel.isSaying(I)Z -/
def cd_M_isSaying : List (Nat × List Instr × Nat) := [(0, [.iload 1, .i2l, .ldc2_w 0, .aload 0, .getfield 772, .iconst 1, .isub, .i2l, .invokestatic 127, .freturn], 0)]
abbrev q_M_isSaying : Nat := 133
/-- MouthRiddlesModel.fits(II)I -/
def cd_M_fits : List (Nat × List Instr × Nat) := [(0, [.aload 0, .iload 1, .invokevirtual 133, .ifCond .eq 27], 8),
  (8, [.aload 0, .iload 2, .invokevirtual 135, .ifCond .eq 27], 16),
  (16, [.aload 0, .iload 1, .iload 2, .iconst 7, .invokevirtual 136, .goto 29], 0),
  (27, [.iconst (-101)], 29),
  (29, [.ireturn], 0)]
abbrev q_M_fits : Nat := 134
/-- MouthRiddlesModel.isThing(I)Z -/
def cd_M_isThing : List (Nat × List Instr × Nat) := [(0, [.iload 1, .i2l, .ldc2_w 0, .aload 0, .getfield 768, .iconst 1, .isub, .i2l, .invokestatic 127, .freturn], 0)]
abbrev q_M_isThing : Nat := 135
/-- MouthRiddlesModel.by(III)I -/
def cd_M_by : List (Nat × List Instr × Nat) := [(0, [.aload 0, .getfield 773, .iload 1, .iaload, .istore 4, .aload 0, .getfield 774, .iload 1, .iaload, .istore 5, .iload 4, .iconst 5, .if_icmp .ne 38], 22),
  (22, [.iload 2, .aload 0, .getfield 775, .iload 1, .iaload, .if_icmp .ne 36], 32),
  (32, [.iconst 0, .goto 37], 0),
  (36, [.iconst (-1)], 37),
  (37, [.ireturn], 0),
  (38, [.iload 4, .iconst 4, .if_icmp .ne 62], 44),
  (44, [.aload 0, .getfield 769, .iload 2, .iaload, .invokestatic 137, .aload 0, .getfield 775, .iload 1, .iaload, .if_icmp .lt 95], 62),
  (62, [.iload 4, .iconst 3, .if_icmp .ne 99], 68),
  (68, [.aload 0, .getfield 770, .iload 5, .iaload, .ifCond .le 99], 78),
  (78, [.aload 0, .iload 2, .aload 0, .getfield 771, .iconst 3, .iload 5, .imul, .iaload, .invokevirtual 138, .ifCond .eq 99], 95),
  (95, [.iconst 1, .goto 100], 0),
  (99, [.iconst 0], 100),
  (100, [.istore 6, .iconst (-1), .istore 7, .aload 0, .getfield 770, .iload 5, .iaload, .iconst 1, .isub, .istore 8], 116),
  (116, [.iload 8, .ifCond .lt 221], 121),
  (121, [.iload 3, .iload 8, .ishr, .iconst 1, .iand, .iconst 1, .if_icmp .ne 155], 131),
  (131, [.aload 0, .iload 2, .aload 0, .getfield 771, .iconst 3, .iload 5, .imul, .iload 8, .iadd, .iaload, .invokevirtual 138, .ifCond .eq 155], 151),
  (151, [.iconst 1, .goto 156], 0),
  (155, [.iconst 0], 156),
  (156, [.istore 9, .iload 9, .ifCond .eq 198], 163),
  (163, [.iload 4, .iconst 1, .if_icmp .ne 177], 169),
  (169, [.iload 8, .ifCond .ne 198], 174),
  (174, [.goto 194], 0),
  (177, [.iload 4, .iconst 2, .if_icmp .eq 189], 183),
  (183, [.iload 4, .iconst 3, .if_icmp .ne 194], 189),
  (189, [.iload 8, .ifCond .le 198], 194),
  (194, [.iconst 1, .goto 199], 0),
  (198, [.iconst 0], 199),
  (199, [.istore 9, .iload 9, .ifCond .eq 211], 206),
  (206, [.iload 8, .goto 213], 0),
  (211, [.iload 7], 213),
  (213, [.istore 7, .iinc 8 (-1), .goto 116], 0),
  (221, [.iload 6, .ifCond .eq 230], 226),
  (226, [.iconst (-1), .goto 232], 0),
  (230, [.iload 7], 232),
  (232, [.ireturn], 0)]
abbrev q_M_by : Nat := 136
/-- MouthRiddlesModel.bitsOf(I)I -/
def cd_M_bitsOf : List (Nat × List Instr × Nat) := [(0, [.iconst 0, .istore 1, .iconst 0, .istore 2], 4),
  (4, [.iload 2, .iconst 24, .if_icmp .ge 24], 10),
  (10, [.iload 1, .iload 0, .iload 2, .ishr, .iconst 1, .iand, .iadd, .istore 1, .iinc 2 1, .goto 4], 0),
  (24, [.iload 1, .ireturn], 0)]
abbrev q_M_bitsOf : Nat := 137
/-- MouthRiddlesModel.has(II)Z -/
def cd_M_has : List (Nat × List Instr × Nat) := [(0, [.aload 0, .getfield 769, .iload 1, .iaload, .iload 2, .ishr, .iconst 1, .iand, .iconst 1, .if_icmp .ne 18], 14),
  (14, [.iconst 1, .goto 19], 0),
  (18, [.iconst 0], 19),
  (19, [.freturn], 0)]
abbrev q_M_has : Nat := 138
/-- MouthRiddlesModel.riddle(I)I -/
def cd_M_riddle : List (Nat × List Instr × Nat) := [(0, [.aload 0, .iload 1, .invokevirtual 133, .ifCond .ne 11], 8),
  (8, [.iconst (-101), .ireturn], 0),
  (11, [.aload 0, .getfield 776, .iconst 10, .if_icmp .ne 23], 20),
  (20, [.iconst (-104), .ireturn], 0),
  (23, [.aload 0, .getfield 777, .aload 0, .getfield 776, .iconst 1, .iastore, .aload 0, .getfield 778, .iconst 6, .aload 0, .getfield 776, .imul, .iload 1, .iastore, .aload 0, .dup, .getfield 776, .iconst 1, .iadd, .putfield 776, .aload 0, .getfield 776, .iconst 1, .isub, .ireturn], 0)]
abbrev q_M_riddle : Nat := 139
/-- MouthRiddlesModel.more(II)I -/
def cd_M_more : List (Nat × List Instr × Nat) := [(0, [.aload 0, .iload 1, .invokevirtual 141, .ifCond .eq 16], 8),
  (8, [.aload 0, .iload 2, .invokevirtual 133, .ifCond .ne 19], 16),
  (16, [.iconst (-101), .ireturn], 0),
  (19, [.aload 0, .getfield 777, .iload 1, .iaload, .iconst 6, .if_icmp .ne 33], 30),
  (30, [.iconst (-104), .ireturn], 0),
  (33, [.aload 0, .getfield 778, .iconst 6, .iload 1, .imul, .aload 0, .getfield 777, .iload 1, .iaload, .iadd, .iload 2, .iastore, .aload 0, .getfield 777, .iload 1, .dup2, .iaload, .iconst 1, .iadd, .iastore, .aload 0, .getfield 777, .iload 1, .iaload, .ireturn], 0)]
abbrev q_M_more : Nat := 140
/-- MouthRiddlesModel.isRiddle(I)Z -/
def cd_M_isRiddle : List (Nat × List Instr × Nat) := [(0, [.iload 1, .i2l, .ldc2_w 0, .aload 0, .getfield 776, .iconst 1, .isub, .i2l, .invokestatic 127, .freturn], 0)]
abbrev q_M_isRiddle : Nat := 141
/-- MouthRiddlesModel.said(II)I -/
def cd_M_said : List (Nat × List Instr × Nat) := [(0, [.aload 0, .iload 1, .invokevirtual 141, .ifCond .ne 11], 8),
  (8, [.iconst (-101), .ireturn], 0),
  (11, [.iload 2, .i2l, .ldc2_w 0, .aload 0, .getfield 777, .iload 1, .iaload, .iconst 1, .isub, .i2l, .invokestatic 127, .ifCond .eq 43], 29),
  (29, [.aload 0, .getfield 778, .iconst 6, .iload 1, .imul, .iload 2, .iadd, .iaload, .goto 44], 0),
  (43, [.iconst (-1)], 44),
  (44, [.ireturn], 0)]
abbrev q_M_said : Nat := 142
/-- MouthRiddlesModel.answers(I)I -/
def cd_M_answers : List (Nat × List Instr × Nat) := [(0, [.aload 0, .iload 1, .invokevirtual 141, .ifCond .eq 16], 8),
  (8, [.aload 0, .iload 1, .invokevirtual 144, .goto 18], 0),
  (16, [.iconst (-101)], 18),
  (18, [.ireturn], 0)]
abbrev q_M_answers : Nat := 143
/-- MouthRiddlesModel.answersOf(I)I -/
def cd_M_answersOf : List (Nat × List Instr × Nat) := [(0, [.aload 0, .iload 1, .iconst (-1), .iconst 7, .invokevirtual 145, .ireturn], 0)]
abbrev q_M_answersOf : Nat := 144
/-- MouthRiddlesModel.answersBy(III)I -/
def cd_M_answersBy : List (Nat × List Instr × Nat) := [(0, [.iconst 0, .istore 4, .iconst 0, .istore 5], 6),
  (6, [.iload 5, .aload 0, .getfield 768, .if_icmp .ge 103], 15),
  (15, [.iconst 1, .istore 6, .iconst 0, .istore 7], 21),
  (21, [.iload 7, .aload 0, .getfield 777, .iload 1, .iaload, .if_icmp .ge 79], 32),
  (32, [.iload 6, .ifCond .eq 70], 37),
  (37, [.iload 7, .iload 2, .if_icmp .eq 66], 43),
  (43, [.aload 0, .aload 0, .getfield 778, .iconst 6, .iload 1, .imul, .iload 7, .iadd, .iaload, .iload 5, .iload 3, .invokevirtual 136, .iconst (-1), .if_icmp .eq 70], 66),
  (66, [.iconst 1, .goto 71], 0),
  (70, [.iconst 0], 71),
  (71, [.istore 6, .iinc 7 1, .goto 21], 0),
  (79, [.iload 4, .iload 6, .ifCond .eq 93], 86),
  (86, [.iconst 1, .iload 5, .ishl, .goto 94], 0),
  (93, [.iconst 0], 94),
  (94, [.ior, .istore 4, .iinc 5 1, .goto 6], 0),
  (103, [.iload 4, .ireturn], 0)]
abbrev q_M_answersBy : Nat := 145
/-- MouthRiddlesModel.turns(II)I -/
def cd_M_turns : List (Nat × List Instr × Nat) := [(0, [.aload 0, .iload 1, .invokevirtual 141, .ifCond .eq 25], 8),
  (8, [.aload 0, .iload 2, .invokevirtual 135, .ifCond .eq 25], 16),
  (16, [.aload 0, .iload 1, .iload 2, .invokevirtual 147, .goto 27], 0),
  (25, [.iconst (-101)], 27),
  (27, [.ireturn], 0)]
abbrev q_M_turns : Nat := 146
/-- MouthRiddlesModel.turnsOf(II)I -/
def cd_M_turnsOf : List (Nat × List Instr × Nat) := [(0, [.iconst 0, .istore 3, .iconst 0, .istore 4], 5),
  (5, [.iload 4, .aload 0, .getfield 777, .iload 1, .iaload, .if_icmp .ge 52], 16),
  (16, [.iload 3, .aload 0, .aload 0, .getfield 778, .iconst 6, .iload 1, .imul, .iload 4, .iadd, .iaload, .iload 2, .iconst 7, .invokevirtual 136, .ifCond .le 43], 39),
  (39, [.iconst 1, .goto 44], 0),
  (43, [.iconst 0], 44),
  (44, [.iadd, .istore 3, .iinc 4 1, .goto 5], 0),
  (52, [.aload 0, .iload 1, .invokevirtual 144, .iload 2, .ishr, .iconst 1, .iand, .iconst 1, .if_icmp .ne 69], 65),
  (65, [.iload 3, .goto 70], 0),
  (69, [.iconst (-1)], 70),
  (70, [.ireturn], 0)]
abbrev q_M_turnsOf : Nat := 147
/-- MouthRiddlesModel.judge(III)I -/
def cd_M_judge : List (Nat × List Instr × Nat) := [(0, [.aload 0, .iload 1, .invokevirtual 141, .ifCond .eq 24], 8),
  (8, [.aload 0, .iload 2, .invokevirtual 135, .ifCond .eq 24], 16),
  (16, [.aload 0, .iload 3, .invokevirtual 135, .ifCond .ne 27], 24),
  (24, [.iconst (-101), .ireturn], 0),
  (27, [.aload 0, .iload 1, .iload 2, .invokevirtual 147, .istore 4, .aload 0, .iload 1, .iload 3, .invokevirtual 147, .istore 5, .iload 4, .iconst (-1), .if_icmp .eq 55], 49),
  (49, [.iload 5, .iconst (-1), .if_icmp .ne 77], 55),
  (55, [.iload 4, .iconst (-1), .if_icmp .eq 65], 61),
  (61, [.iload 2, .goto 76], 0),
  (65, [.iload 5, .iconst (-1), .if_icmp .eq 75], 71),
  (71, [.iload 3, .goto 76], 0),
  (75, [.iconst (-1)], 76),
  (76, [.ireturn], 0),
  (77, [.iload 4, .iload 5, .if_icmp .lt 96], 84),
  (84, [.iload 4, .iload 5, .if_icmp .ne 100], 91),
  (91, [.iload 2, .iload 3, .if_icmp .ge 100], 96),
  (96, [.iload 2, .goto 101], 0),
  (100, [.iload 3], 101),
  (101, [.ireturn], 0)]
abbrev q_M_judge : Nat := 148
/-- MouthRiddlesModel.astray(II)I -/
def cd_M_astray : List (Nat × List Instr × Nat) := [(0, [.aload 0, .iload 1, .invokevirtual 141, .ifCond .ne 11], 8),
  (8, [.iconst (-101), .ireturn], 0),
  (11, [.iload 2, .i2l, .ldc2_w 0, .ldc2_w 1, .invokestatic 127, .ifCond .ne 24], 21),
  (21, [.iconst (-102), .ireturn], 0),
  (24, [.iconst (-1), .istore 3, .iconst (-1), .istore 4, .iconst 0, .istore 5], 32),
  (32, [.iload 5, .aload 0, .getfield 777, .iload 1, .iaload, .if_icmp .ge 93], 43),
  (43, [.aload 0, .iload 1, .iload 5, .iconst 7, .invokevirtual 145, .invokestatic 137, .istore 6, .iload 6, .iload 4, .if_icmp .le 69], 64),
  (64, [.iload 5, .goto 70], 0),
  (69, [.iload 3], 70),
  (70, [.istore 3, .iload 6, .iload 4, .if_icmp .le 83], 78),
  (78, [.iload 6, .goto 85], 0),
  (83, [.iload 4], 85),
  (85, [.istore 4, .iinc 5 1, .goto 32], 0),
  (93, [.iload 2, .ifCond .ne 101], 97),
  (97, [.iload 3, .goto 103], 0),
  (101, [.iload 4], 103),
  (103, [.ireturn], 0)]
abbrev q_M_astray : Nat := 149
/-- MouthRiddlesModel.made(II)I -/
def cd_M_made : List (Nat × List Instr × Nat) := [(0, [.aload 0, .iload 1, .invokevirtual 135, .ifCond .ne 11], 8),
  (8, [.iconst (-101), .ireturn], 0),
  (11, [.iload 2, .i2l, .ldc2_w 1, .ldc2_w 6, .invokestatic 127, .ifCond .ne 26], 23),
  (23, [.iconst (-102), .ireturn], 0),
  (26, [.aload 0, .getfield 779, .iconst 20, .if_icmp .ne 38], 35),
  (35, [.iconst (-103), .ireturn], 0),
  (38, [.aload 0, .dup, .getfield 779, .iconst 1, .iadd, .putfield 779, .iconst 0, .istore 3], 50),
  (50, [.iload 3, .aload 0, .getfield 772, .if_icmp .ge 141], 58),
  (58, [.aload 0, .getfield 780, .iload 3, .iconst 0, .iastore, .iconst 0, .istore 4], 68),
  (68, [.iload 4, .aload 0, .getfield 768, .if_icmp .ge 113], 77),
  (77, [.aload 0, .getfield 780, .iload 3, .dup2, .iaload, .aload 0, .iload 3, .iload 4, .iconst 7, .invokevirtual 136, .iconst (-1), .if_icmp .eq 104], 97),
  (97, [.iconst 1, .iload 4, .ishl, .goto 105], 0),
  (104, [.iconst 0], 105),
  (105, [.ior, .iastore, .iinc 4 1, .goto 68], 0),
  (113, [.aload 0, .getfield 781, .iload 3, .aload 0, .iload 3, .iload 1, .iconst 7, .invokevirtual 136, .ifCond .le 133], 129),
  (129, [.iconst 1, .goto 134], 0),
  (133, [.iconst 0], 134),
  (134, [.iastore, .iinc 3 1, .goto 50], 0),
  (141, [.iconst 1, .istore 3], 143),
  (143, [.iload 3, .iload 2, .if_icmp .gt 179], 148),
  (148, [.iload 3, .aload 0, .getfield 772, .if_icmp .gt 179], 156),
  (156, [.aload 0, .iload 1, .iload 3, .invokevirtual 151, .istore 4, .iload 4, .iconst (-1), .if_icmp .eq 173], 170),
  (170, [.iload 4, .ireturn], 0),
  (173, [.iinc 3 1, .goto 143], 0),
  (179, [.iconst (-1), .ireturn], 0)]
abbrev q_M_made : Nat := 150
/-- MouthRiddlesModel.bestOf(II)I -/
def cd_M_bestOf : List (Nat × List Instr × Nat) := [(0, [.iconst (-1), .istore 3, .iconst (-1), .istore 4, .iconst 1, .iload 2, .ishl, .iconst 1, .isub, .istore 5], 12),
  (12, [.iload 5, .iconst 1, .aload 0, .getfield 772, .ishl, .if_icmp .ge 144], 23),
  (23, [.iconst 1, .aload 0, .getfield 768, .ishl, .iconst 1, .isub, .istore 6, .iconst 0, .istore 7, .iconst 0, .istore 8], 39),
  (39, [.iload 8, .aload 0, .getfield 772, .if_icmp .ge 89], 48),
  (48, [.iload 5, .iload 8, .ishr, .iconst 1, .iand, .iconst 1, .if_icmp .ne 83], 59),
  (59, [.iload 6, .aload 0, .getfield 780, .iload 8, .iaload, .iand, .istore 6, .iload 7, .aload 0, .getfield 781, .iload 8, .iaload, .iadd, .istore 7], 83),
  (83, [.iinc 8 1, .goto 39], 0),
  (89, [.iload 6, .iconst 1, .iload 1, .ishl, .if_icmp .ne 111], 97),
  (97, [.iload 7, .iload 4, .if_icmp .le 111], 104),
  (104, [.iload 5, .istore 3, .iload 7, .istore 4], 111),
  (111, [.iload 5, .iload 5, .ineg, .iand, .istore 8, .iload 5, .iload 8, .iadd, .istore 9, .iload 9, .iload 5, .ixor, .iconst 2, .iushr, .iload 8, .idiv, .iload 9, .ior, .istore 5, .goto 12], 0),
  (144, [.iload 3, .ireturn], 0)]
abbrev q_M_bestOf : Nat := 151
/-- MouthRiddlesModel.head(II)I -/
def cd_M_head : List (Nat × List Instr × Nat) := [(0, [.iload 1, .i2l, .ldc2_w 0, .ldc2_w 99, .invokestatic 127, .ifCond .eq 24], 12),
  (12, [.iload 2, .i2l, .ldc2_w 0, .ldc2_w 99, .invokestatic 127, .ifCond .ne 27], 24),
  (24, [.iconst (-102), .ireturn], 0),
  (27, [.aload 0, .getfield 782, .iconst 6, .if_icmp .ne 39], 36),
  (36, [.iconst (-104), .ireturn], 0),
  (39, [.aload 0, .getfield 783, .aload 0, .getfield 782, .iload 1, .iastore, .aload 0, .getfield 784, .aload 0, .getfield 782, .iload 2, .iastore, .aload 0, .dup, .getfield 782, .iconst 1, .iadd, .putfield 782, .aload 0, .getfield 782, .iconst 1, .isub, .ireturn], 0)]
abbrev q_M_head : Nat := 152
/-- MouthRiddlesModel.hears(III)I -/
def cd_M_hears : List (Nat × List Instr × Nat) := [(0, [.aload 0, .iload 1, .invokevirtual 154, .ifCond .eq 16], 8),
  (8, [.aload 0, .iload 2, .invokevirtual 141, .ifCond .ne 19], 16),
  (16, [.iconst (-101), .ireturn], 0),
  (19, [.iload 3, .i2l, .ldc2_w 0, .ldc2_w 1, .invokestatic 127, .ifCond .ne 32], 29),
  (29, [.iconst (-102), .ireturn], 0),
  (32, [.aload 0, .iload 1, .iload 2, .invokevirtual 155, .istore 4, .iload 3, .ifCond .ne 49], 44),
  (44, [.iload 4, .goto 53], 0),
  (49, [.aload 0, .getfield 785], 53),
  (53, [.ireturn], 0)]
abbrev q_M_hears : Nat := 153
/-- MouthRiddlesModel.isHead(I)Z -/
def cd_M_isHead : List (Nat × List Instr × Nat) := [(0, [.iload 1, .i2l, .ldc2_w 0, .aload 0, .getfield 782, .iconst 1, .isub, .i2l, .invokestatic 127, .freturn], 0)]
abbrev q_M_isHead : Nat := 154
/-- MouthRiddlesModel.hearsOf(II)I -/
def cd_M_hearsOf : List (Nat × List Instr × Nat) := [(0, [.aload 0, .iconst (-1), .putfield 785, .iconst 0, .istore 3], 7),
  (7, [.iload 3, .iconst 4, .if_icmp .ge 143], 12),
  (12, [.iload 3, .ifCond .ne 20], 16),
  (16, [.iconst 0, .goto 37], 0),
  (20, [.aload 0, .getfield 783, .iload 1, .iaload, .iload 3, .iconst 1, .isub, .aload 0, .getfield 784, .iload 1, .iaload, .imul, .iadd], 37),
  (37, [.istore 4, .iconst 0, .istore 5, .iconst 0, .istore 6], 45),
  (45, [.iload 6, .iconst 3, .if_icmp .ge 91], 51),
  (51, [.iload 5, .aload 0, .getfield 783, .iload 1, .iaload, .iload 6, .aload 0, .getfield 784, .iload 1, .iaload, .imul, .iadd, .iload 4, .if_icmp .gt 81], 74),
  (74, [.iconst 1, .iload 6, .ishl, .goto 82], 0),
  (81, [.iconst 0], 82),
  (82, [.ior, .istore 5, .iinc 6 1, .goto 45], 0),
  (91, [.aload 0, .iload 2, .iconst (-1), .iload 5, .invokevirtual 145, .istore 6, .iload 6, .invokestatic 137, .iconst 1, .if_icmp .ne 137], 110),
  (110, [.aload 0, .iload 4, .putfield 785, .iconst 0, .istore 7], 119),
  (119, [.iload 6, .iload 7, .ishr, .iconst 1, .if_icmp .eq 134], 128),
  (128, [.iinc 7 1, .goto 119], 0),
  (134, [.iload 7, .ireturn], 0),
  (137, [.iinc 3 1, .goto 7], 0),
  (143, [.iconst (-1), .ireturn], 0)]
abbrev q_M_hearsOf : Nat := 155
/-- MouthRiddlesModel.parts(I)I -/
def cd_M_parts : List (Nat × List Instr × Nat) := [(0, [.iload 1, .i2l, .ldc2_w 0, .ldc2_w 1, .invokestatic 127, .ifCond .ne 13], 10),
  (10, [.iconst (-102), .ireturn], 0),
  (13, [.iconst (-1), .istore 2, .iconst (-1), .istore 3, .iconst 0, .istore 4], 20),
  (20, [.iload 4, .aload 0, .getfield 776, .if_icmp .ge 127], 29),
  (29, [.iconst 0, .istore 5, .iconst 0, .istore 6], 35),
  (35, [.iload 6, .aload 0, .getfield 782, .if_icmp .ge 95], 44),
  (44, [.iconst 0, .istore 7], 47),
  (47, [.iload 7, .iload 6, .if_icmp .ge 89], 54),
  (54, [.iload 5, .aload 0, .iload 6, .iload 4, .invokevirtual 155, .aload 0, .iload 7, .iload 4, .invokevirtual 155, .if_icmp .eq 79], 75),
  (75, [.iconst 1, .goto 80], 0),
  (79, [.iconst 0], 80),
  (80, [.iadd, .istore 5, .iinc 7 1, .goto 47], 0),
  (89, [.iinc 6 1, .goto 35], 0),
  (95, [.iload 5, .iload 3, .if_icmp .le 106], 101),
  (101, [.iload 4, .goto 107], 0),
  (106, [.iload 2], 107),
  (107, [.istore 2, .iload 5, .iload 3, .if_icmp .le 119], 114),
  (114, [.iload 5, .goto 120], 0),
  (119, [.iload 3], 120),
  (120, [.istore 3, .iinc 4 1, .goto 20], 0),
  (127, [.iload 1, .ifCond .ne 135], 131),
  (131, [.iload 2, .goto 136], 0),
  (135, [.iload 3], 136),
  (136, [.ireturn], 0)]
abbrev q_M_parts : Nat := 156
/-- MouthRiddlesModel.blind(II)I -/
def cd_M_blind : List (Nat × List Instr × Nat) := [(0, [.aload 0, .iload 1, .invokevirtual 141, .ifCond .eq 16], 8),
  (8, [.aload 0, .iload 2, .invokevirtual 135, .ifCond .ne 19], 16),
  (16, [.iconst (-101), .ireturn], 0),
  (19, [.iconst 0, .istore 3, .iconst 0, .istore 4], 24),
  (24, [.iload 4, .aload 0, .getfield 782, .if_icmp .ge 58], 33),
  (33, [.iload 3, .aload 0, .iload 4, .iload 1, .invokevirtual 155, .iload 2, .if_icmp .ne 49], 45),
  (45, [.iconst 0, .goto 50], 0),
  (49, [.iconst 1], 50),
  (50, [.iadd, .istore 3, .iinc 4 1, .goto 24], 0),
  (58, [.iload 3, .ireturn], 0)]
abbrev q_M_blind : Nat := 157
/-- MouthRiddlesModel.tongue()I -/
def cd_M_tongue : List (Nat × List Instr × Nat) := [(0, [.aload 0, .getfield 786, .iconst 4, .if_icmp .ne 11], 8),
  (8, [.iconst (-104), .ireturn], 0),
  (11, [.aload 0, .dup, .getfield 786, .iconst 1, .iadd, .putfield 786, .aload 0, .getfield 786, .iconst 1, .isub, .ireturn], 0)]
abbrev q_M_tongue : Nat := 158
/-- MouthRiddlesModel.lack(IIIZ)I -/
def cd_M_lack : List (Nat × List Instr × Nat) := [(0, [.aload 0, .iload 1, .invokevirtual 160, .ifCond .eq 15], 8),
  (8, [.iload 2, .invokestatic 129, .ifCond .ne 18], 15),
  (15, [.iconst (-101), .ireturn], 0),
  (18, [.iload 3, .i2l, .ldc2_w 0, .ldc2_w 2, .invokestatic 127, .ifCond .ne 33], 30),
  (30, [.iconst (-102), .ireturn], 0),
  (33, [.iconst 16, .iload 1, .imul, .iload 2, .iadd, .istore 5, .aload 0, .getfield 787, .iload 5, .iaload, .iload 3, .ishr, .iconst 1, .iand, .istore 6, .aload 0, .getfield 787, .iload 5, .iload 4, .ifCond .eq 79], 65),
  (65, [.aload 0, .getfield 787, .iload 5, .iaload, .iconst 1, .iload 3, .ishl, .ior, .goto 92], 0),
  (79, [.aload 0, .getfield 787, .iload 5, .iaload, .iconst 1, .iload 3, .ishl, .iconst (-1), .ixor, .iand], 92),
  (92, [.iastore, .iload 6, .ireturn], 0)]
abbrev q_M_lack : Nat := 159
/-- MouthRiddlesModel.isTongue(I)Z -/
def cd_M_isTongue : List (Nat × List Instr × Nat) := [(0, [.iload 1, .i2l, .ldc2_w 0, .aload 0, .getfield 786, .iconst 1, .isub, .i2l, .invokestatic 127, .freturn], 0)]
abbrev q_M_isTongue : Nat := 160
/-- MouthRiddlesModel.goes(IIII)I -/
def cd_M_goes : List (Nat × List Instr × Nat) := [(0, [.aload 0, .iload 1, .invokevirtual 141, .ifCond .eq 24], 8),
  (8, [.aload 0, .iload 2, .invokevirtual 135, .ifCond .eq 24], 16),
  (16, [.aload 0, .iload 3, .invokevirtual 160, .ifCond .ne 27], 24),
  (24, [.iconst (-101), .ireturn], 0),
  (27, [.iload 4, .i2l, .ldc2_w 0, .ldc2_w 1, .invokestatic 127, .ifCond .ne 41], 38),
  (38, [.iconst (-102), .ireturn], 0),
  (41, [.iload 4, .iconst 1, .if_icmp .ne 57], 47),
  (47, [.aload 0, .iload 1, .iload 2, .iload 3, .invokevirtual 162, .goto 72], 0),
  (57, [.aload 0, .iload 1, .iload 2, .iload 3, .invokevirtual 164, .ifCond .eq 71], 67),
  (67, [.iconst 1, .goto 72], 0),
  (71, [.iconst 0], 72),
  (72, [.ireturn], 0)]
abbrev q_M_goes : Nat := 161
/-- MouthRiddlesModel.lacksOf(III)I -/
def cd_M_lacksOf : List (Nat × List Instr × Nat) := [(0, [.iconst 0, .istore 4, .iconst 0, .istore 5], 6),
  (6, [.iload 5, .aload 0, .getfield 777, .iload 1, .iaload, .if_icmp .ge 55], 17),
  (17, [.iload 4, .aload 0, .iload 3, .aload 0, .getfield 778, .iconst 6, .iload 1, .imul, .iload 5, .iadd, .iaload, .iload 2, .invokevirtual 163, .iconst (-1), .if_icmp .ne 45], 41),
  (41, [.iconst 1, .goto 46], 0),
  (45, [.iconst 0], 46),
  (46, [.iadd, .istore 4, .iinc 5 1, .goto 6], 0),
  (55, [.iload 4, .ireturn], 0)]
abbrev q_M_lacksOf : Nat := 162
/-- MouthRiddlesModel.byIn(III)I -/
def cd_M_byIn : List (Nat × List Instr × Nat) := [(0, [.aload 0, .iload 2, .iload 3, .iconst 7, .aload 0, .getfield 787, .iconst 16, .iload 1, .imul, .aload 0, .getfield 774, .iload 2, .iaload, .iadd, .iaload, .iconst (-1), .ixor, .iand, .invokevirtual 136, .ireturn], 0)]
abbrev q_M_byIn : Nat := 163
/-- MouthRiddlesModel.goesOf(III)Z -/
def cd_M_goesOf : List (Nat × List Instr × Nat) := [(0, [.iconst 1, .istore 4, .iconst 0, .istore 5], 6),
  (6, [.iload 5, .aload 0, .getfield 768, .if_icmp .ge 63], 15),
  (15, [.iload 4, .ifCond .eq 54], 20),
  (20, [.iload 5, .iload 2, .if_icmp .ne 30], 26),
  (26, [.iconst 1, .goto 31], 0),
  (30, [.iconst 0], 31),
  (31, [.aload 0, .iload 1, .iload 5, .iload 3, .invokevirtual 162, .ifCond .ne 46], 42),
  (42, [.iconst 1, .goto 47], 0),
  (46, [.iconst 0], 47),
  (47, [.if_icmp .ne 54], 50),
  (50, [.iconst 1, .goto 55], 0),
  (54, [.iconst 0], 55),
  (55, [.istore 4, .iinc 5 1, .goto 6], 0),
  (63, [.iload 4, .freturn], 0)]
abbrev q_M_goesOf : Nat := 164
/-- MouthRiddlesModel.nearest(II)I -/
def cd_M_nearest : List (Nat × List Instr × Nat) := [(0, [.aload 0, .iload 1, .invokevirtual 141, .ifCond .eq 16], 8),
  (8, [.aload 0, .iload 2, .invokevirtual 135, .ifCond .ne 19], 16),
  (16, [.iconst (-101), .ireturn], 0),
  (19, [.iconst (-1), .istore 3, .iconst 1000, .istore 4, .iconst 0, .istore 5], 29),
  (29, [.iload 5, .aload 0, .getfield 786, .if_icmp .ge 84], 38),
  (38, [.aload 0, .iload 1, .iload 2, .iload 5, .invokevirtual 162, .istore 6, .iload 6, .iload 4, .if_icmp .ge 60], 55),
  (55, [.iload 5, .goto 61], 0),
  (60, [.iload 3], 61),
  (61, [.istore 3, .iload 6, .iload 4, .if_icmp .ge 74], 69),
  (69, [.iload 6, .goto 76], 0),
  (74, [.iload 4], 76),
  (76, [.istore 4, .iinc 5 1, .goto 29], 0),
  (84, [.iload 3, .ireturn], 0)]
abbrev q_M_nearest : Nat := 165
/-- MouthRiddlesModel.letters(J)I -/
def cd_M_letters : List (Nat × List Instr × Nat) := [(0, [.iconst 0, .istore 3, .iconst 1, .istore 4, .lload 1, .lstore 5, .iconst 0, .istore 7], 11),
  (11, [.iload 7, .iconst 8, .if_icmp .ge 83], 18),
  (18, [.lload 5, .ldc2_w 255, .land, .l2i, .istore 8, .lload 5, .iconst 8, .lushr, .lstore 5, .iload 4, .ifCond .eq 61], 39),
  (39, [.iload 8, .iconst 126, .if_icmp .gt 61], 46),
  (46, [.iload 8, .ifCond .eq 57], 51),
  (51, [.iload 3, .iload 7, .if_icmp .ne 61], 57),
  (57, [.iconst 1, .goto 62], 0),
  (61, [.iconst 0], 62),
  (62, [.istore 4, .iload 3, .iload 8, .ifCond .le 74], 70),
  (70, [.iconst 1, .goto 75], 0),
  (74, [.iconst 0], 75),
  (75, [.iadd, .istore 3, .iinc 7 1, .goto 11], 0),
  (83, [.iload 4, .ifCond .ne 91], 88),
  (88, [.iconst (-102), .ireturn], 0),
  (91, [.aload 0, .getfield 789, .iload 3, .iadd, .iconst 40, .if_icmp .le 105], 102),
  (102, [.iconst (-104), .ireturn], 0),
  (105, [.iconst 0, .istore 7], 108),
  (108, [.iload 7, .iload 3, .if_icmp .ge 151], 114),
  (114, [.aload 0, .getfield 788, .aload 0, .getfield 789, .lload 1, .iconst 8, .iload 7, .imul, .lushr, .ldc2_w 255, .land, .l2i, .iastore, .aload 0, .dup, .getfield 789, .iconst 1, .iadd, .putfield 789, .iinc 7 1, .goto 108], 0),
  (151, [.aload 0, .getfield 789, .ireturn], 0)]
abbrev q_M_letters : Nat := 166
/-- MouthRiddlesModel.blank()I -/
def cd_M_blank : List (Nat × List Instr × Nat) := [(0, [.aload 0, .getfield 789, .istore 1, .aload 0, .iconst 0, .putfield 789, .iload 1, .ireturn], 0)]
abbrev q_M_blank : Nat := 167
/-- MouthRiddlesModel.fault()I -/
def cd_M_fault : List (Nat × List Instr × Nat) := [(0, [.aload 0, .invokevirtual 169, .ireturn], 0)]
abbrev q_M_fault : Nat := 168
/-- MouthRiddlesModel.faultOf()I -/
def cd_M_faultOf : List (Nat × List Instr × Nat) := [(0, [.aload 0, .iconst 1, .putfield 4890, .aload 0, .iconst (-1), .putfield 795, .aload 0, .iconst 0, .putfield 796, .aload 0, .iconst 0, .putfield 797, .iconst 0, .istore 1], 22),
  (22, [.iload 1, .aload 0, .getfield 789, .if_icmp .ge 49], 30),
  (30, [.aload 0, .aload 0, .getfield 788, .iload 1, .iaload, .invokevirtual 170, .ifCond .eq 49], 43),
  (43, [.iinc 1 1, .goto 22], 0),
  (49, [.iload 1, .ireturn], 0)]
abbrev q_M_faultOf : Nat := 169
/-- MouthRiddlesModel.go(I)Z -/
def cd_M_go : List (Nat × List Instr × Nat) := [(0, [.aload 0, .getfield 794, .ifCond .eq 30], 7),
  (7, [.iload 1, .iconst 40, .if_icmp .ne 30], 13),
  (13, [.aload 0, .iconst (-1), .invokevirtual 171, .aload 0, .aload 0, .getfield 797, .iconst 1, .isub, .putfield 795, .iconst 1, .freturn], 0),
  (30, [.aload 0, .getfield 794, .ifCond .eq 110], 37),
  (37, [.iload 1, .i2l, .ldc2_w 97, .ldc2_w 104, .invokestatic 127, .ifCond .eq 69], 51),
  (51, [.aload 0, .getfield 796, .iload 1, .iconst 97, .isub, .ishr, .iconst 1, .iand, .ifCond .ne 69], 65),
  (65, [.iconst 1, .goto 70], 0),
  (69, [.iconst 0], 70),
  (70, [.istore 2, .iload 2, .ifCond .eq 108], 75),
  (75, [.aload 0, .dup, .getfield 796, .iconst 1, .iload 1, .iconst 97, .isub, .ishl, .ior, .putfield 796, .aload 0, .iload 1, .iconst 97, .isub, .invokevirtual 171, .aload 0, .aload 0, .getfield 797, .iconst 1, .isub, .invokevirtual 172], 108),
  (108, [.iload 2, .freturn], 0),
  (110, [.aload 0, .getfield 795, .iconst (-1), .if_icmp .ne 120], 118),
  (118, [.iconst 0, .freturn], 0),
  (120, [.iload 1, .iconst 41, .if_icmp .ne 149], 126),
  (126, [.aload 0, .getfield 800, .aload 0, .getfield 795, .iaload, .iconst 1, .if_icmp .le 149], 139),
  (139, [.aload 0, .aload 0, .getfield 795, .invokevirtual 172, .iconst 1, .freturn], 0),
  (149, [.aload 0, .iconst 1, .putfield 4890, .iload 1, .iconst 44, .if_icmp .ne 177], 160),
  (160, [.aload 0, .getfield 800, .aload 0, .getfield 795, .iaload, .iconst 4, .if_icmp .ge 177], 173),
  (173, [.iconst 1, .goto 178], 0),
  (177, [.iconst 0], 178),
  (178, [.freturn], 0)]
abbrev q_M_go : Nat := 170
/-- MouthRiddlesModel.addNode(I)V -/
def cd_M_addNode : List (Nat × List Instr × Nat) := [(0, [.aload 0, .getfield 798, .aload 0, .getfield 797, .aload 0, .getfield 795, .iastore, .aload 0, .getfield 799, .aload 0, .getfield 797, .iload 1, .iastore, .aload 0, .getfield 800, .aload 0, .getfield 797, .iconst 0, .iastore, .aload 0, .dup, .getfield 797, .iconst 1, .iadd, .putfield 797, .return_], 0)]
abbrev q_M_addNode : Nat := 171
/-- MouthRiddlesModel.endNode(I)V -/
def cd_M_endNode : List (Nat × List Instr × Nat) := [(0, [.aload 0, .iconst 0, .putfield 4890, .aload 0, .aload 0, .getfield 798, .iload 1, .iaload, .putfield 795, .aload 0, .getfield 795, .iconst (-1), .if_icmp .eq 36], 23),
  (23, [.aload 0, .getfield 800, .aload 0, .getfield 795, .dup2, .iaload, .iconst 1, .iadd, .iastore], 36),
  (36, [.return_], 0)]
abbrev q_M_endNode : Nat := 172
/-- MouthRiddlesModel.tree()I -/
def cd_M_tree : List (Nat × List Instr × Nat) := [(0, [.aload 0, .invokevirtual 169, .aload 0, .getfield 789, .if_icmp .lt 26], 11),
  (11, [.aload 0, .getfield 794, .ifCond .ne 26], 18),
  (18, [.aload 0, .getfield 795, .iconst (-1), .if_icmp .eq 29], 26),
  (26, [.iconst (-103), .ireturn], 0),
  (29, [.aload 0, .aload 0, .getfield 797, .putfield 790, .iconst 0, .istore 1], 39),
  (39, [.iload 1, .aload 0, .getfield 790, .if_icmp .ge 77], 47),
  (47, [.aload 0, .getfield 791, .iload 1, .aload 0, .getfield 798, .iload 1, .iaload, .iastore, .aload 0, .getfield 792, .iload 1, .aload 0, .getfield 799, .iload 1, .iaload, .iastore, .iinc 1 1, .goto 39], 0),
  (77, [.aload 0, .iconst 0, .putfield 789, .aload 0, .getfield 790, .ireturn], 0)]
abbrev q_M_tree : Nat := 173
/-- MouthRiddlesModel.variant(II)I -/
def cd_M_variant : List (Nat × List Instr × Nat) := [(0, [.iload 1, .i2l, .ldc2_w 0, .ldc2_w 7, .invokestatic 127, .ifCond .ne 15], 12),
  (12, [.iconst (-101), .ireturn], 0),
  (15, [.iload 2, .i2l, .ldc2_w 18446744073709551615, .ldc2_w 7, .invokestatic 127, .ifCond .ne 32], 29),
  (29, [.iconst (-102), .ireturn], 0),
  (32, [.aload 0, .getfield 793, .iload 1, .iaload, .istore 3, .aload 0, .getfield 793, .iload 1, .iload 2, .iastore, .iload 3, .ireturn], 0)]
abbrev q_M_variant : Nat := 174
/-- MouthRiddlesModel.changes(I)I -/
def cd_M_changes : List (Nat × List Instr × Nat) := [(0, [.iload 1, .ifCond .eq 21], 4),
  (4, [.iload 1, .i2l, .ldc2_w 10, .ldc2_w 39, .invokestatic 127, .ifCond .ne 21], 18),
  (18, [.iconst (-102), .ireturn], 0),
  (21, [.aload 0, .getfield 790, .ifCond .ne 31], 28),
  (28, [.iconst (-103), .ireturn], 0),
  (31, [.iload 1, .ifCond .ne 40], 35),
  (35, [.aload 0, .invokevirtual 176, .ireturn], 0),
  (40, [.iload 1, .iconst 10, .isub, .aload 0, .getfield 790, .if_icmp .ge 62], 51),
  (51, [.aload 0, .iload 1, .iconst 10, .isub, .invokevirtual 178, .goto 63], 0),
  (62, [.iconst (-1)], 63),
  (63, [.ireturn], 0)]
abbrev q_M_changes : Nat := 175
/-- MouthRiddlesModel.leastChanges()I -/
def cd_M_leastChanges : List (Nat × List Instr × Nat) := [(0, [.aload 0, .getfield 790, .iconst 1, .isub, .istore 1], 7),
  (7, [.iload 1, .ifCond .lt 139], 11),
  (11, [.aload 0, .getfield 792, .iload 1, .iaload, .iconst (-1), .if_icmp .ne 25], 21),
  (21, [.iconst (-1), .goto 36], 0),
  (25, [.aload 0, .getfield 793, .aload 0, .getfield 792, .iload 1, .iaload, .iaload], 36),
  (36, [.istore 2, .iconst 0, .istore 3], 39),
  (39, [.iload 3, .iconst 8, .if_icmp .ge 133], 45),
  (45, [.iload 2, .iconst (-1), .if_icmp .eq 55], 50),
  (50, [.iload 2, .iload 3, .if_icmp .ne 59], 55),
  (55, [.iconst 0, .goto 62], 0),
  (59, [.iconst 1000], 62),
  (62, [.istore 4, .iload 1, .iconst 1, .iadd, .istore 5], 69),
  (69, [.iload 5, .aload 0, .getfield 790, .if_icmp .ge 114], 78),
  (78, [.iload 4, .aload 0, .getfield 791, .iload 5, .iaload, .iload 1, .if_icmp .ne 104], 91),
  (91, [.aload 0, .getfield 801, .iload 5, .iload 3, .invokestatic 177, .goto 105], 0),
  (104, [.iconst 0], 105),
  (105, [.iadd, .istore 4, .iinc 5 1, .goto 69], 0),
  (114, [.aload 0, .getfield 801, .iconst 8, .iload 1, .imul, .iload 3, .iadd, .iload 4, .iastore, .iinc 3 1, .goto 39], 0),
  (133, [.iinc 1 (-1), .goto 7], 0),
  (139, [.iconst 1000, .istore 1, .iconst 0, .istore 2], 145),
  (145, [.iload 2, .iconst 8, .if_icmp .ge 178], 151),
  (151, [.aload 0, .getfield 801, .iload 2, .iaload, .iload 1, .if_icmp .ge 170], 161),
  (161, [.aload 0, .getfield 801, .iload 2, .iaload, .goto 171], 0),
  (170, [.iload 1], 171),
  (171, [.istore 1, .iinc 2 1, .goto 145], 0),
  (178, [.iload 1, .ireturn], 0)]
abbrev q_M_leastChanges : Nat := 176
/-- MouthRiddlesModel.leastOf([III)I -/
def cd_M_leastOf : List (Nat × List Instr × Nat) := [(0, [.aload 0, .iconst 8, .iload 1, .imul, .iload 2, .iadd, .iaload, .istore 3, .iconst 0, .istore 4], 12),
  (12, [.iload 4, .iconst 8, .if_icmp .ge 56], 19),
  (19, [.aload 0, .iconst 8, .iload 1, .imul, .iload 4, .iadd, .iaload, .iconst 1, .iadd, .iload 3, .if_icmp .ge 48], 34),
  (34, [.aload 0, .iconst 8, .iload 1, .imul, .iload 4, .iadd, .iaload, .iconst 1, .iadd, .goto 49], 0),
  (48, [.iload 3], 49),
  (49, [.istore 3, .iinc 4 1, .goto 12], 0),
  (56, [.iload 3, .ireturn], 0)]
abbrev q_M_leastOf : Nat := 177
/-- MouthRiddlesModel.sureOf(I)I -/
def cd_M_sureOf : List (Nat × List Instr × Nat) := [(0, [.aload 0, .invokevirtual 176, .istore 2, .iconst 0, .istore 3], 7),
  (7, [.iload 3, .iconst 8, .if_icmp .ge 26], 13),
  (13, [.aload 0, .getfield 802, .iload 3, .iconst 0, .iastore, .iinc 3 1, .goto 7], 0),
  (26, [.iconst 1, .istore 3], 28),
  (28, [.iload 3, .aload 0, .getfield 790, .if_icmp .ge 196], 36),
  (36, [.iconst 0, .istore 4], 39),
  (39, [.iload 4, .iconst 8, .if_icmp .ge 105], 46),
  (46, [.aload 0, .getfield 803, .iload 4, .aload 0, .getfield 802, .iconst 8, .aload 0, .getfield 791, .iload 3, .iaload, .imul, .iload 4, .iadd, .iaload, .aload 0, .getfield 801, .iconst 8, .aload 0, .getfield 791, .iload 3, .iaload, .imul, .iload 4, .iadd, .iaload, .iadd, .aload 0, .getfield 801, .iload 3, .iload 4, .invokestatic 177, .isub, .iastore, .iinc 4 1, .goto 39], 0),
  (105, [.iconst 0, .istore 4], 108),
  (108, [.iload 4, .iconst 8, .if_icmp .ge 190], 115),
  (115, [.aload 0, .getfield 803, .iload 4, .iaload, .istore 5, .iconst 0, .istore 6], 127),
  (127, [.iload 6, .iconst 8, .if_icmp .ge 170], 134),
  (134, [.aload 0, .getfield 803, .iload 6, .iaload, .iconst 1, .iadd, .iload 5, .if_icmp .ge 160], 148),
  (148, [.aload 0, .getfield 803, .iload 6, .iaload, .iconst 1, .iadd, .goto 162], 0),
  (160, [.iload 5], 162),
  (162, [.istore 5, .iinc 6 1, .goto 127], 0),
  (170, [.aload 0, .getfield 802, .iconst 8, .iload 3, .imul, .iload 4, .iadd, .iload 5, .iastore, .iinc 4 1, .goto 108], 0),
  (190, [.iinc 3 1, .goto 28], 0),
  (196, [.iconst (-1), .istore 3, .iconst 0, .istore 4, .iconst 0, .istore 5], 204),
  (204, [.iload 5, .iconst 8, .if_icmp .ge 280], 211),
  (211, [.aload 0, .getfield 801, .iconst 8, .iload 1, .imul, .iload 5, .iadd, .iaload, .aload 0, .getfield 802, .iconst 8, .iload 1, .imul, .iload 5, .iadd, .iaload, .iadd, .iload 2, .if_icmp .ne 244], 240),
  (240, [.iconst 1, .goto 245], 0),
  (244, [.iconst 0], 245),
  (245, [.istore 6, .iload 6, .ifCond .eq 257], 252),
  (252, [.iload 5, .goto 258], 0),
  (257, [.iload 3], 258),
  (258, [.istore 3, .iload 4, .iload 6, .ifCond .eq 270], 266),
  (266, [.iconst 1, .goto 271], 0),
  (270, [.iconst 0], 271),
  (271, [.iadd, .istore 4, .iinc 5 1, .goto 204], 0),
  (280, [.iload 4, .iconst 1, .if_icmp .ne 290], 286),
  (286, [.iload 3, .goto 291], 0),
  (290, [.iconst (-1)], 291),
  (291, [.ireturn], 0)]
abbrev q_M_sureOf : Nat := 178
/-- MouthRiddlesModel.chance(I)I -/
def cd_M_chance : List (Nat × List Instr × Nat) := [(0, [.iload 1, .i2l, .ldc2_w 0, .ldc2_w 1, .invokestatic 127, .ifCond .ne 13], 10),
  (10, [.iconst (-102), .ireturn], 0),
  (13, [.aload 0, .getfield 790, .ifCond .eq 29], 20),
  (20, [.aload 0, .getfield 804, .iconst 12, .if_icmp .ne 32], 29),
  (29, [.iconst (-103), .ireturn], 0),
  (32, [.aload 0, .dup, .getfield 804, .iconst 1, .iadd, .putfield 804, .iconst 0, .istore 2, .iconst 1, .istore 3, .iconst 0, .istore 4], 49),
  (49, [.iload 4, .aload 0, .getfield 790, .if_icmp .ge 129], 58),
  (58, [.aload 0, .getfield 792, .iload 4, .iaload, .iconst (-1), .if_icmp .eq 123], 69),
  (69, [.aload 0, .getfield 793, .aload 0, .getfield 792, .iload 4, .iaload, .iaload, .iconst (-1), .if_icmp .eq 123], 85),
  (85, [.aload 0, .getfield 806, .iload 2, .aload 0, .getfield 792, .iload 4, .iaload, .iastore, .aload 0, .getfield 805, .iload 2, .aload 0, .getfield 793, .aload 0, .getfield 792, .iload 4, .iaload, .iaload, .iastore, .iinc 2 1, .iload 3, .iload 2, .imul, .istore 3], 123),
  (123, [.iinc 4 1, .goto 49], 0),
  (129, [.aload 0, .invokevirtual 176, .istore 4, .iconst 0, .istore 5, .iconst 0, .istore 6], 141),
  (141, [.iload 6, .iload 3, .if_icmp .ge 179], 147),
  (147, [.aload 0, .iload 2, .iload 6, .invokevirtual 180, .iload 5, .aload 0, .invokevirtual 176, .iload 4, .if_icmp .gt 169], 165),
  (165, [.iconst 1, .goto 170], 0),
  (169, [.iconst 0], 170),
  (170, [.iadd, .istore 5, .iinc 6 1, .goto 141], 0),
  (179, [.iconst 0, .istore 6], 182),
  (182, [.iload 6, .iload 2, .if_icmp .ge 213], 188),
  (188, [.aload 0, .getfield 793, .aload 0, .getfield 806, .iload 6, .iaload, .aload 0, .getfield 805, .iload 6, .iaload, .iastore, .iinc 6 1, .goto 182], 0),
  (213, [.iload 1, .ifCond .ne 222], 217),
  (217, [.iload 5, .goto 223], 0),
  (222, [.iload 3], 223),
  (223, [.iload 5, .iload 3, .invokestatic 181, .idiv, .ireturn], 0)]
abbrev q_M_chance : Nat := 179
/-- MouthRiddlesModel.deal(II)V -/
def cd_M_deal : List (Nat × List Instr × Nat) := [(0, [.iload 2, .istore 3, .iconst 1, .iload 1, .ishl, .iconst 1, .isub, .istore 4, .iconst 0, .istore 5], 12),
  (12, [.iload 5, .iload 1, .if_icmp .ge 103], 18),
  (18, [.iload 3, .iload 1, .iload 5, .isub, .irem, .istore 6, .iload 3, .iload 1, .iload 5, .isub, .idiv, .istore 3, .iconst 0, .istore 7], 36),
  (36, [.iload 4, .iload 7, .ishr, .iconst 1, .iand, .ifCond .eq 51], 46),
  (46, [.iload 6, .ifCond .le 69], 51),
  (51, [.iload 6, .iload 4, .iload 7, .ishr, .iconst 1, .iand, .isub, .istore 6, .iinc 7 1, .goto 36], 0),
  (69, [.iload 4, .iconst 1, .iload 7, .ishl, .isub, .istore 4, .aload 0, .getfield 793, .aload 0, .getfield 806, .iload 5, .iaload, .aload 0, .getfield 805, .iload 7, .iaload, .iastore, .iinc 5 1, .goto 12], 0),
  (103, [.return_], 0)]
abbrev q_M_deal : Nat := 180
/-- MouthRiddlesModel.common(II)I -/
def cd_M_common : List (Nat × List Instr × Nat) := [(0, [.iload 0, .istore 2, .iload 1, .istore 3], 4),
  (4, [.iload 2, .ifCond .eq 21], 8),
  (8, [.iload 3, .iload 2, .irem, .istore 4, .iload 2, .istore 3, .iload 4, .istore 2, .goto 4], 0),
  (21, [.iload 3, .ireturn], 0)]
abbrev q_M_common : Nat := 181
/-- MouthRiddlesModel.stake(III)I -/
def cd_M_stake : List (Nat × List Instr × Nat) := [(0, [.aload 0, .iload 1, .invokevirtual 154, .ifCond .eq 16], 8),
  (8, [.aload 0, .iload 2, .invokevirtual 141, .ifCond .ne 19], 16),
  (16, [.iconst (-101), .ireturn], 0),
  (19, [.iload 3, .i2l, .ldc2_w 0, .ldc2_w 999, .invokestatic 127, .ifCond .ne 34], 31),
  (31, [.iconst (-102), .ireturn], 0),
  (34, [.aload 0, .getfield 807, .iconst 10, .iload 1, .imul, .iload 2, .iadd, .iaload, .istore 4, .aload 0, .getfield 807, .iconst 10, .iload 1, .imul, .iload 2, .iadd, .iload 3, .iastore, .iload 4, .ireturn], 0)]
abbrev q_M_stake : Nat := 182
/-- MouthRiddlesModel.whom(I)I -/
def cd_M_whom : List (Nat × List Instr × Nat) := [(0, [.iload 1, .iconst (-1), .if_icmp .eq 16], 5),
  (5, [.aload 0, .iload 1, .invokevirtual 154, .ifCond .ne 16], 13),
  (13, [.iconst (-101), .ireturn], 0),
  (16, [.aload 0, .invokevirtual 184, .iload 1, .iconst (-1), .if_icmp .ne 34], 25),
  (25, [.aload 0, .getfield 808, .iconst 0, .iaload, .goto 39], 0),
  (34, [.aload 0, .iload 1, .invokevirtual 185], 39),
  (39, [.ireturn], 0)]
abbrev q_M_whom : Nat := 183
/-- MouthRiddlesModel.layBrings()V -/
def cd_M_layBrings : List (Nat × List Instr × Nat) := [(0, [.iconst 0, .istore 1], 2),
  (2, [.iload 1, .iconst 1024, .if_icmp .ge 31], 9),
  (9, [.aload 0, .getfield 808, .iconst 1024, .aload 0, .getfield 782, .imul, .iload 1, .iadd, .iconst 0, .iastore, .iinc 1 1, .goto 2], 0),
  (31, [.aload 0, .getfield 782, .iconst 1, .isub, .istore 1], 38),
  (38, [.iload 1, .ifCond .lt 170], 42),
  (42, [.iconst 0, .istore 2], 44),
  (44, [.iload 2, .iconst 1024, .if_icmp .ge 164], 51),
  (51, [.aload 0, .getfield 808, .iconst 1024, .iload 1, .iconst 1, .iadd, .imul, .iload 2, .iadd, .iaload, .istore 3, .iconst 0, .istore 4], 69),
  (69, [.iload 4, .aload 0, .getfield 776, .if_icmp .ge 145], 78),
  (78, [.iload 2, .iload 4, .ishr, .iconst 1, .iand, .iconst 1, .if_icmp .ne 92], 88),
  (88, [.iconst 0, .goto 124], 0),
  (92, [.aload 0, .getfield 807, .iconst 10, .iload 1, .imul, .iload 4, .iadd, .iaload, .aload 0, .getfield 808, .iconst 1024, .iload 1, .iconst 1, .iadd, .imul, .iload 2, .iconst 1, .iload 4, .ishl, .ior, .iadd, .iaload, .iadd], 124),
  (124, [.istore 5, .iload 5, .iload 3, .if_icmp .le 137], 132),
  (132, [.iload 5, .goto 138], 0),
  (137, [.iload 3], 138),
  (138, [.istore 3, .iinc 4 1, .goto 69], 0),
  (145, [.aload 0, .getfield 808, .iconst 1024, .iload 1, .imul, .iload 2, .iadd, .iload 3, .iastore, .iinc 2 1, .goto 44], 0),
  (164, [.iinc 1 (-1), .goto 38], 0),
  (170, [.return_], 0)]
abbrev q_M_layBrings : Nat := 184
/-- MouthRiddlesModel.chosen(I)I -/
def cd_M_chosen : List (Nat × List Instr × Nat) := [(0, [.iconst 0, .istore 2, .iconst (-1), .istore 3, .iconst 0, .istore 4], 7),
  (7, [.iload 4, .iload 1, .if_icmp .gt 133], 13),
  (13, [.iconst (-1), .istore 3, .aload 0, .getfield 776, .iconst 1, .isub, .istore 5], 23),
  (23, [.iload 5, .ifCond .lt 112], 28),
  (28, [.iload 2, .iload 5, .ishr, .iconst 1, .iand, .ifCond .ne 91], 37),
  (37, [.aload 0, .getfield 807, .iconst 10, .iload 4, .imul, .iload 5, .iadd, .iaload, .aload 0, .getfield 808, .iconst 1024, .iload 4, .iconst 1, .iadd, .imul, .iload 2, .iconst 1, .iload 5, .ishl, .ior, .iadd, .iaload, .iadd, .aload 0, .getfield 808, .iconst 1024, .iload 4, .imul, .iload 2, .iadd, .iaload, .if_icmp .ne 91], 87),
  (87, [.iconst 1, .goto 92], 0),
  (91, [.iconst 0], 92),
  (92, [.istore 6, .iload 6, .ifCond .eq 104], 99),
  (99, [.iload 5, .goto 105], 0),
  (104, [.iload 3], 105),
  (105, [.istore 3, .iinc 5 (-1), .goto 23], 0),
  (112, [.iload 2, .iload 3, .iconst (-1), .if_icmp .ne 122], 118),
  (118, [.iconst 0, .goto 125], 0),
  (122, [.iconst 1, .iload 3, .ishl], 125),
  (125, [.ior, .istore 2, .iinc 4 1, .goto 7], 0),
  (133, [.iload 3, .ireturn], 0)]
abbrev q_M_chosen : Nat := 185
/-- MouthRiddlesModel.count(I)I -/
def cd_M_count : List (Nat × List Instr × Nat) := [(0, [.aload 0, .iload 1, .invokevirtual 187, .ireturn], 0)]
abbrev q_M_count : Nat := 186
/-- MouthRiddlesModel.countOf(I)I -/
def cd_M_countOf : List (Nat × List Instr × Nat) := [(0, [.iconst 0, .istore 2, .iload 1, .tableswitch 126 0 9 #[56, 61, 86, 91, 96, 101, 106, 111, 116, 121]], 0),
  (56, [.aload 0, .getfield 768, .ireturn], 0),
  (61, [.iconst 0, .istore 3], 63),
  (63, [.iload 3, .iconst 16, .if_icmp .ge 84], 69),
  (69, [.iload 2, .aload 0, .getfield 770, .iload 3, .iaload, .iadd, .istore 2, .iinc 3 1, .goto 63], 0),
  (84, [.iload 2, .ireturn], 0),
  (86, [.aload 0, .getfield 772, .ireturn], 0),
  (91, [.aload 0, .getfield 776, .ireturn], 0),
  (96, [.aload 0, .getfield 782, .ireturn], 0),
  (101, [.aload 0, .getfield 786, .ireturn], 0),
  (106, [.aload 0, .getfield 790, .ireturn], 0),
  (111, [.aload 0, .getfield 789, .ireturn], 0),
  (116, [.aload 0, .getfield 779, .ireturn], 0),
  (121, [.aload 0, .getfield 804, .ireturn], 0),
  (126, [.iconst (-102), .ireturn], 0)]
abbrev q_M_countOf : Nat := 187
/-- MouthRiddlesModel.digest()J -/
def cd_M_digest : List (Nat × List Instr × Nat) := [(0, [.aload 0, .ldc2_w 349, .putfield 13097, .aload 0, .invokevirtual 189, .iconst 0, .istore 1], 13),
  (13, [.iload 1, .aload 0, .getfield 786, .if_icmp .ge 81], 21),
  (21, [.aload 0, .getfield 768, .ifCond .le 81], 28),
  (28, [.iconst 0, .istore 2], 30),
  (30, [.iload 2, .aload 0, .getfield 776, .if_icmp .ge 75], 38),
  (38, [.aload 0, .aload 0, .iload 2, .iconst 0, .iload 1, .invokevirtual 164, .ifCond .eq 53], 49),
  (49, [.ldc2_w 1, .goto 54], 0),
  (53, [.ldc2_w 0], 54),
  (54, [.invokevirtual 190, .aload 0, .aload 0, .iload 2, .iconst 0, .iload 1, .invokevirtual 162, .i2l, .invokevirtual 190, .iinc 2 1, .goto 30], 0),
  (75, [.iinc 1 1, .goto 13], 0),
  (81, [.iconst 0, .istore 1], 83),
  (83, [.iload 1, .iconst 8, .if_icmp .ge 106], 89),
  (89, [.aload 0, .aload 0, .getfield 793, .iload 1, .iaload, .i2l, .invokevirtual 190, .iinc 1 1, .goto 83], 0),
  (106, [.aload 0, .getfield 790, .ifCond .le 148], 113),
  (113, [.aload 0, .aload 0, .invokevirtual 176, .i2l, .invokevirtual 190, .iconst 0, .istore 1], 124),
  (124, [.iload 1, .aload 0, .getfield 790, .if_icmp .ge 148], 132),
  (132, [.aload 0, .aload 0, .iload 1, .invokevirtual 178, .i2l, .invokevirtual 190, .iinc 1 1, .goto 124], 0),
  (148, [.iconst 0, .istore 1], 150),
  (150, [.iload 1, .aload 0, .getfield 789, .if_icmp .ge 175], 158),
  (158, [.aload 0, .aload 0, .getfield 788, .iload 1, .iaload, .i2l, .invokevirtual 190, .iinc 1 1, .goto 150], 0),
  (175, [.iconst 0, .istore 1], 177),
  (177, [.iload 1, .iconst 10, .if_icmp .ge 199], 183),
  (183, [.aload 0, .aload 0, .iload 1, .invokevirtual 187, .i2l, .invokevirtual 190, .iinc 1 1, .goto 177], 0),
  (199, [.aload 0, .getfield 809, .lreturn], 0)]
abbrev q_M_digest : Nat := 188
/-- MouthRiddlesModel.tellSaid()V -/
def cd_M_tellSaid : List (Nat × List Instr × Nat) := [(0, [.iconst 0, .istore 1], 2),
  (2, [.iload 1, .aload 0, .getfield 768, .if_icmp .ge 27], 10),
  (10, [.aload 0, .aload 0, .getfield 769, .iload 1, .iaload, .i2l, .invokevirtual 190, .iinc 1 1, .goto 2], 0),
  (27, [.iconst 0, .istore 1], 29),
  (29, [.iload 1, .iconst 16, .if_icmp .ge 74], 35),
  (35, [.iconst 0, .istore 2], 37),
  (37, [.iload 2, .aload 0, .getfield 770, .iload 1, .iaload, .if_icmp .ge 68], 47),
  (47, [.aload 0, .aload 0, .getfield 771, .iconst 3, .iload 1, .imul, .iload 2, .iadd, .iaload, .i2l, .invokevirtual 190, .iinc 2 1, .goto 37], 0),
  (68, [.iinc 1 1, .goto 29], 0),
  (74, [.iconst 0, .istore 1], 76),
  (76, [.iload 1, .aload 0, .getfield 772, .if_icmp .ge 152], 84),
  (84, [.aload 0, .aload 0, .getfield 773, .iload 1, .iaload, .i2l, .invokevirtual 190, .aload 0, .aload 0, .getfield 774, .iload 1, .iaload, .i2l, .invokevirtual 190, .aload 0, .aload 0, .getfield 775, .iload 1, .iaload, .i2l, .invokevirtual 190, .iconst 0, .istore 2], 119),
  (119, [.iload 2, .aload 0, .getfield 768, .if_icmp .ge 146], 127),
  (127, [.aload 0, .aload 0, .iload 1, .iload 2, .iconst 7, .invokevirtual 136, .i2l, .invokevirtual 190, .iinc 2 1, .goto 119], 0),
  (146, [.iinc 1 1, .goto 76], 0),
  (152, [.iconst 0, .istore 1], 154),
  (154, [.iload 1, .aload 0, .getfield 776, .if_icmp .ge 264], 162),
  (162, [.iconst 0, .istore 2], 164),
  (164, [.iload 2, .aload 0, .getfield 777, .iload 1, .iaload, .if_icmp .ge 196], 174),
  (174, [.aload 0, .aload 0, .getfield 778, .iconst 6, .iload 1, .imul, .iload 2, .iadd, .iaload, .i2l, .invokevirtual 190, .iinc 2 1, .goto 164], 0),
  (196, [.aload 0, .aload 0, .iload 1, .invokevirtual 144, .i2l, .invokevirtual 190, .iconst 0, .istore 2], 208),
  (208, [.iload 2, .aload 0, .getfield 782, .if_icmp .ge 258], 216),
  (216, [.aload 0, .aload 0, .iload 2, .iload 1, .invokevirtual 155, .i2l, .invokevirtual 190, .aload 0, .aload 0, .getfield 785, .i2l, .invokevirtual 190, .aload 0, .aload 0, .getfield 807, .iconst 10, .iload 2, .imul, .iload 1, .iadd, .iaload, .i2l, .invokevirtual 190, .iinc 2 1, .goto 208], 0),
  (258, [.iinc 1 1, .goto 154], 0),
  (264, [.return_], 0)]
abbrev q_M_tellSaid : Nat := 189
/-- MouthRiddlesModel.tell(J)V -/
def cd_M_tell : List (Nat × List Instr × Nat) := [(0, [.aload 0, .ldc2_w 31, .aload 0, .getfield 809, .lmul, .lload 1, .ladd, .putfield 13097, .return_], 0)]
abbrev q_M_tell : Nat := 190
/-- java/util/Arrays.fill([II)V -/
def cd_Arrays_fill : List (Nat × List Instr × Nat) := [(0, [.iconst 0, .istore 2, .aload 0, .arraylength, .istore 3], 5),
  (5, [.iload 2, .iload 3, .if_icmp .ge 20], 10),
  (10, [.aload 0, .iload 2, .iload 1, .iastore, .iinc 2 1, .goto 5], 0),
  (20, [.return_], 0)]
abbrev q_Arrays_fill : Nat := 191
/-- java/lang/Integer.bitCount(I)I -/
def cd_Integer_bitCount : List (Nat × List Instr × Nat) := [(0, [.iload 0, .iload 0, .iconst 1, .iushr, .iconst 1431655765, .iand, .isub, .istore 0, .iload 0, .iconst 858993459, .iand, .iload 0, .iconst 2, .iushr, .iconst 858993459, .iand, .iadd, .istore 0, .iload 0, .iload 0, .iconst 4, .iushr, .iadd, .iconst 252645135, .iand, .istore 0, .iload 0, .iload 0, .iconst 8, .iushr, .iadd, .istore 0, .iload 0, .iload 0, .iconst 16, .iushr, .iadd, .istore 0, .iload 0, .iconst 63, .iand, .ireturn], 0)]
abbrev q_Integer_bitCount : Nat := 192
/-- java/util/Arrays.fill([JJ)V -/
def cd_Arrays_fill_L : List (Nat × List Instr × Nat) := [(0, [.iconst 0, .istore 3, .aload 0, .arraylength, .istore 4], 6),
  (6, [.iload 3, .iload 4, .if_icmp .ge 22], 12),
  (12, [.aload 0, .iload 3, .lload 1, .lastore, .iinc 3 1, .goto 6], 0),
  (22, [.return_], 0)]
abbrev q_Arrays_fill_L : Nat := 193
/-- MouthRiddlesLaw.law([I)Z -/
def cd_Law_law : List (Nat × List Instr × Nat) := [(0, [.new 11, .dup, .invokespecial 79, .astore 1, .new 12, .dup, .invokespecial 125, .astore 2, .iconst 0, .istore 3], 18),
  (18, [.iload 3, .aload 0, .arraylength, .iconst 5, .isub, .if_icmp .gt 1212], 26),
  (26, [.aload 0, .iload 3, .iaload, .iconst 63, .iand, .tableswitch 1206 0 32 #[180, 203, 236, 269, 312, 345, 378, 401, 434, 467, 490, 523, 566, 599, 632, 665, 708, 731, 764, 777, 846, 899, 932, 985, 998, 1011, 1024, 1057, 1080, 1103, 1146, 1169, 1192]], 0),
  (180, [.aload 1, .aload 0, .iload 3, .iconst 1, .iadd, .iaload, .invokevirtual 80, .aload 2, .aload 0, .iload 3, .iconst 1, .iadd, .iaload, .invokevirtual 126, .if_icmp .eq 1206], 201),
  (201, [.iconst 0, .freturn], 0),
  (203, [.aload 1, .aload 0, .iload 3, .iconst 1, .iadd, .iaload, .aload 0, .iload 3, .iconst 2, .iadd, .iaload, .invokevirtual 81, .aload 2, .aload 0, .iload 3, .iconst 1, .iadd, .iaload, .aload 0, .iload 3, .iconst 2, .iadd, .iaload, .invokevirtual 128, .if_icmp .eq 1206], 234),
  (234, [.iconst 0, .freturn], 0),
  (236, [.aload 1, .aload 0, .iload 3, .iconst 1, .iadd, .iaload, .aload 0, .iload 3, .iconst 2, .iadd, .iaload, .invokevirtual 83, .aload 2, .aload 0, .iload 3, .iconst 1, .iadd, .iaload, .aload 0, .iload 3, .iconst 2, .iadd, .iaload, .invokevirtual 130, .if_icmp .eq 1206], 267),
  (267, [.iconst 0, .freturn], 0),
  (269, [.aload 1, .aload 0, .iload 3, .iconst 1, .iadd, .iaload, .aload 0, .iload 3, .iconst 2, .iadd, .iaload, .aload 0, .iload 3, .iconst 3, .iadd, .iaload, .invokevirtual 84, .aload 2, .aload 0, .iload 3, .iconst 1, .iadd, .iaload, .aload 0, .iload 3, .iconst 2, .iadd, .iaload, .aload 0, .iload 3, .iconst 3, .iadd, .iaload, .invokevirtual 131, .if_icmp .eq 1206], 310),
  (310, [.iconst 0, .freturn], 0),
  (312, [.aload 1, .aload 0, .iload 3, .iconst 1, .iadd, .iaload, .aload 0, .iload 3, .iconst 2, .iadd, .iaload, .invokevirtual 86, .aload 2, .aload 0, .iload 3, .iconst 1, .iadd, .iaload, .aload 0, .iload 3, .iconst 2, .iadd, .iaload, .invokevirtual 132, .if_icmp .eq 1206], 343),
  (343, [.iconst 0, .freturn], 0),
  (345, [.aload 1, .aload 0, .iload 3, .iconst 1, .iadd, .iaload, .aload 0, .iload 3, .iconst 2, .iadd, .iaload, .invokevirtual 88, .aload 2, .aload 0, .iload 3, .iconst 1, .iadd, .iaload, .aload 0, .iload 3, .iconst 2, .iadd, .iaload, .invokevirtual 134, .if_icmp .eq 1206], 376),
  (376, [.iconst 0, .freturn], 0),
  (378, [.aload 1, .aload 0, .iload 3, .iconst 1, .iadd, .iaload, .invokevirtual 90, .aload 2, .aload 0, .iload 3, .iconst 1, .iadd, .iaload, .invokevirtual 139, .if_icmp .eq 1206], 399),
  (399, [.iconst 0, .freturn], 0),
  (401, [.aload 1, .aload 0, .iload 3, .iconst 1, .iadd, .iaload, .aload 0, .iload 3, .iconst 2, .iadd, .iaload, .invokevirtual 91, .aload 2, .aload 0, .iload 3, .iconst 1, .iadd, .iaload, .aload 0, .iload 3, .iconst 2, .iadd, .iaload, .invokevirtual 140, .if_icmp .eq 1206], 432),
  (432, [.iconst 0, .freturn], 0),
  (434, [.aload 1, .aload 0, .iload 3, .iconst 1, .iadd, .iaload, .aload 0, .iload 3, .iconst 2, .iadd, .iaload, .invokevirtual 93, .aload 2, .aload 0, .iload 3, .iconst 1, .iadd, .iaload, .aload 0, .iload 3, .iconst 2, .iadd, .iaload, .invokevirtual 142, .if_icmp .eq 1206], 465),
  (465, [.iconst 0, .freturn], 0),
  (467, [.aload 1, .aload 0, .iload 3, .iconst 1, .iadd, .iaload, .invokevirtual 94, .aload 2, .aload 0, .iload 3, .iconst 1, .iadd, .iaload, .invokevirtual 143, .if_icmp .eq 1206], 488),
  (488, [.iconst 0, .freturn], 0),
  (490, [.aload 1, .aload 0, .iload 3, .iconst 1, .iadd, .iaload, .aload 0, .iload 3, .iconst 2, .iadd, .iaload, .invokevirtual 95, .aload 2, .aload 0, .iload 3, .iconst 1, .iadd, .iaload, .aload 0, .iload 3, .iconst 2, .iadd, .iaload, .invokevirtual 146, .if_icmp .eq 1206], 521),
  (521, [.iconst 0, .freturn], 0),
  (523, [.aload 1, .aload 0, .iload 3, .iconst 1, .iadd, .iaload, .aload 0, .iload 3, .iconst 2, .iadd, .iaload, .aload 0, .iload 3, .iconst 3, .iadd, .iaload, .invokevirtual 96, .aload 2, .aload 0, .iload 3, .iconst 1, .iadd, .iaload, .aload 0, .iload 3, .iconst 2, .iadd, .iaload, .aload 0, .iload 3, .iconst 3, .iadd, .iaload, .invokevirtual 148, .if_icmp .eq 1206], 564),
  (564, [.iconst 0, .freturn], 0),
  (566, [.aload 1, .aload 0, .iload 3, .iconst 1, .iadd, .iaload, .aload 0, .iload 3, .iconst 2, .iadd, .iaload, .invokevirtual 97, .aload 2, .aload 0, .iload 3, .iconst 1, .iadd, .iaload, .aload 0, .iload 3, .iconst 2, .iadd, .iaload, .invokevirtual 149, .if_icmp .eq 1206], 597),
  (597, [.iconst 0, .freturn], 0),
  (599, [.aload 1, .aload 0, .iload 3, .iconst 1, .iadd, .iaload, .aload 0, .iload 3, .iconst 2, .iadd, .iaload, .invokevirtual 98, .aload 2, .aload 0, .iload 3, .iconst 1, .iadd, .iaload, .aload 0, .iload 3, .iconst 2, .iadd, .iaload, .invokevirtual 150, .if_icmp .eq 1206], 630),
  (630, [.iconst 0, .freturn], 0),
  (632, [.aload 1, .aload 0, .iload 3, .iconst 1, .iadd, .iaload, .aload 0, .iload 3, .iconst 2, .iadd, .iaload, .invokevirtual 99, .aload 2, .aload 0, .iload 3, .iconst 1, .iadd, .iaload, .aload 0, .iload 3, .iconst 2, .iadd, .iaload, .invokevirtual 152, .if_icmp .eq 1206], 663),
  (663, [.iconst 0, .freturn], 0),
  (665, [.aload 1, .aload 0, .iload 3, .iconst 1, .iadd, .iaload, .aload 0, .iload 3, .iconst 2, .iadd, .iaload, .aload 0, .iload 3, .iconst 3, .iadd, .iaload, .invokevirtual 100, .aload 2, .aload 0, .iload 3, .iconst 1, .iadd, .iaload, .aload 0, .iload 3, .iconst 2, .iadd, .iaload, .aload 0, .iload 3, .iconst 3, .iadd, .iaload, .invokevirtual 153, .if_icmp .eq 1206], 706),
  (706, [.iconst 0, .freturn], 0),
  (708, [.aload 1, .aload 0, .iload 3, .iconst 1, .iadd, .iaload, .invokevirtual 102, .aload 2, .aload 0, .iload 3, .iconst 1, .iadd, .iaload, .invokevirtual 156, .if_icmp .eq 1206], 729),
  (729, [.iconst 0, .freturn], 0),
  (731, [.aload 1, .aload 0, .iload 3, .iconst 1, .iadd, .iaload, .aload 0, .iload 3, .iconst 2, .iadd, .iaload, .invokevirtual 103, .aload 2, .aload 0, .iload 3, .iconst 1, .iadd, .iaload, .aload 0, .iload 3, .iconst 2, .iadd, .iaload, .invokevirtual 157, .if_icmp .eq 1206], 762),
  (762, [.iconst 0, .freturn], 0),
  (764, [.aload 1, .invokevirtual 104, .aload 2, .invokevirtual 158, .if_icmp .eq 1206], 775),
  (775, [.iconst 0, .freturn], 0),
  (777, [.aload 1, .aload 0, .iload 3, .iconst 1, .iadd, .iaload, .aload 0, .iload 3, .iconst 2, .iadd, .iaload, .aload 0, .iload 3, .iconst 3, .iadd, .iaload, .aload 0, .iload 3, .iconst 4, .iadd, .iaload, .ifCond .eq 805], 801),
  (801, [.iconst 1, .goto 806], 0),
  (805, [.iconst 0], 806),
  (806, [.invokevirtual 105, .aload 2, .aload 0, .iload 3, .iconst 1, .iadd, .iaload, .aload 0, .iload 3, .iconst 2, .iadd, .iaload, .aload 0, .iload 3, .iconst 3, .iadd, .iaload, .aload 0, .iload 3, .iconst 4, .iadd, .iaload, .ifCond .eq 837], 833),
  (833, [.iconst 1, .goto 838], 0),
  (837, [.iconst 0], 838),
  (838, [.invokevirtual 159, .if_icmp .eq 1206], 844),
  (844, [.iconst 0, .freturn], 0),
  (846, [.aload 1, .aload 0, .iload 3, .iconst 1, .iadd, .iaload, .aload 0, .iload 3, .iconst 2, .iadd, .iaload, .aload 0, .iload 3, .iconst 3, .iadd, .iaload, .aload 0, .iload 3, .iconst 4, .iadd, .iaload, .invokevirtual 107, .aload 2, .aload 0, .iload 3, .iconst 1, .iadd, .iaload, .aload 0, .iload 3, .iconst 2, .iadd, .iaload, .aload 0, .iload 3, .iconst 3, .iadd, .iaload, .aload 0, .iload 3, .iconst 4, .iadd, .iaload, .invokevirtual 161, .if_icmp .eq 1206], 897),
  (897, [.iconst 0, .freturn], 0),
  (899, [.aload 1, .aload 0, .iload 3, .iconst 1, .iadd, .iaload, .aload 0, .iload 3, .iconst 2, .iadd, .iaload, .invokevirtual 108, .aload 2, .aload 0, .iload 3, .iconst 1, .iadd, .iaload, .aload 0, .iload 3, .iconst 2, .iadd, .iaload, .invokevirtual 165, .if_icmp .eq 1206], 930),
  (930, [.iconst 0, .freturn], 0),
  (932, [.aload 1, .aload 0, .iload 3, .iconst 1, .iadd, .iaload, .i2l, .iconst 32, .lshl, .aload 0, .iload 3, .iconst 2, .iadd, .iaload, .i2l, .ldc2_w 4294967295, .land, .lor, .invokevirtual 109, .aload 2, .aload 0, .iload 3, .iconst 1, .iadd, .iaload, .i2l, .iconst 32, .lshl, .aload 0, .iload 3, .iconst 2, .iadd, .iaload, .i2l, .ldc2_w 4294967295, .land, .lor, .invokevirtual 166, .if_icmp .eq 1206], 983),
  (983, [.iconst 0, .freturn], 0),
  (985, [.aload 1, .invokevirtual 110, .aload 2, .invokevirtual 167, .if_icmp .eq 1206], 996),
  (996, [.iconst 0, .freturn], 0),
  (998, [.aload 1, .invokevirtual 111, .aload 2, .invokevirtual 168, .if_icmp .eq 1206], 1009),
  (1009, [.iconst 0, .freturn], 0),
  (1011, [.aload 1, .invokevirtual 112, .aload 2, .invokevirtual 173, .if_icmp .eq 1206], 1022),
  (1022, [.iconst 0, .freturn], 0),
  (1024, [.aload 1, .aload 0, .iload 3, .iconst 1, .iadd, .iaload, .aload 0, .iload 3, .iconst 2, .iadd, .iaload, .invokevirtual 113, .aload 2, .aload 0, .iload 3, .iconst 1, .iadd, .iaload, .aload 0, .iload 3, .iconst 2, .iadd, .iaload, .invokevirtual 174, .if_icmp .eq 1206], 1055),
  (1055, [.iconst 0, .freturn], 0),
  (1057, [.aload 1, .aload 0, .iload 3, .iconst 1, .iadd, .iaload, .invokevirtual 114, .aload 2, .aload 0, .iload 3, .iconst 1, .iadd, .iaload, .invokevirtual 175, .if_icmp .eq 1206], 1078),
  (1078, [.iconst 0, .freturn], 0),
  (1080, [.aload 1, .aload 0, .iload 3, .iconst 1, .iadd, .iaload, .invokevirtual 115, .aload 2, .aload 0, .iload 3, .iconst 1, .iadd, .iaload, .invokevirtual 179, .if_icmp .eq 1206], 1101),
  (1101, [.iconst 0, .freturn], 0),
  (1103, [.aload 1, .aload 0, .iload 3, .iconst 1, .iadd, .iaload, .aload 0, .iload 3, .iconst 2, .iadd, .iaload, .aload 0, .iload 3, .iconst 3, .iadd, .iaload, .invokevirtual 117, .aload 2, .aload 0, .iload 3, .iconst 1, .iadd, .iaload, .aload 0, .iload 3, .iconst 2, .iadd, .iaload, .aload 0, .iload 3, .iconst 3, .iadd, .iaload, .invokevirtual 182, .if_icmp .eq 1206], 1144),
  (1144, [.iconst 0, .freturn], 0),
  (1146, [.aload 1, .aload 0, .iload 3, .iconst 1, .iadd, .iaload, .invokevirtual 118, .aload 2, .aload 0, .iload 3, .iconst 1, .iadd, .iaload, .invokevirtual 183, .if_icmp .eq 1206], 1167),
  (1167, [.iconst 0, .freturn], 0),
  (1169, [.aload 1, .aload 0, .iload 3, .iconst 1, .iadd, .iaload, .invokevirtual 119, .aload 2, .aload 0, .iload 3, .iconst 1, .iadd, .iaload, .invokevirtual 186, .if_icmp .eq 1206], 1190),
  (1190, [.iconst 0, .freturn], 0),
  (1192, [.aload 1, .invokevirtual 120, .aload 2, .invokevirtual 188, .lcmp, .ifCond .eq 1206], 1204),
  (1204, [.iconst 0, .freturn], 0),
  (1206, [.iinc 3 5, .goto 18], 0),
  (1212, [.iconst 1, .freturn], 0)]
abbrev q_Law_law : Nat := 194
def am_cds : List (List (Nat × List Instr × Nat)) := [cd_Changes_init, cd_Changes_least, cd_Changes_weighBelow, cd_Changes_addToAbove, cd_Changes_leastOf, cd_Changes_weighAll, cd_Changes_weighWhole, cd_Changes_sureOf, cd_Deal_init, cd_Deal_countWays, cd_Deal_dealFrom, cd_Deal_hasTwinBefore, cd_Heads_init, cd_Heads_add, cd_Heads_stageOfAnswer, cd_Heads_secondOf, cd_Heads_answerIn, cd_Heads_unlikePairs, cd_Heads_answerOf, cd_Heads_answeringOther, cd_Lore_init, cd_Lore_addThing, cd_Lore_fitAnew, cd_Lore_tryOut, cd_Lore_havingSense, cd_Lore_traitOf, cd_Lore_hasSense, cd_Lore_addSense, cd_Lore_addSaying, cd_Lore_isOfKind, cd_Lore_leastSense, cd_Lore_allThings, cd_Lore_fittingBySight, cd_Lore_senseCount, cd_Maker_init, cd_Maker_fewest, cd_Maker_gather, cd_Maker_choose, cd_Maker_consider, cd_Page_init, cd_Page_areLetters, cd_Page_lettersIn, cd_Page_codeAt, cd_Page_append, cd_Page_empty, cd_Riddles_init, cd_Riddles_begin, cd_Riddles_append, cd_Riddles_sayingAt, cd_Riddles_fitting, cd_Riddles_fittingWithout, cd_Riddles_turnedOnes, cd_Riddles_misleadingPlace, cd_Riddles_countWithout, cd_Riddles_unfitCount, cd_Sight_init, cd_Sight_sees, cd_Sight_set, cd_Stakes_init, cd_Stakes_put, cd_Stakes_of, cd_Stakes_best, cd_Stakes_giveRiddle, cd_Stakes_sumIn, cd_Stakes_riddleIn, cd_Tongues_init, cd_Tongues_add, cd_Tongues_carries, cd_Tongues_lacking, cd_Tongues_leastLacking, cd_Tree_init, cd_Tree_read, cd_Tree_take, cd_Tree_openNode, cd_Tree_beginNode, cd_Tree_landNode, cd_Tree_awaitNext, cd_Tree_closeNode, cd_Tree_isWhole, cd_X_init, cd_X_thing, cd_X_sense, cd_X_isWord, cd_X_senseOf, cd_X_saying, cd_X_isKind, cd_X_as, cd_X_isSaying, cd_X_fits, cd_X_isThing, cd_X_riddle, cd_X_more, cd_X_isRiddle, cd_X_said, cd_X_answers, cd_X_turns, cd_X_judge, cd_X_astray, cd_X_made, cd_X_head, cd_X_hears, cd_X_isHead, cd_X_parts, cd_X_blind, cd_X_tongue, cd_X_lack, cd_X_isTongue, cd_X_goes, cd_X_nearest, cd_X_letters, cd_X_blank, cd_X_fault, cd_X_tree, cd_X_variant, cd_X_changes, cd_X_chance, cd_X_greatestDivisor, cd_X_stake, cd_X_whom, cd_X_count, cd_X_digest, cd_X_digestLore, cd_X_digestRiddles, cd_X_digestTongues, cd_X_digestLands, cd_M_init, cd_M_thing, cd_M_in, cd_M_sense, cd_M_isWord, cd_M_senseOf, cd_M_saying, cd_M_as, cd_M_isSaying, cd_M_fits, cd_M_isThing, cd_M_by, cd_M_bitsOf, cd_M_has, cd_M_riddle, cd_M_more, cd_M_isRiddle, cd_M_said, cd_M_answers, cd_M_answersOf, cd_M_answersBy, cd_M_turns, cd_M_turnsOf, cd_M_judge, cd_M_astray, cd_M_made, cd_M_bestOf, cd_M_head, cd_M_hears, cd_M_isHead, cd_M_hearsOf, cd_M_parts, cd_M_blind, cd_M_tongue, cd_M_lack, cd_M_isTongue, cd_M_goes, cd_M_lacksOf, cd_M_byIn, cd_M_goesOf, cd_M_nearest, cd_M_letters, cd_M_blank, cd_M_fault, cd_M_faultOf, cd_M_go, cd_M_addNode, cd_M_endNode, cd_M_tree, cd_M_variant, cd_M_changes, cd_M_leastChanges, cd_M_leastOf, cd_M_sureOf, cd_M_chance, cd_M_deal, cd_M_common, cd_M_stake, cd_M_whom, cd_M_layBrings, cd_M_chosen, cd_M_count, cd_M_countOf, cd_M_digest, cd_M_tellSaid, cd_M_tell, cd_Arrays_fill, cd_Integer_bitCount, cd_Arrays_fill_L, cd_Law_law]
/-- own class, values popped, locals, receiver -/
def am_ms : List (Nat × Nat × Nat × Nat) := [(0, 1, 1, 0), (0, 3, 3, 0), (0, 3, 7, 0), (0, 3, 5, 0), (0, 2, 4, 99), (0, 3, 4, 0), (0, 3, 6, 0), (0, 2, 5, 0), (1, 1, 1, 1), (1, 4, 5, 1), (1, 4, 5, 99), (1, 2, 3, 1), (2, 2, 3, 2), (2, 3, 3, 2), (2, 3, 5, 2), (2, 3, 3, 2), (2, 3, 4, 2), (2, 2, 5, 2), (2, 3, 3, 2), (2, 3, 5, 2), (3, 1, 1, 3), (3, 2, 5, 3), (3, 1, 3, 3), (3, 3, 5, 3), (3, 3, 3, 3), (3, 3, 3, 3), (3, 3, 4, 3), (3, 3, 3, 3), (3, 4, 4, 3), (3, 3, 4, 3), (3, 3, 4, 3), (3, 1, 1, 3), (3, 3, 6, 3), (3, 1, 3, 3), (4, 1, 1, 4), (4, 4, 5, 4), (4, 3, 5, 4), (4, 6, 8, 99), (4, 3, 3, 4), (5, 1, 1, 5), (5, 1, 5, 99), (5, 1, 3, 99), (5, 2, 3, 99), (5, 2, 5, 5), (5, 1, 2, 5), (6, 2, 2, 6), (6, 2, 2, 6), (6, 3, 3, 6), (6, 3, 3, 6), (6, 2, 2, 6), (6, 4, 6, 6), (6, 3, 6, 6), (6, 2, 6, 6), (6, 3, 3, 6), (6, 4, 6, 6), (7, 2, 2, 7), (7, 3, 3, 7), (7, 4, 4, 7), (8, 1, 1, 8), (8, 4, 5, 8), (8, 3, 3, 8), (8, 3, 6, 8), (8, 4, 7, 8), (8, 1, 2, 99), (8, 2, 4, 99), (9, 2, 3, 9), (9, 1, 1, 9), (9, 4, 4, 9), (9, 4, 4, 9), (9, 3, 7, 9), (10, 1, 1, 10), (10, 2, 3, 10), (10, 2, 2, 10), (10, 1, 1, 10), (10, 2, 2, 10), (10, 2, 2, 10), (10, 1, 1, 10), (10, 1, 1, 10), (10, 1, 1, 10), (11, 1, 1, 11), (11, 2, 2, 11), (11, 3, 3, 11), (11, 1, 1, 99), (11, 3, 3, 11), (11, 4, 4, 11), (11, 1, 1, 99), (11, 3, 3, 11), (11, 2, 2, 11), (11, 3, 3, 11), (11, 2, 2, 11), (11, 2, 2, 11), (11, 3, 3, 11), (11, 2, 2, 11), (11, 3, 3, 11), (11, 2, 2, 11), (11, 3, 3, 11), (11, 4, 8, 11), (11, 3, 4, 11), (11, 3, 3, 11), (11, 3, 3, 11), (11, 4, 5, 11), (11, 2, 2, 11), (11, 2, 6, 11), (11, 3, 3, 11), (11, 1, 1, 11), (11, 5, 6, 11), (11, 2, 2, 11), (11, 5, 5, 11), (11, 3, 3, 11), (11, 2, 3, 11), (11, 1, 1, 11), (11, 1, 1, 11), (11, 1, 2, 11), (11, 3, 4, 11), (11, 2, 2, 11), (11, 2, 3, 11), (11, 2, 6, 99), (11, 4, 4, 11), (11, 2, 4, 11), (11, 2, 2, 11), (11, 1, 4, 11), (11, 2, 7, 11), (11, 2, 8, 11), (11, 2, 7, 11), (11, 2, 6, 11), (12, 1, 2, 12), (12, 2, 2, 12), (12, 3, 6, 99), (12, 3, 5, 12), (12, 1, 1, 99), (12, 3, 3, 12), (12, 4, 4, 12), (12, 3, 4, 12), (12, 2, 2, 12), (12, 3, 3, 12), (12, 2, 2, 12), (12, 4, 10, 12), (12, 1, 3, 99), (12, 3, 3, 12), (12, 2, 2, 12), (12, 3, 3, 12), (12, 2, 2, 12), (12, 3, 3, 12), (12, 2, 2, 12), (12, 2, 2, 12), (12, 4, 8, 12), (12, 3, 3, 12), (12, 3, 5, 12), (12, 4, 6, 12), (12, 3, 7, 12), (12, 3, 5, 12), (12, 3, 10, 12), (12, 3, 3, 12), (12, 4, 5, 12), (12, 2, 2, 12), (12, 3, 8, 12), (12, 2, 8, 12), (12, 3, 5, 12), (12, 1, 1, 12), (12, 5, 7, 12), (12, 2, 2, 12), (12, 5, 5, 12), (12, 4, 6, 12), (12, 4, 4, 12), (12, 4, 6, 12), (12, 3, 7, 12), (12, 2, 9, 12), (12, 1, 2, 12), (12, 1, 1, 12), (12, 1, 2, 12), (12, 2, 3, 12), (12, 2, 2, 12), (12, 2, 2, 12), (12, 1, 2, 12), (12, 3, 4, 12), (12, 2, 2, 12), (12, 1, 6, 12), (12, 3, 5, 99), (12, 2, 7, 12), (12, 2, 7, 12), (12, 3, 8, 12), (12, 2, 5, 99), (12, 4, 5, 12), (12, 2, 2, 12), (12, 1, 6, 12), (12, 2, 7, 12), (12, 2, 2, 12), (12, 2, 4, 12), (12, 1, 3, 12), (12, 1, 3, 12), (12, 2, 3, 12), (15, 2, 4, 99), (14, 1, 1, 99), (15, 2, 5, 99), (13, 1, 4, 99)]
def am_ys : List MethodName := [yX0_init, yX0_least, yX0_weighBelow, yX0_addToAbove, yX0_leastOf, yX0_weighAll, yX0_weighWhole, yX0_sureOf, yX1_init, yX1_countWays, yX1_dealFrom, yX1_hasTwinBefore, yX2_init, yX2_add, yX2_stageOfAnswer, yX2_secondOf, yX2_answerIn, yX2_unlikePairs, yX2_answerOf, yX2_answeringOther, yX3_init, yX3_addThing, yX3_fitAnew, yX3_tryOut, yX3_havingSense, yX3_traitOf, yX3_hasSense, yX3_addSense, yX3_addSaying, yX3_isOfKind, yX3_leastSense, yX3_allThings, yX3_fittingBySight, yX3_senseCount, yX4_init, yX4_fewest, yX4_gather, yX4_choose, yX4_consider, yX5_init, yX5_areLetters, yX5_lettersIn, yX5_codeAt, yX5_append, yX5_empty, yX6_init, yX6_begin, yX6_append, yX6_sayingAt, yX6_fitting, yX6_fittingWithout, yX6_turnedOnes, yX6_misleadingPlace, yX6_countWithout, yX6_unfitCount, yX7_init, yX7_sees, yX7_set, yX8_init, yX8_put, yX8_of, yX8_best, yX8_giveRiddle, yX8_sumIn, yX8_riddleIn, yX9_init, yX9_add, yX9_carries, yX9_lacking, yX9_leastLacking, yX10_init, yX10_read, yX10_take, yX10_openNode, yX10_beginNode, yX10_landNode, yX10_awaitNext, yX10_closeNode, yX10_isWhole, yX11_init, yX11_thing, yX11_sense, yX11_isWord, yX11_senseOf, yX11_saying, yX11_isKind, yX11_as, yX11_isSaying, yX11_fits, yX11_isThing, yX11_riddle, yX11_more, yX11_isRiddle, yX11_said, yX11_answers, yX11_turns, yX11_judge, yX11_astray, yX11_made, yX11_head, yX11_hears, yX11_isHead, yX11_parts, yX11_blind, yX11_tongue, yX11_lack, yX11_isTongue, yX11_goes, yX11_nearest, yX11_letters, yX11_blank, yX11_fault, yX11_tree, yX11_variant, yX11_changes, yX11_chance, yX11_greatestDivisor, yX11_stake, yX11_whom, yX11_count, yX11_digest, yX11_digestLore, yX11_digestRiddles, yX11_digestTongues, yX11_digestLands, yX12_init, yX12_thing, yX12_in, yX12_sense, yX12_isWord, yX12_senseOf, yX12_saying, yX12_as, yX12_isSaying, yX12_fits, yX12_isThing, yX12_by, yX12_bitsOf, yX12_has, yX12_riddle, yX12_more, yX12_isRiddle, yX12_said, yX12_answers, yX12_answersOf, yX12_answersBy, yX12_turns, yX12_turnsOf, yX12_judge, yX12_astray, yX12_made, yX12_bestOf, yX12_head, yX12_hears, yX12_isHead, yX12_hearsOf, yX12_parts, yX12_blind, yX12_tongue, yX12_lack, yX12_isTongue, yX12_goes, yX12_lacksOf, yX12_byIn, yX12_goesOf, yX12_nearest, yX12_letters, yX12_blank, yX12_fault, yX12_faultOf, yX12_go, yX12_addNode, yX12_endNode, yX12_tree, yX12_variant, yX12_changes, yX12_leastChanges, yX12_leastOf, yX12_sureOf, yX12_chance, yX12_deal, yX12_common, yX12_stake, yX12_whom, yX12_layBrings, yX12_chosen, yX12_count, yX12_countOf, yX12_digest, yX12_tellSaid, yX12_tell, yJ7_fill_53178, yJ6_bitCount_0f7a4, yJ7_fill_d0a16, yL_law]
def am_bs : List ByteArray := [prog_2_method_1_code, prog_2_method_2_code, prog_2_method_5_code, prog_2_method_6_code, prog_2_method_8_code, prog_2_method_3_code, prog_2_method_7_code, prog_2_method_4_code, prog_3_method_1_code, prog_3_method_2_code, prog_3_method_3_code, prog_3_method_4_code, prog_4_method_1_code, prog_4_method_2_code, prog_4_method_4_code, prog_4_method_3_code, prog_4_method_5_code, prog_4_method_7_code, prog_4_method_6_code, prog_4_method_8_code, prog_5_method_1_code, prog_5_method_2_code, prog_5_method_12_code, prog_5_method_13_code, prog_5_method_14_code, prog_5_method_5_code, prog_5_method_6_code, prog_5_method_3_code, prog_5_method_4_code, prog_5_method_8_code, prog_5_method_11_code, prog_5_method_9_code, prog_5_method_10_code, prog_5_method_7_code, prog_6_method_1_code, prog_6_method_2_code, prog_6_method_3_code, prog_6_method_4_code, prog_6_method_5_code, prog_7_method_1_code, prog_7_method_4_code, prog_7_method_3_code, prog_7_method_2_code, prog_7_method_5_code, prog_7_method_6_code, prog_8_method_1_code, prog_8_method_2_code, prog_8_method_3_code, prog_8_method_4_code, prog_8_method_5_code, prog_8_method_6_code, prog_8_method_9_code, prog_8_method_8_code, prog_8_method_7_code, prog_8_method_10_code, prog_9_method_1_code, prog_9_method_2_code, prog_9_method_3_code, prog_10_method_1_code, prog_10_method_3_code, prog_10_method_2_code, prog_10_method_4_code, prog_10_method_5_code, prog_10_method_6_code, prog_10_method_7_code, prog_11_method_1_code, prog_11_method_2_code, prog_11_method_3_code, prog_11_method_4_code, prog_11_method_5_code, prog_12_method_1_code, prog_12_method_3_code, prog_12_method_4_code, prog_12_method_5_code, prog_12_method_7_code, prog_12_method_6_code, prog_12_method_8_code, prog_12_method_9_code, prog_12_method_2_code, prog_1_method_1_code, prog_1_method_2_code, prog_1_method_3_code, prog_1_method_39_code, prog_1_method_4_code, prog_1_method_5_code, prog_1_method_40_code, prog_1_method_6_code, prog_1_method_42_code, prog_1_method_7_code, prog_1_method_41_code, prog_1_method_8_code, prog_1_method_9_code, prog_1_method_43_code, prog_1_method_10_code, prog_1_method_11_code, prog_1_method_12_code, prog_1_method_13_code, prog_1_method_14_code, prog_1_method_15_code, prog_1_method_16_code, prog_1_method_17_code, prog_1_method_44_code, prog_1_method_18_code, prog_1_method_19_code, prog_1_method_20_code, prog_1_method_21_code, prog_1_method_45_code, prog_1_method_22_code, prog_1_method_23_code, prog_1_method_24_code, prog_1_method_25_code, prog_1_method_26_code, prog_1_method_27_code, prog_1_method_28_code, prog_1_method_29_code, prog_1_method_30_code, prog_1_method_46_code, prog_1_method_31_code, prog_1_method_32_code, prog_1_method_33_code, prog_1_method_34_code, prog_1_method_35_code, prog_1_method_36_code, prog_1_method_37_code, prog_1_method_38_code, prog_14_method_1_code, prog_14_method_4_code, prog_14_method_2_code, prog_14_method_7_code, prog_14_method_6_code, prog_14_method_8_code, prog_14_method_9_code, prog_14_method_11_code, prog_14_method_10_code, prog_14_method_14_code, prog_14_method_5_code, prog_14_method_13_code, prog_14_method_3_code, prog_14_method_12_code, prog_14_method_15_code, prog_14_method_17_code, prog_14_method_16_code, prog_14_method_18_code, prog_14_method_21_code, prog_14_method_20_code, prog_14_method_19_code, prog_14_method_23_code, prog_14_method_22_code, prog_14_method_24_code, prog_14_method_25_code, prog_14_method_27_code, prog_14_method_26_code, prog_14_method_28_code, prog_14_method_31_code, prog_14_method_29_code, prog_14_method_30_code, prog_14_method_32_code, prog_14_method_33_code, prog_14_method_34_code, prog_14_method_36_code, prog_14_method_35_code, prog_14_method_40_code, prog_14_method_38_code, prog_14_method_37_code, prog_14_method_39_code, prog_14_method_41_code, prog_14_method_42_code, prog_14_method_43_code, prog_14_method_48_code, prog_14_method_47_code, prog_14_method_46_code, prog_14_method_44_code, prog_14_method_45_code, prog_14_method_49_code, prog_14_method_50_code, prog_14_method_54_code, prog_14_method_52_code, prog_14_method_51_code, prog_14_method_53_code, prog_14_method_57_code, prog_14_method_56_code, prog_14_method_55_code, prog_14_method_58_code, prog_14_method_61_code, prog_14_method_59_code, prog_14_method_60_code, prog_14_method_63_code, prog_14_method_62_code, prog_14_method_66_code, prog_14_method_65_code, prog_14_method_64_code, prog_18_method_103_code, prog_15_method_49_code, prog_18_method_101_code, code]
def am_rs : List (Option FieldType) := [none, (some .int), none, none, (some .int), none, none, (some .int), none, none, none, (some .boolean), none, (some .int), (some .int), (some .int), (some .int), (some .int), (some .int), (some .int), none, (some .int), none, (some .int), (some .int), (some .int), (some .boolean), (some .int), (some .int), (some .boolean), (some .int), (some .int), (some .int), (some .int), none, (some .int), none, none, none, none, (some .boolean), (some .int), (some .int), (some .int), (some .int), none, (some .int), (some .int), (some .int), (some .int), (some .int), (some .int), (some .int), (some .int), (some .int), none, (some .boolean), none, none, (some .int), (some .int), (some .long), none, (some .int), (some .int), none, (some .int), (some .int), (some .int), (some .int), none, (some .int), (some .boolean), (some .boolean), (some .int), (some .boolean), (some .boolean), (some .boolean), (some .boolean), none, (some .int), (some .int), (some .boolean), (some .int), (some .int), (some .boolean), (some .int), (some .boolean), (some .int), (some .boolean), (some .int), (some .int), (some .boolean), (some .int), (some .int), (some .int), (some .int), (some .int), (some .int), (some .int), (some .int), (some .boolean), (some .int), (some .int), (some .int), (some .int), (some .boolean), (some .int), (some .int), (some .int), (some .int), (some .int), (some .int), (some .int), (some .int), (some .int), (some .int), (some .int), (some .int), (some .int), (some .long), (some .long), (some .long), (some .long), (some .long), none, (some .int), (some .boolean), (some .int), (some .boolean), (some .int), (some .int), (some .int), (some .boolean), (some .int), (some .boolean), (some .int), (some .int), (some .boolean), (some .int), (some .int), (some .boolean), (some .int), (some .int), (some .int), (some .int), (some .int), (some .int), (some .int), (some .int), (some .int), (some .int), (some .int), (some .int), (some .boolean), (some .int), (some .int), (some .int), (some .int), (some .int), (some .boolean), (some .int), (some .int), (some .int), (some .boolean), (some .int), (some .int), (some .int), (some .int), (some .int), (some .boolean), none, none, (some .int), (some .int), (some .int), (some .int), (some .int), (some .int), (some .int), none, (some .int), (some .int), (some .int), none, (some .int), (some .int), (some .int), (some .long), none, none, none, (some .int), none, (some .boolean)]
def am_pl : List (Nat × Nat × Nat × Nat) := [(286, 285, 0, 64), (779, 777, 778, 64), (783, 782, 17, 64), (787, 786, 18, 64), (790, 789, 0, 64), (795, 793, 794, 64), (802, 801, 19, 64), (806, 804, 805, 64), (302, 301, 0, 65), (814, 812, 813, 65), (820, 819, 0, 65), (824, 823, 20, 65), (206, 205, 0, 60), (606, 604, 605, 60), (618, 616, 617, 60), (622, 620, 621, 60), (626, 624, 625, 60), (638, 636, 637, 60), (642, 641, 9, 60), (651, 649, 650, 60), (83, 82, 0, 55), (416, 414, 415, 55), (426, 425, 0, 55), (430, 429, 1, 55), (434, 433, 2, 55), (438, 436, 437, 55), (449, 447, 448, 55), (453, 451, 452, 55), (469, 467, 468, 55), (481, 479, 480, 55), (493, 491, 492, 55), (538, 536, 537, 55), (543, 541, 542, 55), (875, 873, 874, 55), (170, 169, 0, 59), (584, 582, 583, 59), (588, 587, 6, 59), (594, 593, 0, 59), (598, 597, 7, 59), (255, 254, 0, 62), (708, 707, 0, 62), (711, 710, 0, 62), (714, 713, 0, 62), (719, 717, 718, 62), (727, 725, 726, 62), (132, 131, 0, 56), (501, 499, 500, 56), (505, 503, 504, 56), (522, 520, 521, 56), (530, 528, 529, 56), (534, 532, 533, 56), (551, 549, 550, 56), (570, 568, 569, 56), (574, 572, 573, 56), (692, 690, 691, 56), (138, 137, 0, 57), (671, 669, 670, 57), (675, 673, 674, 57), (272, 271, 0, 63), (835, 833, 834, 63), (839, 837, 838, 63), (847, 845, 846, 63), (854, 853, 21, 63), (863, 862, 0, 63), (866, 865, 0, 63), (235, 234, 0, 61), (659, 657, 658, 61), (683, 681, 682, 61), (688, 686, 687, 61), (700, 698, 699, 61), (335, 334, 0, 66), (735, 733, 734, 66), (739, 738, 11, 66), (743, 742, 12, 66), (747, 746, 13, 66), (751, 750, 14, 66), (755, 754, 15, 66), (759, 758, 16, 66), (767, 765, 766, 66), (75, 74, 0, 54), (411, 409, 410, 54), (442, 440, 441, 54), (445, 444, 0, 54), (457, 455, 456, 54), (462, 460, 461, 54), (465, 464, 0, 54), (473, 471, 472, 54), (477, 476, 3, 54), (485, 483, 484, 54), (489, 488, 4, 54), (497, 495, 496, 54), (509, 507, 508, 54), (513, 512, 5, 54), (518, 516, 517, 54), (526, 524, 525, 54), (547, 545, 546, 54), (556, 554, 555, 54), (566, 564, 565, 54), (580, 578, 579, 54), (602, 600, 601, 54), (610, 608, 609, 54), (614, 613, 8, 54), (634, 632, 633, 54), (647, 645, 646, 54), (655, 653, 654, 54), (663, 661, 662, 54), (667, 666, 10, 54), (679, 677, 678, 54), (696, 694, 695, 54), (705, 703, 704, 54), (723, 721, 722, 54), (731, 729, 730, 54), (763, 761, 762, 54), (771, 769, 770, 54), (775, 773, 774, 54), (810, 808, 809, 54), (827, 826, 0, 54), (831, 829, 830, 54), (843, 841, 842, 54), (871, 869, 870, 54), (879, 877, 878, 54), (884, 883, 22, 54), (889, 888, 23, 54), (894, 893, 24, 54), (898, 897, 25, 54), (904, 903, 0, 67), (1036, 1034, 1035, 67), (1040, 1039, 0, 67), (1044, 1042, 1043, 67), (1047, 1046, 0, 67), (1053, 1051, 1052, 67), (1057, 1055, 1056, 67), (1062, 1060, 1061, 67), (1066, 1065, 26, 67), (1070, 1068, 1069, 67), (1074, 1073, 27, 67), (1078, 1077, 28, 67), (1081, 1080, 0, 67), (1085, 1084, 29, 67), (1089, 1087, 1088, 67), (1093, 1091, 1092, 67), (1097, 1096, 30, 67), (1101, 1099, 1100, 67), (1105, 1103, 1104, 67), (1109, 1108, 31, 67), (1113, 1112, 32, 67), (1117, 1115, 1116, 67), (1121, 1120, 33, 67), (1125, 1123, 1124, 67), (1129, 1127, 1128, 67), (1133, 1131, 1132, 67), (1138, 1137, 34, 67), (1142, 1140, 1141, 67), (1147, 1145, 1146, 67), (1151, 1150, 35, 67), (1155, 1154, 36, 67), (1159, 1157, 1158, 67), (1163, 1161, 1162, 67), (1167, 1165, 1166, 67), (1171, 1169, 1170, 67), (1175, 1174, 37, 67), (1180, 1178, 1179, 67), (1184, 1183, 38, 67), (1188, 1187, 39, 67), (1192, 1191, 40, 67), (1196, 1194, 1195, 67), (1200, 1198, 1199, 67), (1205, 1203, 1204, 67), (1209, 1207, 1208, 67), (1213, 1212, 41, 67), (1217, 1216, 42, 67), (1221, 1220, 43, 67), (1227, 1226, 44, 67), (1231, 1229, 1230, 67), (1235, 1233, 1234, 67), (1241, 1239, 1240, 67), (1247, 1246, 45, 67), (1250, 1249, 0, 67), (1254, 1253, 46, 67), (1258, 1256, 1257, 67), (1262, 1261, 47, 67), (1265, 1264, 0, 67), (1269, 1267, 1268, 67), (1274, 1272, 1273, 67), (1278, 1277, 48, 67), (1282, 1281, 49, 67), (1286, 1284, 1285, 67), (1290, 1289, 50, 67), (1294, 1292, 1293, 67), (1299, 1298, 51, 67), (1303, 1302, 52, 67), (142, 141, 0, 58), (419, 418, 0, 68), (850, 849, 0, 58), (0, 0, 0, 0)]
def am_on : List String := ["MouthRiddles$Changes", "MouthRiddles$Deal", "MouthRiddles$Heads", "MouthRiddles$Lore", "MouthRiddles$Maker", "MouthRiddles$Page", "MouthRiddles$Riddles", "MouthRiddles$Sight", "MouthRiddles$Stakes", "MouthRiddles$Tongues", "MouthRiddles$Tree", "MouthRiddles", "MouthRiddlesModel", "MouthRiddlesLaw", "java/lang/Integer", "java/util/Arrays"]
def am_fl : List ((Nat × Nat) × Nat × Nat × Nat × Bool × Nat) := [((0, 9), 0, 0, 2, false, 288), ((0, 15), 0, 1, 2, false, 289), ((0, 18), 0, 2, 2, false, 290), ((0, 35), 10, 3, 0, true, 343), ((0, 41), 10, 0, 2, true, 338), ((0, 48), 10, 1, 2, true, 340), ((1, 9), 1, 0, 2, false, 304), ((1, 15), 1, 1, 2, false, 305), ((1, 18), 1, 2, 2, false, 306), ((1, 21), 1, 3, 2, false, 307), ((1, 30), 1, 4, 0, false, 308), ((1, 34), 10, 4, 0, true, 346), ((1, 51), 1, 5, 0, false, 309), ((1, 54), 1, 6, 0, false, 310), ((1, 57), 1, 7, 0, false, 312), ((2, 13), 2, 1, 2, false, 212), ((2, 17), 2, 2, 2, false, 213), ((2, 21), 2, 3, 2, false, 214), ((2, 24), 2, 4, 2, false, 215), ((2, 27), 2, 5, 0, false, 216), ((2, 31), 2, 0, 2, false, 211), ((3, 9), 3, 0, 0, false, 85), ((3, 15), 3, 1, 0, false, 87), ((3, 18), 3, 2, 2, false, 90), ((3, 22), 3, 3, 2, false, 92), ((3, 25), 3, 4, 2, false, 93), ((3, 28), 3, 5, 2, false, 94), ((3, 31), 3, 6, 2, false, 95), ((3, 34), 3, 7, 2, false, 97), ((3, 37), 3, 8, 2, false, 99), ((3, 40), 3, 9, 2, false, 101), ((3, 43), 3, 10, 2, false, 103), ((3, 61), 7, 0, 2, true, 144), ((4, 9), 4, 0, 2, false, 174), ((4, 15), 4, 1, 2, false, 175), ((4, 18), 4, 2, 2, false, 176), ((4, 21), 4, 3, 2, false, 177), ((4, 29), 4, 4, 2, false, 178), ((4, 37), 4, 7, 0, false, 181), ((4, 41), 4, 8, 0, false, 182), ((4, 54), 4, 5, 0, false, 179), ((4, 57), 4, 6, 0, false, 180), ((4, 60), 3, 1, 0, true, 88), ((5, 9), 5, 0, 2, false, 257), ((5, 15), 5, 1, 0, false, 260), ((6, 14), 6, 1, 2, false, 149), ((6, 20), 6, 2, 2, false, 150), ((6, 24), 6, 3, 2, false, 151), ((6, 27), 6, 4, 0, false, 153), ((6, 31), 6, 0, 2, false, 148), ((7, 9), 7, 0, 2, false, 143), ((8, 9), 8, 0, 2, false, 274), ((8, 15), 8, 1, 2, false, 275), ((9, 11), 9, 1, 2, false, 240), ((9, 17), 9, 2, 0, false, 242), ((9, 21), 9, 0, 2, false, 239), ((10, 9), 10, 0, 2, false, 337), ((10, 15), 10, 1, 2, false, 339), ((10, 18), 10, 2, 2, false, 341), ((10, 21), 10, 3, 0, false, 342), ((10, 25), 10, 4, 0, false, 345), ((10, 28), 10, 5, 0, false, 347), ((10, 31), 10, 6, 1, false, 348), ((10, 35), 5, 1, 0, true, 261), ((10, 40), 5, 0, 2, true, 258), ((11, 10), 11, 0, 2, false, 365), ((11, 21), 11, 1, 2, false, 366), ((11, 28), 11, 2, 2, false, 367), ((11, 37), 11, 3, 2, false, 368), ((11, 44), 11, 4, 2, false, 369), ((11, 51), 11, 5, 2, false, 370), ((11, 58), 11, 6, 2, false, 371), ((11, 65), 11, 7, 2, false, 372), ((11, 72), 11, 8, 2, false, 373), ((11, 76), 11, 9, 2, false, 374), ((11, 83), 11, 10, 2, false, 375), ((11, 87), 11, 11, 2, false, 376), ((11, 90), 11, 12, 0, false, 377), ((11, 94), 11, 13, 0, false, 378), ((11, 104), 3, 0, 0, true, 86), ((11, 119), 3, 6, 2, true, 96), ((11, 132), 3, 1, 0, true, 89), ((11, 151), 6, 4, 0, true, 154), ((11, 160), 6, 3, 2, true, 152), ((11, 193), 2, 5, 0, true, 217), ((11, 215), 9, 2, 0, true, 243), ((11, 222), 9, 1, 2, true, 241), ((11, 248), 5, 1, 0, true, 262), ((11, 266), 10, 3, 0, true, 344), ((11, 284), 1, 6, 0, true, 311), ((11, 287), 1, 7, 0, true, 313), ((11, 327), 5, 0, 2, true, 259), ((11, 333), 3, 2, 2, true, 91), ((11, 336), 3, 7, 2, true, 98), ((11, 339), 3, 8, 2, true, 100), ((11, 342), 3, 9, 2, true, 102), ((12, 7), 12, 1, 2, false, 907), ((12, 13), 12, 2, 2, false, 908), ((12, 16), 12, 3, 2, false, 909), ((12, 19), 12, 5, 2, false, 911), ((12, 22), 12, 6, 2, false, 912), ((12, 25), 12, 7, 2, false, 913), ((12, 28), 12, 9, 2, false, 915), ((12, 31), 12, 10, 2, false, 916), ((12, 34), 12, 12, 2, false, 918), ((12, 37), 12, 13, 2, false, 919), ((12, 40), 12, 15, 2, false, 921), ((12, 43), 12, 16, 2, false, 922), ((12, 46), 12, 19, 2, false, 925), ((12, 49), 12, 20, 2, false, 926), ((12, 52), 12, 23, 2, false, 929), ((12, 55), 12, 24, 2, false, 930), ((12, 58), 12, 25, 2, false, 931), ((12, 61), 12, 30, 2, false, 936), ((12, 64), 12, 31, 2, false, 937), ((12, 67), 12, 32, 2, false, 938), ((12, 70), 12, 33, 2, false, 939), ((12, 73), 12, 34, 2, false, 940), ((12, 76), 12, 35, 2, false, 941), ((12, 79), 12, 37, 2, false, 943), ((12, 82), 12, 38, 2, false, 944), ((12, 85), 12, 39, 2, false, 945), ((12, 88), 12, 40, 2, false, 946), ((12, 97), 12, 0, 0, false, 906), ((12, 111), 12, 4, 0, false, 910), ((12, 132), 12, 8, 0, false, 914), ((12, 150), 12, 11, 0, false, 917), ((12, 158), 12, 14, 0, false, 920), ((12, 161), 12, 17, 0, false, 923), ((12, 170), 12, 18, 0, false, 924), ((12, 190), 12, 21, 0, false, 927), ((12, 193), 12, 29, 0, false, 935), ((12, 196), 12, 27, 0, false, 933), ((12, 199), 12, 26, 1, false, 932), ((12, 211), 12, 28, 0, false, 934), ((12, 224), 12, 22, 0, false, 928), ((12, 245), 12, 36, 0, false, 942), ((12, 268), 12, 41, 3, false, 947)]
def am_ml : List ((Nat × Nat) × Nat × Bool × Nat) := [((0, 3), 1000, false, 287), ((0, 21), 2, false, 780), ((0, 25), 4, false, 788), ((0, 29), 1001, false, 796), ((0, 44), 6, false, 799), ((0, 51), 3, false, 784), ((0, 54), 1002, false, 791), ((1, 3), 1000, false, 303), ((1, 24), 191, false, 815), ((1, 39), 1001, false, 816), ((1, 45), 1, false, 817), ((1, 60), 10, false, 818), ((1, 64), 11, false, 821), ((2, 3), 1000, false, 207), ((2, 35), 55, false, 210), ((2, 38), 15, false, 619), ((2, 42), 16, false, 623), ((2, 45), 50, false, 627), ((2, 51), 192, false, 628), ((2, 57), 14, false, 643), ((2, 60), 18, false, 639), ((3, 3), 1000, false, 84), ((3, 46), 192, false, 417), ((3, 52), 22, false, 423), ((3, 55), 25, false, 435), ((3, 64), 23, false, 427), ((3, 67), 24, false, 431), ((4, 3), 1000, false, 171), ((4, 26), 55, false, 173), ((4, 33), 36, false, 585), ((4, 44), 31, false, 591), ((4, 50), 37, false, 592), ((4, 63), 30, false, 589), ((4, 67), 32, false, 590), ((4, 71), 38, false, 595), ((5, 3), 1000, false, 256), ((5, 19), 42, false, 712), ((5, 23), 41, false, 709), ((6, 3), 1000, false, 133), ((6, 11), 55, false, 136), ((6, 35), 47, false, 502), ((6, 39), 50, false, 531), ((6, 43), 31, false, 535), ((6, 49), 48, false, 539), ((6, 52), 32, false, 540), ((6, 56), 192, false, 575), ((6, 62), 53, false, 571), ((6, 65), 30, false, 552), ((7, 3), 1000, false, 139), ((7, 15), 191, false, 140), ((8, 3), 1000, false, 273), ((8, 19), 60, false, 836), ((8, 23), 193, false, 848), ((8, 29), 62, false, 851), ((8, 38), 1004, false, 858), ((9, 3), 1000, false, 236), ((9, 25), 55, false, 238), ((9, 28), 50, false, 684), ((9, 34), 54, false, 689), ((9, 37), 68, false, 701), ((10, 3), 1000, false, 336), ((10, 43), 72, false, 736), ((10, 47), 73, false, 740), ((10, 51), 75, false, 748), ((10, 54), 76, false, 752), ((10, 57), 77, false, 756), ((10, 60), 74, false, 744), ((11, 1), 1000, false, 76), ((11, 9), 20, true, 81), ((11, 18), 45, false, 130), ((11, 27), 34, true, 168), ((11, 34), 12, false, 204), ((11, 43), 65, false, 233), ((11, 50), 39, true, 253), ((11, 57), 58, true, 270), ((11, 64), 0, true, 284), ((11, 71), 8, true, 300), ((11, 82), 70, true, 333), ((11, 97), 191, false, 364), ((11, 107), 21, false, 413), ((11, 111), 82, false, 443), ((11, 115), 26, false, 446), ((11, 122), 27, false, 450), ((11, 126), 25, false, 458), ((11, 129), 85, false, 463), ((11, 135), 28, false, 466), ((11, 139), 87, false, 474), ((11, 142), 29, false, 478), ((11, 145), 89, false, 486), ((11, 148), 30, false, 490), ((11, 154), 46, false, 498), ((11, 157), 92, false, 510), ((11, 163), 47, false, 514), ((11, 166), 48, false, 519), ((11, 169), 49, false, 527), ((11, 172), 51, false, 548), ((11, 175), 1002, false, 557), ((11, 180), 1003, false, 560), ((11, 183), 52, false, 567), ((11, 186), 53, false, 576), ((11, 189), 35, false, 581), ((11, 194), 13, false, 603), ((11, 197), 101, false, 611), ((11, 200), 14, false, 615), ((11, 203), 16, false, 629), ((11, 206), 15, false, 630), ((11, 209), 17, false, 635), ((11, 212), 19, false, 648), ((11, 216), 66, false, 656), ((11, 219), 106, false, 664), ((11, 226), 56, false, 668), ((11, 231), 57, false, 672), ((11, 235), 67, false, 680), ((11, 238), 68, false, 685), ((11, 241), 69, false, 697), ((11, 244), 40, false, 706), ((11, 249), 41, false, 715), ((11, 253), 43, false, 716), ((11, 255), 44, false, 724), ((11, 258), 71, false, 732), ((11, 262), 78, false, 764), ((11, 269), 1, false, 776), ((11, 273), 5, false, 792), ((11, 277), 7, false, 803), ((11, 280), 9, false, 811), ((11, 290), 116, false, 825), ((11, 293), 59, false, 832), ((11, 296), 61, false, 844), ((11, 300), 63, false, 861), ((11, 303), 64, false, 864), ((11, 307), 33, false, 872), ((11, 312), 121, false, 881), ((11, 316), 122, false, 886), ((11, 319), 123, false, 891), ((11, 322), 124, false, 895), ((11, 330), 119, false, 899), ((11, 345), 60, false, 890), ((12, 1), 1000, false, 905), ((12, 93), 127, false, 1038), ((12, 103), 129, false, 1045), ((12, 114), 133, false, 1063), ((12, 117), 137, false, 1079), ((12, 121), 138, false, 1082), ((12, 125), 135, false, 1071), ((12, 128), 136, false, 1075), ((12, 135), 141, false, 1094), ((12, 138), 145, false, 1110), ((12, 141), 144, false, 1106), ((12, 144), 147, false, 1118), ((12, 153), 151, false, 1135), ((12, 164), 154, false, 1148), ((12, 167), 155, false, 1152), ((12, 173), 160, false, 1172), ((12, 178), 163, false, 1185), ((12, 181), 162, false, 1181), ((12, 184), 164, false, 1189), ((12, 203), 171, false, 1218), ((12, 214), 172, false, 1224), ((12, 217), 170, false, 1214), ((12, 220), 169, false, 1210), ((12, 231), 177, false, 1248), ((12, 235), 176, false, 1244), ((12, 242), 178, false, 1251), ((12, 248), 180, false, 1259), ((12, 252), 181, false, 1263), ((12, 257), 184, false, 1275), ((12, 260), 185, false, 1279), ((12, 263), 187, false, 1287), ((12, 272), 190, false, 1300), ((12, 278), 189, false, 1296), ((13, 9), 79, false, 73), ((13, 12), 125, false, 902), ((13, 13), 80, false, 408), ((13, 17), 126, false, 1033), ((13, 18), 81, false, 439), ((13, 22), 128, false, 1041), ((13, 23), 83, false, 454), ((13, 26), 130, false, 1050), ((13, 27), 84, false, 459), ((13, 31), 131, false, 1054), ((13, 32), 86, false, 470), ((13, 35), 132, false, 1059), ((13, 36), 88, false, 482), ((13, 39), 134, false, 1067), ((13, 40), 90, false, 494), ((13, 43), 139, false, 1086), ((13, 44), 91, false, 506), ((13, 47), 140, false, 1090), ((13, 48), 93, false, 515), ((13, 51), 142, false, 1098), ((13, 52), 94, false, 523), ((13, 55), 143, false, 1102), ((13, 56), 95, false, 544), ((13, 59), 146, false, 1114), ((13, 60), 96, false, 553), ((13, 63), 148, false, 1122), ((13, 64), 97, false, 563), ((13, 67), 149, false, 1126), ((13, 68), 98, false, 577), ((13, 71), 150, false, 1130), ((13, 72), 99, false, 599), ((13, 75), 152, false, 1139), ((13, 76), 100, false, 607), ((13, 79), 153, false, 1144), ((13, 80), 102, false, 631), ((13, 83), 156, false, 1156), ((13, 84), 103, false, 644), ((13, 87), 157, false, 1160), ((13, 88), 104, false, 652), ((13, 92), 158, false, 1164), ((13, 93), 105, false, 660), ((13, 97), 159, false, 1168), ((13, 98), 107, false, 676), ((13, 102), 161, false, 1177), ((13, 103), 108, false, 693), ((13, 106), 165, false, 1193), ((13, 109), 109, false, 702), ((13, 113), 166, false, 1197), ((13, 114), 110, false, 720), ((13, 117), 167, false, 1202), ((13, 118), 111, false, 728), ((13, 121), 168, false, 1206), ((13, 122), 112, false, 760), ((13, 125), 173, false, 1228), ((13, 126), 113, false, 768), ((13, 129), 174, false, 1232), ((13, 130), 114, false, 772), ((13, 133), 175, false, 1238), ((13, 134), 115, false, 807), ((13, 137), 179, false, 1255), ((13, 138), 117, false, 828), ((13, 141), 182, false, 1266), ((13, 142), 118, false, 840), ((13, 145), 183, false, 1271), ((13, 146), 119, false, 868), ((13, 149), 186, false, 1283), ((13, 150), 120, false, 876), ((13, 154), 188, false, 1291)]
def am_cl : List ((Nat × Nat) × Nat × Nat) := [((2, 11), 7, 208), ((4, 24), 7, 172), ((6, 9), 7, 134), ((9, 9), 7, 237), ((11, 7), 3, 79), ((11, 16), 6, 128), ((11, 25), 4, 166), ((11, 32), 2, 202), ((11, 41), 9, 231), ((11, 48), 5, 251), ((11, 55), 8, 268), ((11, 62), 0, 282), ((11, 69), 1, 298), ((11, 80), 10, 331), ((13, 7), 11, 71), ((13, 10), 12, 900)]
def am_ki : List ((Nat × Nat) × Int × Nat) := [((11, 103), 16777216, 412), ((14, 265), 1431655765, 420), ((14, 266), 858993459, 421), ((14, 267), 252645135, 422)]
def am_kl : List ((Nat × Nat) × Nat × Nat) := [((8, 33), 1771561, 855), ((8, 44), 11, 867), ((11, 310), 349, 880), ((11, 325), 31, 885), ((12, 91), 16777215, 1037), ((12, 101), 15, 1048), ((12, 107), 23, 1049), ((12, 109), 5, 1058), ((12, 148), 6, 1134), ((12, 156), 99, 1143), ((12, 176), 2, 1176), ((12, 188), 255, 1201), ((12, 207), 97, 1222), ((12, 209), 104, 1223), ((12, 227), 7, 1236), ((12, 229), 18446744073709551615, 1237), ((12, 238), 10, 1242), ((12, 240), 39, 1243), ((12, 255), 999, 1270), ((12, 266), 31, 1304), ((12, 276), 349, 1295), ((13, 107), 4294967295, 1305)]
def am_sg : Nat × Nat × Nat := (8, 35, 856)
def am_df : List (List Value) := [[.null, .null, .null], [.null, .null, .null, .null, .int 0, .int 0, .int 0, .int 0], [.null, .null, .null, .null, .null, .int 0], [.int 0, .int 0, .null, .null, .null, .null, .null, .null, .null, .null, .null], [.null, .null, .null, .null, .null, .int 0, .int 0, .int 0, .int 0], [.null, .int 0], [.null, .null, .null, .null, .int 0], [.null], [.null, .null], [.null, .null, .int 0], [.null, .null, .null, .int 0, .int 0, .int 0, .int 0], [.null, .null, .null, .null, .null, .null, .null, .null, .null, .null, .null, .null, .int 0, .int 0], [.int 0, .null, .null, .null, .int 0, .null, .null, .null, .int 0, .null, .null, .int 0, .null, .null, .int 0, .null, .null, .int 0, .int 0, .null, .null, .int 0, .int 0, .null, .null, .null, .int 0, .int 0, .int 0, .int 0, .null, .null, .null, .null, .null, .null, .int 0, .null, .null, .null, .null, .long 0]]
def am_tc : List (List Nat) := [[2, 2, 2], [2, 2, 2, 2, 0, 0, 0, 0], [2, 2, 2, 2, 2, 0], [0, 0, 2, 2, 2, 2, 2, 2, 2, 2, 2], [2, 2, 2, 2, 2, 0, 0, 0, 0], [2, 0], [2, 2, 2, 2, 0], [2], [2, 2], [2, 2, 0], [2, 2, 2, 0, 0, 0, 1], [2, 2, 2, 2, 2, 2, 2, 2, 2, 2, 2, 2, 0, 0], [0, 2, 2, 2, 0, 2, 2, 2, 0, 2, 2, 0, 2, 2, 0, 2, 2, 0, 0, 2, 2, 0, 0, 2, 2, 2, 1, 0, 0, 0, 2, 2, 2, 2, 2, 2, 0, 2, 2, 2, 2, 3]]
/-- places of instantiable and initialized of each class, and of its lays words -/
def am_cp : List (Nat × Nat × List Nat) := [(283, 64, [291, 293, 295]), (299, 65, [314, 316, 318, 320, 322, 324, 326, 328]), (203, 60, [218, 220, 222, 224, 226, 228]), (80, 55, [104, 106, 108, 110, 112, 114, 116, 118, 120, 122, 124]), (167, 59, [183, 185, 187, 189, 191, 193, 195, 197, 199]), (252, 62, [263, 265]), (129, 56, [155, 157, 159, 161, 163]), (135, 57, [145]), (269, 63, [276, 278]), (232, 61, [244, 246, 248]), (332, 66, [349, 351, 353, 355, 357, 359, 361]), (72, 54, [379, 381, 383, 385, 387, 389, 391, 393, 395, 397, 399, 401, 403, 405]), (901, 67, [948, 950, 952, 954, 956, 958, 960, 962, 964, 966, 968, 970, 972, 974, 976, 978, 980, 982, 984, 986, 988, 990, 992, 994, 996, 998, 1000, 1002, 1004, 1006, 1008, 1010, 1012, 1014, 1016, 1018, 1020, 1022, 1024, 1026, 1028, 1030])]
end
section
/-! THE ABSTRACT MACHINE: frames are lists, the heap a function from small numbers to cells; 0 is the static array, 1 the script. -/
abbrev am_E : Type := (Nat × vp_A) ⊕ (Nat × List Value)
/-- the next free number, the slots so far, the cells -/
abbrev am_H : Type := Nat × Nat × (Nat → am_E)
/-- method, instructions left in the block, the block behind it, locals, stack -/
abbrev am_F : Type := Nat × List Instr × Nat × List Value × List Value
def am_no : am_E := .inl (9, 0, .inl (fun _ => 0))
def am_blk (y pc : Nat) : Option (List Instr × Nat) := (am_cds.getD y []).lookup pc
def am_m (q : Nat) : Nat × Nat × Nat × Nat := am_ms.getD q (0, 0, 0, 0)
def am_oc (q : Nat) : Nat := (am_m q).1
def am_nl (q : Nat) : Nat := (am_m q).2.2.1
/-- an index in its row, as a Bool -/
def vp_inB (i : Int32) (n : Nat) : Bool := !decide (i < 0) && decide (i.toNatClampNeg < n)
def am_isI : Value → Bool
  | .int _ => true
  | _ => false
def am_isL : Value → Bool
  | .long _ => true
  | _ => false
def am_isR : Value → Bool
  | .ref _ => true
  | _ => false
def am_ld (ls : List Value) (k : Nat) (w : Value → Bool) (st : List Value) : Option (List Value) := match ls[k]? with
  | some v => if w v = true then some (v :: st) else none
  | none => none
def am_i1 (f : Int32 → Int32) : List Value → Option (List Value)
  | .int a :: r => some (.int (f a) :: r)
  | _ => none
def am_i2 (f : Int32 → Int32 → Int32) : List Value → Option (List Value)
  | .int b :: .int a :: r => some (.int (f a b) :: r)
  | _ => none
def am_d2 (f : Int32 → Int32 → Int32) : List Value → Option (List Value)
  | .int b :: .int a :: r => if b = 0 then none else some (.int (f a b) :: r)
  | _ => none
def am_l2 (f : Int64 → Int64 → Int64) : List Value → Option (List Value)
  | .long b :: .long a :: r => some (.long (f a b) :: r)
  | _ => none
def am_e2 (f : Int64 → Int64 → Int64) : List Value → Option (List Value)
  | .long b :: .long a :: r => if b = 0 then none else some (.long (f a b) :: r)
  | _ => none
def am_s2 (f : Int64 → Int32 → Int64) : List Value → Option (List Value)
  | .int b :: .long a :: r => some (.long (f a b) :: r)
  | _ => none
/-- instructions on the stack alone -/
def am_sop (i : Instr) (ls st : List Value) : Option (List Value) := match i with
  | .iconst n => some (.int (Int32.ofInt n) :: st)
  | .ldc2_w k => some (.long (Int64.ofNat k) :: st)
  | .iload k => am_ld ls k am_isI st
  | .lload k => am_ld ls k am_isL st
  | .aload k => am_ld ls k am_isR st
  | .iadd => am_i2 (fun a b => a + b) st
  | .isub => am_i2 (fun a b => a - b) st
  | .imul => am_i2 (fun a b => a * b) st
  | .iand => am_i2 (fun a b => a &&& b) st
  | .ior => am_i2 (fun a b => a ||| b) st
  | .ixor => am_i2 (fun a b => a ^^^ b) st
  | .idiv => am_d2 (fun a b => a / b) st
  | .irem => am_d2 (fun a b => a - a / b * b) st
  | .ineg => am_i1 (fun a => -a) st
  | .ishl => am_i2 (fun a b => a <<< (b &&& 31)) st
  | .ishr => am_i2 (fun a b => a >>> (b &&& 31)) st
  | .iushr => am_i2 (fun a b => (a.toUInt32 >>> (b.toUInt32 &&& Int32.toUInt32 31)).toInt32) st
  | .ladd => am_l2 (fun a b => a + b) st
  | .lsub => am_l2 (fun a b => a - b) st
  | .lmul => am_l2 (fun a b => a * b) st
  | .land => am_l2 (fun a b => a &&& b) st
  | .lor => am_l2 (fun a b => a ||| b) st
  | .ldiv => am_e2 (fun a b => a / b) st
  | .lrem => am_e2 (fun a b => a - a / b * b) st
  | .lshl => am_s2 (fun a b => a <<< (b.toInt64 &&& 63)) st
  | .lushr => am_s2 (fun a b => (a.toUInt64 >>> (b.toInt64.toUInt64 &&& Int64.toUInt64 63)).toInt64) st
  | .lcmp => match st with
    | .long b :: .long a :: r => some (.int (lg_cmp a b) :: r)
    | _ => none
  | .i2l => match st with
    | .int a :: r => some (.long a.toInt64 :: r)
    | _ => none
  | .l2i => match st with
    | .long a :: r => some (.int a.toInt32 :: r)
    | _ => none
  | .dup => match st with
    | .int a :: r => some (.int a :: .int a :: r)
    | .ref a :: r => some (.ref a :: .ref a :: r)
    | _ => none
  | .pop => match st with
    | .int _ :: r => some r
    | .ref _ :: r => some r
    | _ => none
  | .dup2 => match st with
    | .int a :: .ref b :: r => some (.int a :: .ref b :: .int a :: .ref b :: r)
    | _ => none
  | .getstatic 0 => some (.ref 0 :: st)
  | .dadd => match st with
    | .int b :: .int a :: r => if (r.map Value.category).sum ≤ 8 then some (.int (if b < a then b else a) :: r) else none
    | _ => none
  | .dsub => match st with
    | .int b :: .int a :: r => if (r.map Value.category).sum ≤ 8 then some (.int (if a < b then b else a) :: r) else none
    | _ => none
  | .dmul => match st with
    | .long b :: .long a :: r => if (r.map Value.category).sum ≤ 8 then some (.long (if b < a then a else b) :: r) else none
    | _ => none
  | .monitorenter => match st with
    | .ref _ :: r => if (r.map Value.category).sum ≤ 8 then some r else none
    | _ => none
  | _ => none
def am_ok (ls : List Value) : Nat → Bool
  | 0 => decide (0 < ls.length)
  | j + 1 => decide (j + 1 < ls.length) && (match ls[j]? with
    | some v => v.category == 1
    | none => true)
/-- instructions that write locals -/
def am_lop (i : Instr) (ls st : List Value) : Option (List Value × List Value) := match i with
  | .istore k => match st with
    | .int a :: r => if am_ok ls k = true then some (ls.set k (.int a), r) else none
    | _ => none
  | .astore k => match st with
    | .ref a :: r => if am_ok ls k = true then some (ls.set k (.ref a), r) else none
    | _ => none
  | .lstore k => match st with
    | .long a :: r => if (am_ok ls k && decide (k + 1 < ls.length)) = true then some ((ls.set (k + 1) .null).set k (.long a), r) else none
    | _ => none
  | .iinc k n => match ls[k]? with
    | some (.int a) => if am_ok ls k = true then some (ls.set k (.int (a + Int32.ofInt n)), st) else none
    | _ => none
  | _ => none
def am_set (h : am_H) (k : Nat) (c : am_E) : am_H := (h.1, h.2.1, va_up h.2.2 k c)
def am_new (h : am_H) (m : Nat) (c : am_E) : am_H := (h.1 + 1, h.2.1 + m, va_up h.2.2 h.1 c)
def am_fit : Nat → Value → Bool
  | 0, .int _ => true
  | 1, .int x => x == 0 || x == 1
  | 2, .ref _ => true
  | 3, .long _ => true
  | _, _ => false
/-- what is read of a cell -/
def am_get (c : am_E) (q : Nat) (r : List Value) : Option (List Value) := match c with
  | .inr (ci, fs) => if ci = q / 64 then (match fs[q % 64]? with
    | some v => if v = .null then none else some (v :: r)
    | none => none) else none
  | _ => none
def am_rd (c : am_E) (i : Int32) (r : List Value) : Option (List Value) := match c with
  | .inl (0, n, .inl f) => if vp_inB i n = true then some (.int (f i.toNatClampNeg) :: r) else none
  | .inl (3, n, .inl f) => if vp_inB i n = true then some (.int (f i.toNatClampNeg) :: r) else none
  | _ => none
def am_rdl (c : am_E) (i : Int32) (r : List Value) : Option (List Value) := match c with
  | .inl (1, n, .inr (.inl f)) => if vp_inB i n = true then some (.long (f i.toNatClampNeg) :: r) else none
  | .inl (4, n, .inr (.inl f)) => if vp_inB i n = true then some (.long (f i.toNatClampNeg) :: r) else none
  | _ => none
def am_rda (c : am_E) (i : Int32) (r : List Value) : Option (List Value) := match c with
  | .inl (2, n, .inr (.inr (.inr (.inr f)))) => if vp_inB i n = true then (match f i.toNatClampNeg with
    | some a => some (.ref a :: r)
    | none => none) else none
  | _ => none
def am_len (c : am_E) (r : List Value) : Option (List Value) := match c with
  | .inl (0, n, .inl _) => some (.int (Int32.ofNat n) :: r)
  | .inl (1, n, .inr (.inl _)) => some (.int (Int32.ofNat n) :: r)
  | .inl (3, n, .inl _) => some (.int (Int32.ofNat n) :: r)
  | _ => none
/-- what a cell becomes -/
def am_wf (c : am_E) (q : Nat) (v : Value) : Option am_E := match c with
  | .inr (ci, fs) => if ci = q / 64 % 64 ∧ q % 64 < fs.length ∧ am_fit (q / 4096) v = true then some (.inr (ci, fs.set (q % 64) v)) else none
  | _ => none
def am_wi (c : am_E) (i x : Int32) : Option am_E := match c with
  | .inl (0, n, .inl f) => if vp_inB i n = true then some (.inl (0, n, .inl (upd f i.toNatClampNeg x))) else none
  | _ => none
def am_wl (c : am_E) (i : Int32) (x : Int64) : Option am_E := match c with
  | .inl (1, n, .inr (.inl f)) => if vp_inB i n = true then some (.inl (1, n, .inr (.inl (vp_updL f i.toNatClampNeg x)))) else none
  | _ => none
def am_wa (c : am_E) (i : Int32) (x : Nat) : Option am_E := match c with
  | .inl (2, n, .inr (.inr (.inr (.inr f)))) => if vp_inB i n = true then some (.inl (2, n, .inr (.inr (.inr (.inr (va_up f i.toNatClampNeg (some x))))))) else none
  | _ => none
def am_isS (c : am_E) : Bool := match c with
  | .inr (7, _) => true
  | _ => false
def am_wc (c d : am_E) (sp dp n : Int32) : Option am_E := match c, d with
  | .inl (0, n0, .inl f), .inl (0, n1, .inl g) => if ¬ sp < 0 ∧ ¬ dp < 0 ∧ ¬ n < 0 ∧ sp.toNatClampNeg + n.toNatClampNeg ≤ n0 ∧ dp.toNatClampNeg + n.toNatClampNeg ≤ n1 then some (.inl (0, n1, .inl (va_cpy f g sp.toNatClampNeg dp.toNatClampNeg n.toNatClampNeg))) else none
  | _, _ => none
/-- instructions on the heap -/
def am_hop (i : Instr) (st : List Value) (h : am_H) : Option (List Value × am_H) := match i with
  | .getfield q => match st with
    | .ref k :: r => (am_get (h.2.2 k) q r).map (fun z => (z, h))
    | _ => none
  | .putfield q => match st with
    | v :: .ref k :: r => (am_wf (h.2.2 k) q v).map (fun c => (r, am_set h k c))
    | _ => none
  | .iaload => match st with
    | .int i :: .ref k :: r => (am_rd (h.2.2 k) i r).map (fun z => (z, h))
    | _ => none
  | .laload => match st with
    | .int i :: .ref k :: r => (am_rdl (h.2.2 k) i r).map (fun z => (z, h))
    | _ => none
  | .aaload => match st with
    | .int i :: .ref k :: r => (am_rda (h.2.2 k) i r).map (fun z => (z, h))
    | _ => none
  | .arraylength => match st with
    | .ref k :: r => (am_len (h.2.2 k) r).map (fun z => (z, h))
    | _ => none
  | .iastore => match st with
    | .int x :: .int i :: .ref k :: r => (am_wi (h.2.2 k) i x).map (fun c => (r, am_set h k c))
    | _ => none
  | .lastore => match st with
    | .long x :: .int i :: .ref k :: r => (am_wl (h.2.2 k) i x).map (fun c => (r, am_set h k c))
    | _ => none
  | .aastore => match st with
    | .ref x :: .int i :: .ref k :: r => if am_isS (h.2.2 x) = true then (am_wa (h.2.2 k) i x).map (fun c => (r, am_set h k c)) else none
    | _ => none
  | .new ci => some (.ref h.1 :: st, am_new h (am_df.getD ci []).length (.inr (ci, am_df.getD ci [])))
  | .newarray .int => match st with
    | .int n :: r => if ¬ n < 0 ∧ n.toNatClampNeg ≤ 100000 then some (.ref h.1 :: r, am_new h n.toNatClampNeg (.inl (0, n.toNatClampNeg, .inl (fun _ => 0)))) else none
    | _ => none
  | .newarray .long => match st with
    | .int n :: r => if ¬ n < 0 ∧ n.toNatClampNeg ≤ 100000 then some (.ref h.1 :: r, am_new h n.toNatClampNeg (.inl (1, n.toNatClampNeg, .inr (.inl (fun _ => 0))))) else none
    | _ => none
  | .anewarray 2 => match st with
    | .int n :: r => if ¬ n < 0 ∧ n.toNatClampNeg ≤ 100000 then some (.ref h.1 :: r, am_new h n.toNatClampNeg (.inl (2, n.toNatClampNeg, .inr (.inr (.inr (.inr (fun _ => none))))))) else none
    | _ => none
  | .invokedynamic 0 => match st with
    | .int n :: .int dp :: .ref k1 :: .int sp :: .ref k0 :: r => if (r.map Value.category).sum ≤ 8 then (am_wc (h.2.2 k0) (h.2.2 k1) sp dp n).map (fun c => (r, am_set h k1 c)) else none
    | _ => none
  | _ => none
def am_cn : ClassFile.Cond → Int32 → Int32 → Prop
  | .eq, a, b => a = b
  | .ne, a, b => ¬ a = b
  | .lt, a, b => a < b
  | .ge, a, b => b ≤ a
  | .gt, a, b => b < a
  | .le, a, b => a ≤ b
def am_cb (c : ClassFile.Cond) (a b : Int32) : Bool := match c with
  | .eq => decide (a = b)
  | .ne => !decide (a = b)
  | .lt => decide (a < b)
  | .ge => decide (b ≤ a)
  | .gt => decide (b < a)
  | .le => decide (a ≤ b)
/-- jumps: the block that it goes to, if any -/
def am_jop (i : Instr) (st : List Value) : Option (Option Nat × List Value) := match i with
  | .goto t => some (some t.toNat, st)
  | .ifCond c t => match st with
    | .int a :: r => some (if am_cb c a 0 = true then some t.toNat else none, r)
    | _ => none
  | .if_icmp c t => match st with
    | .int b :: .int a :: r => some (if am_cb c a b = true then some t.toNat else none, r)
    | _ => none
  | .tableswitch d lo hi ts => match st with
    | .int a :: r => if a.toInt < lo ∨ hi < a.toInt then some (some d.toNat, r) else (match ts[(a.toInt - lo).toNat]? with
      | some t => some (some t.toNat, r)
      | none => none)
    | _ => none
  | _ => none
/-- one instruction that is no call and no return -/
def am_stp (y : Nat) (i : Instr) (is : List Instr) (nx : Nat) (ls st : List Value) (h : am_H) : Option (am_F × am_H) :=
  match am_sop i ls st with
  | some st' => some ((y, is, nx, ls, st'), h)
  | none => match am_lop i ls st with
    | some p => some ((y, is, nx, p.1, p.2), h)
    | none => match am_hop i st h with
      | some p => some ((y, is, nx, ls, p.1), p.2)
      | none => match am_jop i st with
        | some (some t, r) => some ((y, [], t, ls, r), h)
        | some (none, r) => some ((y, is, nx, ls, r), h)
        | none => none
def am_ret (i : Instr) (st : List Value) : Option (Option Value) := match i with
  | .ireturn => match st with
    | [.int v] => some (some (.int v))
    | _ => none
  | .freturn => match st with
    | [.int v] => if v = 0 ∨ v = 1 then some (some (.int v)) else none
    | _ => none
  | .lreturn => match st with
    | [.long v] => some (some (.long v))
    | _ => none
  | .return_ => match st with
    | [] => some none
    | _ => none
  | _ => none
def am_lay (as : List Value) : List Value := as.flatMap (fun v => if v.category = 2 then [v, .null] else [v])
def am_rcv (rc : Nat) (as : List Value) (h : am_H) : Bool := match as with
  | .ref k :: _ => (match h.2.2 k with
    | .inr (ci, _) => ci == rc
    | _ => false)
  | _ => false
/-- a call: the frame of the called one, what stays on the stack -/
def am_call (i : Instr) (st : List Value) (h : am_H) : Option (Nat × List Value × List Value) := match i with
  | .invokevirtual q => if st.length < (am_m q).2.1 ∨ am_rcv (am_m q).2.2.2 (st.take (am_m q).2.1).reverse h = false then none else some (q, (st.take (am_m q).2.1).reverse, st.drop (am_m q).2.1)
  | .invokespecial q => if st.length < (am_m q).2.1 ∨ am_rcv (am_m q).2.2.2 (st.take (am_m q).2.1).reverse h = false then none else some (q, (st.take (am_m q).2.1).reverse, st.drop (am_m q).2.1)
  | .invokestatic q => if st.length < (am_m q).2.1 ∨ ¬ (am_m q).2.2.2 = 99 then none else some (q, (st.take (am_m q).2.1).reverse, st.drop (am_m q).2.1)
  | _ => none
def am_ent (q : Nat) (as : List Value) : am_F := (q, [], 0, am_lay as ++ List.replicate (am_nl q - (am_lay as).length) .null, [])
/-- the machine, with a bound on its steps and on its depth -/
def am_ev : Nat → Nat → am_F → am_H → Option (Option Value × am_H)
  | 0, _, _, _ => none
  | n + 1, d, (y, [], nx, ls, st), h => match am_blk y nx with
    | some b => am_ev n d (y, b.1, b.2, ls, st) h
    | none => none
  | n + 1, d, (y, i :: is, nx, ls, st), h => match am_ret i st with
    | some v => some (v, h)
    | none => match am_call i st h with
      | some (q, as, r) => if (am_lay as).length ≤ am_nl q ∧ (r.map Value.category).sum ≤ 8 then (match d with
        | 0 => none
        | d + 1 => match am_ev n d (am_ent q as) h with
          | some (v, h') => am_ev n (d + 1) (y, is, nx, ls, v.toList ++ r) h'
          | none => none) else none
      | none => match am_stp y i is nx ls st h with
        | some (F, h') => am_ev n d F h'
        | none => none
end
section
/-! THE REAL CODE BEHIND THE ABSTRACT ONE: instructions resolved by the tables; checked by the kernel -/
def am_by (q : Nat) : ByteArray := am_bs.getD q ⟨#[]⟩
def am_rt (q : Nat) : Option FieldType := am_rs.getD q none
def am_y (q : Nat) : MethodName := am_ys.getD q ⟨"", "", ""⟩
def am_nm (c : Nat) : String := am_on.getD c ""
def am_plain : Instr → Bool
  | .iadd | .isub | .imul | .iand | .ior | .ixor | .idiv | .irem | .ineg | .ishl | .ishr | .iushr => true
  | .ladd | .lsub | .lmul | .land | .lor | .ldiv | .lrem | .lshl | .lushr | .lcmp | .i2l | .l2i => true
  | .dup | .pop | .dup2 | .iaload | .laload | .aaload | .arraylength | .iastore | .lastore | .aastore => true
  | _ => false
def am_if (b : Bool) (i : Instr) : Option Instr := if b = true then some i else none
/-- the abstract instruction of a real one of a length, in method y at pc -/
def am_conv (y pc len : Nat) (i : Instr) : Option Instr := match i with
  | .iconst n => am_if (len == 1) (.iconst n)
  | .bipush n => am_if (len == 2 && decide ((Int8.ofInt n).toInt32 = Int32.ofInt n)) (.iconst n)
  | .sipush n => am_if (len == 3 && decide ((Int16.ofInt n).toInt32 = Int32.ofInt n)) (.iconst n)
  | .lconst n => am_if (len == 1) (.ldc2_w n.val)
  | .ldc idx => match am_ki.lookup (am_oc y, idx) with
    | some e => am_if (len == 2) (.iconst e.1)
    | none => none
  | .ldc_w idx => match am_ki.lookup (am_oc y, idx) with
    | some e => am_if (len == 3) (.iconst e.1)
    | none => none
  | .ldc2_w idx => match am_kl.lookup (am_oc y, idx) with
    | some e => am_if (len == 3) (.ldc2_w e.1)
    | none => none
  | .iload k => am_if (len == 2) (.iload k)
  | .iload_n k => am_if (len == 1) (.iload k.val)
  | .lload k => am_if (len == 2) (.lload k)
  | .lload_n k => am_if (len == 1) (.lload k.val)
  | .aload k => am_if (len == 2) (.aload k)
  | .aload_n k => am_if (len == 1) (.aload k.val)
  | .istore k => am_if (len == 2) (.istore k)
  | .istore_n k => am_if (len == 1) (.istore k.val)
  | .lstore k => am_if (len == 2) (.lstore k)
  | .lstore_n k => am_if (len == 1) (.lstore k.val)
  | .astore k => am_if (len == 2) (.astore k)
  | .astore_n k => am_if (len == 1) (.astore k.val)
  | .iinc k n => am_if (len == 3) (.iinc k n)
  | .getfield idx => match am_fl.lookup (am_oc y, idx) with
    | some e => am_if (len == 3) (.getfield (e.1 * 64 + e.2.1))
    | none => none
  | .putfield idx => match am_fl.lookup (am_oc y, idx) with
    | some e => am_if (len == 3 && (match vwCl[e.1]? with
      | some r => !(r.2.1 e.2.1).2.2.2 || ((am_y y).name == "<init>" && am_oc y == e.1 && !e.2.2.2.1)
      | none => false)) (.putfield ((e.2.2.1 * 64 + e.1) * 64 + e.2.1))
    | none => none
  | .getstatic idx => am_if (len == 3 && am_oc y == am_sg.1 && idx == am_sg.2.1) (.getstatic 0)
  | .invokevirtual idx => match am_ml.lookup (am_oc y, idx) with
    | some e => am_if (len == 3 && decide (e.1 < 1000) && !e.2.1 && !((am_y e.1).name == "<init>")) (.invokevirtual e.1)
    | none => none
  | .invokespecial idx => match am_ml.lookup (am_oc y, idx) with
    | some e => if e.1 = 1000 then am_if (len == 3 && !e.2.1) .monitorenter else am_if (len == 3 && decide (e.1 < 1000) && (am_y e.1).name == "<init>") (.invokespecial e.1)
    | none => none
  | .invokestatic idx => match am_ml.lookup (am_oc y, idx) with
    | some e => if e.1 = 1001 then am_if (len == 3 && !e.2.1) (.invokedynamic 0) else if e.1 = 1002 then am_if (len == 3 && !e.2.1) .dadd else if e.1 = 1003 then am_if (len == 3 && !e.2.1) .dsub else if e.1 = 1004 then am_if (len == 3 && !e.2.1) .dmul else am_if (len == 3 && decide (e.1 < 1000) && !e.2.1) (.invokestatic e.1)
    | none => none
  | .new idx => match am_cl.lookup (am_oc y, idx) with
    | some e => am_if (len == 3) (.new e.1)
    | none => none
  | .anewarray idx => match am_cl.lookup (am_oc y, idx) with
    | some e => am_if (len == 3 && e.1 == 7) (.anewarray 2)
    | none => none
  | .newarray t => am_if (len == 2) (.newarray t)
  | .goto o => am_if (len == 3 && decide (0 ≤ (pc : Int) + o)) (.goto (pc + o))
  | .ifCond c o => am_if (len == 3 && decide (0 ≤ (pc : Int) + o)) (.ifCond c (pc + o))
  | .if_icmp c o => am_if (len == 3 && decide (0 ≤ (pc : Int) + o)) (.if_icmp c (pc + o))
  | .tableswitch d lo hi ts => am_if (decide (0 ≤ (pc : Int) + d) && ts.all (fun o => decide (0 ≤ (pc : Int) + o))) (.tableswitch (pc + d) lo hi (ts.map (fun o => pc + o)))
  | .ireturn => if am_rt y = some .boolean then am_if (len == 1) .freturn else am_if (len == 1 && decide (am_rt y = some .int)) .ireturn
  | .lreturn => am_if (len == 1 && decide (am_rt y = some .long)) .lreturn
  | .return_ => am_if (len == 1 && decide (am_rt y = none)) .return_
  | i => am_if (len == 1 && am_plain i) i
def am_end : Instr → Bool
  | .goto _ | .tableswitch .. | .ireturn | .freturn | .lreturn | .return_ => true
  | _ => false
def am_okb (y : Nat) (pc : Nat) (is : List Instr) (nx : Nat) : Bool := match is with
  | [] => pc == nx
  | i :: is => match decode (am_by y) pc with
    | .ok (ri, len) => am_conv y pc len ri == some i && (am_end i || am_okb y (pc + len) is nx)
    | _ => false
set_option maxRecDepth 100000 in
theorem ck_Changes_init : cd_Changes_init.all (fun b => am_okb 0 b.1 b.2.1 b.2.2) = true := by decide +kernel
set_option maxRecDepth 100000 in
theorem ck_Changes_least : cd_Changes_least.all (fun b => am_okb 1 b.1 b.2.1 b.2.2) = true := by decide +kernel
set_option maxRecDepth 100000 in
theorem ck_Changes_weighBelow : cd_Changes_weighBelow.all (fun b => am_okb 2 b.1 b.2.1 b.2.2) = true := by decide +kernel
set_option maxRecDepth 100000 in
theorem ck_Changes_addToAbove : cd_Changes_addToAbove.all (fun b => am_okb 3 b.1 b.2.1 b.2.2) = true := by decide +kernel
set_option maxRecDepth 100000 in
theorem ck_Changes_leastOf : cd_Changes_leastOf.all (fun b => am_okb 4 b.1 b.2.1 b.2.2) = true := by decide +kernel
set_option maxRecDepth 100000 in
theorem ck_Changes_weighAll : cd_Changes_weighAll.all (fun b => am_okb 5 b.1 b.2.1 b.2.2) = true := by decide +kernel
set_option maxRecDepth 100000 in
theorem ck_Changes_weighWhole : cd_Changes_weighWhole.all (fun b => am_okb 6 b.1 b.2.1 b.2.2) = true := by decide +kernel
set_option maxRecDepth 100000 in
theorem ck_Changes_sureOf : cd_Changes_sureOf.all (fun b => am_okb 7 b.1 b.2.1 b.2.2) = true := by decide +kernel
set_option maxRecDepth 100000 in
theorem ck_Deal_init : cd_Deal_init.all (fun b => am_okb 8 b.1 b.2.1 b.2.2) = true := by decide +kernel
set_option maxRecDepth 100000 in
theorem ck_Deal_countWays : cd_Deal_countWays.all (fun b => am_okb 9 b.1 b.2.1 b.2.2) = true := by decide +kernel
set_option maxRecDepth 100000 in
theorem ck_Deal_dealFrom : cd_Deal_dealFrom.all (fun b => am_okb 10 b.1 b.2.1 b.2.2) = true := by decide +kernel
set_option maxRecDepth 100000 in
theorem ck_Deal_hasTwinBefore : cd_Deal_hasTwinBefore.all (fun b => am_okb 11 b.1 b.2.1 b.2.2) = true := by decide +kernel
set_option maxRecDepth 100000 in
theorem ck_Heads_init : cd_Heads_init.all (fun b => am_okb 12 b.1 b.2.1 b.2.2) = true := by decide +kernel
set_option maxRecDepth 100000 in
theorem ck_Heads_add : cd_Heads_add.all (fun b => am_okb 13 b.1 b.2.1 b.2.2) = true := by decide +kernel
set_option maxRecDepth 100000 in
theorem ck_Heads_stageOfAnswer : cd_Heads_stageOfAnswer.all (fun b => am_okb 14 b.1 b.2.1 b.2.2) = true := by decide +kernel
set_option maxRecDepth 100000 in
theorem ck_Heads_secondOf : cd_Heads_secondOf.all (fun b => am_okb 15 b.1 b.2.1 b.2.2) = true := by decide +kernel
set_option maxRecDepth 100000 in
theorem ck_Heads_answerIn : cd_Heads_answerIn.all (fun b => am_okb 16 b.1 b.2.1 b.2.2) = true := by decide +kernel
set_option maxRecDepth 100000 in
theorem ck_Heads_unlikePairs : cd_Heads_unlikePairs.all (fun b => am_okb 17 b.1 b.2.1 b.2.2) = true := by decide +kernel
set_option maxRecDepth 100000 in
theorem ck_Heads_answerOf : cd_Heads_answerOf.all (fun b => am_okb 18 b.1 b.2.1 b.2.2) = true := by decide +kernel
set_option maxRecDepth 100000 in
theorem ck_Heads_answeringOther : cd_Heads_answeringOther.all (fun b => am_okb 19 b.1 b.2.1 b.2.2) = true := by decide +kernel
set_option maxRecDepth 100000 in
theorem ck_Lore_init : cd_Lore_init.all (fun b => am_okb 20 b.1 b.2.1 b.2.2) = true := by decide +kernel
set_option maxRecDepth 100000 in
theorem ck_Lore_addThing : cd_Lore_addThing.all (fun b => am_okb 21 b.1 b.2.1 b.2.2) = true := by decide +kernel
set_option maxRecDepth 100000 in
theorem ck_Lore_fitAnew : cd_Lore_fitAnew.all (fun b => am_okb 22 b.1 b.2.1 b.2.2) = true := by decide +kernel
set_option maxRecDepth 100000 in
theorem ck_Lore_tryOut : cd_Lore_tryOut.all (fun b => am_okb 23 b.1 b.2.1 b.2.2) = true := by decide +kernel
set_option maxRecDepth 100000 in
theorem ck_Lore_havingSense : cd_Lore_havingSense.all (fun b => am_okb 24 b.1 b.2.1 b.2.2) = true := by decide +kernel
set_option maxRecDepth 100000 in
theorem ck_Lore_traitOf : cd_Lore_traitOf.all (fun b => am_okb 25 b.1 b.2.1 b.2.2) = true := by decide +kernel
set_option maxRecDepth 100000 in
theorem ck_Lore_hasSense : cd_Lore_hasSense.all (fun b => am_okb 26 b.1 b.2.1 b.2.2) = true := by decide +kernel
set_option maxRecDepth 100000 in
theorem ck_Lore_addSense : cd_Lore_addSense.all (fun b => am_okb 27 b.1 b.2.1 b.2.2) = true := by decide +kernel
set_option maxRecDepth 100000 in
theorem ck_Lore_addSaying : cd_Lore_addSaying.all (fun b => am_okb 28 b.1 b.2.1 b.2.2) = true := by decide +kernel
set_option maxRecDepth 100000 in
theorem ck_Lore_isOfKind : cd_Lore_isOfKind.all (fun b => am_okb 29 b.1 b.2.1 b.2.2) = true := by decide +kernel
set_option maxRecDepth 100000 in
theorem ck_Lore_leastSense : cd_Lore_leastSense.all (fun b => am_okb 30 b.1 b.2.1 b.2.2) = true := by decide +kernel
set_option maxRecDepth 100000 in
theorem ck_Lore_allThings : cd_Lore_allThings.all (fun b => am_okb 31 b.1 b.2.1 b.2.2) = true := by decide +kernel
set_option maxRecDepth 100000 in
theorem ck_Lore_fittingBySight : cd_Lore_fittingBySight.all (fun b => am_okb 32 b.1 b.2.1 b.2.2) = true := by decide +kernel
set_option maxRecDepth 100000 in
theorem ck_Lore_senseCount : cd_Lore_senseCount.all (fun b => am_okb 33 b.1 b.2.1 b.2.2) = true := by decide +kernel
set_option maxRecDepth 100000 in
theorem ck_Maker_init : cd_Maker_init.all (fun b => am_okb 34 b.1 b.2.1 b.2.2) = true := by decide +kernel
set_option maxRecDepth 100000 in
theorem ck_Maker_fewest : cd_Maker_fewest.all (fun b => am_okb 35 b.1 b.2.1 b.2.2) = true := by decide +kernel
set_option maxRecDepth 100000 in
theorem ck_Maker_gather : cd_Maker_gather.all (fun b => am_okb 36 b.1 b.2.1 b.2.2) = true := by decide +kernel
set_option maxRecDepth 100000 in
theorem ck_Maker_choose : cd_Maker_choose.all (fun b => am_okb 37 b.1 b.2.1 b.2.2) = true := by decide +kernel
set_option maxRecDepth 100000 in
theorem ck_Maker_consider : cd_Maker_consider.all (fun b => am_okb 38 b.1 b.2.1 b.2.2) = true := by decide +kernel
set_option maxRecDepth 100000 in
theorem ck_Page_init : cd_Page_init.all (fun b => am_okb 39 b.1 b.2.1 b.2.2) = true := by decide +kernel
set_option maxRecDepth 100000 in
theorem ck_Page_areLetters : cd_Page_areLetters.all (fun b => am_okb 40 b.1 b.2.1 b.2.2) = true := by decide +kernel
set_option maxRecDepth 100000 in
theorem ck_Page_lettersIn : cd_Page_lettersIn.all (fun b => am_okb 41 b.1 b.2.1 b.2.2) = true := by decide +kernel
set_option maxRecDepth 100000 in
theorem ck_Page_codeAt : cd_Page_codeAt.all (fun b => am_okb 42 b.1 b.2.1 b.2.2) = true := by decide +kernel
set_option maxRecDepth 100000 in
theorem ck_Page_append : cd_Page_append.all (fun b => am_okb 43 b.1 b.2.1 b.2.2) = true := by decide +kernel
set_option maxRecDepth 100000 in
theorem ck_Page_empty : cd_Page_empty.all (fun b => am_okb 44 b.1 b.2.1 b.2.2) = true := by decide +kernel
set_option maxRecDepth 100000 in
theorem ck_Riddles_init : cd_Riddles_init.all (fun b => am_okb 45 b.1 b.2.1 b.2.2) = true := by decide +kernel
set_option maxRecDepth 100000 in
theorem ck_Riddles_begin : cd_Riddles_begin.all (fun b => am_okb 46 b.1 b.2.1 b.2.2) = true := by decide +kernel
set_option maxRecDepth 100000 in
theorem ck_Riddles_append : cd_Riddles_append.all (fun b => am_okb 47 b.1 b.2.1 b.2.2) = true := by decide +kernel
set_option maxRecDepth 100000 in
theorem ck_Riddles_sayingAt : cd_Riddles_sayingAt.all (fun b => am_okb 48 b.1 b.2.1 b.2.2) = true := by decide +kernel
set_option maxRecDepth 100000 in
theorem ck_Riddles_fitting : cd_Riddles_fitting.all (fun b => am_okb 49 b.1 b.2.1 b.2.2) = true := by decide +kernel
set_option maxRecDepth 100000 in
theorem ck_Riddles_fittingWithout : cd_Riddles_fittingWithout.all (fun b => am_okb 50 b.1 b.2.1 b.2.2) = true := by decide +kernel
set_option maxRecDepth 100000 in
theorem ck_Riddles_turnedOnes : cd_Riddles_turnedOnes.all (fun b => am_okb 51 b.1 b.2.1 b.2.2) = true := by decide +kernel
set_option maxRecDepth 100000 in
theorem ck_Riddles_misleadingPlace : cd_Riddles_misleadingPlace.all (fun b => am_okb 52 b.1 b.2.1 b.2.2) = true := by decide +kernel
set_option maxRecDepth 100000 in
theorem ck_Riddles_countWithout : cd_Riddles_countWithout.all (fun b => am_okb 53 b.1 b.2.1 b.2.2) = true := by decide +kernel
set_option maxRecDepth 100000 in
theorem ck_Riddles_unfitCount : cd_Riddles_unfitCount.all (fun b => am_okb 54 b.1 b.2.1 b.2.2) = true := by decide +kernel
set_option maxRecDepth 100000 in
theorem ck_Sight_init : cd_Sight_init.all (fun b => am_okb 55 b.1 b.2.1 b.2.2) = true := by decide +kernel
set_option maxRecDepth 100000 in
theorem ck_Sight_sees : cd_Sight_sees.all (fun b => am_okb 56 b.1 b.2.1 b.2.2) = true := by decide +kernel
set_option maxRecDepth 100000 in
theorem ck_Sight_set : cd_Sight_set.all (fun b => am_okb 57 b.1 b.2.1 b.2.2) = true := by decide +kernel
set_option maxRecDepth 100000 in
theorem ck_Stakes_init : cd_Stakes_init.all (fun b => am_okb 58 b.1 b.2.1 b.2.2) = true := by decide +kernel
set_option maxRecDepth 100000 in
theorem ck_Stakes_put : cd_Stakes_put.all (fun b => am_okb 59 b.1 b.2.1 b.2.2) = true := by decide +kernel
set_option maxRecDepth 100000 in
theorem ck_Stakes_of : cd_Stakes_of.all (fun b => am_okb 60 b.1 b.2.1 b.2.2) = true := by decide +kernel
set_option maxRecDepth 100000 in
theorem ck_Stakes_best : cd_Stakes_best.all (fun b => am_okb 61 b.1 b.2.1 b.2.2) = true := by decide +kernel
set_option maxRecDepth 100000 in
theorem ck_Stakes_giveRiddle : cd_Stakes_giveRiddle.all (fun b => am_okb 62 b.1 b.2.1 b.2.2) = true := by decide +kernel
set_option maxRecDepth 100000 in
theorem ck_Stakes_sumIn : cd_Stakes_sumIn.all (fun b => am_okb 63 b.1 b.2.1 b.2.2) = true := by decide +kernel
set_option maxRecDepth 100000 in
theorem ck_Stakes_riddleIn : cd_Stakes_riddleIn.all (fun b => am_okb 64 b.1 b.2.1 b.2.2) = true := by decide +kernel
set_option maxRecDepth 100000 in
theorem ck_Tongues_init : cd_Tongues_init.all (fun b => am_okb 65 b.1 b.2.1 b.2.2) = true := by decide +kernel
set_option maxRecDepth 100000 in
theorem ck_Tongues_add : cd_Tongues_add.all (fun b => am_okb 66 b.1 b.2.1 b.2.2) = true := by decide +kernel
set_option maxRecDepth 100000 in
theorem ck_Tongues_carries : cd_Tongues_carries.all (fun b => am_okb 67 b.1 b.2.1 b.2.2) = true := by decide +kernel
set_option maxRecDepth 100000 in
theorem ck_Tongues_lacking : cd_Tongues_lacking.all (fun b => am_okb 68 b.1 b.2.1 b.2.2) = true := by decide +kernel
set_option maxRecDepth 100000 in
theorem ck_Tongues_leastLacking : cd_Tongues_leastLacking.all (fun b => am_okb 69 b.1 b.2.1 b.2.2) = true := by decide +kernel
set_option maxRecDepth 100000 in
theorem ck_Tree_init : cd_Tree_init.all (fun b => am_okb 70 b.1 b.2.1 b.2.2) = true := by decide +kernel
set_option maxRecDepth 100000 in
theorem ck_Tree_read : cd_Tree_read.all (fun b => am_okb 71 b.1 b.2.1 b.2.2) = true := by decide +kernel
set_option maxRecDepth 100000 in
theorem ck_Tree_take : cd_Tree_take.all (fun b => am_okb 72 b.1 b.2.1 b.2.2) = true := by decide +kernel
set_option maxRecDepth 100000 in
theorem ck_Tree_openNode : cd_Tree_openNode.all (fun b => am_okb 73 b.1 b.2.1 b.2.2) = true := by decide +kernel
set_option maxRecDepth 100000 in
theorem ck_Tree_beginNode : cd_Tree_beginNode.all (fun b => am_okb 74 b.1 b.2.1 b.2.2) = true := by decide +kernel
set_option maxRecDepth 100000 in
theorem ck_Tree_landNode : cd_Tree_landNode.all (fun b => am_okb 75 b.1 b.2.1 b.2.2) = true := by decide +kernel
set_option maxRecDepth 100000 in
theorem ck_Tree_awaitNext : cd_Tree_awaitNext.all (fun b => am_okb 76 b.1 b.2.1 b.2.2) = true := by decide +kernel
set_option maxRecDepth 100000 in
theorem ck_Tree_closeNode : cd_Tree_closeNode.all (fun b => am_okb 77 b.1 b.2.1 b.2.2) = true := by decide +kernel
set_option maxRecDepth 100000 in
theorem ck_Tree_isWhole : cd_Tree_isWhole.all (fun b => am_okb 78 b.1 b.2.1 b.2.2) = true := by decide +kernel
set_option maxRecDepth 100000 in
theorem ck_X_init : cd_X_init.all (fun b => am_okb 79 b.1 b.2.1 b.2.2) = true := by decide +kernel
set_option maxRecDepth 100000 in
theorem ck_X_thing : cd_X_thing.all (fun b => am_okb 80 b.1 b.2.1 b.2.2) = true := by decide +kernel
set_option maxRecDepth 100000 in
theorem ck_X_sense : cd_X_sense.all (fun b => am_okb 81 b.1 b.2.1 b.2.2) = true := by decide +kernel
set_option maxRecDepth 100000 in
theorem ck_X_isWord : cd_X_isWord.all (fun b => am_okb 82 b.1 b.2.1 b.2.2) = true := by decide +kernel
set_option maxRecDepth 100000 in
theorem ck_X_senseOf : cd_X_senseOf.all (fun b => am_okb 83 b.1 b.2.1 b.2.2) = true := by decide +kernel
set_option maxRecDepth 100000 in
theorem ck_X_saying : cd_X_saying.all (fun b => am_okb 84 b.1 b.2.1 b.2.2) = true := by decide +kernel
set_option maxRecDepth 100000 in
theorem ck_X_isKind : cd_X_isKind.all (fun b => am_okb 85 b.1 b.2.1 b.2.2) = true := by decide +kernel
set_option maxRecDepth 100000 in
theorem ck_X_as : cd_X_as.all (fun b => am_okb 86 b.1 b.2.1 b.2.2) = true := by decide +kernel
set_option maxRecDepth 100000 in
theorem ck_X_isSaying : cd_X_isSaying.all (fun b => am_okb 87 b.1 b.2.1 b.2.2) = true := by decide +kernel
set_option maxRecDepth 100000 in
theorem ck_X_fits : cd_X_fits.all (fun b => am_okb 88 b.1 b.2.1 b.2.2) = true := by decide +kernel
set_option maxRecDepth 100000 in
theorem ck_X_isThing : cd_X_isThing.all (fun b => am_okb 89 b.1 b.2.1 b.2.2) = true := by decide +kernel
set_option maxRecDepth 100000 in
theorem ck_X_riddle : cd_X_riddle.all (fun b => am_okb 90 b.1 b.2.1 b.2.2) = true := by decide +kernel
set_option maxRecDepth 100000 in
theorem ck_X_more : cd_X_more.all (fun b => am_okb 91 b.1 b.2.1 b.2.2) = true := by decide +kernel
set_option maxRecDepth 100000 in
theorem ck_X_isRiddle : cd_X_isRiddle.all (fun b => am_okb 92 b.1 b.2.1 b.2.2) = true := by decide +kernel
set_option maxRecDepth 100000 in
theorem ck_X_said : cd_X_said.all (fun b => am_okb 93 b.1 b.2.1 b.2.2) = true := by decide +kernel
set_option maxRecDepth 100000 in
theorem ck_X_answers : cd_X_answers.all (fun b => am_okb 94 b.1 b.2.1 b.2.2) = true := by decide +kernel
set_option maxRecDepth 100000 in
theorem ck_X_turns : cd_X_turns.all (fun b => am_okb 95 b.1 b.2.1 b.2.2) = true := by decide +kernel
set_option maxRecDepth 100000 in
theorem ck_X_judge : cd_X_judge.all (fun b => am_okb 96 b.1 b.2.1 b.2.2) = true := by decide +kernel
set_option maxRecDepth 100000 in
theorem ck_X_astray : cd_X_astray.all (fun b => am_okb 97 b.1 b.2.1 b.2.2) = true := by decide +kernel
set_option maxRecDepth 100000 in
theorem ck_X_made : cd_X_made.all (fun b => am_okb 98 b.1 b.2.1 b.2.2) = true := by decide +kernel
set_option maxRecDepth 100000 in
theorem ck_X_head : cd_X_head.all (fun b => am_okb 99 b.1 b.2.1 b.2.2) = true := by decide +kernel
set_option maxRecDepth 100000 in
theorem ck_X_hears : cd_X_hears.all (fun b => am_okb 100 b.1 b.2.1 b.2.2) = true := by decide +kernel
set_option maxRecDepth 100000 in
theorem ck_X_isHead : cd_X_isHead.all (fun b => am_okb 101 b.1 b.2.1 b.2.2) = true := by decide +kernel
set_option maxRecDepth 100000 in
theorem ck_X_parts : cd_X_parts.all (fun b => am_okb 102 b.1 b.2.1 b.2.2) = true := by decide +kernel
set_option maxRecDepth 100000 in
theorem ck_X_blind : cd_X_blind.all (fun b => am_okb 103 b.1 b.2.1 b.2.2) = true := by decide +kernel
set_option maxRecDepth 100000 in
theorem ck_X_tongue : cd_X_tongue.all (fun b => am_okb 104 b.1 b.2.1 b.2.2) = true := by decide +kernel
set_option maxRecDepth 100000 in
theorem ck_X_lack : cd_X_lack.all (fun b => am_okb 105 b.1 b.2.1 b.2.2) = true := by decide +kernel
set_option maxRecDepth 100000 in
theorem ck_X_isTongue : cd_X_isTongue.all (fun b => am_okb 106 b.1 b.2.1 b.2.2) = true := by decide +kernel
set_option maxRecDepth 100000 in
theorem ck_X_goes : cd_X_goes.all (fun b => am_okb 107 b.1 b.2.1 b.2.2) = true := by decide +kernel
set_option maxRecDepth 100000 in
theorem ck_X_nearest : cd_X_nearest.all (fun b => am_okb 108 b.1 b.2.1 b.2.2) = true := by decide +kernel
set_option maxRecDepth 100000 in
theorem ck_X_letters : cd_X_letters.all (fun b => am_okb 109 b.1 b.2.1 b.2.2) = true := by decide +kernel
set_option maxRecDepth 100000 in
theorem ck_X_blank : cd_X_blank.all (fun b => am_okb 110 b.1 b.2.1 b.2.2) = true := by decide +kernel
set_option maxRecDepth 100000 in
theorem ck_X_fault : cd_X_fault.all (fun b => am_okb 111 b.1 b.2.1 b.2.2) = true := by decide +kernel
set_option maxRecDepth 100000 in
theorem ck_X_tree : cd_X_tree.all (fun b => am_okb 112 b.1 b.2.1 b.2.2) = true := by decide +kernel
set_option maxRecDepth 100000 in
theorem ck_X_variant : cd_X_variant.all (fun b => am_okb 113 b.1 b.2.1 b.2.2) = true := by decide +kernel
set_option maxRecDepth 100000 in
theorem ck_X_changes : cd_X_changes.all (fun b => am_okb 114 b.1 b.2.1 b.2.2) = true := by decide +kernel
set_option maxRecDepth 100000 in
theorem ck_X_chance : cd_X_chance.all (fun b => am_okb 115 b.1 b.2.1 b.2.2) = true := by decide +kernel
set_option maxRecDepth 100000 in
theorem ck_X_greatestDivisor : cd_X_greatestDivisor.all (fun b => am_okb 116 b.1 b.2.1 b.2.2) = true := by decide +kernel
set_option maxRecDepth 100000 in
theorem ck_X_stake : cd_X_stake.all (fun b => am_okb 117 b.1 b.2.1 b.2.2) = true := by decide +kernel
set_option maxRecDepth 100000 in
theorem ck_X_whom : cd_X_whom.all (fun b => am_okb 118 b.1 b.2.1 b.2.2) = true := by decide +kernel
set_option maxRecDepth 100000 in
theorem ck_X_count : cd_X_count.all (fun b => am_okb 119 b.1 b.2.1 b.2.2) = true := by decide +kernel
set_option maxRecDepth 100000 in
theorem ck_X_digest : cd_X_digest.all (fun b => am_okb 120 b.1 b.2.1 b.2.2) = true := by decide +kernel
set_option maxRecDepth 100000 in
theorem ck_X_digestLore : cd_X_digestLore.all (fun b => am_okb 121 b.1 b.2.1 b.2.2) = true := by decide +kernel
set_option maxRecDepth 100000 in
theorem ck_X_digestRiddles : cd_X_digestRiddles.all (fun b => am_okb 122 b.1 b.2.1 b.2.2) = true := by decide +kernel
set_option maxRecDepth 100000 in
theorem ck_X_digestTongues : cd_X_digestTongues.all (fun b => am_okb 123 b.1 b.2.1 b.2.2) = true := by decide +kernel
set_option maxRecDepth 100000 in
theorem ck_X_digestLands : cd_X_digestLands.all (fun b => am_okb 124 b.1 b.2.1 b.2.2) = true := by decide +kernel
set_option maxRecDepth 100000 in
theorem ck_M_init : cd_M_init.all (fun b => am_okb 125 b.1 b.2.1 b.2.2) = true := by decide +kernel
set_option maxRecDepth 100000 in
theorem ck_M_thing : cd_M_thing.all (fun b => am_okb 126 b.1 b.2.1 b.2.2) = true := by decide +kernel
set_option maxRecDepth 100000 in
theorem ck_M_in : cd_M_in.all (fun b => am_okb 127 b.1 b.2.1 b.2.2) = true := by decide +kernel
set_option maxRecDepth 100000 in
theorem ck_M_sense : cd_M_sense.all (fun b => am_okb 128 b.1 b.2.1 b.2.2) = true := by decide +kernel
set_option maxRecDepth 100000 in
theorem ck_M_isWord : cd_M_isWord.all (fun b => am_okb 129 b.1 b.2.1 b.2.2) = true := by decide +kernel
set_option maxRecDepth 100000 in
theorem ck_M_senseOf : cd_M_senseOf.all (fun b => am_okb 130 b.1 b.2.1 b.2.2) = true := by decide +kernel
set_option maxRecDepth 100000 in
theorem ck_M_saying : cd_M_saying.all (fun b => am_okb 131 b.1 b.2.1 b.2.2) = true := by decide +kernel
set_option maxRecDepth 100000 in
theorem ck_M_as : cd_M_as.all (fun b => am_okb 132 b.1 b.2.1 b.2.2) = true := by decide +kernel
set_option maxRecDepth 100000 in
theorem ck_M_isSaying : cd_M_isSaying.all (fun b => am_okb 133 b.1 b.2.1 b.2.2) = true := by decide +kernel
set_option maxRecDepth 100000 in
theorem ck_M_fits : cd_M_fits.all (fun b => am_okb 134 b.1 b.2.1 b.2.2) = true := by decide +kernel
set_option maxRecDepth 100000 in
theorem ck_M_isThing : cd_M_isThing.all (fun b => am_okb 135 b.1 b.2.1 b.2.2) = true := by decide +kernel
set_option maxRecDepth 100000 in
theorem ck_M_by : cd_M_by.all (fun b => am_okb 136 b.1 b.2.1 b.2.2) = true := by decide +kernel
set_option maxRecDepth 100000 in
theorem ck_M_bitsOf : cd_M_bitsOf.all (fun b => am_okb 137 b.1 b.2.1 b.2.2) = true := by decide +kernel
set_option maxRecDepth 100000 in
theorem ck_M_has : cd_M_has.all (fun b => am_okb 138 b.1 b.2.1 b.2.2) = true := by decide +kernel
set_option maxRecDepth 100000 in
theorem ck_M_riddle : cd_M_riddle.all (fun b => am_okb 139 b.1 b.2.1 b.2.2) = true := by decide +kernel
set_option maxRecDepth 100000 in
theorem ck_M_more : cd_M_more.all (fun b => am_okb 140 b.1 b.2.1 b.2.2) = true := by decide +kernel
set_option maxRecDepth 100000 in
theorem ck_M_isRiddle : cd_M_isRiddle.all (fun b => am_okb 141 b.1 b.2.1 b.2.2) = true := by decide +kernel
set_option maxRecDepth 100000 in
theorem ck_M_said : cd_M_said.all (fun b => am_okb 142 b.1 b.2.1 b.2.2) = true := by decide +kernel
set_option maxRecDepth 100000 in
theorem ck_M_answers : cd_M_answers.all (fun b => am_okb 143 b.1 b.2.1 b.2.2) = true := by decide +kernel
set_option maxRecDepth 100000 in
theorem ck_M_answersOf : cd_M_answersOf.all (fun b => am_okb 144 b.1 b.2.1 b.2.2) = true := by decide +kernel
set_option maxRecDepth 100000 in
theorem ck_M_answersBy : cd_M_answersBy.all (fun b => am_okb 145 b.1 b.2.1 b.2.2) = true := by decide +kernel
set_option maxRecDepth 100000 in
theorem ck_M_turns : cd_M_turns.all (fun b => am_okb 146 b.1 b.2.1 b.2.2) = true := by decide +kernel
set_option maxRecDepth 100000 in
theorem ck_M_turnsOf : cd_M_turnsOf.all (fun b => am_okb 147 b.1 b.2.1 b.2.2) = true := by decide +kernel
set_option maxRecDepth 100000 in
theorem ck_M_judge : cd_M_judge.all (fun b => am_okb 148 b.1 b.2.1 b.2.2) = true := by decide +kernel
set_option maxRecDepth 100000 in
theorem ck_M_astray : cd_M_astray.all (fun b => am_okb 149 b.1 b.2.1 b.2.2) = true := by decide +kernel
set_option maxRecDepth 100000 in
theorem ck_M_made : cd_M_made.all (fun b => am_okb 150 b.1 b.2.1 b.2.2) = true := by decide +kernel
set_option maxRecDepth 100000 in
theorem ck_M_bestOf : cd_M_bestOf.all (fun b => am_okb 151 b.1 b.2.1 b.2.2) = true := by decide +kernel
set_option maxRecDepth 100000 in
theorem ck_M_head : cd_M_head.all (fun b => am_okb 152 b.1 b.2.1 b.2.2) = true := by decide +kernel
set_option maxRecDepth 100000 in
theorem ck_M_hears : cd_M_hears.all (fun b => am_okb 153 b.1 b.2.1 b.2.2) = true := by decide +kernel
set_option maxRecDepth 100000 in
theorem ck_M_isHead : cd_M_isHead.all (fun b => am_okb 154 b.1 b.2.1 b.2.2) = true := by decide +kernel
set_option maxRecDepth 100000 in
theorem ck_M_hearsOf : cd_M_hearsOf.all (fun b => am_okb 155 b.1 b.2.1 b.2.2) = true := by decide +kernel
set_option maxRecDepth 100000 in
theorem ck_M_parts : cd_M_parts.all (fun b => am_okb 156 b.1 b.2.1 b.2.2) = true := by decide +kernel
set_option maxRecDepth 100000 in
theorem ck_M_blind : cd_M_blind.all (fun b => am_okb 157 b.1 b.2.1 b.2.2) = true := by decide +kernel
set_option maxRecDepth 100000 in
theorem ck_M_tongue : cd_M_tongue.all (fun b => am_okb 158 b.1 b.2.1 b.2.2) = true := by decide +kernel
set_option maxRecDepth 100000 in
theorem ck_M_lack : cd_M_lack.all (fun b => am_okb 159 b.1 b.2.1 b.2.2) = true := by decide +kernel
set_option maxRecDepth 100000 in
theorem ck_M_isTongue : cd_M_isTongue.all (fun b => am_okb 160 b.1 b.2.1 b.2.2) = true := by decide +kernel
set_option maxRecDepth 100000 in
theorem ck_M_goes : cd_M_goes.all (fun b => am_okb 161 b.1 b.2.1 b.2.2) = true := by decide +kernel
set_option maxRecDepth 100000 in
theorem ck_M_lacksOf : cd_M_lacksOf.all (fun b => am_okb 162 b.1 b.2.1 b.2.2) = true := by decide +kernel
set_option maxRecDepth 100000 in
theorem ck_M_byIn : cd_M_byIn.all (fun b => am_okb 163 b.1 b.2.1 b.2.2) = true := by decide +kernel
set_option maxRecDepth 100000 in
theorem ck_M_goesOf : cd_M_goesOf.all (fun b => am_okb 164 b.1 b.2.1 b.2.2) = true := by decide +kernel
set_option maxRecDepth 100000 in
theorem ck_M_nearest : cd_M_nearest.all (fun b => am_okb 165 b.1 b.2.1 b.2.2) = true := by decide +kernel
set_option maxRecDepth 100000 in
theorem ck_M_letters : cd_M_letters.all (fun b => am_okb 166 b.1 b.2.1 b.2.2) = true := by decide +kernel
set_option maxRecDepth 100000 in
theorem ck_M_blank : cd_M_blank.all (fun b => am_okb 167 b.1 b.2.1 b.2.2) = true := by decide +kernel
set_option maxRecDepth 100000 in
theorem ck_M_fault : cd_M_fault.all (fun b => am_okb 168 b.1 b.2.1 b.2.2) = true := by decide +kernel
set_option maxRecDepth 100000 in
theorem ck_M_faultOf : cd_M_faultOf.all (fun b => am_okb 169 b.1 b.2.1 b.2.2) = true := by decide +kernel
set_option maxRecDepth 100000 in
theorem ck_M_go : cd_M_go.all (fun b => am_okb 170 b.1 b.2.1 b.2.2) = true := by decide +kernel
set_option maxRecDepth 100000 in
theorem ck_M_addNode : cd_M_addNode.all (fun b => am_okb 171 b.1 b.2.1 b.2.2) = true := by decide +kernel
set_option maxRecDepth 100000 in
theorem ck_M_endNode : cd_M_endNode.all (fun b => am_okb 172 b.1 b.2.1 b.2.2) = true := by decide +kernel
set_option maxRecDepth 100000 in
theorem ck_M_tree : cd_M_tree.all (fun b => am_okb 173 b.1 b.2.1 b.2.2) = true := by decide +kernel
set_option maxRecDepth 100000 in
theorem ck_M_variant : cd_M_variant.all (fun b => am_okb 174 b.1 b.2.1 b.2.2) = true := by decide +kernel
set_option maxRecDepth 100000 in
theorem ck_M_changes : cd_M_changes.all (fun b => am_okb 175 b.1 b.2.1 b.2.2) = true := by decide +kernel
set_option maxRecDepth 100000 in
theorem ck_M_leastChanges : cd_M_leastChanges.all (fun b => am_okb 176 b.1 b.2.1 b.2.2) = true := by decide +kernel
set_option maxRecDepth 100000 in
theorem ck_M_leastOf : cd_M_leastOf.all (fun b => am_okb 177 b.1 b.2.1 b.2.2) = true := by decide +kernel
set_option maxRecDepth 100000 in
theorem ck_M_sureOf : cd_M_sureOf.all (fun b => am_okb 178 b.1 b.2.1 b.2.2) = true := by decide +kernel
set_option maxRecDepth 100000 in
theorem ck_M_chance : cd_M_chance.all (fun b => am_okb 179 b.1 b.2.1 b.2.2) = true := by decide +kernel
set_option maxRecDepth 100000 in
theorem ck_M_deal : cd_M_deal.all (fun b => am_okb 180 b.1 b.2.1 b.2.2) = true := by decide +kernel
set_option maxRecDepth 100000 in
theorem ck_M_common : cd_M_common.all (fun b => am_okb 181 b.1 b.2.1 b.2.2) = true := by decide +kernel
set_option maxRecDepth 100000 in
theorem ck_M_stake : cd_M_stake.all (fun b => am_okb 182 b.1 b.2.1 b.2.2) = true := by decide +kernel
set_option maxRecDepth 100000 in
theorem ck_M_whom : cd_M_whom.all (fun b => am_okb 183 b.1 b.2.1 b.2.2) = true := by decide +kernel
set_option maxRecDepth 100000 in
theorem ck_M_layBrings : cd_M_layBrings.all (fun b => am_okb 184 b.1 b.2.1 b.2.2) = true := by decide +kernel
set_option maxRecDepth 100000 in
theorem ck_M_chosen : cd_M_chosen.all (fun b => am_okb 185 b.1 b.2.1 b.2.2) = true := by decide +kernel
set_option maxRecDepth 100000 in
theorem ck_M_count : cd_M_count.all (fun b => am_okb 186 b.1 b.2.1 b.2.2) = true := by decide +kernel
set_option maxRecDepth 100000 in
theorem ck_M_countOf : cd_M_countOf.all (fun b => am_okb 187 b.1 b.2.1 b.2.2) = true := by decide +kernel
set_option maxRecDepth 100000 in
theorem ck_M_digest : cd_M_digest.all (fun b => am_okb 188 b.1 b.2.1 b.2.2) = true := by decide +kernel
set_option maxRecDepth 100000 in
theorem ck_M_tellSaid : cd_M_tellSaid.all (fun b => am_okb 189 b.1 b.2.1 b.2.2) = true := by decide +kernel
set_option maxRecDepth 100000 in
theorem ck_M_tell : cd_M_tell.all (fun b => am_okb 190 b.1 b.2.1 b.2.2) = true := by decide +kernel
set_option maxRecDepth 100000 in
theorem ck_Arrays_fill : cd_Arrays_fill.all (fun b => am_okb 191 b.1 b.2.1 b.2.2) = true := by decide +kernel
set_option maxRecDepth 100000 in
theorem ck_Integer_bitCount : cd_Integer_bitCount.all (fun b => am_okb 192 b.1 b.2.1 b.2.2) = true := by decide +kernel
set_option maxRecDepth 100000 in
theorem ck_Arrays_fill_L : cd_Arrays_fill_L.all (fun b => am_okb 193 b.1 b.2.1 b.2.2) = true := by decide +kernel
end
section
theorem am_all_cut {α : Type} (f : α → Bool) (n : Nat) (l : List α) (h1 : (l.take n).all f = true) (h2 : (l.drop n).all f = true) : l.all f = true := by
  rw [← List.take_append_drop n l, List.all_append, h1, h2]; rfl
set_option maxRecDepth 100000 in
theorem ck_Law_0 : ((cd_Law_law.drop 0).take 10).all (fun b => am_okb 194 b.1 b.2.1 b.2.2) = true := by decide +kernel
set_option maxRecDepth 100000 in
theorem ck_Law_10 : ((cd_Law_law.drop 10).take 10).all (fun b => am_okb 194 b.1 b.2.1 b.2.2) = true := by decide +kernel
set_option maxRecDepth 100000 in
theorem ck_Law_20 : ((cd_Law_law.drop 20).take 10).all (fun b => am_okb 194 b.1 b.2.1 b.2.2) = true := by decide +kernel
set_option maxRecDepth 100000 in
theorem ck_Law_30 : ((cd_Law_law.drop 30).take 10).all (fun b => am_okb 194 b.1 b.2.1 b.2.2) = true := by decide +kernel
set_option maxRecDepth 100000 in
theorem ck_Law_40 : ((cd_Law_law.drop 40).take 10).all (fun b => am_okb 194 b.1 b.2.1 b.2.2) = true := by decide +kernel
set_option maxRecDepth 100000 in
theorem ck_Law_50 : ((cd_Law_law.drop 50).take 10).all (fun b => am_okb 194 b.1 b.2.1 b.2.2) = true := by decide +kernel
set_option maxRecDepth 100000 in
theorem ck_Law_60 : ((cd_Law_law.drop 60).take 10).all (fun b => am_okb 194 b.1 b.2.1 b.2.2) = true := by decide +kernel
set_option maxRecDepth 100000 in
theorem ck_Law_70 : ((cd_Law_law.drop 70).take 10).all (fun b => am_okb 194 b.1 b.2.1 b.2.2) = true := by decide +kernel
theorem ck_Law_end : (cd_Law_law.drop 80).all (fun b => am_okb 194 b.1 b.2.1 b.2.2) = true := by decide +kernel
theorem ck_Lawd_70 : (cd_Law_law.drop 70).all (fun b => am_okb 194 b.1 b.2.1 b.2.2) = true := am_all_cut _ 10 _ ck_Law_70 (by rw [List.drop_drop]; exact ck_Law_end)
theorem ck_Lawd_60 : (cd_Law_law.drop 60).all (fun b => am_okb 194 b.1 b.2.1 b.2.2) = true := am_all_cut _ 10 _ ck_Law_60 (by rw [List.drop_drop]; exact ck_Lawd_70)
theorem ck_Lawd_50 : (cd_Law_law.drop 50).all (fun b => am_okb 194 b.1 b.2.1 b.2.2) = true := am_all_cut _ 10 _ ck_Law_50 (by rw [List.drop_drop]; exact ck_Lawd_60)
theorem ck_Lawd_40 : (cd_Law_law.drop 40).all (fun b => am_okb 194 b.1 b.2.1 b.2.2) = true := am_all_cut _ 10 _ ck_Law_40 (by rw [List.drop_drop]; exact ck_Lawd_50)
theorem ck_Lawd_30 : (cd_Law_law.drop 30).all (fun b => am_okb 194 b.1 b.2.1 b.2.2) = true := am_all_cut _ 10 _ ck_Law_30 (by rw [List.drop_drop]; exact ck_Lawd_40)
theorem ck_Lawd_20 : (cd_Law_law.drop 20).all (fun b => am_okb 194 b.1 b.2.1 b.2.2) = true := am_all_cut _ 10 _ ck_Law_20 (by rw [List.drop_drop]; exact ck_Lawd_30)
theorem ck_Lawd_10 : (cd_Law_law.drop 10).all (fun b => am_okb 194 b.1 b.2.1 b.2.2) = true := am_all_cut _ 10 _ ck_Law_10 (by rw [List.drop_drop]; exact ck_Lawd_20)
theorem ck_Lawd_0 : (cd_Law_law.drop 0).all (fun b => am_okb 194 b.1 b.2.1 b.2.2) = true := am_all_cut _ 10 _ ck_Law_0 (by rw [List.drop_drop]; exact ck_Lawd_10)
theorem ck_Law_law : cd_Law_law.all (fun b => am_okb 194 b.1 b.2.1 b.2.2) = true := ck_Lawd_0
end
section
/-! THE TABLES OF THE ABSTRACT MACHINE ARE THE STATEMENT'S -/
theorem am_lk {α β : Type} [BEq α] [LawfulBEq α] {k : α} {v : β} : ∀ {l : List (α × β)}, l.lookup k = some v → (k, v) ∈ l
  | [], h => by simp at h
  | (a, b) :: l, h => by
    rw [List.lookup_cons] at h
    by_cases e : (k == a) = true
    · rw [e] at h
      simp only [Option.some.injEq] at h
      rw [eq_of_beq e, h]
      exact List.mem_cons_self
    · rw [Bool.eq_false_iff.mpr e] at h
      exact List.mem_cons_of_mem _ (am_lk h)
def am_cz_0 : List (Nat × List (Nat × List Instr × Nat)) := [(0, cd_Changes_init), (1, cd_Changes_least), (2, cd_Changes_weighBelow), (3, cd_Changes_addToAbove), (4, cd_Changes_leastOf), (5, cd_Changes_weighAll), (6, cd_Changes_weighWhole), (7, cd_Changes_sureOf), (8, cd_Deal_init), (9, cd_Deal_countWays), (10, cd_Deal_dealFrom), (11, cd_Deal_hasTwinBefore), (12, cd_Heads_init), (13, cd_Heads_add), (14, cd_Heads_stageOfAnswer), (15, cd_Heads_secondOf)]
theorem am_cw_0 : ∀ p ∈ am_cz_0, p.2.all (fun b => am_okb p.1 b.1 b.2.1 b.2.2) = true := List.forall_mem_cons.mpr ⟨ck_Changes_init, List.forall_mem_cons.mpr ⟨ck_Changes_least, List.forall_mem_cons.mpr ⟨ck_Changes_weighBelow, List.forall_mem_cons.mpr ⟨ck_Changes_addToAbove, List.forall_mem_cons.mpr ⟨ck_Changes_leastOf, List.forall_mem_cons.mpr ⟨ck_Changes_weighAll, List.forall_mem_cons.mpr ⟨ck_Changes_weighWhole, List.forall_mem_cons.mpr ⟨ck_Changes_sureOf, List.forall_mem_cons.mpr ⟨ck_Deal_init, List.forall_mem_cons.mpr ⟨ck_Deal_countWays, List.forall_mem_cons.mpr ⟨ck_Deal_dealFrom, List.forall_mem_cons.mpr ⟨ck_Deal_hasTwinBefore, List.forall_mem_cons.mpr ⟨ck_Heads_init, List.forall_mem_cons.mpr ⟨ck_Heads_add, List.forall_mem_cons.mpr ⟨ck_Heads_stageOfAnswer, List.forall_mem_cons.mpr ⟨ck_Heads_secondOf, fun _ h => absurd h List.not_mem_nil⟩⟩⟩⟩⟩⟩⟩⟩⟩⟩⟩⟩⟩⟩⟩⟩
def am_cz_1 : List (Nat × List (Nat × List Instr × Nat)) := [(16, cd_Heads_answerIn), (17, cd_Heads_unlikePairs), (18, cd_Heads_answerOf), (19, cd_Heads_answeringOther), (20, cd_Lore_init), (21, cd_Lore_addThing), (22, cd_Lore_fitAnew), (23, cd_Lore_tryOut), (24, cd_Lore_havingSense), (25, cd_Lore_traitOf), (26, cd_Lore_hasSense), (27, cd_Lore_addSense), (28, cd_Lore_addSaying), (29, cd_Lore_isOfKind), (30, cd_Lore_leastSense), (31, cd_Lore_allThings)]
theorem am_cw_1 : ∀ p ∈ am_cz_1, p.2.all (fun b => am_okb p.1 b.1 b.2.1 b.2.2) = true := List.forall_mem_cons.mpr ⟨ck_Heads_answerIn, List.forall_mem_cons.mpr ⟨ck_Heads_unlikePairs, List.forall_mem_cons.mpr ⟨ck_Heads_answerOf, List.forall_mem_cons.mpr ⟨ck_Heads_answeringOther, List.forall_mem_cons.mpr ⟨ck_Lore_init, List.forall_mem_cons.mpr ⟨ck_Lore_addThing, List.forall_mem_cons.mpr ⟨ck_Lore_fitAnew, List.forall_mem_cons.mpr ⟨ck_Lore_tryOut, List.forall_mem_cons.mpr ⟨ck_Lore_havingSense, List.forall_mem_cons.mpr ⟨ck_Lore_traitOf, List.forall_mem_cons.mpr ⟨ck_Lore_hasSense, List.forall_mem_cons.mpr ⟨ck_Lore_addSense, List.forall_mem_cons.mpr ⟨ck_Lore_addSaying, List.forall_mem_cons.mpr ⟨ck_Lore_isOfKind, List.forall_mem_cons.mpr ⟨ck_Lore_leastSense, List.forall_mem_cons.mpr ⟨ck_Lore_allThings, fun _ h => absurd h List.not_mem_nil⟩⟩⟩⟩⟩⟩⟩⟩⟩⟩⟩⟩⟩⟩⟩⟩
def am_cz_2 : List (Nat × List (Nat × List Instr × Nat)) := [(32, cd_Lore_fittingBySight), (33, cd_Lore_senseCount), (34, cd_Maker_init), (35, cd_Maker_fewest), (36, cd_Maker_gather), (37, cd_Maker_choose), (38, cd_Maker_consider), (39, cd_Page_init), (40, cd_Page_areLetters), (41, cd_Page_lettersIn), (42, cd_Page_codeAt), (43, cd_Page_append), (44, cd_Page_empty), (45, cd_Riddles_init), (46, cd_Riddles_begin), (47, cd_Riddles_append)]
theorem am_cw_2 : ∀ p ∈ am_cz_2, p.2.all (fun b => am_okb p.1 b.1 b.2.1 b.2.2) = true := List.forall_mem_cons.mpr ⟨ck_Lore_fittingBySight, List.forall_mem_cons.mpr ⟨ck_Lore_senseCount, List.forall_mem_cons.mpr ⟨ck_Maker_init, List.forall_mem_cons.mpr ⟨ck_Maker_fewest, List.forall_mem_cons.mpr ⟨ck_Maker_gather, List.forall_mem_cons.mpr ⟨ck_Maker_choose, List.forall_mem_cons.mpr ⟨ck_Maker_consider, List.forall_mem_cons.mpr ⟨ck_Page_init, List.forall_mem_cons.mpr ⟨ck_Page_areLetters, List.forall_mem_cons.mpr ⟨ck_Page_lettersIn, List.forall_mem_cons.mpr ⟨ck_Page_codeAt, List.forall_mem_cons.mpr ⟨ck_Page_append, List.forall_mem_cons.mpr ⟨ck_Page_empty, List.forall_mem_cons.mpr ⟨ck_Riddles_init, List.forall_mem_cons.mpr ⟨ck_Riddles_begin, List.forall_mem_cons.mpr ⟨ck_Riddles_append, fun _ h => absurd h List.not_mem_nil⟩⟩⟩⟩⟩⟩⟩⟩⟩⟩⟩⟩⟩⟩⟩⟩
def am_cz_3 : List (Nat × List (Nat × List Instr × Nat)) := [(48, cd_Riddles_sayingAt), (49, cd_Riddles_fitting), (50, cd_Riddles_fittingWithout), (51, cd_Riddles_turnedOnes), (52, cd_Riddles_misleadingPlace), (53, cd_Riddles_countWithout), (54, cd_Riddles_unfitCount), (55, cd_Sight_init), (56, cd_Sight_sees), (57, cd_Sight_set), (58, cd_Stakes_init), (59, cd_Stakes_put), (60, cd_Stakes_of), (61, cd_Stakes_best), (62, cd_Stakes_giveRiddle), (63, cd_Stakes_sumIn)]
theorem am_cw_3 : ∀ p ∈ am_cz_3, p.2.all (fun b => am_okb p.1 b.1 b.2.1 b.2.2) = true := List.forall_mem_cons.mpr ⟨ck_Riddles_sayingAt, List.forall_mem_cons.mpr ⟨ck_Riddles_fitting, List.forall_mem_cons.mpr ⟨ck_Riddles_fittingWithout, List.forall_mem_cons.mpr ⟨ck_Riddles_turnedOnes, List.forall_mem_cons.mpr ⟨ck_Riddles_misleadingPlace, List.forall_mem_cons.mpr ⟨ck_Riddles_countWithout, List.forall_mem_cons.mpr ⟨ck_Riddles_unfitCount, List.forall_mem_cons.mpr ⟨ck_Sight_init, List.forall_mem_cons.mpr ⟨ck_Sight_sees, List.forall_mem_cons.mpr ⟨ck_Sight_set, List.forall_mem_cons.mpr ⟨ck_Stakes_init, List.forall_mem_cons.mpr ⟨ck_Stakes_put, List.forall_mem_cons.mpr ⟨ck_Stakes_of, List.forall_mem_cons.mpr ⟨ck_Stakes_best, List.forall_mem_cons.mpr ⟨ck_Stakes_giveRiddle, List.forall_mem_cons.mpr ⟨ck_Stakes_sumIn, fun _ h => absurd h List.not_mem_nil⟩⟩⟩⟩⟩⟩⟩⟩⟩⟩⟩⟩⟩⟩⟩⟩
def am_cz_4 : List (Nat × List (Nat × List Instr × Nat)) := [(64, cd_Stakes_riddleIn), (65, cd_Tongues_init), (66, cd_Tongues_add), (67, cd_Tongues_carries), (68, cd_Tongues_lacking), (69, cd_Tongues_leastLacking), (70, cd_Tree_init), (71, cd_Tree_read), (72, cd_Tree_take), (73, cd_Tree_openNode), (74, cd_Tree_beginNode), (75, cd_Tree_landNode), (76, cd_Tree_awaitNext), (77, cd_Tree_closeNode), (78, cd_Tree_isWhole), (79, cd_X_init)]
theorem am_cw_4 : ∀ p ∈ am_cz_4, p.2.all (fun b => am_okb p.1 b.1 b.2.1 b.2.2) = true := List.forall_mem_cons.mpr ⟨ck_Stakes_riddleIn, List.forall_mem_cons.mpr ⟨ck_Tongues_init, List.forall_mem_cons.mpr ⟨ck_Tongues_add, List.forall_mem_cons.mpr ⟨ck_Tongues_carries, List.forall_mem_cons.mpr ⟨ck_Tongues_lacking, List.forall_mem_cons.mpr ⟨ck_Tongues_leastLacking, List.forall_mem_cons.mpr ⟨ck_Tree_init, List.forall_mem_cons.mpr ⟨ck_Tree_read, List.forall_mem_cons.mpr ⟨ck_Tree_take, List.forall_mem_cons.mpr ⟨ck_Tree_openNode, List.forall_mem_cons.mpr ⟨ck_Tree_beginNode, List.forall_mem_cons.mpr ⟨ck_Tree_landNode, List.forall_mem_cons.mpr ⟨ck_Tree_awaitNext, List.forall_mem_cons.mpr ⟨ck_Tree_closeNode, List.forall_mem_cons.mpr ⟨ck_Tree_isWhole, List.forall_mem_cons.mpr ⟨ck_X_init, fun _ h => absurd h List.not_mem_nil⟩⟩⟩⟩⟩⟩⟩⟩⟩⟩⟩⟩⟩⟩⟩⟩
def am_cz_5 : List (Nat × List (Nat × List Instr × Nat)) := [(80, cd_X_thing), (81, cd_X_sense), (82, cd_X_isWord), (83, cd_X_senseOf), (84, cd_X_saying), (85, cd_X_isKind), (86, cd_X_as), (87, cd_X_isSaying), (88, cd_X_fits), (89, cd_X_isThing), (90, cd_X_riddle), (91, cd_X_more), (92, cd_X_isRiddle), (93, cd_X_said), (94, cd_X_answers), (95, cd_X_turns)]
theorem am_cw_5 : ∀ p ∈ am_cz_5, p.2.all (fun b => am_okb p.1 b.1 b.2.1 b.2.2) = true := List.forall_mem_cons.mpr ⟨ck_X_thing, List.forall_mem_cons.mpr ⟨ck_X_sense, List.forall_mem_cons.mpr ⟨ck_X_isWord, List.forall_mem_cons.mpr ⟨ck_X_senseOf, List.forall_mem_cons.mpr ⟨ck_X_saying, List.forall_mem_cons.mpr ⟨ck_X_isKind, List.forall_mem_cons.mpr ⟨ck_X_as, List.forall_mem_cons.mpr ⟨ck_X_isSaying, List.forall_mem_cons.mpr ⟨ck_X_fits, List.forall_mem_cons.mpr ⟨ck_X_isThing, List.forall_mem_cons.mpr ⟨ck_X_riddle, List.forall_mem_cons.mpr ⟨ck_X_more, List.forall_mem_cons.mpr ⟨ck_X_isRiddle, List.forall_mem_cons.mpr ⟨ck_X_said, List.forall_mem_cons.mpr ⟨ck_X_answers, List.forall_mem_cons.mpr ⟨ck_X_turns, fun _ h => absurd h List.not_mem_nil⟩⟩⟩⟩⟩⟩⟩⟩⟩⟩⟩⟩⟩⟩⟩⟩
def am_cz_6 : List (Nat × List (Nat × List Instr × Nat)) := [(96, cd_X_judge), (97, cd_X_astray), (98, cd_X_made), (99, cd_X_head), (100, cd_X_hears), (101, cd_X_isHead), (102, cd_X_parts), (103, cd_X_blind), (104, cd_X_tongue), (105, cd_X_lack), (106, cd_X_isTongue), (107, cd_X_goes), (108, cd_X_nearest), (109, cd_X_letters), (110, cd_X_blank), (111, cd_X_fault)]
theorem am_cw_6 : ∀ p ∈ am_cz_6, p.2.all (fun b => am_okb p.1 b.1 b.2.1 b.2.2) = true := List.forall_mem_cons.mpr ⟨ck_X_judge, List.forall_mem_cons.mpr ⟨ck_X_astray, List.forall_mem_cons.mpr ⟨ck_X_made, List.forall_mem_cons.mpr ⟨ck_X_head, List.forall_mem_cons.mpr ⟨ck_X_hears, List.forall_mem_cons.mpr ⟨ck_X_isHead, List.forall_mem_cons.mpr ⟨ck_X_parts, List.forall_mem_cons.mpr ⟨ck_X_blind, List.forall_mem_cons.mpr ⟨ck_X_tongue, List.forall_mem_cons.mpr ⟨ck_X_lack, List.forall_mem_cons.mpr ⟨ck_X_isTongue, List.forall_mem_cons.mpr ⟨ck_X_goes, List.forall_mem_cons.mpr ⟨ck_X_nearest, List.forall_mem_cons.mpr ⟨ck_X_letters, List.forall_mem_cons.mpr ⟨ck_X_blank, List.forall_mem_cons.mpr ⟨ck_X_fault, fun _ h => absurd h List.not_mem_nil⟩⟩⟩⟩⟩⟩⟩⟩⟩⟩⟩⟩⟩⟩⟩⟩
def am_cz_7 : List (Nat × List (Nat × List Instr × Nat)) := [(112, cd_X_tree), (113, cd_X_variant), (114, cd_X_changes), (115, cd_X_chance), (116, cd_X_greatestDivisor), (117, cd_X_stake), (118, cd_X_whom), (119, cd_X_count), (120, cd_X_digest), (121, cd_X_digestLore), (122, cd_X_digestRiddles), (123, cd_X_digestTongues), (124, cd_X_digestLands), (125, cd_M_init), (126, cd_M_thing), (127, cd_M_in)]
theorem am_cw_7 : ∀ p ∈ am_cz_7, p.2.all (fun b => am_okb p.1 b.1 b.2.1 b.2.2) = true := List.forall_mem_cons.mpr ⟨ck_X_tree, List.forall_mem_cons.mpr ⟨ck_X_variant, List.forall_mem_cons.mpr ⟨ck_X_changes, List.forall_mem_cons.mpr ⟨ck_X_chance, List.forall_mem_cons.mpr ⟨ck_X_greatestDivisor, List.forall_mem_cons.mpr ⟨ck_X_stake, List.forall_mem_cons.mpr ⟨ck_X_whom, List.forall_mem_cons.mpr ⟨ck_X_count, List.forall_mem_cons.mpr ⟨ck_X_digest, List.forall_mem_cons.mpr ⟨ck_X_digestLore, List.forall_mem_cons.mpr ⟨ck_X_digestRiddles, List.forall_mem_cons.mpr ⟨ck_X_digestTongues, List.forall_mem_cons.mpr ⟨ck_X_digestLands, List.forall_mem_cons.mpr ⟨ck_M_init, List.forall_mem_cons.mpr ⟨ck_M_thing, List.forall_mem_cons.mpr ⟨ck_M_in, fun _ h => absurd h List.not_mem_nil⟩⟩⟩⟩⟩⟩⟩⟩⟩⟩⟩⟩⟩⟩⟩⟩
def am_cz_8 : List (Nat × List (Nat × List Instr × Nat)) := [(128, cd_M_sense), (129, cd_M_isWord), (130, cd_M_senseOf), (131, cd_M_saying), (132, cd_M_as), (133, cd_M_isSaying), (134, cd_M_fits), (135, cd_M_isThing), (136, cd_M_by), (137, cd_M_bitsOf), (138, cd_M_has), (139, cd_M_riddle), (140, cd_M_more), (141, cd_M_isRiddle), (142, cd_M_said), (143, cd_M_answers)]
theorem am_cw_8 : ∀ p ∈ am_cz_8, p.2.all (fun b => am_okb p.1 b.1 b.2.1 b.2.2) = true := List.forall_mem_cons.mpr ⟨ck_M_sense, List.forall_mem_cons.mpr ⟨ck_M_isWord, List.forall_mem_cons.mpr ⟨ck_M_senseOf, List.forall_mem_cons.mpr ⟨ck_M_saying, List.forall_mem_cons.mpr ⟨ck_M_as, List.forall_mem_cons.mpr ⟨ck_M_isSaying, List.forall_mem_cons.mpr ⟨ck_M_fits, List.forall_mem_cons.mpr ⟨ck_M_isThing, List.forall_mem_cons.mpr ⟨ck_M_by, List.forall_mem_cons.mpr ⟨ck_M_bitsOf, List.forall_mem_cons.mpr ⟨ck_M_has, List.forall_mem_cons.mpr ⟨ck_M_riddle, List.forall_mem_cons.mpr ⟨ck_M_more, List.forall_mem_cons.mpr ⟨ck_M_isRiddle, List.forall_mem_cons.mpr ⟨ck_M_said, List.forall_mem_cons.mpr ⟨ck_M_answers, fun _ h => absurd h List.not_mem_nil⟩⟩⟩⟩⟩⟩⟩⟩⟩⟩⟩⟩⟩⟩⟩⟩
def am_cz_9 : List (Nat × List (Nat × List Instr × Nat)) := [(144, cd_M_answersOf), (145, cd_M_answersBy), (146, cd_M_turns), (147, cd_M_turnsOf), (148, cd_M_judge), (149, cd_M_astray), (150, cd_M_made), (151, cd_M_bestOf), (152, cd_M_head), (153, cd_M_hears), (154, cd_M_isHead), (155, cd_M_hearsOf), (156, cd_M_parts), (157, cd_M_blind), (158, cd_M_tongue), (159, cd_M_lack)]
theorem am_cw_9 : ∀ p ∈ am_cz_9, p.2.all (fun b => am_okb p.1 b.1 b.2.1 b.2.2) = true := List.forall_mem_cons.mpr ⟨ck_M_answersOf, List.forall_mem_cons.mpr ⟨ck_M_answersBy, List.forall_mem_cons.mpr ⟨ck_M_turns, List.forall_mem_cons.mpr ⟨ck_M_turnsOf, List.forall_mem_cons.mpr ⟨ck_M_judge, List.forall_mem_cons.mpr ⟨ck_M_astray, List.forall_mem_cons.mpr ⟨ck_M_made, List.forall_mem_cons.mpr ⟨ck_M_bestOf, List.forall_mem_cons.mpr ⟨ck_M_head, List.forall_mem_cons.mpr ⟨ck_M_hears, List.forall_mem_cons.mpr ⟨ck_M_isHead, List.forall_mem_cons.mpr ⟨ck_M_hearsOf, List.forall_mem_cons.mpr ⟨ck_M_parts, List.forall_mem_cons.mpr ⟨ck_M_blind, List.forall_mem_cons.mpr ⟨ck_M_tongue, List.forall_mem_cons.mpr ⟨ck_M_lack, fun _ h => absurd h List.not_mem_nil⟩⟩⟩⟩⟩⟩⟩⟩⟩⟩⟩⟩⟩⟩⟩⟩
def am_cz_10 : List (Nat × List (Nat × List Instr × Nat)) := [(160, cd_M_isTongue), (161, cd_M_goes), (162, cd_M_lacksOf), (163, cd_M_byIn), (164, cd_M_goesOf), (165, cd_M_nearest), (166, cd_M_letters), (167, cd_M_blank), (168, cd_M_fault), (169, cd_M_faultOf), (170, cd_M_go), (171, cd_M_addNode), (172, cd_M_endNode), (173, cd_M_tree), (174, cd_M_variant), (175, cd_M_changes)]
theorem am_cw_10 : ∀ p ∈ am_cz_10, p.2.all (fun b => am_okb p.1 b.1 b.2.1 b.2.2) = true := List.forall_mem_cons.mpr ⟨ck_M_isTongue, List.forall_mem_cons.mpr ⟨ck_M_goes, List.forall_mem_cons.mpr ⟨ck_M_lacksOf, List.forall_mem_cons.mpr ⟨ck_M_byIn, List.forall_mem_cons.mpr ⟨ck_M_goesOf, List.forall_mem_cons.mpr ⟨ck_M_nearest, List.forall_mem_cons.mpr ⟨ck_M_letters, List.forall_mem_cons.mpr ⟨ck_M_blank, List.forall_mem_cons.mpr ⟨ck_M_fault, List.forall_mem_cons.mpr ⟨ck_M_faultOf, List.forall_mem_cons.mpr ⟨ck_M_go, List.forall_mem_cons.mpr ⟨ck_M_addNode, List.forall_mem_cons.mpr ⟨ck_M_endNode, List.forall_mem_cons.mpr ⟨ck_M_tree, List.forall_mem_cons.mpr ⟨ck_M_variant, List.forall_mem_cons.mpr ⟨ck_M_changes, fun _ h => absurd h List.not_mem_nil⟩⟩⟩⟩⟩⟩⟩⟩⟩⟩⟩⟩⟩⟩⟩⟩
def am_cz_11 : List (Nat × List (Nat × List Instr × Nat)) := [(176, cd_M_leastChanges), (177, cd_M_leastOf), (178, cd_M_sureOf), (179, cd_M_chance), (180, cd_M_deal), (181, cd_M_common), (182, cd_M_stake), (183, cd_M_whom), (184, cd_M_layBrings), (185, cd_M_chosen), (186, cd_M_count), (187, cd_M_countOf), (188, cd_M_digest), (189, cd_M_tellSaid), (190, cd_M_tell), (191, cd_Arrays_fill)]
theorem am_cw_11 : ∀ p ∈ am_cz_11, p.2.all (fun b => am_okb p.1 b.1 b.2.1 b.2.2) = true := List.forall_mem_cons.mpr ⟨ck_M_leastChanges, List.forall_mem_cons.mpr ⟨ck_M_leastOf, List.forall_mem_cons.mpr ⟨ck_M_sureOf, List.forall_mem_cons.mpr ⟨ck_M_chance, List.forall_mem_cons.mpr ⟨ck_M_deal, List.forall_mem_cons.mpr ⟨ck_M_common, List.forall_mem_cons.mpr ⟨ck_M_stake, List.forall_mem_cons.mpr ⟨ck_M_whom, List.forall_mem_cons.mpr ⟨ck_M_layBrings, List.forall_mem_cons.mpr ⟨ck_M_chosen, List.forall_mem_cons.mpr ⟨ck_M_count, List.forall_mem_cons.mpr ⟨ck_M_countOf, List.forall_mem_cons.mpr ⟨ck_M_digest, List.forall_mem_cons.mpr ⟨ck_M_tellSaid, List.forall_mem_cons.mpr ⟨ck_M_tell, List.forall_mem_cons.mpr ⟨ck_Arrays_fill, fun _ h => absurd h List.not_mem_nil⟩⟩⟩⟩⟩⟩⟩⟩⟩⟩⟩⟩⟩⟩⟩⟩
def am_cz_12 : List (Nat × List (Nat × List Instr × Nat)) := [(192, cd_Integer_bitCount), (193, cd_Arrays_fill_L), (194, cd_Law_law)]
theorem am_cw_12 : ∀ p ∈ am_cz_12, p.2.all (fun b => am_okb p.1 b.1 b.2.1 b.2.2) = true := List.forall_mem_cons.mpr ⟨ck_Integer_bitCount, List.forall_mem_cons.mpr ⟨ck_Arrays_fill_L, List.forall_mem_cons.mpr ⟨ck_Law_law, fun _ h => absurd h List.not_mem_nil⟩⟩⟩
def am_cz : List (Nat × List (Nat × List Instr × Nat)) := am_cz_0 ++ (am_cz_1 ++ (am_cz_2 ++ (am_cz_3 ++ (am_cz_4 ++ (am_cz_5 ++ (am_cz_6 ++ (am_cz_7 ++ (am_cz_8 ++ (am_cz_9 ++ (am_cz_10 ++ (am_cz_11 ++ (am_cz_12))))))))))))
theorem am_cw : ∀ p ∈ am_cz, p.2.all (fun b => am_okb p.1 b.1 b.2.1 b.2.2) = true := by
  intro p h
  simp only [am_cz, List.mem_append] at h
  rcases h with h | h | h | h | h | h | h | h | h | h | h | h | h
  · exact am_cw_0 p h
  · exact am_cw_1 p h
  · exact am_cw_2 p h
  · exact am_cw_3 p h
  · exact am_cw_4 p h
  · exact am_cw_5 p h
  · exact am_cw_6 p h
  · exact am_cw_7 p h
  · exact am_cw_8 p h
  · exact am_cw_9 p h
  · exact am_cw_10 p h
  · exact am_cw_11 p h
  · exact am_cw_12 p h
theorem am_cz1 : am_cz.map (fun p => p.1) = List.range 195 := by decide +kernel
set_option maxRecDepth 100000 in
theorem am_cz2 : am_cz.map (fun p => p.2) = am_cds := rfl
theorem am_code_ok {y pc nx : Nat} {is : List Instr} (h : am_blk y pc = some (is, nx)) : am_okb y pc is nx = true ∧ y < 195 := by
  have h1 := am_lk h
  by_cases hy : y < 195
  · refine ⟨?_, hy⟩
    have hl : am_cz.length = 195 := by rw [← List.length_map (f := fun p => p.1), am_cz1, List.length_range]
    have hy2 : y < am_cz.length := by omega
    have e1 : am_cz[y].1 = y := by
      have : (am_cz.map (fun p => p.1))[y]'(by simpa using hy2) = y := by simp only [am_cz1, List.getElem_range]
      simpa using this
    have e2 : am_cds.getD y [] = am_cz[y].2 := by
      rw [← am_cz2, List.getD_eq_getElem?_getD, List.getElem?_map, List.getElem?_eq_getElem hy2]
      rfl
    have h2 := am_cw am_cz[y] (List.getElem_mem hy2)
    rw [e1, ← e2] at h2
    exact List.all_eq_true.mp h2 _ h1
  · have : am_cds.getD y [] = [] := by
      rw [List.getD_eq_getElem?_getD, List.getElem?_eq_none]
      · rfl
      · rw [← am_cz2, List.length_map, ← List.length_map (f := fun p => p.1), am_cz1, List.length_range]; omega
    rw [this] at h1
    cases h1
def am_nest : Cond → Bool
  | .fieldLinkNest .. | .methodLinkNest .. => true
  | _ => false
def am_tyf (ci : Nat) : Nat → FieldType := match ci with
  | 0 => tyX0
  | 1 => tyX1
  | 2 => tyX2
  | 3 => tyX3
  | 4 => tyX4
  | 5 => tyX5
  | 6 => tyX6
  | 7 => tyX7
  | 8 => tyX8
  | 9 => tyX9
  | 10 => tyX10
  | 11 => tyX11
  | _ => tyX12
def am_tcd (t : FieldType) : Nat := match t with
  | .int => 0
  | .boolean => 1
  | .object _ => 2
  | .array _ => 2
  | .long => 3
  | _ => 5
def am_ckf (e : (Nat × Nat) × Nat × Nat × Nat × Bool × Nat) : Bool := match vwCl[e.2.1]? with
  | some r => decide (e.2.2.1 < r.2.2) && decide (e.2.2.1 < 64) && decide (e.2.1 < 64) && decide ((r.2.1 e.2.2.1).1 = r.1) && (am_tcd (am_tyf e.2.1 e.2.2.1) == e.2.2.2.1) && decide (e.2.2.2.1 < 5) &&
    decide (lw_tbl[e.2.2.2.2.2]? = some (if e.2.2.2.2.1 = true then .fieldLinkNest (am_nm e.1.1) e.1.2 r.1 (r.2.1 e.2.2.1).2.1 (r.2.1 e.2.2.1).2.2.1 "MouthRiddles" else .fieldLink (am_nm e.1.1) e.1.2 r.1 (r.2.1 e.2.2.1).2.1 (r.2.1 e.2.2.1).2.2.1))
  | none => false
set_option maxRecDepth 100000 in
theorem am_fl_ok : am_fl.all am_ckf = true := by decide +kernel
def am_ckm (e : (Nat × Nat) × Nat × Bool × Nat) : Bool := decide (lw_tbl[e.2.2.2]? = some (if e.2.2.1 = true then .methodLinkNest (am_nm e.1.1) e.1.2 (am_y e.2.1) "MouthRiddles" else .methodLink (am_nm e.1.1) e.1.2 (if e.2.1 = 1000 then objectInit else if e.2.1 = 1001 then arraycopyName else if e.2.1 = 1002 then Lib.Math.min.name else if e.2.1 = 1003 then Lib.Math.max.name else if e.2.1 = 1004 then Lib.MathLoose.max_long.x else am_y e.2.1))) && decide (e.2.1 < 195 ∨ e.2.1 = 1000 ∨ e.2.1 = 1001 ∨ e.2.1 = 1002 ∨ e.2.1 = 1003 ∨ e.2.1 = 1004)
set_option maxRecDepth 100000 in
theorem am_ml_ok : am_ml.all am_ckm = true := by decide +kernel
def am_ckq (q : Nat) : Bool :=
  decide ((am_y q).cls = am_nm (am_oc q)) && decide (am_nl q ≤ 40) && plainName (am_y q).cls && decide ((am_y q).cls ≠ "java/lang/invoke/MethodHandle" ∧ (am_y q).cls ≠ "java/lang/invoke/VarHandle") &&
  decide (lw_tbl[(am_pl.getD q (0, 0, 0, 0)).1]? = some (.code (am_y q) (am_by q) (am_nl q) (am_rt q))) &&
  decide (lw_tbl[(am_pl.getD q (0, 0, 0, 0)).2.2.2]? = some (.initialized (am_y q).cls)) &&
  (if (am_m q).2.2.2 = 99 then decide (lw_tbl[(am_pl.getD q (0, 0, 0, 0)).2.1]? = some (.static (am_y q))) && decide ((parseMethodDescriptor (am_y q).desc).map (fun d => d.parameters.length) = some (am_m q).2.1)
   else decide (lw_tbl[(am_pl.getD q (0, 0, 0, 0)).2.1]? = some (.instanceMethod (am_y q))) && decide ((parseMethodDescriptor (am_y q).desc).map (fun d => d.parameters.length + 1) = some (am_m q).2.1) &&
     (match vwCl[(am_m q).2.2.2]? with
      | some r => decide (r.1 = (am_y q).cls)
      | none => false) &&
     (if (am_y q).name = "<init>" then decide (am_rt q = none) else decide (lw_tbl[(am_pl.getD q (0, 0, 0, 0)).2.2.1]? = some (.selects (am_y q).cls (am_y q) (am_y q)))))
set_option maxRecDepth 100000 in
theorem am_q_0 : ((List.range 12).drop 0).all am_ckq = true := by decide +kernel
set_option maxRecDepth 100000 in
theorem am_q_12 : ((List.range 24).drop 12).all am_ckq = true := by decide +kernel
set_option maxRecDepth 100000 in
theorem am_q_24 : ((List.range 36).drop 24).all am_ckq = true := by decide +kernel
set_option maxRecDepth 100000 in
theorem am_q_36 : ((List.range 48).drop 36).all am_ckq = true := by decide +kernel
set_option maxRecDepth 100000 in
theorem am_q_48 : ((List.range 60).drop 48).all am_ckq = true := by decide +kernel
set_option maxRecDepth 100000 in
theorem am_q_60 : ((List.range 72).drop 60).all am_ckq = true := by decide +kernel
set_option maxRecDepth 100000 in
theorem am_q_72 : ((List.range 84).drop 72).all am_ckq = true := by decide +kernel
set_option maxRecDepth 100000 in
theorem am_q_84 : ((List.range 96).drop 84).all am_ckq = true := by decide +kernel
set_option maxRecDepth 100000 in
theorem am_q_96 : ((List.range 108).drop 96).all am_ckq = true := by decide +kernel
set_option maxRecDepth 100000 in
theorem am_q_108 : ((List.range 120).drop 108).all am_ckq = true := by decide +kernel
set_option maxRecDepth 100000 in
theorem am_q_120 : ((List.range 132).drop 120).all am_ckq = true := by decide +kernel
set_option maxRecDepth 100000 in
theorem am_q_132 : ((List.range 144).drop 132).all am_ckq = true := by decide +kernel
set_option maxRecDepth 100000 in
theorem am_q_144 : ((List.range 156).drop 144).all am_ckq = true := by decide +kernel
set_option maxRecDepth 100000 in
theorem am_q_156 : ((List.range 168).drop 156).all am_ckq = true := by decide +kernel
set_option maxRecDepth 100000 in
theorem am_q_168 : ((List.range 180).drop 168).all am_ckq = true := by decide +kernel
set_option maxRecDepth 100000 in
theorem am_q_180 : ((List.range 192).drop 180).all am_ckq = true := by decide +kernel
set_option maxRecDepth 100000 in
theorem am_q_192 : ((List.range 194).drop 192).all am_ckq = true := by decide +kernel
theorem am_q_ok {q : Nat} (h : q < 194) : am_ckq q = true := by
  by_cases h0 : q < 12
  · exact List.all_eq_true.mp am_q_0 q (by rw [List.mem_drop_iff_getElem]; exact ⟨q - 0, by simp <;> omega, by simp <;> omega⟩)
  by_cases h12 : q < 24
  · exact List.all_eq_true.mp am_q_12 q (by rw [List.mem_drop_iff_getElem]; exact ⟨q - 12, by simp <;> omega, by simp <;> omega⟩)
  by_cases h24 : q < 36
  · exact List.all_eq_true.mp am_q_24 q (by rw [List.mem_drop_iff_getElem]; exact ⟨q - 24, by simp <;> omega, by simp <;> omega⟩)
  by_cases h36 : q < 48
  · exact List.all_eq_true.mp am_q_36 q (by rw [List.mem_drop_iff_getElem]; exact ⟨q - 36, by simp <;> omega, by simp <;> omega⟩)
  by_cases h48 : q < 60
  · exact List.all_eq_true.mp am_q_48 q (by rw [List.mem_drop_iff_getElem]; exact ⟨q - 48, by simp <;> omega, by simp <;> omega⟩)
  by_cases h60 : q < 72
  · exact List.all_eq_true.mp am_q_60 q (by rw [List.mem_drop_iff_getElem]; exact ⟨q - 60, by simp <;> omega, by simp <;> omega⟩)
  by_cases h72 : q < 84
  · exact List.all_eq_true.mp am_q_72 q (by rw [List.mem_drop_iff_getElem]; exact ⟨q - 72, by simp <;> omega, by simp <;> omega⟩)
  by_cases h84 : q < 96
  · exact List.all_eq_true.mp am_q_84 q (by rw [List.mem_drop_iff_getElem]; exact ⟨q - 84, by simp <;> omega, by simp <;> omega⟩)
  by_cases h96 : q < 108
  · exact List.all_eq_true.mp am_q_96 q (by rw [List.mem_drop_iff_getElem]; exact ⟨q - 96, by simp <;> omega, by simp <;> omega⟩)
  by_cases h108 : q < 120
  · exact List.all_eq_true.mp am_q_108 q (by rw [List.mem_drop_iff_getElem]; exact ⟨q - 108, by simp <;> omega, by simp <;> omega⟩)
  by_cases h120 : q < 132
  · exact List.all_eq_true.mp am_q_120 q (by rw [List.mem_drop_iff_getElem]; exact ⟨q - 120, by simp <;> omega, by simp <;> omega⟩)
  by_cases h132 : q < 144
  · exact List.all_eq_true.mp am_q_132 q (by rw [List.mem_drop_iff_getElem]; exact ⟨q - 132, by simp <;> omega, by simp <;> omega⟩)
  by_cases h144 : q < 156
  · exact List.all_eq_true.mp am_q_144 q (by rw [List.mem_drop_iff_getElem]; exact ⟨q - 144, by simp <;> omega, by simp <;> omega⟩)
  by_cases h156 : q < 168
  · exact List.all_eq_true.mp am_q_156 q (by rw [List.mem_drop_iff_getElem]; exact ⟨q - 156, by simp <;> omega, by simp <;> omega⟩)
  by_cases h168 : q < 180
  · exact List.all_eq_true.mp am_q_168 q (by rw [List.mem_drop_iff_getElem]; exact ⟨q - 168, by simp <;> omega, by simp <;> omega⟩)
  by_cases h180 : q < 192
  · exact List.all_eq_true.mp am_q_180 q (by rw [List.mem_drop_iff_getElem]; exact ⟨q - 180, by simp <;> omega, by simp <;> omega⟩)
  by_cases h192 : q < 194
  · exact List.all_eq_true.mp am_q_192 q (by rw [List.mem_drop_iff_getElem]; exact ⟨q - 192, by simp <;> omega, by simp <;> omega⟩)
  omega
def am_ckc (ci : Nat) : Bool := match vwCl[ci]? with
  | some r => decide (lw_tbl[(am_cp.getD ci (0, 0, [])).1]? = some (.instantiable r.1 r.2.2)) && decide (lw_tbl[(am_cp.getD ci (0, 0, [])).2.1]? = some (.initialized r.1)) &&
    decide (u_ws r.1 r.2.1 r.2.2 = (am_cp.getD ci (0, 0, [])).2.2.filterMap (fun i => lw_tbl[i]?)) && decide ((am_df.getD ci []).length = r.2.2) && (List.range r.2.2).all (fun j => decide (defaultValue (am_tyf ci j) = vp_V (am_df.getD ci []) j))
  | none => false
set_option maxRecDepth 100000 in
theorem am_c_ok : (List.range 13).all am_ckc = true := by decide +kernel
def am_ckl (e : (Nat × Nat) × Nat × Nat) : Bool := match vwCl[e.2.1]? with
  | some r => decide (lw_tbl[e.2.2]? = some (.classLink (am_nm e.1.1) e.1.2 r.1)) && decide (e.2.1 < 13)
  | none => false
set_option maxRecDepth 100000 in
theorem am_cl_ok : am_cl.all am_ckl = true := by decide +kernel
set_option maxRecDepth 100000 in
theorem am_ki_ok : am_ki.all (fun e => decide (lw_tbl[e.2.2]? = some (.constant (am_nm e.1.1) e.1.2 (Int32.ofInt e.2.1)))) = true := by decide +kernel
set_option maxRecDepth 100000 in
theorem am_kl_ok : am_kl.all (fun e => decide (lw_tbl[e.2.2]? = some (.constantLong (am_nm e.1.1) e.1.2 (Int64.ofNat e.2.1)))) = true := by decide +kernel
set_option maxRecDepth 100000 in
theorem am_sg_ok : lw_tbl[am_sg.2.2]? = some (.fieldLink (am_nm am_sg.1) am_sg.2.1 "MouthRiddles$Stakes" "HEAD_PLACES" "[J") := by decide +kernel
set_option maxRecDepth 100000 in
theorem am_w_oi : (Cond.instanceMethod objectInit) ∈ lw_tbl := by decide +kernel
set_option maxRecDepth 100000 in
theorem am_w_oc : (Cond.code objectInit ⟨#[0xb1]⟩ 1 none) ∈ lw_tbl := by decide +kernel
set_option maxRecDepth 100000 in
theorem am_w_an : (Cond.native arraycopyName) ∈ lw_tbl := by decide +kernel
set_option maxRecDepth 100000 in
theorem am_w_as : (Cond.static arraycopyName) ∈ lw_tbl := by decide +kernel
set_option maxRecDepth 100000 in
theorem am_w_ai : (Cond.initialized "java/lang/System") ∈ lw_tbl := by decide +kernel
set_option maxRecDepth 100000 in
theorem am_w_mi : (Cond.initialized "java/lang/Math") ∈ lw_tbl := by decide +kernel
set_option maxRecDepth 100000 in
theorem am_w_m1 : (Cond.static Lib.Math.min.name) ∈ lw_tbl := by decide +kernel
set_option maxRecDepth 100000 in
theorem am_w_m2 : (Cond.static Lib.Math.max.name) ∈ lw_tbl := by decide +kernel
set_option maxRecDepth 100000 in
theorem am_w_m3 : (Cond.static Lib.MathLoose.max_long.x) ∈ lw_tbl := by decide +kernel
set_option maxRecDepth 100000 in
theorem am_w_n1 : (Cond.code Lib.Math.min.name Lib.Math.min.code 2 (some .int)) ∈ lw_tbl := by decide +kernel
set_option maxRecDepth 100000 in
theorem am_w_n2 : (Cond.code Lib.Math.max.name Lib.Math.max.code 2 (some .int)) ∈ lw_tbl := by decide +kernel
set_option maxRecDepth 100000 in
theorem am_w_n3 : (Cond.code Lib.MathLoose.max_long.x Lib.MathLoose.max_long.code 4 (some .long)) ∈ lw_tbl := by decide +kernel
set_option maxRecDepth 100000 in
theorem am_w_ci : (Cond.arrayClass .int) ∈ lw_tbl := by decide +kernel
set_option maxRecDepth 100000 in
theorem am_w_cj : (Cond.arrayClass .long) ∈ lw_tbl := by decide +kernel
set_option maxRecDepth 100000 in
theorem am_w_ca : (Cond.arrayOver (.object "MouthRiddles$Sight")) ∈ lw_tbl := by decide +kernel
theorem am_tyf_ok : ∀ (ci : Nat) (r : vw_C), vwCl[ci]? = some r → ∀ k, k < r.2.2 → parseFieldDescriptor (r.2.1 k).2.2.1 = some (am_tyf ci k)
  | 0, r, h => by cases h; exact tyX0_ok
  | 1, r, h => by cases h; exact tyX1_ok
  | 2, r, h => by cases h; exact tyX2_ok
  | 3, r, h => by cases h; exact tyX3_ok
  | 4, r, h => by cases h; exact tyX4_ok
  | 5, r, h => by cases h; exact tyX5_ok
  | 6, r, h => by cases h; exact tyX6_ok
  | 7, r, h => by cases h; exact tyX7_ok
  | 8, r, h => by cases h; exact tyX8_ok
  | 9, r, h => by cases h; exact tyX9_ok
  | 10, r, h => by cases h; exact tyX10_ok
  | 11, r, h => by cases h; exact tyX11_ok
  | 12, r, h => by cases h; exact tyX12_ok
  | n + 13, r, h => by simp [vwCl] at h
theorem am_nmf_ok : ∀ (ci : Nat) (r : vw_C), vwCl[ci]? = some r → ∀ a, a < r.2.2 → ∀ b, b < r.2.2 → a ≠ b → (r.2.1 a).2.1 ≠ (r.2.1 b).2.1
  | 0, r, h => by cases h; exact nmX0
  | 1, r, h => by cases h; exact nmX1
  | 2, r, h => by cases h; exact nmX2
  | 3, r, h => by cases h; exact nmX3
  | 4, r, h => by cases h; exact nmX4
  | 5, r, h => by cases h; exact nmX5
  | 6, r, h => by cases h; exact nmX6
  | 7, r, h => by cases h; exact nmX7
  | 8, r, h => by cases h; exact nmX8
  | 9, r, h => by cases h; exact nmX9
  | 10, r, h => by cases h; exact nmX10
  | 11, r, h => by cases h; exact nmX11
  | 12, r, h => by cases h; exact nmX12
  | n + 13, r, h => by simp [vwCl] at h
end
section
/-! THE REAL MACHINE FOLLOWS THE ABSTRACT ONE: what holds between them -/
def am_ad (tS b base : Nat) : Nat → Nat
  | 0 => tS
  | 1 => b
  | k + 2 => base + k
def am_tr (ad : Nat → Nat) (v : Value) : Value := match v with
  | .ref k => .ref (ad k)
  | v => v
def am_trA (ad : Nat → Nat) (a : vp_A) : vp_A := (a.1, match a.2 with
  | .inr (.inr (.inr (.inr f))) => .inr (.inr (.inr (.inr (fun i => (f i).map ad))))
  | x => x)
def am_trE (ad : Nat → Nat) (tys : List (ClassId × FieldType)) (c : am_E) : va_E := match c with
  | .inl (t, a) => .inl ((tys.getD t (0, .int)).1, am_trA ad a)
  | .inr (ci, fs) => .inr (ci, fs.map (am_tr ad))
def am_ws (ad : Nat → Nat) (tys : List (ClassId × FieldType)) (base : Nat) (h : am_H) : va_W := (List.range (h.1 - 2)).map (fun k => (base + k, am_trE ad tys (h.2.2 (k + 2))))
theorem am_tr_cat (ad : Nat → Nat) (v : Value) : (am_tr ad v).category = v.category := by cases v <;> rfl
theorem am_map_cat (ad : Nat → Nat) (l : List Value) : ((l.map (am_tr ad)).map (fun v => v.category)).sum = (l.map Value.category).sum := by
  induction l with
  | nil => rfl
  | cons a l ih => simp only [List.map_cons, List.sum_cons, am_tr_cat]; rw [ih]
/-- the locals -/
def am_Lo (ad : Nat → Nat) (al : List Value) (ls : Array Slot) : Prop := ls.size = al.length ∧ lv_wf ls ∧ ∀ (k : Nat) (v : Value), al[k]? = some v → v ≠ .null → ls[k]? = some (.val (am_tr ad v))
def am_fx (ad : Nat → Nat) (al : List Value) : List (Nat × Value) := (List.range al.length).filterMap (fun k => match al[k]? with
  | some v => if v = .null then none else some (k, am_tr ad v)
  | none => none)
theorem am_fx_mem {ad : Nat → Nat} {al : List Value} {k : Nat} {w : Value} : (k, w) ∈ am_fx ad al ↔ ∃ v, al[k]? = some v ∧ v ≠ .null ∧ w = am_tr ad v := by
  simp only [am_fx, List.mem_filterMap, List.mem_range]
  constructor
  · rintro ⟨j, hj, h⟩
    cases hv : al[j]? with
    | none => rw [hv] at h; cases h
    | some v =>
      rw [hv] at h
      dsimp only at h
      by_cases hn : v = .null
      · rw [if_pos hn] at h; cases h
      · rw [if_neg hn] at h
        simp only [Option.some.injEq, Prod.mk.injEq] at h
        obtain ⟨rfl, rfl⟩ := h
        exact ⟨v, hv, hn, rfl⟩
  · rintro ⟨v, hv, hn, rfl⟩
    refine ⟨k, (List.getElem?_eq_some_iff.mp hv).1, ?_⟩
    rw [hv]
    dsimp only
    rw [if_neg hn]
theorem am_Lo.has {ad : Nat → Nat} {al : List Value} {ls : Array Slot} (h : am_Lo ad al ls) : lv_has ls al.length (am_fx ad al) := ⟨h.1, h.2.1, fun q hq => by
  obtain ⟨k, w⟩ := q
  obtain ⟨v, hv, hn, rfl⟩ := am_fx_mem.mp hq
  exact h.2.2 k v hv hn⟩
theorem am_ok_lt {al : List Value} {i : Nat} (h : am_ok al i = true) : i < al.length := by
  cases i with
  | zero => simpa [am_ok] using h
  | succ j => simp only [am_ok, Bool.and_eq_true, decide_eq_true_eq] at h; exact h.1
theorem am_ok_prev {al : List Value} {i k : Nat} {v : Value} (h : am_ok al i = true) (hk : k + 1 = i) (hv : al[k]? = some v) : v.category = 1 := by
  subst hk
  simp only [am_ok, Bool.and_eq_true, hv] at h
  simpa using h.2
theorem am_Lo.set {ad : Nat → Nat} {al : List Value} {ls' : Array Slot} {i : Nat} {v : Value} (hok : am_ok al i = true) (h : lv_has ls' al.length ((i, am_tr ad v) :: (am_fx ad al).filter (fun q => !(q.1 == i) && !(q.1 + 1 == i && q.2.category == 2)))) : am_Lo ad (al.set i v) ls' := by
  refine ⟨by rw [List.length_set]; exact h.1, h.2.1, fun k w hw hn => ?_⟩
  by_cases hk : k = i
  · subst hk
    rw [List.getElem?_set_self (am_ok_lt hok)] at hw
    cases hw
    exact h.2.2 _ List.mem_cons_self
  · rw [List.getElem?_set_ne (fun e => hk e.symm)] at hw
    refine h.2.2 (k, am_tr ad w) (List.mem_cons_of_mem _ (List.mem_filter.mpr ⟨am_fx_mem.mpr ⟨w, hw, hn, rfl⟩, ?_⟩))
    simp only [Bool.and_eq_true, Bool.not_eq_true', beq_eq_false_iff_ne, ne_eq, Bool.and_eq_false_iff, am_tr_cat]
    refine ⟨hk, ?_⟩
    by_cases hk2 : k + 1 = i
    · right; rw [am_ok_prev hok hk2 hw]; decide
    · left; exact hk2
theorem am_Lo.setL {ad : Nat → Nat} {al : List Value} {ls' : Array Slot} {i : Nat} {v : Value} (hok : am_ok al i = true) (h : lv_has ls' al.length ((i, am_tr ad v) :: (am_fx ad al).filter (fun q => !(q.1 == i) && (!(q.1 == i + 1) && !(q.1 + 1 == i && q.2.category == 2))))) : am_Lo ad ((al.set (i + 1) .null).set i v) ls' := by
  refine ⟨by rw [List.length_set, List.length_set]; exact h.1, h.2.1, fun k w hw hn => ?_⟩
  by_cases hk : k = i
  · subst hk
    rw [List.getElem?_set_self (by rw [List.length_set]; exact am_ok_lt hok)] at hw
    cases hw
    exact h.2.2 _ List.mem_cons_self
  · rw [List.getElem?_set_ne (fun e => hk e.symm)] at hw
    by_cases hk1 : k = i + 1
    · subst hk1
      by_cases hl : i + 1 < al.length
      · rw [List.getElem?_set_self hl] at hw
        cases hw
        exact absurd rfl hn
      · rw [List.getElem?_eq_none (by rw [List.length_set]; omega)] at hw
        cases hw
    rw [List.getElem?_set_ne (fun e => hk1 e.symm)] at hw
    refine h.2.2 (k, am_tr ad w) (List.mem_cons_of_mem _ (List.mem_filter.mpr ⟨am_fx_mem.mpr ⟨w, hw, hn, rfl⟩, ?_⟩))
    simp only [Bool.and_eq_true, Bool.not_eq_true', beq_eq_false_iff_ne, ne_eq, Bool.and_eq_false_iff, am_tr_cat]
    refine ⟨hk, hk1, ?_⟩
    by_cases hk2 : k + 1 = i
    · right; rw [am_ok_prev hok hk2 hw]; decide
    · left; exact hk2
/-- a static array of longs -/
def am_Y (t : Nat) (f : Nat → Int64) (U : State) (H : Heap) : Prop := ∃ scr : Cell, H[t]? = some scr ∧ U.isArrayOf scr .long ∧ scr.vm ≠ .unknown ∧ scr.slots.size = 6 ∧ ∀ j : Nat, j < 6 → scr.slots[j]? = some (.long (f j))
def am_tys (cI cJ cS : ClassId) : List (ClassId × FieldType) := [(cI, .int), (cJ, .long), (cS, .object "MouthRiddles$Sight")]
def am_Ab (base : Nat) : Nat → Prop := fun q => base ≤ q
/-- the script's and the static array's kinds of cell are theirs alone -/
def am_tagF (c : am_E) : Bool := match c with
  | .inl (3, _) => false
  | .inl (4, _) => false
  | _ => true
/-- heap and abstract heap -/
def am_R (tS b base L : Nat) (xs : Nat → Int32) (hp : Nat → Int64) (D : va_G) (cI cJ cS : ClassId) (h : am_H) (H : Heap) : Prop :=
  va_P D vwCl (am_ws (am_ad tS b base) (am_tys cI cJ cS) base h) H ∧ 2 ≤ h.1 ∧ h.2.2 0 = .inl (4, 6, .inr (.inl hp)) ∧ h.2.2 1 = .inl (3, L, .inl xs) ∧ (∀ k, h.1 ≤ k → h.2.2 k = am_no) ∧ ∀ k, 2 ≤ k → am_tagF (h.2.2 k) = true
/-- what holds of a state at a method's entry, its words apart -/
def am_U (tS b base L : Nat) (xs : Nat → Int32) (hp : Nat → Int64) (D : va_G) (cI cJ cS : ClassId) (U : State) : Prop :=
  va_K D vwCl (am_tys cI cJ cS) U ∧ (∀ w ∈ lw_tbl, am_nest w = true → va_Nw w U) ∧ va_AO "MouthRiddles$Sight" U ∧ va_Z "MouthRiddles$Stakes" "HEAD_PLACES" "[J" (.ref tS) (am_Ab base) U U.heap ∧ am_Y tS hp U U.heap ∧ va_X b L xs U U.heap ∧ tS < base ∧ b < base ∧ base ≤ U.heap.size
def am_Wd (args : Array Value) (s : State) : Prop := ∀ w ∈ lw_tbl, goodWord w = true → w.before args s = true
section REL
variable {tS b base L : Nat} {xs : Nat → Int32} {hp : Nat → Int64} {D : va_G} {cI cJ cS : ClassId} {h : am_H} {H H1 : Heap}
theorem am_ws_get {ad : Nat → Nat} {tys : List (ClassId × FieldType)} {k : Nat} (h2 : 2 ≤ k) (hk : k < h.1) : (am_ws ad tys base h)[k - 2]? = some (base + (k - 2), am_trE ad tys (h.2.2 k)) := by
  simp only [am_ws, List.getElem?_map]
  rw [List.getElem?_range (by omega)]
  simp only [Option.map_some]
  rw [show k - 2 + 2 = k by omega]
theorem am_ws_inv {ad : Nat → Nat} {tys : List (ClassId × FieldType)} {i : Nat} {q : Nat × va_E} (e : (am_ws ad tys base h)[i]? = some q) : i + 2 < h.1 ∧ q.1 = base + i := by
  simp only [am_ws, List.getElem?_map] at e
  by_cases hi : i < h.1 - 2
  · rw [List.getElem?_range hi] at e
    simp only [Option.map_some, Option.some.injEq] at e
    rw [← e]
    exact ⟨by omega, rfl⟩
  · rw [List.getElem?_eq_none (by simp; omega)] at e
    cases e
theorem am_ad_k {k : Nat} (h2 : 2 ≤ k) : am_ad tS b base k = base + (k - 2) := by
  match k, h2 with
  | k + 2, _ => rfl
theorem am_D (ad : Nat → Nat) (tys : List (ClassId × FieldType)) (h : am_H) : va_D (am_Ab base) (am_ws ad tys base h) := by
  refine ⟨fun i j p q hi hj e => ?_, fun k q hq => ?_⟩
  · have h1 := am_ws_inv hi
    have h2 := am_ws_inv hj
    omega
  · have h1 := am_ws_inv hq
    show base ≤ q.1
    omega
theorem am_ws_set {ad : Nat → Nat} {tys : List (ClassId × FieldType)} {k : Nat} (h2 : 2 ≤ k) (hk : k < h.1) (c : am_E) : (am_ws ad tys base h).set (k - 2) (base + (k - 2), am_trE ad tys c) = am_ws ad tys base (am_set h k c) := by
  apply List.ext_getElem?
  intro i
  rw [List.getElem?_set]
  by_cases hi : k - 2 = i
  · rw [if_pos hi, if_pos (by simp [am_ws]; omega)]
    subst hi
    rw [am_ws_get (h := am_set h k c) h2 hk]
    simp [am_set, va_up]
  · rw [if_neg hi]
    by_cases hl : i < h.1 - 2
    · have e1 := am_ws_get (ad := ad) (tys := tys) (base := base) (h := h) (k := i + 2) (by omega) (by omega)
      have e2 := am_ws_get (ad := ad) (tys := tys) (base := base) (h := am_set h k c) (k := i + 2) (by omega) (by show i + 2 < h.1; omega)
      rw [show i + 2 - 2 = i by omega] at e1 e2
      rw [e1, e2]
      simp only [am_set, va_up]
      rw [if_neg (by omega)]
    · rw [List.getElem?_eq_none (by simp [am_ws]; omega), List.getElem?_eq_none (by simp [am_ws, am_set]; omega)]
theorem am_ws_new {ad : Nat → Nat} {tys : List (ClassId × FieldType)} (h2 : 2 ≤ h.1) (n : Nat) (c : am_E) : am_ws ad tys base (am_new h n c) = am_ws ad tys base h ++ [(base + (h.1 - 2), am_trE ad tys c)] := by
  have e : (am_new h n c).1 - 2 = (h.1 - 2) + 1 := by show h.1 + 1 - 2 = _; omega
  simp only [am_ws]
  rw [e, List.range_succ, List.map_append]
  congr 1
  · apply List.map_congr_left
    intro k hk
    have := List.mem_range.mp hk
    simp only [am_new, va_up]
    rw [if_neg (by omega)]
  · simp only [List.map_cons, List.map_nil, am_new, va_up]
    rw [if_pos (by omega)]
theorem am_rng (hR : am_R tS b base L xs hp D cI cJ cS h H) {k : Nat} {c : am_E} (hc : h.2.2 k = c) (h4 : c ≠ .inl (4, 6, .inr (.inl hp))) (h3 : c ≠ .inl (3, L, .inl xs)) (h9 : c ≠ am_no) : 2 ≤ k ∧ k < h.1 := by
  obtain ⟨-, -, e0, e1, e9, -⟩ := hR
  refine ⟨?_, ?_⟩
  · match k, hc with
    | 0, hc => exact absurd (hc.symm.trans e0) h4
    | 1, hc => exact absurd (hc.symm.trans e1) h3
    | k + 2, _ => omega
  · rcases Nat.lt_or_ge k h.1 with q | q
    · exact q
    · exact absurd (hc.symm.trans (e9 k q)) h9
theorem am_R.at (hR : am_R tS b base L xs hp D cI cJ cS h H) {k : Nat} (h2 : 2 ≤ k) (hk : k < h.1) : (am_ws (am_ad tS b base) (am_tys cI cJ cS) base h)[k - 2]? = some (am_ad tS b base k, am_trE (am_ad tS b base) (am_tys cI cJ cS) (h.2.2 k)) := by
  rw [am_ad_k h2]; exact am_ws_get h2 hk
theorem am_R.set (hR : am_R tS b base L xs hp D cI cJ cS h H) {k : Nat} (h2 : 2 ≤ k) (hk : k < h.1) {c : am_E} (hP : va_P D vwCl ((am_ws (am_ad tS b base) (am_tys cI cJ cS) base h).set (k - 2) (am_ad tS b base k, am_trE (am_ad tS b base) (am_tys cI cJ cS) c)) H1) (ht : am_tagF c = true) : am_R tS b base L xs hp D cI cJ cS (am_set h k c) H1 := by
  obtain ⟨-, q1, e0, e1, e9, eT⟩ := hR
  rw [am_ad_k h2, am_ws_set h2 hk] at hP
  refine ⟨hP, q1, ?_, ?_, fun j hj => ?_, fun j hj => ?_⟩
  · simp only [am_set, va_up]; rw [if_neg (by omega)]; exact e0
  · simp only [am_set, va_up]; rw [if_neg (by omega)]; exact e1
  · have : h.1 ≤ j := hj
    simp only [am_set, va_up]; rw [if_neg (by omega)]; exact e9 j this
  · simp only [am_set, va_up]
    by_cases hjk : j = k
    · rw [if_pos hjk]; exact ht
    · rw [if_neg hjk]; exact eT j hj
theorem am_R.new (hR : am_R tS b base L xs hp D cI cJ cS h H) {n : Nat} {c : am_E} (hP : va_P D vwCl (am_ws (am_ad tS b base) (am_tys cI cJ cS) base h ++ [(base + (h.1 - 2), am_trE (am_ad tS b base) (am_tys cI cJ cS) c)]) H1) (ht : am_tagF c = true) : am_R tS b base L xs hp D cI cJ cS (am_new h n c) H1 := by
  obtain ⟨-, q1, e0, e1, e9, eT⟩ := hR
  rw [← am_ws_new (n := n) q1] at hP
  refine ⟨hP, Nat.le_succ_of_le q1, ?_, ?_, fun j hj => ?_, fun j hj => ?_⟩
  · simp only [am_new, va_up]; rw [if_neg (by omega)]; exact e0
  · simp only [am_new, va_up]; rw [if_neg (by omega)]; exact e1
  · have : h.1 + 1 ≤ j := hj
    simp only [am_new, va_up]; rw [if_neg (by omega)]; exact e9 j (by omega)
  · simp only [am_new, va_up]
    by_cases hjk : j = h.1
    · rw [if_pos hjk]; exact ht
    · rw [if_neg hjk]; exact eT j hj
end REL
theorem am_inB {i : Int32} {n : Nat} (h : vp_inB i n = true) : vp_in i n := by
  simp only [vp_inB, Bool.and_eq_true, Bool.not_eq_true', decide_eq_false_iff_not, decide_eq_true_eq] at h
  intro q
  rcases q with q | q
  · exact h.1 q
  · omega
end
section
/-! STACK INSTRUCTIONS -/
theorem am_i1_inv {f : Int32 → Int32} {st st' : List Value} (h : am_i1 f st = some st') : ∃ a r, st = .int a :: r ∧ st' = .int (f a) :: r := by
  unfold am_i1 at h
  split at h
  · cases h; exact ⟨_, _, rfl, rfl⟩
  · cases h
theorem am_i2_inv {f : Int32 → Int32 → Int32} {st st' : List Value} (h : am_i2 f st = some st') : ∃ a b r, st = .int b :: .int a :: r ∧ st' = .int (f a b) :: r := by
  unfold am_i2 at h
  split at h
  · cases h; exact ⟨_, _, _, rfl, rfl⟩
  · cases h
theorem am_d2_inv {f : Int32 → Int32 → Int32} {st st' : List Value} (h : am_d2 f st = some st') : ∃ a b r, st = .int b :: .int a :: r ∧ st' = .int (f a b) :: r ∧ ¬ b = 0 := by
  unfold am_d2 at h
  split at h
  · rename_i b a r
    by_cases hb : b = 0
    · rw [if_pos hb] at h; cases h
    · rw [if_neg hb] at h; cases h; exact ⟨_, _, _, rfl, rfl, hb⟩
  · cases h
theorem am_l2_inv {f : Int64 → Int64 → Int64} {st st' : List Value} (h : am_l2 f st = some st') : ∃ a b r, st = .long b :: .long a :: r ∧ st' = .long (f a b) :: r := by
  unfold am_l2 at h
  split at h
  · cases h; exact ⟨_, _, _, rfl, rfl⟩
  · cases h
theorem am_e2_inv {f : Int64 → Int64 → Int64} {st st' : List Value} (h : am_e2 f st = some st') : ∃ a b r, st = .long b :: .long a :: r ∧ st' = .long (f a b) :: r ∧ ¬ b = 0 := by
  unfold am_e2 at h
  split at h
  · rename_i b a r
    by_cases hb : b = 0
    · rw [if_pos hb] at h; cases h
    · rw [if_neg hb] at h; cases h; exact ⟨_, _, _, rfl, rfl, hb⟩
  · cases h
theorem am_s2_inv {f : Int64 → Int32 → Int64} {st st' : List Value} (h : am_s2 f st = some st') : ∃ a b r, st = .int b :: .long a :: r ∧ st' = .long (f a b) :: r := by
  unfold am_s2 at h
  split at h
  · cases h; exact ⟨_, _, _, rfl, rfl⟩
  · cases h
theorem am_ld_inv {ls st st' : List Value} {k : Nat} {w : Value → Bool} (h : am_ld ls k w st = some st') : ∃ v, ls[k]? = some v ∧ w v = true ∧ st' = v :: st := by
  unfold am_ld at h
  split at h
  · rename_i v hv
    by_cases hw : w v = true
    · rw [if_pos hw] at h; cases h; exact ⟨v, hv, hw, rfl⟩
    · rw [if_neg hw] at h; cases h
  · cases h
theorem am_isI_inv {v : Value} (h : am_isI v = true) : ∃ x, v = .int x := by
  cases v <;> first | exact ⟨_, rfl⟩ | cases h
theorem am_isL_inv {v : Value} (h : am_isL v = true) : ∃ x, v = .long x := by
  cases v <;> first | exact ⟨_, rfl⟩ | cases h
theorem am_isR_inv {v : Value} (h : am_isR v = true) : ∃ x, v = .ref x := by
  cases v <;> first | exact ⟨_, rfl⟩ | cases h
theorem am_if_inv {b : Bool} {i j : Instr} (h : am_if b i = some j) : b = true ∧ i = j := by
  unfold am_if at h
  by_cases hb : b = true
  · rw [if_pos hb] at h; exact ⟨hb, Option.some.inj h⟩
  · rw [if_neg hb] at h; cases h
theorem am_len_inv {a n : Nat} (h : (a == n) = true) : a = n := by simpa using h
section SOP
variable {p : Program} {l : Launch} {e : Env} {R : Room} {s : State} {m : MethodId} {args : Array Value} {below : List Frame} {meth : Method} {c : Code} {H : Heap} {locs : List Loc} {cells slots : Nat} {Q : State → Prop}
variable {tS b base L : Nat} {xs : Nat → Int32} {hp : Nat → Int64} {D : va_G} {cI cJ cS : ClassId}
variable {y pc len : Nat} {ri i : Instr} {al st st' : List Value} {ls : Array Slot}
set_option maxHeartbeats 8000000 in
theorem am_sop_W (hx : p.tables.exec = Jvm.exec) (hb : c.code = am_by y) (hml : c.maxLocals = am_nl y) (hal : al.length = am_nl y) (hown : s.vm.findClass (am_nm (am_oc y)) = some m.cls) (hw : am_Wd args s) (hU : am_U tS b base L xs hp D cI cJ cS s) (hS : va_S (am_Ab base) s.heap H locs)
    (hfr : 1 ≤ R.frames) (hlo : 64 ≤ R.locals) (hce : cells ≤ R.cells) (hse : slots ≤ R.slots) (hL : am_Lo (am_ad tS b base) al ls) (hd : decode (am_by y) pc = .ok (ri, len)) (hc : am_conv y pc len ri = some i) (hs : am_sop i al st = some st')
    (k : W p l e R s m args below meth c H locs cells slots Q (F0 m (pc + len) ls (st'.map (am_tr (am_ad tS b base))))) : W p l e R s m args below meth c H locs cells slots Q (F0 m pc ls (st.map (am_tr (am_ad tS b base)))) := by
  have hmls : c.maxLocals = ls.size := by rw [hml, ← hal, hL.1]
  cases ri
  case iadd =>
    obtain ⟨h1, rfl⟩ := am_if_inv hc
    obtain rfl := am_len_inv (Bool.and_eq_true_iff.mp h1).1
    obtain ⟨x, z, r, rfl, rfl⟩ := am_i2_inv hs
    exact lv_iadd hx hb hd k
  case isub =>
    obtain ⟨h1, rfl⟩ := am_if_inv hc
    obtain rfl := am_len_inv (Bool.and_eq_true_iff.mp h1).1
    obtain ⟨x, z, r, rfl, rfl⟩ := am_i2_inv hs
    exact lv_isub hx hb hd k
  case imul =>
    obtain ⟨h1, rfl⟩ := am_if_inv hc
    obtain rfl := am_len_inv (Bool.and_eq_true_iff.mp h1).1
    obtain ⟨x, z, r, rfl, rfl⟩ := am_i2_inv hs
    exact lv_imul hx hb hd k
  case iand =>
    obtain ⟨h1, rfl⟩ := am_if_inv hc
    obtain rfl := am_len_inv (Bool.and_eq_true_iff.mp h1).1
    obtain ⟨x, z, r, rfl, rfl⟩ := am_i2_inv hs
    exact lv_iand hx hb hd k
  case ior =>
    obtain ⟨h1, rfl⟩ := am_if_inv hc
    obtain rfl := am_len_inv (Bool.and_eq_true_iff.mp h1).1
    obtain ⟨x, z, r, rfl, rfl⟩ := am_i2_inv hs
    exact lv_ior hx hb hd k
  case ixor =>
    obtain ⟨h1, rfl⟩ := am_if_inv hc
    obtain rfl := am_len_inv (Bool.and_eq_true_iff.mp h1).1
    obtain ⟨x, z, r, rfl, rfl⟩ := am_i2_inv hs
    exact lv_ixor hx hb hd k
  case ishl =>
    obtain ⟨h1, rfl⟩ := am_if_inv hc
    obtain rfl := am_len_inv (Bool.and_eq_true_iff.mp h1).1
    obtain ⟨x, z, r, rfl, rfl⟩ := am_i2_inv hs
    exact lv_ishl hx hb hd k
  case ishr =>
    obtain ⟨h1, rfl⟩ := am_if_inv hc
    obtain rfl := am_len_inv (Bool.and_eq_true_iff.mp h1).1
    obtain ⟨x, z, r, rfl, rfl⟩ := am_i2_inv hs
    exact lv_ishr hx hb hd k
  case iushr =>
    obtain ⟨h1, rfl⟩ := am_if_inv hc
    obtain rfl := am_len_inv (Bool.and_eq_true_iff.mp h1).1
    obtain ⟨x, z, r, rfl, rfl⟩ := am_i2_inv hs
    exact lv_iushr hx hb hd rfl k
  case idiv =>
    obtain ⟨h1, rfl⟩ := am_if_inv hc
    obtain rfl := am_len_inv (Bool.and_eq_true_iff.mp h1).1
    obtain ⟨x, z, r, rfl, rfl, hz⟩ := am_d2_inv hs
    exact lv_idiv hx hb hd hz k
  case irem =>
    obtain ⟨h1, rfl⟩ := am_if_inv hc
    obtain rfl := am_len_inv (Bool.and_eq_true_iff.mp h1).1
    obtain ⟨x, z, r, rfl, rfl, hz⟩ := am_d2_inv hs
    exact lv_irem hx hb hd hz k
  case ineg =>
    obtain ⟨h1, rfl⟩ := am_if_inv hc
    obtain rfl := am_len_inv (Bool.and_eq_true_iff.mp h1).1
    obtain ⟨x, r, rfl, rfl⟩ := am_i1_inv hs
    exact lv_ineg hx hb hd k
  case ladd =>
    obtain ⟨h1, rfl⟩ := am_if_inv hc
    obtain rfl := am_len_inv (Bool.and_eq_true_iff.mp h1).1
    obtain ⟨x, z, r, rfl, rfl⟩ := am_l2_inv hs
    exact lv_ladd hx hb hd k
  case lsub =>
    obtain ⟨h1, rfl⟩ := am_if_inv hc
    obtain rfl := am_len_inv (Bool.and_eq_true_iff.mp h1).1
    obtain ⟨x, z, r, rfl, rfl⟩ := am_l2_inv hs
    exact lv_lsub hx hb hd k
  case lmul =>
    obtain ⟨h1, rfl⟩ := am_if_inv hc
    obtain rfl := am_len_inv (Bool.and_eq_true_iff.mp h1).1
    obtain ⟨x, z, r, rfl, rfl⟩ := am_l2_inv hs
    exact lv_lmul hx hb hd k
  case land =>
    obtain ⟨h1, rfl⟩ := am_if_inv hc
    obtain rfl := am_len_inv (Bool.and_eq_true_iff.mp h1).1
    obtain ⟨x, z, r, rfl, rfl⟩ := am_l2_inv hs
    exact lv_land hx hb hd k
  case lor =>
    obtain ⟨h1, rfl⟩ := am_if_inv hc
    obtain rfl := am_len_inv (Bool.and_eq_true_iff.mp h1).1
    obtain ⟨x, z, r, rfl, rfl⟩ := am_l2_inv hs
    exact lv_lor hx hb hd k
  case ldiv =>
    obtain ⟨h1, rfl⟩ := am_if_inv hc
    obtain rfl := am_len_inv (Bool.and_eq_true_iff.mp h1).1
    obtain ⟨x, z, r, rfl, rfl, hz⟩ := am_e2_inv hs
    exact lv_ldiv hx hb hd hz k
  case lrem =>
    obtain ⟨h1, rfl⟩ := am_if_inv hc
    obtain rfl := am_len_inv (Bool.and_eq_true_iff.mp h1).1
    obtain ⟨x, z, r, rfl, rfl, hz⟩ := am_e2_inv hs
    exact lv_lrem hx hb hd hz k
  case lshl =>
    obtain ⟨h1, rfl⟩ := am_if_inv hc
    obtain rfl := am_len_inv (Bool.and_eq_true_iff.mp h1).1
    obtain ⟨x, z, r, rfl, rfl⟩ := am_s2_inv hs
    exact lv_lshl hx hb hd rfl k
  case lushr =>
    obtain ⟨h1, rfl⟩ := am_if_inv hc
    obtain rfl := am_len_inv (Bool.and_eq_true_iff.mp h1).1
    obtain ⟨x, z, r, rfl, rfl⟩ := am_s2_inv hs
    exact lv_lushr hx hb hd rfl k
  case lcmp =>
    obtain ⟨h1, rfl⟩ := am_if_inv hc
    obtain rfl := am_len_inv (Bool.and_eq_true_iff.mp h1).1
    simp only [am_sop] at hs
    split at hs
    · cases hs; exact W.lcmp hx hb hd k
    · cases hs
  case i2l =>
    obtain ⟨h1, rfl⟩ := am_if_inv hc
    obtain rfl := am_len_inv (Bool.and_eq_true_iff.mp h1).1
    simp only [am_sop] at hs
    split at hs
    · cases hs; exact lv_i2l hx hb hd rfl k
    · cases hs
  case l2i =>
    obtain ⟨h1, rfl⟩ := am_if_inv hc
    obtain rfl := am_len_inv (Bool.and_eq_true_iff.mp h1).1
    simp only [am_sop] at hs
    split at hs
    · cases hs; exact lv_l2i hx hb hd rfl k
    · cases hs
  case dup =>
    obtain ⟨h1, rfl⟩ := am_if_inv hc
    obtain rfl := am_len_inv (Bool.and_eq_true_iff.mp h1).1
    simp only [am_sop] at hs
    split at hs
    · cases hs; exact lv_dup hx hb hd rfl k
    · cases hs; exact lv_dup hx hb hd rfl k
    · cases hs
  case pop =>
    obtain ⟨h1, rfl⟩ := am_if_inv hc
    obtain rfl := am_len_inv (Bool.and_eq_true_iff.mp h1).1
    simp only [am_sop] at hs
    split at hs
    · cases hs; exact lv_pop hx hb hd rfl k
    · cases hs; exact lv_pop hx hb hd rfl k
    · cases hs
  case dup2 =>
    obtain ⟨h1, rfl⟩ := am_if_inv hc
    obtain rfl := am_len_inv (Bool.and_eq_true_iff.mp h1).1
    simp only [am_sop] at hs
    split at hs
    · cases hs; exact lv_dup2_11 hx hb hd rfl rfl k
    · cases hs
  case iconst n =>
    obtain ⟨h1, rfl⟩ := am_if_inv hc
    obtain rfl := am_len_inv h1
    cases hs
    exact lv_iconst hx hb hd rfl k
  case bipush n =>
    obtain ⟨h1, rfl⟩ := am_if_inv hc
    simp only [Bool.and_eq_true, decide_eq_true_eq] at h1
    obtain rfl := am_len_inv h1.1
    cases hs
    exact lv_bipush hx hb hd h1.2 k
  case sipush n =>
    obtain ⟨h1, rfl⟩ := am_if_inv hc
    simp only [Bool.and_eq_true, decide_eq_true_eq] at h1
    obtain rfl := am_len_inv h1.1
    cases hs
    exact lv_sipush hx hb hd h1.2 k
  case lconst n =>
    obtain ⟨h1, rfl⟩ := am_if_inv hc
    obtain rfl := am_len_inv h1
    cases hs
    exact lv_lconst hx hb hd rfl k
  case ldc idx =>
    simp only [am_conv] at hc
    split at hc
    · rename_i q hq
      obtain ⟨h1, rfl⟩ := am_if_inv hc
      obtain rfl := am_len_inv h1
      cases hs
      have h2 := List.all_eq_true.mp am_ki_ok _ (am_lk hq)
      simp only [decide_eq_true_eq] at h2
      exact lv_ldc hx hb hown (hw _ (List.mem_of_getElem? h2) rfl) hd k
    · cases hc
  case ldc_w idx =>
    simp only [am_conv] at hc
    split at hc
    · rename_i q hq
      obtain ⟨h1, rfl⟩ := am_if_inv hc
      obtain rfl := am_len_inv h1
      cases hs
      have h2 := List.all_eq_true.mp am_ki_ok _ (am_lk hq)
      simp only [decide_eq_true_eq] at h2
      exact lv_ldcw hx hb hown (hw _ (List.mem_of_getElem? h2) rfl) hd k
    · cases hc
  case ldc2_w idx =>
    simp only [am_conv] at hc
    split at hc
    · rename_i q hq
      obtain ⟨h1, rfl⟩ := am_if_inv hc
      obtain rfl := am_len_inv h1
      cases hs
      have h2 := List.all_eq_true.mp am_kl_ok _ (am_lk hq)
      simp only [decide_eq_true_eq] at h2
      exact lv_ldc2 hx hb hown (hw _ (List.mem_of_getElem? h2) rfl) hd k
    · cases hc
  case iload n =>
    obtain ⟨h1, rfl⟩ := am_if_inv hc
    obtain rfl := am_len_inv h1
    obtain ⟨v, hv, hw1, rfl⟩ := am_ld_inv hs
    obtain ⟨x, rfl⟩ := am_isI_inv hw1
    exact lv_iload hx hb hd (hL.2.2 _ _ hv (by intro q; cases q)) k
  case iload_n n =>
    obtain ⟨h1, rfl⟩ := am_if_inv hc
    obtain rfl := am_len_inv h1
    obtain ⟨v, hv, hw1, rfl⟩ := am_ld_inv hs
    obtain ⟨x, rfl⟩ := am_isI_inv hw1
    exact lv_iload_n hx hb hd rfl (hL.2.2 _ _ hv (by intro q; cases q)) k
  case lload n =>
    obtain ⟨h1, rfl⟩ := am_if_inv hc
    obtain rfl := am_len_inv h1
    obtain ⟨v, hv, hw1, rfl⟩ := am_ld_inv hs
    obtain ⟨x, rfl⟩ := am_isL_inv hw1
    exact lv_lload hx hb hd (hL.2.2 _ _ hv (by intro q; cases q)) k
  case lload_n n =>
    obtain ⟨h1, rfl⟩ := am_if_inv hc
    obtain rfl := am_len_inv h1
    obtain ⟨v, hv, hw1, rfl⟩ := am_ld_inv hs
    obtain ⟨x, rfl⟩ := am_isL_inv hw1
    exact lv_lload_n hx hb hd rfl (hL.2.2 _ _ hv (by intro q; cases q)) k
  case aload n =>
    obtain ⟨h1, rfl⟩ := am_if_inv hc
    obtain rfl := am_len_inv h1
    obtain ⟨v, hv, hw1, rfl⟩ := am_ld_inv hs
    obtain ⟨x, rfl⟩ := am_isR_inv hw1
    exact lv_aload hx hb hd (hL.2.2 _ _ hv (by intro q; cases q)) k
  case aload_n n =>
    obtain ⟨h1, rfl⟩ := am_if_inv hc
    obtain rfl := am_len_inv h1
    obtain ⟨v, hv, hw1, rfl⟩ := am_ld_inv hs
    obtain ⟨x, rfl⟩ := am_isR_inv hw1
    exact lv_aload_n hx hb hd rfl (hL.2.2 _ _ hv (by intro q; cases q)) k
  case getstatic idx =>
    obtain ⟨h1, rfl⟩ := am_if_inv hc
    simp only [Bool.and_eq_true] at h1
    obtain rfl := am_len_inv h1.1.1
    obtain rfl := am_len_inv h1.2
    have h3 := am_len_inv h1.1.2
    cases hs
    have h2 := hw _ (List.mem_of_getElem? am_sg_ok) rfl
    rw [← h3] at h2
    exact va_gets hx hb hU.2.2.2.1 hS hown h2 (fun _ q => q) hd k
  case invokespecial idx =>
    simp only [am_conv] at hc
    split at hc
    · rename_i q hq
      split at hc
      · rename_i h9
        obtain ⟨h1, rfl⟩ := am_if_inv hc
        simp only [Bool.and_eq_true, Bool.not_eq_true'] at h1
        obtain rfl := am_len_inv h1.1
        simp only [am_sop] at hs
        split at hs
        · split at hs
          · rename_i hcat
            cases hs
            have h2 := List.all_eq_true.mp am_ml_ok _ (am_lk hq)
            simp only [am_ckm, h1.2, h9, Bool.and_eq_true, decide_eq_true_eq, if_true, Bool.false_eq_true, if_false] at h2
            exact W.objInit hx hb hown (hw _ (List.mem_of_getElem? h2.1) rfl) (hw _ am_w_oi rfl) (hw _ am_w_oc rfl) rfl (by rw [hmls]) rfl hd hfr (by show 2 * 0 + _ + 12 ≤ _; rw [am_map_cat]; omega) k
          · cases hs
        · cases hs
      · obtain ⟨h1, rfl⟩ := am_if_inv hc
        cases hs
    · cases hc
  case invokestatic idx =>
    simp only [am_conv] at hc
    split at hc
    · rename_i q hq
      have h2 := List.all_eq_true.mp am_ml_ok _ (am_lk hq)
      split at hc
      · obtain ⟨h1, rfl⟩ := am_if_inv hc
        cases hs
      · split at hc
        · rename_i h9
          obtain ⟨h1, rfl⟩ := am_if_inv hc
          simp only [Bool.and_eq_true, Bool.not_eq_true'] at h1
          obtain rfl := am_len_inv h1.1
          simp only [am_sop] at hs
          split at hs
          · split at hs
            · rename_i hcat
              cases hs
              simp [am_ckm, h1.2, h9] at h2
              exact va_mmin hx hb hmls hown (hw _ (List.mem_of_getElem? h2) rfl) (hw _ am_w_m1 rfl) (hw _ am_w_mi rfl) (hw _ am_w_n1 rfl) hfr (by rw [am_map_cat]; omega) hce hse hd k
            · cases hs
          · cases hs
        · split at hc
          · rename_i h9
            obtain ⟨h1, rfl⟩ := am_if_inv hc
            simp only [Bool.and_eq_true, Bool.not_eq_true'] at h1
            obtain rfl := am_len_inv h1.1
            simp only [am_sop] at hs
            split at hs
            · split at hs
              · rename_i hcat
                cases hs
                simp [am_ckm, h1.2, h9] at h2
                exact va_mmax hx hb hmls hown (hw _ (List.mem_of_getElem? h2) rfl) (hw _ am_w_m2 rfl) (hw _ am_w_mi rfl) (hw _ am_w_n2 rfl) hfr (by rw [am_map_cat]; omega) hce hse hd k
              · cases hs
            · cases hs
          · split at hc
            · rename_i h9
              obtain ⟨h1, rfl⟩ := am_if_inv hc
              simp only [Bool.and_eq_true, Bool.not_eq_true'] at h1
              obtain rfl := am_len_inv h1.1
              simp only [am_sop] at hs
              split at hs
              · split at hs
                · rename_i hcat
                  cases hs
                  simp [am_ckm, h1.2, h9] at h2
                  exact va_mmax_long hx hb hmls hown (hw _ (List.mem_of_getElem? h2) rfl) (hw _ am_w_m3 rfl) (hw _ am_w_mi rfl) (hw _ am_w_n3 rfl) hfr (by rw [am_map_cat]; omega) hce hse hd k
                · cases hs
              · cases hs
            · obtain ⟨h1, rfl⟩ := am_if_inv hc
              cases hs
    · cases hc
  case getfield n =>
    simp only [am_conv] at hc
    split at hc
    · obtain ⟨h1, rfl⟩ := am_if_inv hc
      cases hs
    · cases hc
  case putfield n =>
    simp only [am_conv] at hc
    split at hc
    · obtain ⟨h1, rfl⟩ := am_if_inv hc
      cases hs
    · cases hc
  case invokevirtual n =>
    simp only [am_conv] at hc
    split at hc
    · obtain ⟨h1, rfl⟩ := am_if_inv hc
      cases hs
    · cases hc
  case new n =>
    simp only [am_conv] at hc
    split at hc
    · obtain ⟨h1, rfl⟩ := am_if_inv hc
      cases hs
    · cases hc
  case anewarray n =>
    simp only [am_conv] at hc
    split at hc
    · obtain ⟨h1, rfl⟩ := am_if_inv hc
      cases hs
    · cases hc
  case ireturn =>
    simp only [am_conv] at hc
    split at hc
    · obtain ⟨h1, rfl⟩ := am_if_inv hc
      cases hs
    · obtain ⟨h1, rfl⟩ := am_if_inv hc
      cases hs
  all_goals (obtain ⟨h1, rfl⟩ := am_if_inv hc; first | (cases hs; done) | (simp [am_plain] at h1; done))
end SOP
end
section
/-! LOCALS AND JUMPS -/
section LOP
variable {p : Program} {l : Launch} {e : Env} {R : Room} {s : State} {m : MethodId} {args : Array Value} {below : List Frame} {meth : Method} {c : Code} {H : Heap} {locs : List Loc} {cells slots : Nat} {Q : State → Prop}
variable {ad : Nat → Nat} {y pc len : Nat} {ri i : Instr} {al al' st st' : List Value} {ls : Array Slot}
theorem am_lop_len (hs : am_lop i al st = some (al', st')) : al'.length = al.length := by
  unfold am_lop at hs
  split at hs
  · split at hs
    · split at hs
      · cases hs; rw [List.length_set]
      · cases hs
    · cases hs
  · split at hs
    · split at hs
      · cases hs; rw [List.length_set]
      · cases hs
    · cases hs
  · split at hs
    · split at hs
      · cases hs; rw [List.length_set, List.length_set]
      · cases hs
    · cases hs
  · split at hs
    · split at hs
      · cases hs; rw [List.length_set]
      · cases hs
    · cases hs
  · cases hs
set_option maxHeartbeats 8000000 in
theorem am_lop_W (hx : p.tables.exec = Jvm.exec) (hb : c.code = am_by y) (hL : am_Lo ad al ls) (hd : decode (am_by y) pc = .ok (ri, len)) (hc : am_conv y pc len ri = some i) (hs : am_lop i al st = some (al', st'))
    (k : ∀ ls', am_Lo ad al' ls' → W p l e R s m args below meth c H locs cells slots Q (F0 m (pc + len) ls' (st'.map (am_tr ad)))) : W p l e R s m args below meth c H locs cells slots Q (F0 m pc ls (st.map (am_tr ad))) := by
  cases ri
  case istore n =>
    obtain ⟨h1, rfl⟩ := am_if_inv hc
    obtain rfl := am_len_inv h1
    simp only [am_lop] at hs
    split at hs
    · rename_i x r
      split at hs
      · rename_i hok
        cases hs
        exact lv_istore hx hb hd hL.has (am_ok_lt hok) rfl (fun ls' h => k ls' (am_Lo.set (v := .int _) hok h))
      · cases hs
    · cases hs
  case istore_n n =>
    obtain ⟨h1, rfl⟩ := am_if_inv hc
    obtain rfl := am_len_inv h1
    simp only [am_lop] at hs
    split at hs
    · rename_i x r
      split at hs
      · rename_i hok
        cases hs
        exact lv_istore_n hx hb hd rfl hL.has (am_ok_lt hok) rfl (fun ls' h => k ls' (am_Lo.set (v := .int _) hok h))
      · cases hs
    · cases hs
  case astore n =>
    obtain ⟨h1, rfl⟩ := am_if_inv hc
    obtain rfl := am_len_inv h1
    simp only [am_lop] at hs
    split at hs
    · rename_i x r
      split at hs
      · rename_i hok
        cases hs
        exact lv_astore hx hb hd hL.has (am_ok_lt hok) rfl (fun ls' h => k ls' (am_Lo.set (v := .ref _) hok h))
      · cases hs
    · cases hs
  case astore_n n =>
    obtain ⟨h1, rfl⟩ := am_if_inv hc
    obtain rfl := am_len_inv h1
    simp only [am_lop] at hs
    split at hs
    · rename_i x r
      split at hs
      · rename_i hok
        cases hs
        exact lv_astore_n hx hb hd rfl hL.has (am_ok_lt hok) rfl (fun ls' h => k ls' (am_Lo.set (v := .ref _) hok h))
      · cases hs
    · cases hs
  case lstore n =>
    obtain ⟨h1, rfl⟩ := am_if_inv hc
    obtain rfl := am_len_inv h1
    simp only [am_lop] at hs
    split at hs
    · rename_i x r
      split at hs
      · rename_i hok
        cases hs
        exact lv_lstore hx hb hd hL.has (by simp only [Bool.and_eq_true, decide_eq_true_eq] at hok; exact hok.2) rfl (fun ls' h => k ls' (am_Lo.setL (v := .long _) (Bool.and_eq_true_iff.mp hok).1 h))
      · cases hs
    · cases hs
  case lstore_n n =>
    obtain ⟨h1, rfl⟩ := am_if_inv hc
    obtain rfl := am_len_inv h1
    simp only [am_lop] at hs
    split at hs
    · rename_i x r
      split at hs
      · rename_i hok
        cases hs
        exact lv_lstore_n hx hb hd rfl hL.has (by simp only [Bool.and_eq_true, decide_eq_true_eq] at hok; exact hok.2) rfl (fun ls' h => k ls' (am_Lo.setL (v := .long _) (Bool.and_eq_true_iff.mp hok).1 h))
      · cases hs
    · cases hs
  case iinc n q =>
    obtain ⟨h1, rfl⟩ := am_if_inv hc
    obtain rfl := am_len_inv h1
    simp only [am_lop] at hs
    split at hs
    · rename_i x hv
      split at hs
      · rename_i hok
        cases hs
        obtain ⟨j, hj⟩ := List.getElem?_of_mem (am_fx_mem (ad := ad) (k := n) (w := .int x) |>.mpr ⟨.int x, hv, (by intro q; cases q), rfl⟩)
        exact lv_iinc hx hb hd hL.has hj rfl (am_ok_lt hok) rfl (fun ls' h => k ls' (am_Lo.set (v := .int _) hok h))
      · cases hs
    · cases hs
  case getfield n =>
    simp only [am_conv] at hc
    split at hc
    · obtain ⟨h1, rfl⟩ := am_if_inv hc
      cases hs
    · cases hc
  case putfield n =>
    simp only [am_conv] at hc
    split at hc
    · obtain ⟨h1, rfl⟩ := am_if_inv hc
      cases hs
    · cases hc
  case invokevirtual n =>
    simp only [am_conv] at hc
    split at hc
    · obtain ⟨h1, rfl⟩ := am_if_inv hc
      cases hs
    · cases hc
  case new n =>
    simp only [am_conv] at hc
    split at hc
    · obtain ⟨h1, rfl⟩ := am_if_inv hc
      cases hs
    · cases hc
  case anewarray n =>
    simp only [am_conv] at hc
    split at hc
    · obtain ⟨h1, rfl⟩ := am_if_inv hc
      cases hs
    · cases hc
  case ldc n =>
    simp only [am_conv] at hc
    split at hc
    · obtain ⟨h1, rfl⟩ := am_if_inv hc
      cases hs
    · cases hc
  case ldc_w n =>
    simp only [am_conv] at hc
    split at hc
    · obtain ⟨h1, rfl⟩ := am_if_inv hc
      cases hs
    · cases hc
  case ldc2_w n =>
    simp only [am_conv] at hc
    split at hc
    · obtain ⟨h1, rfl⟩ := am_if_inv hc
      cases hs
    · cases hc
  case ireturn =>
    simp only [am_conv] at hc
    split at hc
    · obtain ⟨h1, rfl⟩ := am_if_inv hc
      cases hs
    · obtain ⟨h1, rfl⟩ := am_if_inv hc
      cases hs
  case invokespecial n =>
    simp only [am_conv] at hc
    repeat' split at hc
    all_goals first | (cases hc; done) | (obtain ⟨h1, rfl⟩ := am_if_inv hc; cases hs; done)
  case invokestatic n =>
    simp only [am_conv] at hc
    repeat' split at hc
    all_goals first | (cases hc; done) | (obtain ⟨h1, rfl⟩ := am_if_inv hc; cases hs; done)
  all_goals (obtain ⟨h1, rfl⟩ := am_if_inv hc; first | (cases hs; done) | (simp [am_plain] at h1; done))
theorem am_tgt {pc : Nat} {o : Int} (h : 0 ≤ (pc : Int) + o) : (pc : Int) + o = (((pc : Int) + o).toNat : Int) := (Int.toNat_of_nonneg h).symm
set_option maxHeartbeats 8000000 in
theorem am_jop_W {t : Option Nat} (hx : p.tables.exec = Jvm.exec) (hb : c.code = am_by y) (hd : decode (am_by y) pc = .ok (ri, len)) (hc : am_conv y pc len ri = some i) (hs : am_jop i st = some (t, st'))
    (kt : ∀ g, t = some g → W p l e R s m args below meth c H locs cells slots Q (F0 m g ls (st'.map (am_tr ad)))) (kf : t = none → am_end i = false → W p l e R s m args below meth c H locs cells slots Q (F0 m (pc + len) ls (st'.map (am_tr ad)))) : W p l e R s m args below meth c H locs cells slots Q (F0 m pc ls (st.map (am_tr ad))) := by
  cases ri
  case goto q =>
    obtain ⟨h1, rfl⟩ := am_if_inv hc
    simp only [Bool.and_eq_true, decide_eq_true_eq] at h1
    obtain rfl := am_len_inv h1.1
    cases hs
    exact lv_goto hx hb hd (am_tgt h1.2) (kt _ rfl)
  case ifCond cn q =>
    obtain ⟨h1, rfl⟩ := am_if_inv hc
    simp only [Bool.and_eq_true, decide_eq_true_eq] at h1
    obtain rfl := am_len_inv h1.1
    simp only [am_jop] at hs
    split at hs
    · cases hs
      cases cn
      · exact lv_if_eq hx hb hd (am_tgt h1.2) (fun h => kt _ (by simp [am_cb, h])) (fun h => kf (by simp [am_cb, h]) rfl)
      · exact lv_if_ne hx hb hd (am_tgt h1.2) (fun h => kt _ (by simp [am_cb, h])) (fun h => kf (by simp [am_cb, h]) rfl)
      · exact lv_if_lt hx hb hd (am_tgt h1.2) (fun h => kt _ (by simp [am_cb, h])) (fun h => kf (by simp [am_cb, h]) rfl)
      · exact lv_if_ge hx hb hd (am_tgt h1.2) (fun h => kt _ (by simp [am_cb, h])) (fun h => kf (by simp [am_cb, h]) rfl)
      · exact lv_if_gt hx hb hd (am_tgt h1.2) (fun h => kt _ (by simp [am_cb, h])) (fun h => kf (by simp [am_cb, h]) rfl)
      · exact lv_if_le hx hb hd (am_tgt h1.2) (fun h => kt _ (by simp [am_cb, h])) (fun h => kf (by simp [am_cb, h]) rfl)
    · cases hs
  case if_icmp cn q =>
    obtain ⟨h1, rfl⟩ := am_if_inv hc
    simp only [Bool.and_eq_true, decide_eq_true_eq] at h1
    obtain rfl := am_len_inv h1.1
    simp only [am_jop] at hs
    split at hs
    · cases hs
      cases cn
      · exact lv_icmp_eq hx hb hd (am_tgt h1.2) (fun h => kt _ (by simp [am_cb, h])) (fun h => kf (by simp [am_cb, h]) rfl)
      · exact lv_icmp_ne hx hb hd (am_tgt h1.2) (fun h => kt _ (by simp [am_cb, h])) (fun h => kf (by simp [am_cb, h]) rfl)
      · exact lv_icmp_lt hx hb hd (am_tgt h1.2) (fun h => kt _ (by simp [am_cb, h])) (fun h => kf (by simp [am_cb, h]) rfl)
      · exact lv_icmp_ge hx hb hd (am_tgt h1.2) (fun h => kt _ (by simp [am_cb, h])) (fun h => kf (by simp [am_cb, h]) rfl)
      · exact lv_icmp_gt hx hb hd (am_tgt h1.2) (fun h => kt _ (by simp [am_cb, h])) (fun h => kf (by simp [am_cb, h]) rfl)
      · exact lv_icmp_le hx hb hd (am_tgt h1.2) (fun h => kt _ (by simp [am_cb, h])) (fun h => kf (by simp [am_cb, h]) rfl)
    · cases hs
  case tableswitch dd lo hi ts =>
    obtain ⟨h1, rfl⟩ := am_if_inv hc
    simp only [Bool.and_eq_true, decide_eq_true_eq] at h1
    simp only [am_jop] at hs
    split at hs
    · split at hs
      · rename_i hr
        cases hs
        exact lv_tableOut hx hb hd hr (am_tgt h1.1) (kt _ rfl)
      · rename_i hr
        split at hs
        · rename_i q hq
          cases hs
          rw [Array.getElem?_map, Option.map_eq_some_iff] at hq
          obtain ⟨off, ho, rfl⟩ := hq
          have h9 := Array.all_eq_true_iff_forall_mem.mp h1.2 off (Array.mem_of_getElem? ho)
          simp only [decide_eq_true_eq] at h9
          exact lv_tableIn hx hb hd (fun z => hr (Or.inl z)) (fun z => hr (Or.inr z)) ho (am_tgt h9) (kt _ rfl)
        · cases hs
    · cases hs
  case getfield n =>
    simp only [am_conv] at hc
    split at hc
    · obtain ⟨h1, rfl⟩ := am_if_inv hc
      cases hs
    · cases hc
  case putfield n =>
    simp only [am_conv] at hc
    split at hc
    · obtain ⟨h1, rfl⟩ := am_if_inv hc
      cases hs
    · cases hc
  case invokevirtual n =>
    simp only [am_conv] at hc
    split at hc
    · obtain ⟨h1, rfl⟩ := am_if_inv hc
      cases hs
    · cases hc
  case new n =>
    simp only [am_conv] at hc
    split at hc
    · obtain ⟨h1, rfl⟩ := am_if_inv hc
      cases hs
    · cases hc
  case anewarray n =>
    simp only [am_conv] at hc
    split at hc
    · obtain ⟨h1, rfl⟩ := am_if_inv hc
      cases hs
    · cases hc
  case ldc n =>
    simp only [am_conv] at hc
    split at hc
    · obtain ⟨h1, rfl⟩ := am_if_inv hc
      cases hs
    · cases hc
  case ldc_w n =>
    simp only [am_conv] at hc
    split at hc
    · obtain ⟨h1, rfl⟩ := am_if_inv hc
      cases hs
    · cases hc
  case ldc2_w n =>
    simp only [am_conv] at hc
    split at hc
    · obtain ⟨h1, rfl⟩ := am_if_inv hc
      cases hs
    · cases hc
  case ireturn =>
    simp only [am_conv] at hc
    split at hc
    · obtain ⟨h1, rfl⟩ := am_if_inv hc
      cases hs
    · obtain ⟨h1, rfl⟩ := am_if_inv hc
      cases hs
  case invokespecial n =>
    simp only [am_conv] at hc
    repeat' split at hc
    all_goals first | (cases hc; done) | (obtain ⟨h1, rfl⟩ := am_if_inv hc; cases hs; done)
  case invokestatic n =>
    simp only [am_conv] at hc
    repeat' split at hc
    all_goals first | (cases hc; done) | (obtain ⟨h1, rfl⟩ := am_if_inv hc; cases hs; done)
  all_goals (obtain ⟨h1, rfl⟩ := am_if_inv hc; first | (cases hs; done) | (simp [am_plain] at h1; done))
end LOP
end
section
/-! THE HEAP -/
theorem am_fit_ok {ad : Nat → Nat} {ty : FieldType} {v : Value} (h : am_fit (am_tcd ty) v = true) : narrow ty (am_tr ad v) = am_tr ad v ∧ fits ty (am_tr ad v) = true := by
  cases ty <;> cases v <;> simp only [am_tcd, am_fit] at h <;> first | exact ⟨rfl, rfl⟩ | cases h | skip
  rename_i x
  simp only [Bool.or_eq_true, beq_iff_eq] at h
  rcases h with rfl | rfl
  · exact ⟨(by decide : narrow .boolean (.int 0) = .int 0), (by decide : fits .boolean (.int 0) = true)⟩
  · exact ⟨(by decide : narrow .boolean (.int 1) = .int 1), (by decide : fits .boolean (.int 1) = true)⟩
theorem am_lay_good (C : String) (T : u_T) (k : Nat) : goodWord (u_lay C T k) = true := by
  unfold u_lay
  split <;> rfl
theorem am_c_at {ci : Nat} {r : vw_C} (h : vwCl[ci]? = some r) : am_ckc ci = true := by
  have : ci < 13 := (List.getElem?_eq_some_iff.mp h).1
  exact List.all_eq_true.mp am_c_ok ci (List.mem_range.mpr this)
theorem am_us_in {ci : Nat} {r : vw_C} (h : vwCl[ci]? = some r) {args : Array Value} {s : State} (hw : am_Wd args s) : ∀ w ∈ u_ws r.1 r.2.1 r.2.2, w.before args s = true := by
  intro w hw1
  have h1 := am_c_at h
  simp only [am_ckc, h, Bool.and_eq_true, decide_eq_true_eq] at h1
  have hg : goodWord w = true := by
    obtain ⟨k, -, rfl⟩ := List.mem_map.mp hw1
    exact am_lay_good _ _ _
  rw [h1.1.1.2] at hw1
  obtain ⟨i, -, hi⟩ := List.mem_filterMap.mp hw1
  exact hw w (List.mem_of_getElem? hi) hg
theorem am_on_ok : ∀ ci : Nat, ci < 13 → (vwCl[ci]?.map (fun r => r.1)) = some (am_nm ci) := by decide +kernel
theorem am_W_size {p : Program} {l : Launch} {e : Env} {R : Room} {s : State} {m : MethodId} {args : Array Value} {below : List Frame} {meth : Method} {c : Code} {H : Heap} {locs : List Loc} {cells slots : Nat} {Q : State → Prop} {g : JFrame} (k : H.size ≤ s.heap.size + cells → W p l e R s m args below meth c H locs cells slots Q g) : W p l e R s m args below meth c H locs cells slots Q g := by
  intro T hT X
  refine k ?_ T hT X
  have h := X.same.2.2.1
  rw [← hT]
  exact h
theorem am_new_q {base q n : Nat} {ad : Nat → Nat} {tys : List (ClassId × FieldType)} {h : am_H} {e : va_E} (h2 : 2 ≤ h.1) (hD : va_D (am_Ab base) (am_ws ad tys base h ++ [(q, e)])) (hq : q < n) (hn : n + 2 ≤ base + h.1 + 1) : q = base + (h.1 - 2) := by
  have hl : (am_ws ad tys base h).length = h.1 - 2 := by simp [am_ws]
  have e1 : (am_ws ad tys base h ++ [(q, e)])[h.1 - 2]? = some (q, e) := by
    rw [List.getElem?_append_right (by omega), hl, Nat.sub_self]; rfl
  have hb : base ≤ q := hD.2 _ _ e1
  rcases Nat.lt_or_ge q (base + (h.1 - 2)) with hlt | hge
  · have e2 := am_ws_get (ad := ad) (tys := tys) (base := base) (h := h) (k := q - base + 2) (by omega) (by omega)
    have e3 : (am_ws ad tys base h ++ [(q, e)])[q - base + 2 - 2]? = some (base + (q - base + 2 - 2), am_trE ad tys (h.2.2 (q - base + 2))) := by
      rw [List.getElem?_append_left (by omega)]; exact e2
    have e4 := hD.1 _ _ _ _ e3 e1 (by show base + (q - base + 2 - 2) = q; omega)
    omega
  · omega
theorem am_upq (ad : Nat → Nat) (f : Nat → Option Nat) (j x : Nat) : va_up (fun i => (f i).map ad) j (some (ad x)) = fun i => (va_up f j (some x) i).map ad := by
  funext i
  simp only [va_up]
  by_cases h : i = j
  · rw [if_pos h, if_pos h]; rfl
  · rw [if_neg h, if_neg h]
theorem am_div1 {a k : Nat} (h : k < 64) : (a * 64 + k) / 64 = a ∧ (a * 64 + k) % 64 = k := by omega
theorem am_div2 {t a k : Nat} (h : k < 64) (h2 : a < 64) : ((t * 64 + a) * 64 + k) / 64 % 64 = a ∧ ((t * 64 + a) * 64 + k) % 64 = k ∧ ((t * 64 + a) * 64 + k) / 4096 = t := by omega
section HOP
variable {p : Program} {l : Launch} {e : Env} {R : Room} {s : State} {m : MethodId} {args : Array Value} {below : List Frame} {meth : Method} {c : Code} {H : Heap} {locs : List Loc} {cells slots : Nat} {Q : State → Prop}
variable {tS b base L : Nat} {xs : Nat → Int32} {hp : Nat → Int64} {D : va_G} {cI cJ cS : ClassId}
variable {y pc len : Nat} {ri i : Instr} {al st st' : List Value} {ls : Array Slot} {h h' : am_H}
theorem am_get_inv {ce : am_E} {q : Nat} {r z : List Value} (hs : am_get ce q r = some z) : ∃ (fs : List Value) (v : Value), ce = .inr (q / 64, fs) ∧ fs[q % 64]? = some v ∧ z = v :: r := by
  unfold am_get at hs
  split at hs
  · split at hs
    · rename_i hci
      subst hci
      split at hs
      · rename_i v hv
        split at hs
        · cases hs
        · cases hs; exact ⟨_, v, rfl, hv, rfl⟩
      · cases hs
    · cases hs
  · cases hs
theorem am_wf_inv {ce c2 : am_E} {q : Nat} {v : Value} (hs : am_wf ce q v = some c2) : ∃ fs : List Value, ce = .inr (q / 64 % 64, fs) ∧ q % 64 < fs.length ∧ am_fit (q / 4096) v = true ∧ c2 = .inr (q / 64 % 64, fs.set (q % 64) v) := by
  unfold am_wf at hs
  split at hs
  · split at hs
    · rename_i hh
      obtain ⟨h1, h2, h3⟩ := hh
      subst h1
      cases hs
      exact ⟨_, rfl, h2, h3, rfl⟩
    · cases hs
  · cases hs
theorem am_fl_at {oc idx : Nat} {q : Nat × Nat × Nat × Bool × Nat} (hq : am_fl.lookup (oc, idx) = some q) : ∃ (C : String) (T : u_T) (N : Nat), vwCl[q.1]? = some (C, T, N) ∧ q.2.1 < N ∧ q.2.1 < 64 ∧ q.1 < 64 ∧ (T q.2.1).1 = C ∧ am_tcd (am_tyf q.1 q.2.1) = q.2.2.1 ∧
    lw_tbl[q.2.2.2.2]? = some (if q.2.2.2.1 = true then .fieldLinkNest (am_nm oc) idx C (T q.2.1).2.1 (T q.2.1).2.2.1 "MouthRiddles" else .fieldLink (am_nm oc) idx C (T q.2.1).2.1 (T q.2.1).2.2.1) := by
  have h2 := List.all_eq_true.mp am_fl_ok _ (am_lk hq)
  unfold am_ckf at h2
  split at h2
  · rename_i r hr
    obtain ⟨C, T, N⟩ := r
    simp only [Bool.and_eq_true, decide_eq_true_eq, beq_iff_eq] at h2
    obtain ⟨⟨⟨⟨⟨⟨a1, a2⟩, a3⟩, a4⟩, a5⟩, a6⟩, a7⟩ := h2
    exact ⟨C, T, N, hr, a1, a2, a3, a4, a5, a7⟩
  · cases h2
theorem am_getf_W {idx k : Nat} {r z : List Value} {q : Nat × Nat × Nat × Bool × Nat} (hx : p.tables.exec = Jvm.exec) (hb : c.code = am_by y) (hown : s.vm.findClass (am_nm (am_oc y)) = some m.cls) (hw : am_Wd args s) (hU : am_U tS b base L xs hp D cI cJ cS s) (hR : am_R tS b base L xs hp D cI cJ cS h H)
    (hq : am_fl.lookup (am_oc y, idx) = some q) (hs : am_get (h.2.2 k) (q.1 * 64 + q.2.1) r = some z) (hd : decode (am_by y) pc = .ok (.getfield idx, 3))
    (kk : W p l e R s m args below meth c H locs cells slots Q (F0 m (pc + 3) ls (z.map (am_tr (am_ad tS b base))))) : W p l e R s m args below meth c H locs cells slots Q (F0 m pc ls ((.ref k :: r).map (am_tr (am_ad tS b base)))) := by
  obtain ⟨C, T, N, hr, a1, a2, a3, a4, a5, a7⟩ := am_fl_at hq
  obtain ⟨fs, v, hce, hv, rfl⟩ := am_get_inv hs
  rw [(am_div1 a2).1] at hce
  rw [(am_div1 a2).2] at hv
  obtain ⟨k2, kl⟩ := am_rng hR hce (by intro z; cases z) (by intro z; cases z) (by intro z; cases z)
  have hat := hR.at k2 kl
  rw [hce] at hat
  have hv2 : (fs.map (am_tr (am_ad tS b base)))[q.2.1]? = some (am_tr (am_ad tS b base) v) := by rw [List.getElem?_map, hv]; rfl
  by_cases hn : q.2.2.2.1 = true
  · rw [if_pos hn] at a7
    exact va_getN hx hb (Ts := u_ws C T N) (am_us_in hr hw) (fun _ z => z) hown hU.1 hR.1 (k - 2) hat hr q.2.1 a1 (va_Nw.use rfl (hU.2.1 _ (List.mem_of_getElem? a7) rfl)) (fun x hx => by rw [a4] at hx; exact hx) hv2 hd kk
  · rw [if_neg hn] at a7
    exact va_get hx hb (Ts := u_ws C T N) (am_us_in hr hw) (fun _ z => z) hown hU.1 hR.1 (k - 2) hat hr q.2.1 a1 (hw _ (List.mem_of_getElem? a7) rfl) (fun x hx => by rw [a4] at hx; exact hx) hv2 hd kk
theorem am_putf_W {idx k : Nat} {v : Value} {r : List Value} {c2 : am_E} {q : Nat × Nat × Nat × Bool × Nat} (hx : p.tables.exec = Jvm.exec) (hb : c.code = am_by y) (hown : s.vm.findClass (am_nm (am_oc y)) = some m.cls) (hmi : (am_y y).name = "<init>" → meth.name = "<init>") (hw : am_Wd args s) (hU : am_U tS b base L xs hp D cI cJ cS s) (hS : va_S (am_Ab base) s.heap H locs) (hR : am_R tS b base L xs hp D cI cJ cS h H)
    (hq : am_fl.lookup (am_oc y, idx) = some q) (hf : (match vwCl[q.1]? with
      | some r => !(r.2.1 q.2.1).2.2.2 || ((am_y y).name == "<init>" && am_oc y == q.1 && !q.2.2.2.1)
      | none => false) = true) (hs : am_wf (h.2.2 k) ((q.2.2.1 * 64 + q.1) * 64 + q.2.1) v = some c2) (hd : decode (am_by y) pc = .ok (.putfield idx, 3))
    (kk : ∀ H' locs', am_R tS b base L xs hp D cI cJ cS (am_set h k c2) H' → va_S (am_Ab base) s.heap H' locs' → W p l e R s m args below meth c H' locs' cells slots Q (F0 m (pc + 3) ls (r.map (am_tr (am_ad tS b base))))) : W p l e R s m args below meth c H locs cells slots Q (F0 m pc ls ((v :: .ref k :: r).map (am_tr (am_ad tS b base)))) := by
  obtain ⟨C, T, N, hr, a1, a2, a3, a4, a5, a7⟩ := am_fl_at hq
  obtain ⟨fs, hce, hlen, hfit, rfl⟩ := am_wf_inv hs
  obtain ⟨e1, e2, e3⟩ := am_div2 (t := q.2.2.1) a2 a3
  rw [e1] at hce
  rw [e2] at hlen
  rw [e3, ← a5] at hfit
  rw [e1, e2] at kk
  obtain ⟨hn, hft⟩ := am_fit_ok (ad := am_ad tS b base) hfit
  obtain ⟨k2, kl⟩ := am_rng hR hce (by intro z; cases z) (by intro z; cases z) (by intro z; cases z)
  have hat := hR.at k2 kl
  rw [hce] at hat
  have hD := am_D (base := base) (am_ad tS b base) (am_tys cI cJ cS) h
  have kk2 : ∀ (H1 : Heap) (locs1 : List Loc), va_P D vwCl ((am_ws (am_ad tS b base) (am_tys cI cJ cS) base h).set (k - 2) (am_ad tS b base k, .inr (q.1, (fs.map (am_tr (am_ad tS b base))).set q.2.1 (am_tr (am_ad tS b base) v)))) H1 → va_D (am_Ab base) ((am_ws (am_ad tS b base) (am_tys cI cJ cS) base h).set (k - 2) (am_ad tS b base k, .inr (q.1, (fs.map (am_tr (am_ad tS b base))).set q.2.1 (am_tr (am_ad tS b base) v)))) → va_S (am_Ab base) s.heap H1 locs1 → W p l e R s m args below meth c H1 locs1 cells slots Q (F0 m (pc + 3) ls (r.map (am_tr (am_ad tS b base)))) := by
    intro H1 locs1 hP1 _ hS1
    refine kk H1 locs1 (hR.set k2 kl ?_ rfl) hS1
    rw [← List.map_set] at hP1
    exact hP1
  have hl2 : q.2.1 < (fs.map (am_tr (am_ad tS b base))).length := by rw [List.length_map]; exact hlen
  rw [hr] at hf
  simp only [Bool.or_eq_true, Bool.not_eq_true', Bool.and_eq_true, beq_iff_eq] at hf
  by_cases hfin : (T q.2.1).2.2.2 = true
  · have hf2 := hf.resolve_left (by rw [hfin]; decide)
    rw [if_neg (by rw [hf2.2]; decide)] at a7
    have hdecl : (T q.2.1).1 = am_nm (am_oc y) := by
      have h13 : q.1 < 13 := (List.getElem?_eq_some_iff.mp hr).1
      have := am_on_ok q.1 h13
      rw [hr] at this
      rw [a4, hf2.1.2]
      exact Option.some.inj this
    exact va_putF hx hb (Ts := u_ws C T N) (am_us_in hr hw) (fun _ z => z) (am_tyf q.1) (am_tyf_ok q.1 _ hr) (am_nmf_ok q.1 _ hr) hown hU.1 hR.1 hD hS (k - 2) hat hr q.2.1 a1 (hw _ (List.mem_of_getElem? a7) rfl) (fun x hx => by rw [a4] at hx; exact hx) hfin (hmi hf2.1.1) hdecl (am_tyf_ok q.1 _ hr q.2.1 a1) hn hft hl2 hd kk2
  · have hfin : (T q.2.1).2.2.2 = false := by simpa using hfin
    by_cases hne : q.2.2.2.1 = true
    · rw [if_pos hne] at a7
      exact va_putN hx hb (Ts := u_ws C T N) (am_us_in hr hw) (fun _ z => z) (am_tyf q.1) (am_tyf_ok q.1 _ hr) (am_nmf_ok q.1 _ hr) hown hU.1 hR.1 hD hS (k - 2) hat hr q.2.1 a1 (va_Nw.use rfl (hU.2.1 _ (List.mem_of_getElem? a7) rfl)) (fun x hx => by rw [a4] at hx; exact hx) hfin (am_tyf_ok q.1 _ hr q.2.1 a1) hn hft hl2 hd kk2
    · rw [if_neg hne] at a7
      exact va_put hx hb (Ts := u_ws C T N) (am_us_in hr hw) (fun _ z => z) (am_tyf q.1) (am_tyf_ok q.1 _ hr) (am_nmf_ok q.1 _ hr) hown hU.1 hR.1 hD hS (k - 2) hat hr q.2.1 a1 (hw _ (List.mem_of_getElem? a7) rfl) (fun x hx => by rw [a4] at hx; exact hx) hfin (am_tyf_ok q.1 _ hr q.2.1 a1) hn hft hl2 hd kk2
end HOP
end
section
/-! THE HEAP: the instructions -/
section HOP2
variable {p : Program} {l : Launch} {e : Env} {R : Room} {s : State} {m : MethodId} {args : Array Value} {below : List Frame} {meth : Method} {c : Code} {H : Heap} {locs : List Loc} {cells slots : Nat} {Q : State → Prop}
variable {tS b base L : Nat} {xs : Nat → Int32} {hp : Nat → Int64} {D : va_G} {cI cJ cS : ClassId}
variable {y pc len : Nat} {ri i : Instr} {al st st' : List Value} {ls : Array Slot} {h h' : am_H}
theorem am_rd_W {j : Int32} {k : Nat} {r z : List Value} (hx : p.tables.exec = Jvm.exec) (hb : c.code = am_by y) (hU : am_U tS b base L xs hp D cI cJ cS s) (hS : va_S (am_Ab base) s.heap H locs) (hR : am_R tS b base L xs hp D cI cJ cS h H)
    (hs : am_rd (h.2.2 k) j r = some z) (hd : decode (am_by y) pc = .ok (.iaload, 1)) (kk : W p l e R s m args below meth c H locs cells slots Q (F0 m (pc + 1) ls (z.map (am_tr (am_ad tS b base))))) : W p l e R s m args below meth c H locs cells slots Q (F0 m pc ls ((.int j :: .ref k :: r).map (am_tr (am_ad tS b base)))) := by
  generalize hce : h.2.2 k = ce at hs
  unfold am_rd at hs
  split at hs
  · split at hs
    · rename_i hi
      cases hs
      obtain ⟨k2, kl⟩ := am_rng hR hce (by intro z; cases z) (by intro z; cases z) (by intro z; cases z)
      have hat := hR.at k2 kl
      rw [hce] at hat
      exact va_iald hx hb hU.1 hR.1 (k - 2) 0 hat rfl (am_inB hi) hd kk
    · cases hs
  · split at hs
    · rename_i hi
      cases hs
      have hk1 : k = 1 := by
        match k, hce with
        | 0, hce => rw [hR.2.2.1] at hce; cases hce
        | 1, _ => rfl
        | k + 2, hce =>
          have := hR.2.2.2.2.2 (k + 2) (by omega)
          rw [hce] at this
          cases this
      subst hk1
      rw [hR.2.2.2.1] at hce
      cases hce
      obtain ⟨-, -, -, -, -, hX, h6, h7, h8⟩ := hU
      exact va_sld hx hb hX (by omega) (by show ¬ base ≤ b; omega) hS (am_inB hi) hd kk
    · cases hs
  · cases hs
theorem am_rdl_W {j : Int32} {k : Nat} {r z : List Value} (hx : p.tables.exec = Jvm.exec) (hb : c.code = am_by y) (hU : am_U tS b base L xs hp D cI cJ cS s) (hS : va_S (am_Ab base) s.heap H locs) (hR : am_R tS b base L xs hp D cI cJ cS h H)
    (hs : am_rdl (h.2.2 k) j r = some z) (hd : decode (am_by y) pc = .ok (.laload, 1)) (kk : W p l e R s m args below meth c H locs cells slots Q (F0 m (pc + 1) ls (z.map (am_tr (am_ad tS b base))))) : W p l e R s m args below meth c H locs cells slots Q (F0 m pc ls ((.int j :: .ref k :: r).map (am_tr (am_ad tS b base)))) := by
  generalize hce : h.2.2 k = ce at hs
  unfold am_rdl at hs
  split at hs
  · split at hs
    · rename_i hi
      cases hs
      obtain ⟨k2, kl⟩ := am_rng hR hce (by intro z; cases z) (by intro z; cases z) (by intro z; cases z)
      have hat := hR.at k2 kl
      rw [hce] at hat
      exact va_lald hx hb hU.1 hR.1 (k - 2) 1 hat rfl (am_inB hi) hd kk
    · cases hs
  · split at hs
    · rename_i hi
      cases hs
      have hk1 : k = 0 := by
        match k, hce with
        | 0, _ => rfl
        | 1, hce => rw [hR.2.2.2.1] at hce; cases hce
        | k + 2, hce =>
          have := hR.2.2.2.2.2 (k + 2) (by omega)
          rw [hce] at this
          cases this
      subst hk1
      rw [hR.2.2.1] at hce
      cases hce
      obtain ⟨-, -, -, -, hY, -, h6, h7, h8⟩ := hU
      obtain ⟨scr, g1, g2, g3, g4, g5⟩ := hY
      have hin := am_inB hi
      have g1' : H[tS]? = some scr := by
        rw [hS.2.1 tS (by omega) (by show ¬ base ≤ tS; omega)]; exact g1
      have hlt : j.toNatClampNeg < 6 := Nat.not_le.mp fun q => hin (Or.inr q)
      exact W.lald hx hb g1' g2 g3 (by rw [g4]; exact hin) (g5 _ hlt) rfl rfl hd kk
    · cases hs
  · cases hs
theorem am_rda_W {j : Int32} {k : Nat} {r z : List Value} (hx : p.tables.exec = Jvm.exec) (hb : c.code = am_by y) (hU : am_U tS b base L xs hp D cI cJ cS s) (hR : am_R tS b base L xs hp D cI cJ cS h H)
    (hs : am_rda (h.2.2 k) j r = some z) (hd : decode (am_by y) pc = .ok (.aaload, 1)) (kk : W p l e R s m args below meth c H locs cells slots Q (F0 m (pc + 1) ls (z.map (am_tr (am_ad tS b base))))) : W p l e R s m args below meth c H locs cells slots Q (F0 m pc ls ((.int j :: .ref k :: r).map (am_tr (am_ad tS b base)))) := by
  generalize hce : h.2.2 k = ce at hs
  unfold am_rda at hs
  split at hs
  · split at hs
    · rename_i hi
      split at hs
      · rename_i a ha
        cases hs
        obtain ⟨k2, kl⟩ := am_rng hR hce (by intro z; cases z) (by intro z; cases z) (by intro z; cases z)
        have hat := hR.at k2 kl
        rw [hce] at hat
        refine va_aldq hx hb hU.1 hR.1 (k - 2) 2 hat rfl (am_inB hi) hd ?_
        rw [ha]
        exact kk
      · cases hs
    · cases hs
  · cases hs
theorem am_len_W {k : Nat} {r z : List Value} (hx : p.tables.exec = Jvm.exec) (hb : c.code = am_by y) (hU : am_U tS b base L xs hp D cI cJ cS s) (hS : va_S (am_Ab base) s.heap H locs) (hR : am_R tS b base L xs hp D cI cJ cS h H)
    (hs : am_len (h.2.2 k) r = some z) (hd : decode (am_by y) pc = .ok (.arraylength, 1)) (kk : W p l e R s m args below meth c H locs cells slots Q (F0 m (pc + 1) ls (z.map (am_tr (am_ad tS b base))))) : W p l e R s m args below meth c H locs cells slots Q (F0 m pc ls ((.ref k :: r).map (am_tr (am_ad tS b base)))) := by
  generalize hce : h.2.2 k = ce at hs
  unfold am_len at hs
  split at hs
  · cases hs
    obtain ⟨k2, kl⟩ := am_rng hR hce (by intro z; cases z) (by intro z; cases z) (by intro z; cases z)
    have hat := hR.at k2 kl
    rw [hce] at hat
    exact va_alen hx hb hU.1 hR.1 (k - 2) 0 hat (ty := .int) rfl rfl hd kk
  · cases hs
    obtain ⟨k2, kl⟩ := am_rng hR hce (by intro z; cases z) (by intro z; cases z) (by intro z; cases z)
    have hat := hR.at k2 kl
    rw [hce] at hat
    exact va_alen hx hb hU.1 hR.1 (k - 2) 1 hat (ty := .long) rfl rfl hd kk
  · cases hs
    have hk1 : k = 1 := by
      match k, hce with
      | 0, hce => rw [hR.2.2.1] at hce; cases hce
      | 1, _ => rfl
      | k + 2, hce =>
        have := hR.2.2.2.2.2 (k + 2) (by omega)
        rw [hce] at this
        cases this
    subst hk1
    rw [hR.2.2.2.1] at hce
    cases hce
    obtain ⟨-, -, -, -, -, hX, h6, h7, h8⟩ := hU
    exact va_slen hx hb (b := b) hX (by omega) (by show ¬ base ≤ b; omega) hS hd kk
  · cases hs
theorem am_wi_W {j x : Int32} {k : Nat} {r : List Value} {c2 : am_E} (hx : p.tables.exec = Jvm.exec) (hb : c.code = am_by y) (hU : am_U tS b base L xs hp D cI cJ cS s) (hS : va_S (am_Ab base) s.heap H locs) (hR : am_R tS b base L xs hp D cI cJ cS h H)
    (hs : am_wi (h.2.2 k) j x = some c2) (hd : decode (am_by y) pc = .ok (.iastore, 1))
    (kk : ∀ H' locs', am_R tS b base L xs hp D cI cJ cS (am_set h k c2) H' → va_S (am_Ab base) s.heap H' locs' → W p l e R s m args below meth c H' locs' cells slots Q (F0 m (pc + 1) ls (r.map (am_tr (am_ad tS b base))))) : W p l e R s m args below meth c H locs cells slots Q (F0 m pc ls ((.int x :: .int j :: .ref k :: r).map (am_tr (am_ad tS b base)))) := by
  generalize hce : h.2.2 k = ce at hs
  unfold am_wi at hs
  split at hs
  · split at hs
    · rename_i hi
      cases hs
      obtain ⟨k2, kl⟩ := am_rng hR hce (by intro z; cases z) (by intro z; cases z) (by intro z; cases z)
      have hat := hR.at k2 kl
      rw [hce] at hat
      exact va_iast hx hb hU.1 hR.1 (am_D _ _ h) hS (k - 2) 0 hat rfl (am_inB hi) hd (fun H1 locs1 hP1 _ hS1 => kk H1 locs1 (hR.set k2 kl hP1 rfl) hS1)
    · cases hs
  · cases hs
theorem am_wl_W {j : Int32} {x : Int64} {k : Nat} {r : List Value} {c2 : am_E} (hx : p.tables.exec = Jvm.exec) (hb : c.code = am_by y) (hU : am_U tS b base L xs hp D cI cJ cS s) (hS : va_S (am_Ab base) s.heap H locs) (hR : am_R tS b base L xs hp D cI cJ cS h H)
    (hs : am_wl (h.2.2 k) j x = some c2) (hd : decode (am_by y) pc = .ok (.lastore, 1))
    (kk : ∀ H' locs', am_R tS b base L xs hp D cI cJ cS (am_set h k c2) H' → va_S (am_Ab base) s.heap H' locs' → W p l e R s m args below meth c H' locs' cells slots Q (F0 m (pc + 1) ls (r.map (am_tr (am_ad tS b base))))) : W p l e R s m args below meth c H locs cells slots Q (F0 m pc ls ((.long x :: .int j :: .ref k :: r).map (am_tr (am_ad tS b base)))) := by
  generalize hce : h.2.2 k = ce at hs
  unfold am_wl at hs
  split at hs
  · split at hs
    · rename_i hi
      cases hs
      obtain ⟨k2, kl⟩ := am_rng hR hce (by intro z; cases z) (by intro z; cases z) (by intro z; cases z)
      have hat := hR.at k2 kl
      rw [hce] at hat
      exact va_last hx hb hU.1 hR.1 (am_D _ _ h) hS (k - 2) 1 hat rfl (am_inB hi) hd (fun H1 locs1 hP1 _ hS1 => kk H1 locs1 (hR.set k2 kl hP1 rfl) hS1)
    · cases hs
  · cases hs
theorem am_isS_inv {ce : am_E} (h : am_isS ce = true) : ∃ fs, ce = .inr (7, fs) := by
  unfold am_isS at h
  split at h
  · exact ⟨_, rfl⟩
  · cases h
theorem am_wa_W {j : Int32} {x : Nat} {k : Nat} {r : List Value} {c2 : am_E} (hx : p.tables.exec = Jvm.exec) (hb : c.code = am_by y) (hU : am_U tS b base L xs hp D cI cJ cS s) (hS : va_S (am_Ab base) s.heap H locs) (hR : am_R tS b base L xs hp D cI cJ cS h H)
    (hv : am_isS (h.2.2 x) = true) (hs : am_wa (h.2.2 k) j x = some c2) (hd : decode (am_by y) pc = .ok (.aastore, 1))
    (kk : ∀ H' locs', am_R tS b base L xs hp D cI cJ cS (am_set h k c2) H' → va_S (am_Ab base) s.heap H' locs' → W p l e R s m args below meth c H' locs' cells slots Q (F0 m (pc + 1) ls (r.map (am_tr (am_ad tS b base))))) : W p l e R s m args below meth c H locs cells slots Q (F0 m pc ls ((.ref x :: .int j :: .ref k :: r).map (am_tr (am_ad tS b base)))) := by
  generalize hce : h.2.2 k = ce at hs
  unfold am_wa at hs
  split at hs
  · split at hs
    · rename_i hi
      cases hs
      obtain ⟨k2, kl⟩ := am_rng hR hce (by intro z; cases z) (by intro z; cases z) (by intro z; cases z)
      have hat := hR.at k2 kl
      rw [hce] at hat
      obtain ⟨fs, hx7⟩ := am_isS_inv hv
      obtain ⟨x2, xl⟩ := am_rng hR hx7 (by intro z; cases z) (by intro z; cases z) (by intro z; cases z)
      have hax := hR.at x2 xl
      rw [hx7] at hax
      refine va_astq hx hb hU.1 hR.1 (am_D _ _ h) hS (k - 2) 2 (x - 2) 7 hat (r := (RX7, TX7, 1)) rfl hax rfl (am_inB hi) hd (fun H1 locs1 hP1 _ hS1 => kk H1 locs1 (hR.set k2 kl ?_ rfl) hS1)
      rw [am_upq] at hP1
      exact hP1
    · cases hs
  · cases hs
theorem am_wc_W {idx : Nat} {n dp sp : Int32} {k0 k1 : Nat} {r : List Value} {c2 : am_E} (hx : p.tables.exec = Jvm.exec) (hb : c.code = am_by y) (hml : c.maxLocals = ls.size) (hown : s.vm.findClass (am_nm (am_oc y)) = some m.cls) (hw : am_Wd args s) (hlink : (Cond.methodLink (am_nm (am_oc y)) idx arraycopyName).before args s = true) (hfr : 1 ≤ R.frames) (hlo : 64 ≤ R.locals) (hcat : (r.map Value.category).sum ≤ 8) (hU : am_U tS b base L xs hp D cI cJ cS s) (hS : va_S (am_Ab base) s.heap H locs) (hR : am_R tS b base L xs hp D cI cJ cS h H)
    (hs : am_wc (h.2.2 k0) (h.2.2 k1) sp dp n = some c2) (hd : decode (am_by y) pc = .ok (.invokestatic idx, 3))
    (kk : ∀ H' locs', am_R tS b base L xs hp D cI cJ cS (am_set h k1 c2) H' → va_S (am_Ab base) s.heap H' locs' → W p l e R s m args below meth c H' locs' cells slots Q (F0 m (pc + 3) ls (r.map (am_tr (am_ad tS b base))))) : W p l e R s m args below meth c H locs cells slots Q (F0 m pc ls ((.int n :: .int dp :: .ref k1 :: .int sp :: .ref k0 :: r).map (am_tr (am_ad tS b base)))) := by
  generalize hce : h.2.2 k0 = ce at hs
  generalize hcf : h.2.2 k1 = cf at hs
  unfold am_wc at hs
  split at hs
  · split at hs
    · rename_i hi
      obtain ⟨h1, h2, h3, h4, h5⟩ := hi
      cases hs
      have hnf : nativeFrameWords "java/lang/System" "arraycopy" 5 ≤ 40 := by decide +kernel
      obtain ⟨k2, kl⟩ := am_rng hR hce (by intro z; cases z) (by intro z; cases z) (by intro z; cases z)
      have hat := hR.at k2 kl
      rw [hce] at hat
      obtain ⟨x2, xl⟩ := am_rng hR hcf (by intro z; cases z) (by intro z; cases z) (by intro z; cases z)
      have hax := hR.at x2 xl
      rw [hcf] at hax
      exact va_copyi hx hb hml hown hlink (hw _ am_w_an rfl) (hw _ am_w_as rfl) (hw _ am_w_ai rfl) hU.1 hR.1 (am_D _ _ h) hS (k0 - 2) (k1 - 2) 0 0 hat hax (ty := .int) rfl rfl rfl h1 h2 h3 h4 h5 (fun _ _ => rfl) hfr (by rw [am_map_cat]; omega) hd (fun H1 locs1 hP1 _ hS1 => kk H1 locs1 (hR.set x2 xl hP1 rfl) hS1)
    · cases hs
  · cases hs
end HOP2
end
section
/-! THE HEAP: what is made; all heap instructions -/
theorem am_tr_dflt (ad : Nat → Nat) (t : FieldType) : am_tr ad (defaultValue t) = defaultValue t := by cases t <;> rfl
theorem am_vV (f : Value → Value) (l : List Value) {j : Nat} (h : j < l.length) : vp_V (l.map f) j = f (vp_V l j) := by
  unfold vp_V
  rw [List.getD_eq_getElem?_getD, List.getD_eq_getElem?_getD, List.getElem?_map, List.getElem?_eq_getElem h]
  rfl
section HOP3
variable {p : Program} {l : Launch} {e : Env} {R : Room} {s : State} {m : MethodId} {args : Array Value} {below : List Frame} {meth : Method} {c : Code} {H : Heap} {locs : List Loc} {cells slots : Nat} {Q : State → Prop}
variable {tS b base L : Nat} {xs : Nat → Int32} {hp : Nat → Int64} {D : va_G} {cI cJ cS : ClassId}
variable {y pc len : Nat} {ri i : Instr} {al st st' : List Value} {ls : Array Slot} {h h' : am_H}
theorem am_born {q n : Nat} {H1 : Heap} {ce : am_E} {v : va_E} (hR : am_R tS b base L xs hp D cI cJ cS h H) (hP1 : va_P D vwCl (am_ws (am_ad tS b base) (am_tys cI cJ cS) base h ++ [(q, v)]) H1) (hD1 : va_D (am_Ab base) (am_ws (am_ad tS b base) (am_tys cI cJ cS) base h ++ [(q, v)])) (hE : s.heap.size + cells + 2 = base + h.1) (hz : H1.size ≤ s.heap.size + (cells + 1)) (hv : v = am_trE (am_ad tS b base) (am_tys cI cJ cS) ce) (ht : am_tagF ce = true) :
    q = am_ad tS b base h.1 ∧ am_R tS b base L xs hp D cI cJ cS (am_new h n ce) H1 := by
  have hl : (am_ws (am_ad tS b base) (am_tys cI cJ cS) base h).length = h.1 - 2 := by simp [am_ws]
  have e1 : (am_ws (am_ad tS b base) (am_tys cI cJ cS) base h ++ [(q, v)])[h.1 - 2]? = some (q, v) := by
    rw [List.getElem?_append_right (by omega), hl, Nat.sub_self]; rfl
  have hq : q < H1.size := (hP1 _ _ e1).lt
  have hqe := am_new_q hR.2.1 hD1 hq (by omega)
  subst hqe
  subst hv
  exact ⟨(am_ad_k hR.2.1).symm, hR.new hP1 ht⟩
theorem am_newo_W {idx : Nat} {q : Nat × Nat} (hx : p.tables.exec = Jvm.exec) (hb : c.code = am_by y) (hown : s.vm.findClass (am_nm (am_oc y)) = some m.cls) (hw : am_Wd args s) (hU : am_U tS b base L xs hp D cI cJ cS s) (hS : va_S (am_Ab base) s.heap H locs) (hR : am_R tS b base L xs hp D cI cJ cS h H)
    (hE : s.heap.size + cells + 2 = base + h.1) (hq : am_cl.lookup (am_oc y, idx) = some q) (hce : cells + 1 ≤ R.cells) (hse : slots + (am_df.getD q.1 []).length ≤ R.slots) (hd : decode (am_by y) pc = .ok (.new idx, 3))
    (kk : ∀ H', am_R tS b base L xs hp D cI cJ cS (am_new h (am_df.getD q.1 []).length (.inr (q.1, am_df.getD q.1 []))) H' → va_S (am_Ab base) s.heap H' locs → W p l e R s m args below meth c H' locs (cells + 1) (slots + (am_df.getD q.1 []).length) Q (F0 m (pc + 3) ls ((.ref h.1 :: st).map (am_tr (am_ad tS b base))))) : W p l e R s m args below meth c H locs cells slots Q (F0 m pc ls (st.map (am_tr (am_ad tS b base)))) := by
  have h2 := List.all_eq_true.mp am_cl_ok _ (am_lk hq)
  unfold am_ckl at h2
  split at h2
  · rename_i r hr
    obtain ⟨C, T, N⟩ := r
    simp only [Bool.and_eq_true, decide_eq_true_eq] at h2
    have h1 := am_c_at hr
    dsimp only at hr
    simp only [am_ckc, hr, Bool.and_eq_true, decide_eq_true_eq] at h1
    obtain ⟨⟨⟨⟨c1, c2⟩, -⟩, c4⟩, c5⟩ := h1
    rw [c4] at hse kk
    have hfs : ∀ j, j < N → defaultValue (am_tyf q.1 j) = vp_V ((am_df.getD q.1 []).map (am_tr (am_ad tS b base))) j := by
      intro j hj
      have h5 := List.all_eq_true.mp c5 j (List.mem_range.mpr hj)
      simp only [decide_eq_true_eq] at h5
      have hlt : j < (am_df.getD q.1 []).length := by rw [c4]; exact hj
      rw [am_vV _ _ hlt, ← h5, am_tr_dflt]
    refine va_new hx hb (Ts := u_ws C T N) (am_us_in hr hw) (fun _ z => z) (am_tyf q.1) (am_tyf_ok q.1 _ hr) hown (hw _ (List.mem_of_getElem? h2.1) rfl) (hw _ (List.mem_of_getElem? c1) rfl) (hw _ (List.mem_of_getElem? c2) rfl) hU.1 hR.1 (am_D _ _ h) hS (fun z hz => Nat.le_trans hU.2.2.2.2.2.2.2.2 hz) hr hfs hce hse hd (fun q' H1 hP1 hD1 hS1 => am_W_size fun hz => ?_)
    obtain ⟨rfl, hR1⟩ := am_born (n := N) (ce := .inr (q.1, am_df.getD q.1 [])) hR hP1 hD1 hE hz rfl rfl
    exact kk H1 hR1 hS1
  · cases h2
theorem am_newi_W {n : Int32} (hx : p.tables.exec = Jvm.exec) (hb : c.code = am_by y) (hw : am_Wd args s) (hU : am_U tS b base L xs hp D cI cJ cS s) (hS : va_S (am_Ab base) s.heap H locs) (hR : am_R tS b base L xs hp D cI cJ cS h H)
    (hE : s.heap.size + cells + 2 = base + h.1) (hn : ¬ n < 0) (hn2 : n.toNatClampNeg ≤ 100000) (hce : cells + 1 ≤ R.cells) (hse : slots + n.toNatClampNeg ≤ R.slots) (hd : decode (am_by y) pc = .ok (.newarray .int, 2))
    (kk : ∀ H', am_R tS b base L xs hp D cI cJ cS (am_new h n.toNatClampNeg (.inl (0, n.toNatClampNeg, .inl (fun _ => 0)))) H' → va_S (am_Ab base) s.heap H' locs → W p l e R s m args below meth c H' locs (cells + 1) (slots + n.toNatClampNeg) Q (F0 m (pc + 2) ls ((.ref h.1 :: st).map (am_tr (am_ad tS b base))))) : W p l e R s m args below meth c H locs cells slots Q (F0 m pc ls ((.int n :: st).map (am_tr (am_ad tS b base)))) := by
  refine va_newa hx hb (atype := .int) (hw _ am_w_ci rfl) rfl hU.1 hR.1 (am_D _ _ h) hS (fun z hz => Nat.le_trans hU.2.2.2.2.2.2.2.2 hz) (a0 := (n.toNatClampNeg, .inl (fun _ => 0))) (fun _ => rfl) hn rfl (by simp only [newarray.typeOf, componentBytes]; omega) hce hse hd (fun q' cA H1 hK1 hP1 hD1 hS1 => am_W_size fun hz => ?_)
  have e1 : s.vm.findClass _ = some cA := (hK1.2 3 (cA, .int) rfl).2
  have e2 : s.vm.findClass _ = some cI := (hU.1.2 0 (cI, .int) rfl).2
  obtain rfl : cA = cI := Option.some.inj (e1.symm.trans e2)
  obtain ⟨rfl, hR1⟩ := am_born (n := n.toNatClampNeg) (ce := .inl (0, n.toNatClampNeg, .inl (fun _ => 0))) hR hP1 hD1 hE hz rfl rfl
  exact kk H1 hR1 hS1
theorem am_newl_W {n : Int32} (hx : p.tables.exec = Jvm.exec) (hb : c.code = am_by y) (hw : am_Wd args s) (hU : am_U tS b base L xs hp D cI cJ cS s) (hS : va_S (am_Ab base) s.heap H locs) (hR : am_R tS b base L xs hp D cI cJ cS h H)
    (hE : s.heap.size + cells + 2 = base + h.1) (hn : ¬ n < 0) (hn2 : n.toNatClampNeg ≤ 100000) (hce : cells + 1 ≤ R.cells) (hse : slots + n.toNatClampNeg ≤ R.slots) (hd : decode (am_by y) pc = .ok (.newarray .long, 2))
    (kk : ∀ H', am_R tS b base L xs hp D cI cJ cS (am_new h n.toNatClampNeg (.inl (1, n.toNatClampNeg, .inr (.inl (fun _ => 0))))) H' → va_S (am_Ab base) s.heap H' locs → W p l e R s m args below meth c H' locs (cells + 1) (slots + n.toNatClampNeg) Q (F0 m (pc + 2) ls ((.ref h.1 :: st).map (am_tr (am_ad tS b base))))) : W p l e R s m args below meth c H locs cells slots Q (F0 m pc ls ((.int n :: st).map (am_tr (am_ad tS b base)))) := by
  refine va_newa hx hb (atype := .long) (hw _ am_w_cj rfl) rfl hU.1 hR.1 (am_D _ _ h) hS (fun z hz => Nat.le_trans hU.2.2.2.2.2.2.2.2 hz) (a0 := (n.toNatClampNeg, .inr (.inl (fun _ => 0)))) (fun _ => rfl) hn rfl (by simp only [newarray.typeOf, componentBytes]; omega) hce hse hd (fun q' cA H1 hK1 hP1 hD1 hS1 => am_W_size fun hz => ?_)
  have e1 : s.vm.findClass _ = some cA := (hK1.2 3 (cA, .long) rfl).2
  have e2 : s.vm.findClass _ = some cJ := (hU.1.2 1 (cJ, .long) rfl).2
  obtain rfl : cA = cJ := Option.some.inj (e1.symm.trans e2)
  obtain ⟨rfl, hR1⟩ := am_born (n := n.toNatClampNeg) (ce := .inl (1, n.toNatClampNeg, .inr (.inl (fun _ => 0)))) hR hP1 hD1 hE hz rfl rfl
  exact kk H1 hR1 hS1
theorem am_newa_W {n : Int32} {idx : Nat} (hx : p.tables.exec = Jvm.exec) (hb : c.code = am_by y) (hown : s.vm.findClass (am_nm (am_oc y)) = some m.cls) (hcl : (Cond.classLink (am_nm (am_oc y)) idx "MouthRiddles$Sight").before args s = true) (hU : am_U tS b base L xs hp D cI cJ cS s) (hS : va_S (am_Ab base) s.heap H locs) (hR : am_R tS b base L xs hp D cI cJ cS h H)
    (hE : s.heap.size + cells + 2 = base + h.1) (hn : ¬ n < 0) (hn2 : n.toNatClampNeg ≤ 100000) (hce : cells + 1 ≤ R.cells) (hse : slots + n.toNatClampNeg ≤ R.slots) (hd : decode (am_by y) pc = .ok (.anewarray idx, 3))
    (kk : ∀ H', am_R tS b base L xs hp D cI cJ cS (am_new h n.toNatClampNeg (.inl (2, n.toNatClampNeg, .inr (.inr (.inr (.inr (fun _ => none))))))) H' → va_S (am_Ab base) s.heap H' locs → W p l e R s m args below meth c H' locs (cells + 1) (slots + n.toNatClampNeg) Q (F0 m (pc + 3) ls ((.ref h.1 :: st).map (am_tr (am_ad tS b base))))) : W p l e R s m args below meth c H locs cells slots Q (F0 m pc ls ((.int n :: st).map (am_tr (am_ad tS b base)))) := by
  refine va_newq hx hb hown hcl hU.2.2.1 hU.1 hR.1 (am_D _ _ h) hS (fun z hz => Nat.le_trans hU.2.2.2.2.2.2.2.2 hz) hn rfl (by omega) hce hse hd (fun q' cA H1 hK1 hP1 hD1 hS1 => am_W_size fun hz => ?_)
  obtain ⟨-, -, -, -, -, e1⟩ : va_RA s cA (.object "MouthRiddles$Sight") := (hK1.2 3 (cA, .object "MouthRiddles$Sight") rfl).2
  obtain ⟨-, -, -, -, -, e2⟩ : va_RA s cS (.object "MouthRiddles$Sight") := (hU.1.2 2 (cS, .object "MouthRiddles$Sight") rfl).2
  obtain rfl : cA = cS := Option.some.inj (e1.symm.trans e2)
  obtain ⟨rfl, hR1⟩ := am_born (n := n.toNatClampNeg) (ce := .inl (2, n.toNatClampNeg, .inr (.inr (.inr (.inr (fun _ => none)))))) hR hP1 hD1 hE hz rfl rfl
  exact kk H1 hR1 hS1
theorem am_ml_at {oc idx : Nat} {q : Nat × Bool × Nat} (hq : am_ml.lookup (oc, idx) = some q) (hn : q.2.1 = false) : lw_tbl[q.2.2]? = some (.methodLink (am_nm oc) idx (if q.1 = 1000 then objectInit else if q.1 = 1001 then arraycopyName else if q.1 = 1002 then Lib.Math.min.name else if q.1 = 1003 then Lib.Math.max.name else if q.1 = 1004 then Lib.MathLoose.max_long.x else am_y q.1)) := by
  have h2 := List.all_eq_true.mp am_ml_ok _ (am_lk hq)
  simp only [am_ckm, hn, Bool.and_eq_true, decide_eq_true_eq, Bool.false_eq_true, if_false] at h2
  exact h2.1
set_option maxHeartbeats 8000000 in
theorem am_hop_W (hx : p.tables.exec = Jvm.exec) (hb : c.code = am_by y) (hml : c.maxLocals = am_nl y) (hal : al.length = am_nl y) (hL : am_Lo (am_ad tS b base) al ls) (hown : s.vm.findClass (am_nm (am_oc y)) = some m.cls) (hmi : (am_y y).name = "<init>" → meth.name = "<init>") (hw : am_Wd args s) (hU : am_U tS b base L xs hp D cI cJ cS s) (hS : va_S (am_Ab base) s.heap H locs) (hR : am_R tS b base L xs hp D cI cJ cS h H)
    (hfr : 1 ≤ R.frames) (hlo : 64 ≤ R.locals) (hE : s.heap.size + cells + 2 = base + h.1) (hce : cells + (h'.1 - h.1) ≤ R.cells) (hse : slots + (h'.2.1 - h.2.1) ≤ R.slots) (hd : decode (am_by y) pc = .ok (ri, len)) (hc : am_conv y pc len ri = some i) (hs : am_hop i st h = some (st', h'))
    (k : ∀ H' locs', am_R tS b base L xs hp D cI cJ cS h' H' → va_S (am_Ab base) s.heap H' locs' → W p l e R s m args below meth c H' locs' (cells + (h'.1 - h.1)) (slots + (h'.2.1 - h.2.1)) Q (F0 m (pc + len) ls (st'.map (am_tr (am_ad tS b base))))) : W p l e R s m args below meth c H locs cells slots Q (F0 m pc ls (st.map (am_tr (am_ad tS b base)))) := by
  have hmls : c.maxLocals = ls.size := by rw [hml, ← hal, hL.1]
  cases ri
  case getfield n =>
    simp only [am_conv] at hc
    split at hc
    · rename_i q hq
      obtain ⟨h1, rfl⟩ := am_if_inv hc
      obtain rfl := am_len_inv h1
      simp only [am_hop] at hs
      split at hs
      · rw [Option.map_eq_some_iff] at hs
        obtain ⟨z, hz, e1⟩ := hs
        cases e1
        have k := k H locs hR hS; simp only [Nat.sub_self, Nat.add_zero] at k
        exact am_getf_W hx hb hown hw hU hR hq hz hd k
      · cases hs
    · cases hc
  case putfield n =>
    simp only [am_conv] at hc
    split at hc
    · rename_i q hq
      obtain ⟨h1, rfl⟩ := am_if_inv hc
      rw [Bool.and_eq_true] at h1
      obtain rfl := am_len_inv h1.1
      simp only [am_hop] at hs
      split at hs
      · rw [Option.map_eq_some_iff] at hs
        obtain ⟨z, hz, e1⟩ := hs
        cases e1
        simp only [am_set, Nat.sub_self, Nat.add_zero] at k
        exact am_putf_W hx hb hown hmi hw hU hS hR hq h1.2 hz hd k
      · cases hs
    · cases hc
  case iaload =>
    obtain ⟨h1, rfl⟩ := am_if_inv hc
    obtain rfl := am_len_inv (Bool.and_eq_true_iff.mp h1).1
    simp only [am_hop] at hs
    split at hs
    · rw [Option.map_eq_some_iff] at hs
      obtain ⟨z, hz, e1⟩ := hs
      cases e1
      have k := k H locs hR hS; simp only [Nat.sub_self, Nat.add_zero] at k
      exact am_rd_W hx hb hU hS hR hz hd k
    · cases hs
  case laload =>
    obtain ⟨h1, rfl⟩ := am_if_inv hc
    obtain rfl := am_len_inv (Bool.and_eq_true_iff.mp h1).1
    simp only [am_hop] at hs
    split at hs
    · rw [Option.map_eq_some_iff] at hs
      obtain ⟨z, hz, e1⟩ := hs
      cases e1
      have k := k H locs hR hS; simp only [Nat.sub_self, Nat.add_zero] at k
      exact am_rdl_W hx hb hU hS hR hz hd k
    · cases hs
  case aaload =>
    obtain ⟨h1, rfl⟩ := am_if_inv hc
    obtain rfl := am_len_inv (Bool.and_eq_true_iff.mp h1).1
    simp only [am_hop] at hs
    split at hs
    · rw [Option.map_eq_some_iff] at hs
      obtain ⟨z, hz, e1⟩ := hs
      cases e1
      have k := k H locs hR hS; simp only [Nat.sub_self, Nat.add_zero] at k
      exact am_rda_W hx hb hU hR hz hd k
    · cases hs
  case arraylength =>
    obtain ⟨h1, rfl⟩ := am_if_inv hc
    obtain rfl := am_len_inv (Bool.and_eq_true_iff.mp h1).1
    simp only [am_hop] at hs
    split at hs
    · rw [Option.map_eq_some_iff] at hs
      obtain ⟨z, hz, e1⟩ := hs
      cases e1
      have k := k H locs hR hS; simp only [Nat.sub_self, Nat.add_zero] at k
      exact am_len_W hx hb hU hS hR hz hd k
    · cases hs
  case iastore =>
    obtain ⟨h1, rfl⟩ := am_if_inv hc
    obtain rfl := am_len_inv (Bool.and_eq_true_iff.mp h1).1
    simp only [am_hop] at hs
    split at hs
    · rw [Option.map_eq_some_iff] at hs
      obtain ⟨z, hz, e1⟩ := hs
      cases e1
      simp only [am_set, Nat.sub_self, Nat.add_zero] at k
      exact am_wi_W hx hb hU hS hR hz hd k
    · cases hs
  case lastore =>
    obtain ⟨h1, rfl⟩ := am_if_inv hc
    obtain rfl := am_len_inv (Bool.and_eq_true_iff.mp h1).1
    simp only [am_hop] at hs
    split at hs
    · rw [Option.map_eq_some_iff] at hs
      obtain ⟨z, hz, e1⟩ := hs
      cases e1
      simp only [am_set, Nat.sub_self, Nat.add_zero] at k
      exact am_wl_W hx hb hU hS hR hz hd k
    · cases hs
  case aastore =>
    obtain ⟨h1, rfl⟩ := am_if_inv hc
    obtain rfl := am_len_inv (Bool.and_eq_true_iff.mp h1).1
    simp only [am_hop] at hs
    split at hs
    · split at hs
      · rename_i hv
        rw [Option.map_eq_some_iff] at hs
        obtain ⟨z, hz, e1⟩ := hs
        cases e1
        simp only [am_set, Nat.sub_self, Nat.add_zero] at k
        exact am_wa_W hx hb hU hS hR hv hz hd k
      · cases hs
    · cases hs
  case new n =>
    simp only [am_conv] at hc
    split at hc
    · rename_i q hq
      obtain ⟨h1, rfl⟩ := am_if_inv hc
      obtain rfl := am_len_inv h1
      cases hs
      simp only [am_new, Nat.add_sub_cancel_left] at k hce hse
      exact am_newo_W hx hb hown hw hU hS hR hE hq hce hse hd (fun H1 a1 a2 => k H1 locs a1 a2)
    · cases hc
  case newarray t =>
    obtain ⟨h1, rfl⟩ := am_if_inv hc
    obtain rfl := am_len_inv h1
    cases t
    case int =>
      simp only [am_hop] at hs
      split at hs
      · split at hs
        · rename_i hn
          cases hs
          simp only [am_new, Nat.add_sub_cancel_left] at k hce hse
          exact am_newi_W hx hb hw hU hS hR hE hn.1 hn.2 hce hse hd (fun H1 a1 a2 => k H1 locs a1 a2)
        · cases hs
      · cases hs
    case long =>
      simp only [am_hop] at hs
      split at hs
      · split at hs
        · rename_i hn
          cases hs
          simp only [am_new, Nat.add_sub_cancel_left] at k hce hse
          exact am_newl_W hx hb hw hU hS hR hE hn.1 hn.2 hce hse hd (fun H1 a1 a2 => k H1 locs a1 a2)
        · cases hs
      · cases hs
    all_goals cases hs
  case anewarray n =>
    simp only [am_conv] at hc
    split at hc
    · rename_i q hq
      obtain ⟨h1, rfl⟩ := am_if_inv hc
      rw [Bool.and_eq_true] at h1
      obtain rfl := am_len_inv h1.1
      have h7 := am_len_inv h1.2
      have h2 := List.all_eq_true.mp am_cl_ok _ (am_lk hq)
      obtain ⟨q1, q2⟩ := q
      dsimp only at h7
      subst h7
      have h3 : lw_tbl[q2]? = some (.classLink (am_nm (am_oc y)) n "MouthRiddles$Sight") := by
        have h2 : (decide (lw_tbl[q2]? = some (.classLink (am_nm (am_oc y)) n "MouthRiddles$Sight")) && decide (7 < 13)) = true := h2
        rw [Bool.and_eq_true, decide_eq_true_eq] at h2
        exact h2.1
      simp only [am_hop] at hs
      split at hs
      · split at hs
        · rename_i hn
          cases hs
          simp only [am_new, Nat.add_sub_cancel_left] at k hce hse
          exact am_newa_W hx hb hown (hw _ (List.mem_of_getElem? h3) rfl) hU hS hR hE hn.1 hn.2 hce hse hd (fun H1 a1 a2 => k H1 locs a1 a2)
        · cases hs
      · cases hs
    · cases hc
  case invokestatic n =>
    simp only [am_conv] at hc
    split at hc
    · rename_i q hq
      split at hc
      · rename_i h9
        obtain ⟨h1, rfl⟩ := am_if_inv hc
        simp only [Bool.and_eq_true, Bool.not_eq_true'] at h1
        obtain rfl := am_len_inv h1.1
        have h3 := am_ml_at hq h1.2
        rw [h9] at h3
        simp only [am_hop] at hs
        split at hs
        · split at hs
          · rename_i hcat
            rw [Option.map_eq_some_iff] at hs
            obtain ⟨z, hz, e1⟩ := hs
            cases e1
            simp only [am_set, Nat.sub_self, Nat.add_zero] at k
            exact am_wc_W hx hb hmls hown hw (hw _ (List.mem_of_getElem? h3) rfl) hfr hlo hcat hU hS hR hz hd k
          · cases hs
        · cases hs
      · repeat' split at hc
        all_goals (obtain ⟨h1, rfl⟩ := am_if_inv hc; cases hs)
    · cases hc
  case invokevirtual n =>
    simp only [am_conv] at hc
    split at hc
    · obtain ⟨h1, rfl⟩ := am_if_inv hc
      cases hs
    · cases hc
  case ldc n =>
    simp only [am_conv] at hc
    split at hc
    · obtain ⟨h1, rfl⟩ := am_if_inv hc
      cases hs
    · cases hc
  case ldc_w n =>
    simp only [am_conv] at hc
    split at hc
    · obtain ⟨h1, rfl⟩ := am_if_inv hc
      cases hs
    · cases hc
  case ldc2_w n =>
    simp only [am_conv] at hc
    split at hc
    · obtain ⟨h1, rfl⟩ := am_if_inv hc
      cases hs
    · cases hc
  case ireturn =>
    simp only [am_conv] at hc
    split at hc
    · obtain ⟨h1, rfl⟩ := am_if_inv hc
      cases hs
    · obtain ⟨h1, rfl⟩ := am_if_inv hc
      cases hs
  case invokespecial n =>
    simp only [am_conv] at hc
    repeat' split at hc
    all_goals first | (cases hc; done) | (obtain ⟨h1, rfl⟩ := am_if_inv hc; cases hs; done)
  all_goals (obtain ⟨h1, rfl⟩ := am_if_inv hc; first | (cases hs; done) | (simp [am_plain] at h1; done))
end HOP3
end
