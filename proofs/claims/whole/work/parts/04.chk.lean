/-! THE REAL CODE BEHIND THE ABSTRACT ONE: instructions resolved by the tables; checked by the kernel -/
def am_by (q : Nat) : ByteArray := am_bs.getD q ⟨#[]⟩
def am_rt (q : Nat) : Option FieldType := am_rs.getD q none
def am_y (q : Nat) : MethodName := am_ys.getD q ⟨"", "", ""⟩
def am_nm (c : Nat) : String := am_on.getD c ""
def am_plain : Instr → Bool
  | .iadd | .isub | .imul | .iand | .ior | .ixor | .idiv | .irem | .ineg | .ishl | .ishr | .iushr => true
  | .ladd | .lsub | .lmul | .land | .lor | .ldiv | .lrem | .lshl | .lushr | .lcmp | .i2l | .l2i => true
  | .dup | .pop | .dup2 | .iaload | .laload | .aaload | .arraylength | .iastore | .lastore | .aastore => true
  | _ => false
def am_if (b : Bool) (i : Instr) : Option Instr := if b = true then some i else none
/-- the abstract instruction of a real one of a length, in method y at pc -/
def am_conv (y pc len : Nat) (i : Instr) : Option Instr := match i with
  | .iconst n => am_if (len == 1) (.iconst n)
  | .bipush n => am_if (len == 2 && decide ((Int8.ofInt n).toInt32 = Int32.ofInt n)) (.iconst n)
  | .sipush n => am_if (len == 3 && decide ((Int16.ofInt n).toInt32 = Int32.ofInt n)) (.iconst n)
  | .lconst n => am_if (len == 1) (.ldc2_w n.val)
  | .ldc idx => match am_ki.lookup (am_oc y, idx) with
    | some e => am_if (len == 2) (.iconst e.1)
    | none => none
  | .ldc_w idx => match am_ki.lookup (am_oc y, idx) with
    | some e => am_if (len == 3) (.iconst e.1)
    | none => none
  | .ldc2_w idx => match am_kl.lookup (am_oc y, idx) with
    | some e => am_if (len == 3) (.ldc2_w e.1)
    | none => none
  | .iload k => am_if (len == 2) (.iload k)
  | .iload_n k => am_if (len == 1) (.iload k.val)
  | .lload k => am_if (len == 2) (.lload k)
  | .lload_n k => am_if (len == 1) (.lload k.val)
  | .aload k => am_if (len == 2) (.aload k)
  | .aload_n k => am_if (len == 1) (.aload k.val)
  | .istore k => am_if (len == 2) (.istore k)
  | .istore_n k => am_if (len == 1) (.istore k.val)
  | .lstore k => am_if (len == 2) (.lstore k)
  | .lstore_n k => am_if (len == 1) (.lstore k.val)
  | .astore k => am_if (len == 2) (.astore k)
  | .astore_n k => am_if (len == 1) (.astore k.val)
  | .iinc k n => am_if (len == 3) (.iinc k n)
  | .getfield idx => match am_fl.lookup (am_oc y, idx) with
    | some e => am_if (len == 3) (.getfield (e.1 * 64 + e.2.1))
    | none => none
  | .putfield idx => match am_fl.lookup (am_oc y, idx) with
    | some e => am_if (len == 3 && (match vwCl[e.1]? with
      | some r => !(r.2.1 e.2.1).2.2.2 || ((am_y y).name == "<init>" && am_oc y == e.1 && !e.2.2.2.1)
      | none => false)) (.putfield ((e.2.2.1 * 64 + e.1) * 64 + e.2.1))
    | none => none
  | .getstatic idx => am_if (len == 3 && am_oc y == am_sg.1 && idx == am_sg.2.1) (.getstatic 0)
  | .invokevirtual idx => match am_ml.lookup (am_oc y, idx) with
    | some e => am_if (len == 3 && decide (e.1 < 1000) && !e.2.1 && !((am_y e.1).name == "<init>")) (.invokevirtual e.1)
    | none => none
  | .invokespecial idx => match am_ml.lookup (am_oc y, idx) with
    | some e => if e.1 = 1000 then am_if (len == 3 && !e.2.1) .monitorenter else am_if (len == 3 && decide (e.1 < 1000) && (am_y e.1).name == "<init>") (.invokespecial e.1)
    | none => none
  | .invokestatic idx => match am_ml.lookup (am_oc y, idx) with
    | some e => if e.1 = 1001 then am_if (len == 3 && !e.2.1) (.invokedynamic 0) else if e.1 = 1002 then am_if (len == 3 && !e.2.1) .dadd else if e.1 = 1003 then am_if (len == 3 && !e.2.1) .dsub else if e.1 = 1004 then am_if (len == 3 && !e.2.1) .dmul else am_if (len == 3 && decide (e.1 < 1000) && !e.2.1) (.invokestatic e.1)
    | none => none
  | .new idx => match am_cl.lookup (am_oc y, idx) with
    | some e => am_if (len == 3) (.new e.1)
    | none => none
  | .anewarray idx => match am_cl.lookup (am_oc y, idx) with
    | some e => am_if (len == 3 && e.1 == 7) (.anewarray 2)
    | none => none
  | .newarray t => am_if (len == 2) (.newarray t)
  | .goto o => am_if (len == 3 && decide (0 ≤ (pc : Int) + o)) (.goto (pc + o))
  | .ifCond c o => am_if (len == 3 && decide (0 ≤ (pc : Int) + o)) (.ifCond c (pc + o))
  | .if_icmp c o => am_if (len == 3 && decide (0 ≤ (pc : Int) + o)) (.if_icmp c (pc + o))
  | .tableswitch d lo hi ts => am_if (decide (0 ≤ (pc : Int) + d) && ts.all (fun o => decide (0 ≤ (pc : Int) + o))) (.tableswitch (pc + d) lo hi (ts.map (fun o => pc + o)))
  | .ireturn => if am_rt y = some .boolean then am_if (len == 1) .freturn else am_if (len == 1 && decide (am_rt y = some .int)) .ireturn
  | .lreturn => am_if (len == 1 && decide (am_rt y = some .long)) .lreturn
  | .return_ => am_if (len == 1 && decide (am_rt y = none)) .return_
  | i => am_if (len == 1 && am_plain i) i
def am_end : Instr → Bool
  | .goto _ | .tableswitch .. | .ireturn | .freturn | .lreturn | .return_ => true
  | _ => false
def am_okb (y : Nat) (pc : Nat) (is : List Instr) (nx : Nat) : Bool := match is with
  | [] => pc == nx
  | i :: is => match decode (am_by y) pc with
    | .ok (ri, len) => decide (am_conv y pc len ri = some i) && (am_end i || am_okb y (pc + len) is nx)
    | _ => false
set_option maxRecDepth 100000 in
theorem ck_Changes_init : cd_Changes_init.all (fun b => am_okb 0 b.1 b.2.1 b.2.2) = true := by decide +kernel
set_option maxRecDepth 100000 in
theorem ck_Changes_least : cd_Changes_least.all (fun b => am_okb 1 b.1 b.2.1 b.2.2) = true := by decide +kernel
set_option maxRecDepth 100000 in
theorem ck_Changes_weighBelow : cd_Changes_weighBelow.all (fun b => am_okb 2 b.1 b.2.1 b.2.2) = true := by decide +kernel
set_option maxRecDepth 100000 in
theorem ck_Changes_addToAbove : cd_Changes_addToAbove.all (fun b => am_okb 3 b.1 b.2.1 b.2.2) = true := by decide +kernel
set_option maxRecDepth 100000 in
theorem ck_Changes_leastOf : cd_Changes_leastOf.all (fun b => am_okb 4 b.1 b.2.1 b.2.2) = true := by decide +kernel
set_option maxRecDepth 100000 in
theorem ck_Changes_weighAll : cd_Changes_weighAll.all (fun b => am_okb 5 b.1 b.2.1 b.2.2) = true := by decide +kernel
set_option maxRecDepth 100000 in
theorem ck_Changes_weighWhole : cd_Changes_weighWhole.all (fun b => am_okb 6 b.1 b.2.1 b.2.2) = true := by decide +kernel
set_option maxRecDepth 100000 in
theorem ck_Changes_sureOf : cd_Changes_sureOf.all (fun b => am_okb 7 b.1 b.2.1 b.2.2) = true := by decide +kernel
set_option maxRecDepth 100000 in
theorem ck_Deal_init : cd_Deal_init.all (fun b => am_okb 8 b.1 b.2.1 b.2.2) = true := by decide +kernel
set_option maxRecDepth 100000 in
theorem ck_Deal_countWays : cd_Deal_countWays.all (fun b => am_okb 9 b.1 b.2.1 b.2.2) = true := by decide +kernel
set_option maxRecDepth 100000 in
theorem ck_Deal_dealFrom : cd_Deal_dealFrom.all (fun b => am_okb 10 b.1 b.2.1 b.2.2) = true := by decide +kernel
set_option maxRecDepth 100000 in
theorem ck_Deal_hasTwinBefore : cd_Deal_hasTwinBefore.all (fun b => am_okb 11 b.1 b.2.1 b.2.2) = true := by decide +kernel
set_option maxRecDepth 100000 in
theorem ck_Heads_init : cd_Heads_init.all (fun b => am_okb 12 b.1 b.2.1 b.2.2) = true := by decide +kernel
set_option maxRecDepth 100000 in
theorem ck_Heads_add : cd_Heads_add.all (fun b => am_okb 13 b.1 b.2.1 b.2.2) = true := by decide +kernel
set_option maxRecDepth 100000 in
theorem ck_Heads_stageOfAnswer : cd_Heads_stageOfAnswer.all (fun b => am_okb 14 b.1 b.2.1 b.2.2) = true := by decide +kernel
set_option maxRecDepth 100000 in
theorem ck_Heads_secondOf : cd_Heads_secondOf.all (fun b => am_okb 15 b.1 b.2.1 b.2.2) = true := by decide +kernel
set_option maxRecDepth 100000 in
theorem ck_Heads_answerIn : cd_Heads_answerIn.all (fun b => am_okb 16 b.1 b.2.1 b.2.2) = true := by decide +kernel
set_option maxRecDepth 100000 in
theorem ck_Heads_unlikePairs : cd_Heads_unlikePairs.all (fun b => am_okb 17 b.1 b.2.1 b.2.2) = true := by decide +kernel
set_option maxRecDepth 100000 in
theorem ck_Heads_answerOf : cd_Heads_answerOf.all (fun b => am_okb 18 b.1 b.2.1 b.2.2) = true := by decide +kernel
set_option maxRecDepth 100000 in
theorem ck_Heads_answeringOther : cd_Heads_answeringOther.all (fun b => am_okb 19 b.1 b.2.1 b.2.2) = true := by decide +kernel
set_option maxRecDepth 100000 in
theorem ck_Lore_init : cd_Lore_init.all (fun b => am_okb 20 b.1 b.2.1 b.2.2) = true := by decide +kernel
set_option maxRecDepth 100000 in
theorem ck_Lore_addThing : cd_Lore_addThing.all (fun b => am_okb 21 b.1 b.2.1 b.2.2) = true := by decide +kernel
set_option maxRecDepth 100000 in
theorem ck_Lore_fitAnew : cd_Lore_fitAnew.all (fun b => am_okb 22 b.1 b.2.1 b.2.2) = true := by decide +kernel
set_option maxRecDepth 100000 in
theorem ck_Lore_tryOut : cd_Lore_tryOut.all (fun b => am_okb 23 b.1 b.2.1 b.2.2) = true := by decide +kernel
set_option maxRecDepth 100000 in
theorem ck_Lore_havingSense : cd_Lore_havingSense.all (fun b => am_okb 24 b.1 b.2.1 b.2.2) = true := by decide +kernel
set_option maxRecDepth 100000 in
theorem ck_Lore_traitOf : cd_Lore_traitOf.all (fun b => am_okb 25 b.1 b.2.1 b.2.2) = true := by decide +kernel
set_option maxRecDepth 100000 in
theorem ck_Lore_hasSense : cd_Lore_hasSense.all (fun b => am_okb 26 b.1 b.2.1 b.2.2) = true := by decide +kernel
set_option maxRecDepth 100000 in
theorem ck_Lore_addSense : cd_Lore_addSense.all (fun b => am_okb 27 b.1 b.2.1 b.2.2) = true := by decide +kernel
set_option maxRecDepth 100000 in
theorem ck_Lore_addSaying : cd_Lore_addSaying.all (fun b => am_okb 28 b.1 b.2.1 b.2.2) = true := by decide +kernel
set_option maxRecDepth 100000 in
theorem ck_Lore_isOfKind : cd_Lore_isOfKind.all (fun b => am_okb 29 b.1 b.2.1 b.2.2) = true := by decide +kernel
set_option maxRecDepth 100000 in
theorem ck_Lore_leastSense : cd_Lore_leastSense.all (fun b => am_okb 30 b.1 b.2.1 b.2.2) = true := by decide +kernel
set_option maxRecDepth 100000 in
theorem ck_Lore_allThings : cd_Lore_allThings.all (fun b => am_okb 31 b.1 b.2.1 b.2.2) = true := by decide +kernel
set_option maxRecDepth 100000 in
theorem ck_Lore_fittingBySight : cd_Lore_fittingBySight.all (fun b => am_okb 32 b.1 b.2.1 b.2.2) = true := by decide +kernel
set_option maxRecDepth 100000 in
theorem ck_Lore_senseCount : cd_Lore_senseCount.all (fun b => am_okb 33 b.1 b.2.1 b.2.2) = true := by decide +kernel
set_option maxRecDepth 100000 in
theorem ck_Maker_init : cd_Maker_init.all (fun b => am_okb 34 b.1 b.2.1 b.2.2) = true := by decide +kernel
set_option maxRecDepth 100000 in
theorem ck_Maker_fewest : cd_Maker_fewest.all (fun b => am_okb 35 b.1 b.2.1 b.2.2) = true := by decide +kernel
set_option maxRecDepth 100000 in
theorem ck_Maker_gather : cd_Maker_gather.all (fun b => am_okb 36 b.1 b.2.1 b.2.2) = true := by decide +kernel
set_option maxRecDepth 100000 in
theorem ck_Maker_choose : cd_Maker_choose.all (fun b => am_okb 37 b.1 b.2.1 b.2.2) = true := by decide +kernel
set_option maxRecDepth 100000 in
theorem ck_Maker_consider : cd_Maker_consider.all (fun b => am_okb 38 b.1 b.2.1 b.2.2) = true := by decide +kernel
set_option maxRecDepth 100000 in
theorem ck_Page_init : cd_Page_init.all (fun b => am_okb 39 b.1 b.2.1 b.2.2) = true := by decide +kernel
set_option maxRecDepth 100000 in
theorem ck_Page_areLetters : cd_Page_areLetters.all (fun b => am_okb 40 b.1 b.2.1 b.2.2) = true := by decide +kernel
set_option maxRecDepth 100000 in
theorem ck_Page_lettersIn : cd_Page_lettersIn.all (fun b => am_okb 41 b.1 b.2.1 b.2.2) = true := by decide +kernel
set_option maxRecDepth 100000 in
theorem ck_Page_codeAt : cd_Page_codeAt.all (fun b => am_okb 42 b.1 b.2.1 b.2.2) = true := by decide +kernel
set_option maxRecDepth 100000 in
theorem ck_Page_append : cd_Page_append.all (fun b => am_okb 43 b.1 b.2.1 b.2.2) = true := by decide +kernel
set_option maxRecDepth 100000 in
theorem ck_Page_empty : cd_Page_empty.all (fun b => am_okb 44 b.1 b.2.1 b.2.2) = true := by decide +kernel
set_option maxRecDepth 100000 in
theorem ck_Riddles_init : cd_Riddles_init.all (fun b => am_okb 45 b.1 b.2.1 b.2.2) = true := by decide +kernel
set_option maxRecDepth 100000 in
theorem ck_Riddles_begin : cd_Riddles_begin.all (fun b => am_okb 46 b.1 b.2.1 b.2.2) = true := by decide +kernel
set_option maxRecDepth 100000 in
theorem ck_Riddles_append : cd_Riddles_append.all (fun b => am_okb 47 b.1 b.2.1 b.2.2) = true := by decide +kernel
set_option maxRecDepth 100000 in
theorem ck_Riddles_sayingAt : cd_Riddles_sayingAt.all (fun b => am_okb 48 b.1 b.2.1 b.2.2) = true := by decide +kernel
set_option maxRecDepth 100000 in
theorem ck_Riddles_fitting : cd_Riddles_fitting.all (fun b => am_okb 49 b.1 b.2.1 b.2.2) = true := by decide +kernel
set_option maxRecDepth 100000 in
theorem ck_Riddles_fittingWithout : cd_Riddles_fittingWithout.all (fun b => am_okb 50 b.1 b.2.1 b.2.2) = true := by decide +kernel
set_option maxRecDepth 100000 in
theorem ck_Riddles_turnedOnes : cd_Riddles_turnedOnes.all (fun b => am_okb 51 b.1 b.2.1 b.2.2) = true := by decide +kernel
set_option maxRecDepth 100000 in
theorem ck_Riddles_misleadingPlace : cd_Riddles_misleadingPlace.all (fun b => am_okb 52 b.1 b.2.1 b.2.2) = true := by decide +kernel
set_option maxRecDepth 100000 in
theorem ck_Riddles_countWithout : cd_Riddles_countWithout.all (fun b => am_okb 53 b.1 b.2.1 b.2.2) = true := by decide +kernel
set_option maxRecDepth 100000 in
theorem ck_Riddles_unfitCount : cd_Riddles_unfitCount.all (fun b => am_okb 54 b.1 b.2.1 b.2.2) = true := by decide +kernel
set_option maxRecDepth 100000 in
theorem ck_Sight_init : cd_Sight_init.all (fun b => am_okb 55 b.1 b.2.1 b.2.2) = true := by decide +kernel
set_option maxRecDepth 100000 in
theorem ck_Sight_sees : cd_Sight_sees.all (fun b => am_okb 56 b.1 b.2.1 b.2.2) = true := by decide +kernel
set_option maxRecDepth 100000 in
theorem ck_Sight_set : cd_Sight_set.all (fun b => am_okb 57 b.1 b.2.1 b.2.2) = true := by decide +kernel
set_option maxRecDepth 100000 in
theorem ck_Stakes_init : cd_Stakes_init.all (fun b => am_okb 58 b.1 b.2.1 b.2.2) = true := by decide +kernel
set_option maxRecDepth 100000 in
theorem ck_Stakes_put : cd_Stakes_put.all (fun b => am_okb 59 b.1 b.2.1 b.2.2) = true := by decide +kernel
set_option maxRecDepth 100000 in
theorem ck_Stakes_of : cd_Stakes_of.all (fun b => am_okb 60 b.1 b.2.1 b.2.2) = true := by decide +kernel
set_option maxRecDepth 100000 in
theorem ck_Stakes_best : cd_Stakes_best.all (fun b => am_okb 61 b.1 b.2.1 b.2.2) = true := by decide +kernel
set_option maxRecDepth 100000 in
theorem ck_Stakes_giveRiddle : cd_Stakes_giveRiddle.all (fun b => am_okb 62 b.1 b.2.1 b.2.2) = true := by decide +kernel
set_option maxRecDepth 100000 in
theorem ck_Stakes_sumIn : cd_Stakes_sumIn.all (fun b => am_okb 63 b.1 b.2.1 b.2.2) = true := by decide +kernel
set_option maxRecDepth 100000 in
theorem ck_Stakes_riddleIn : cd_Stakes_riddleIn.all (fun b => am_okb 64 b.1 b.2.1 b.2.2) = true := by decide +kernel
set_option maxRecDepth 100000 in
theorem ck_Tongues_init : cd_Tongues_init.all (fun b => am_okb 65 b.1 b.2.1 b.2.2) = true := by decide +kernel
set_option maxRecDepth 100000 in
theorem ck_Tongues_add : cd_Tongues_add.all (fun b => am_okb 66 b.1 b.2.1 b.2.2) = true := by decide +kernel
set_option maxRecDepth 100000 in
theorem ck_Tongues_carries : cd_Tongues_carries.all (fun b => am_okb 67 b.1 b.2.1 b.2.2) = true := by decide +kernel
set_option maxRecDepth 100000 in
theorem ck_Tongues_lacking : cd_Tongues_lacking.all (fun b => am_okb 68 b.1 b.2.1 b.2.2) = true := by decide +kernel
set_option maxRecDepth 100000 in
theorem ck_Tongues_leastLacking : cd_Tongues_leastLacking.all (fun b => am_okb 69 b.1 b.2.1 b.2.2) = true := by decide +kernel
set_option maxRecDepth 100000 in
theorem ck_Tree_init : cd_Tree_init.all (fun b => am_okb 70 b.1 b.2.1 b.2.2) = true := by decide +kernel
set_option maxRecDepth 100000 in
theorem ck_Tree_read : cd_Tree_read.all (fun b => am_okb 71 b.1 b.2.1 b.2.2) = true := by decide +kernel
set_option maxRecDepth 100000 in
theorem ck_Tree_take : cd_Tree_take.all (fun b => am_okb 72 b.1 b.2.1 b.2.2) = true := by decide +kernel
set_option maxRecDepth 100000 in
theorem ck_Tree_openNode : cd_Tree_openNode.all (fun b => am_okb 73 b.1 b.2.1 b.2.2) = true := by decide +kernel
set_option maxRecDepth 100000 in
theorem ck_Tree_beginNode : cd_Tree_beginNode.all (fun b => am_okb 74 b.1 b.2.1 b.2.2) = true := by decide +kernel
set_option maxRecDepth 100000 in
theorem ck_Tree_landNode : cd_Tree_landNode.all (fun b => am_okb 75 b.1 b.2.1 b.2.2) = true := by decide +kernel
set_option maxRecDepth 100000 in
theorem ck_Tree_awaitNext : cd_Tree_awaitNext.all (fun b => am_okb 76 b.1 b.2.1 b.2.2) = true := by decide +kernel
set_option maxRecDepth 100000 in
theorem ck_Tree_closeNode : cd_Tree_closeNode.all (fun b => am_okb 77 b.1 b.2.1 b.2.2) = true := by decide +kernel
set_option maxRecDepth 100000 in
theorem ck_Tree_isWhole : cd_Tree_isWhole.all (fun b => am_okb 78 b.1 b.2.1 b.2.2) = true := by decide +kernel
set_option maxRecDepth 100000 in
theorem ck_X_init : cd_X_init.all (fun b => am_okb 79 b.1 b.2.1 b.2.2) = true := by decide +kernel
set_option maxRecDepth 100000 in
theorem ck_X_thing : cd_X_thing.all (fun b => am_okb 80 b.1 b.2.1 b.2.2) = true := by decide +kernel
set_option maxRecDepth 100000 in
theorem ck_X_sense : cd_X_sense.all (fun b => am_okb 81 b.1 b.2.1 b.2.2) = true := by decide +kernel
set_option maxRecDepth 100000 in
theorem ck_X_isWord : cd_X_isWord.all (fun b => am_okb 82 b.1 b.2.1 b.2.2) = true := by decide +kernel
set_option maxRecDepth 100000 in
theorem ck_X_senseOf : cd_X_senseOf.all (fun b => am_okb 83 b.1 b.2.1 b.2.2) = true := by decide +kernel
set_option maxRecDepth 100000 in
theorem ck_X_saying : cd_X_saying.all (fun b => am_okb 84 b.1 b.2.1 b.2.2) = true := by decide +kernel
set_option maxRecDepth 100000 in
theorem ck_X_isKind : cd_X_isKind.all (fun b => am_okb 85 b.1 b.2.1 b.2.2) = true := by decide +kernel
set_option maxRecDepth 100000 in
theorem ck_X_as : cd_X_as.all (fun b => am_okb 86 b.1 b.2.1 b.2.2) = true := by decide +kernel
set_option maxRecDepth 100000 in
theorem ck_X_isSaying : cd_X_isSaying.all (fun b => am_okb 87 b.1 b.2.1 b.2.2) = true := by decide +kernel
set_option maxRecDepth 100000 in
theorem ck_X_fits : cd_X_fits.all (fun b => am_okb 88 b.1 b.2.1 b.2.2) = true := by decide +kernel
set_option maxRecDepth 100000 in
theorem ck_X_isThing : cd_X_isThing.all (fun b => am_okb 89 b.1 b.2.1 b.2.2) = true := by decide +kernel
set_option maxRecDepth 100000 in
theorem ck_X_riddle : cd_X_riddle.all (fun b => am_okb 90 b.1 b.2.1 b.2.2) = true := by decide +kernel
set_option maxRecDepth 100000 in
theorem ck_X_more : cd_X_more.all (fun b => am_okb 91 b.1 b.2.1 b.2.2) = true := by decide +kernel
set_option maxRecDepth 100000 in
theorem ck_X_isRiddle : cd_X_isRiddle.all (fun b => am_okb 92 b.1 b.2.1 b.2.2) = true := by decide +kernel
set_option maxRecDepth 100000 in
theorem ck_X_said : cd_X_said.all (fun b => am_okb 93 b.1 b.2.1 b.2.2) = true := by decide +kernel
set_option maxRecDepth 100000 in
theorem ck_X_answers : cd_X_answers.all (fun b => am_okb 94 b.1 b.2.1 b.2.2) = true := by decide +kernel
set_option maxRecDepth 100000 in
theorem ck_X_turns : cd_X_turns.all (fun b => am_okb 95 b.1 b.2.1 b.2.2) = true := by decide +kernel
set_option maxRecDepth 100000 in
theorem ck_X_judge : cd_X_judge.all (fun b => am_okb 96 b.1 b.2.1 b.2.2) = true := by decide +kernel
set_option maxRecDepth 100000 in
theorem ck_X_astray : cd_X_astray.all (fun b => am_okb 97 b.1 b.2.1 b.2.2) = true := by decide +kernel
set_option maxRecDepth 100000 in
theorem ck_X_made : cd_X_made.all (fun b => am_okb 98 b.1 b.2.1 b.2.2) = true := by decide +kernel
set_option maxRecDepth 100000 in
theorem ck_X_head : cd_X_head.all (fun b => am_okb 99 b.1 b.2.1 b.2.2) = true := by decide +kernel
set_option maxRecDepth 100000 in
theorem ck_X_hears : cd_X_hears.all (fun b => am_okb 100 b.1 b.2.1 b.2.2) = true := by decide +kernel
set_option maxRecDepth 100000 in
theorem ck_X_isHead : cd_X_isHead.all (fun b => am_okb 101 b.1 b.2.1 b.2.2) = true := by decide +kernel
set_option maxRecDepth 100000 in
theorem ck_X_parts : cd_X_parts.all (fun b => am_okb 102 b.1 b.2.1 b.2.2) = true := by decide +kernel
set_option maxRecDepth 100000 in
theorem ck_X_blind : cd_X_blind.all (fun b => am_okb 103 b.1 b.2.1 b.2.2) = true := by decide +kernel
set_option maxRecDepth 100000 in
theorem ck_X_tongue : cd_X_tongue.all (fun b => am_okb 104 b.1 b.2.1 b.2.2) = true := by decide +kernel
set_option maxRecDepth 100000 in
theorem ck_X_lack : cd_X_lack.all (fun b => am_okb 105 b.1 b.2.1 b.2.2) = true := by decide +kernel
set_option maxRecDepth 100000 in
theorem ck_X_isTongue : cd_X_isTongue.all (fun b => am_okb 106 b.1 b.2.1 b.2.2) = true := by decide +kernel
set_option maxRecDepth 100000 in
theorem ck_X_goes : cd_X_goes.all (fun b => am_okb 107 b.1 b.2.1 b.2.2) = true := by decide +kernel
set_option maxRecDepth 100000 in
theorem ck_X_nearest : cd_X_nearest.all (fun b => am_okb 108 b.1 b.2.1 b.2.2) = true := by decide +kernel
set_option maxRecDepth 100000 in
theorem ck_X_letters : cd_X_letters.all (fun b => am_okb 109 b.1 b.2.1 b.2.2) = true := by decide +kernel
set_option maxRecDepth 100000 in
theorem ck_X_blank : cd_X_blank.all (fun b => am_okb 110 b.1 b.2.1 b.2.2) = true := by decide +kernel
set_option maxRecDepth 100000 in
theorem ck_X_fault : cd_X_fault.all (fun b => am_okb 111 b.1 b.2.1 b.2.2) = true := by decide +kernel
set_option maxRecDepth 100000 in
theorem ck_X_tree : cd_X_tree.all (fun b => am_okb 112 b.1 b.2.1 b.2.2) = true := by decide +kernel
set_option maxRecDepth 100000 in
theorem ck_X_variant : cd_X_variant.all (fun b => am_okb 113 b.1 b.2.1 b.2.2) = true := by decide +kernel
set_option maxRecDepth 100000 in
theorem ck_X_changes : cd_X_changes.all (fun b => am_okb 114 b.1 b.2.1 b.2.2) = true := by decide +kernel
set_option maxRecDepth 100000 in
theorem ck_X_chance : cd_X_chance.all (fun b => am_okb 115 b.1 b.2.1 b.2.2) = true := by decide +kernel
set_option maxRecDepth 100000 in
theorem ck_X_greatestDivisor : cd_X_greatestDivisor.all (fun b => am_okb 116 b.1 b.2.1 b.2.2) = true := by decide +kernel
set_option maxRecDepth 100000 in
theorem ck_X_stake : cd_X_stake.all (fun b => am_okb 117 b.1 b.2.1 b.2.2) = true := by decide +kernel
set_option maxRecDepth 100000 in
theorem ck_X_whom : cd_X_whom.all (fun b => am_okb 118 b.1 b.2.1 b.2.2) = true := by decide +kernel
set_option maxRecDepth 100000 in
theorem ck_X_count : cd_X_count.all (fun b => am_okb 119 b.1 b.2.1 b.2.2) = true := by decide +kernel
set_option maxRecDepth 100000 in
theorem ck_X_digest : cd_X_digest.all (fun b => am_okb 120 b.1 b.2.1 b.2.2) = true := by decide +kernel
set_option maxRecDepth 100000 in
theorem ck_X_digestLore : cd_X_digestLore.all (fun b => am_okb 121 b.1 b.2.1 b.2.2) = true := by decide +kernel
set_option maxRecDepth 100000 in
theorem ck_X_digestRiddles : cd_X_digestRiddles.all (fun b => am_okb 122 b.1 b.2.1 b.2.2) = true := by decide +kernel
set_option maxRecDepth 100000 in
theorem ck_X_digestTongues : cd_X_digestTongues.all (fun b => am_okb 123 b.1 b.2.1 b.2.2) = true := by decide +kernel
set_option maxRecDepth 100000 in
theorem ck_X_digestLands : cd_X_digestLands.all (fun b => am_okb 124 b.1 b.2.1 b.2.2) = true := by decide +kernel
set_option maxRecDepth 100000 in
theorem ck_M_init : cd_M_init.all (fun b => am_okb 125 b.1 b.2.1 b.2.2) = true := by decide +kernel
set_option maxRecDepth 100000 in
theorem ck_M_thing : cd_M_thing.all (fun b => am_okb 126 b.1 b.2.1 b.2.2) = true := by decide +kernel
set_option maxRecDepth 100000 in
theorem ck_M_in : cd_M_in.all (fun b => am_okb 127 b.1 b.2.1 b.2.2) = true := by decide +kernel
set_option maxRecDepth 100000 in
theorem ck_M_sense : cd_M_sense.all (fun b => am_okb 128 b.1 b.2.1 b.2.2) = true := by decide +kernel
set_option maxRecDepth 100000 in
theorem ck_M_isWord : cd_M_isWord.all (fun b => am_okb 129 b.1 b.2.1 b.2.2) = true := by decide +kernel
set_option maxRecDepth 100000 in
theorem ck_M_senseOf : cd_M_senseOf.all (fun b => am_okb 130 b.1 b.2.1 b.2.2) = true := by decide +kernel
set_option maxRecDepth 100000 in
theorem ck_M_saying : cd_M_saying.all (fun b => am_okb 131 b.1 b.2.1 b.2.2) = true := by decide +kernel
set_option maxRecDepth 100000 in
theorem ck_M_as : cd_M_as.all (fun b => am_okb 132 b.1 b.2.1 b.2.2) = true := by decide +kernel
set_option maxRecDepth 100000 in
theorem ck_M_isSaying : cd_M_isSaying.all (fun b => am_okb 133 b.1 b.2.1 b.2.2) = true := by decide +kernel
set_option maxRecDepth 100000 in
theorem ck_M_fits : cd_M_fits.all (fun b => am_okb 134 b.1 b.2.1 b.2.2) = true := by decide +kernel
set_option maxRecDepth 100000 in
theorem ck_M_isThing : cd_M_isThing.all (fun b => am_okb 135 b.1 b.2.1 b.2.2) = true := by decide +kernel
set_option maxRecDepth 100000 in
theorem ck_M_by : cd_M_by.all (fun b => am_okb 136 b.1 b.2.1 b.2.2) = true := by decide +kernel
set_option maxRecDepth 100000 in
theorem ck_M_bitsOf : cd_M_bitsOf.all (fun b => am_okb 137 b.1 b.2.1 b.2.2) = true := by decide +kernel
set_option maxRecDepth 100000 in
theorem ck_M_has : cd_M_has.all (fun b => am_okb 138 b.1 b.2.1 b.2.2) = true := by decide +kernel
set_option maxRecDepth 100000 in
theorem ck_M_riddle : cd_M_riddle.all (fun b => am_okb 139 b.1 b.2.1 b.2.2) = true := by decide +kernel
set_option maxRecDepth 100000 in
theorem ck_M_more : cd_M_more.all (fun b => am_okb 140 b.1 b.2.1 b.2.2) = true := by decide +kernel
set_option maxRecDepth 100000 in
theorem ck_M_isRiddle : cd_M_isRiddle.all (fun b => am_okb 141 b.1 b.2.1 b.2.2) = true := by decide +kernel
set_option maxRecDepth 100000 in
theorem ck_M_said : cd_M_said.all (fun b => am_okb 142 b.1 b.2.1 b.2.2) = true := by decide +kernel
set_option maxRecDepth 100000 in
theorem ck_M_answers : cd_M_answers.all (fun b => am_okb 143 b.1 b.2.1 b.2.2) = true := by decide +kernel
set_option maxRecDepth 100000 in
theorem ck_M_answersOf : cd_M_answersOf.all (fun b => am_okb 144 b.1 b.2.1 b.2.2) = true := by decide +kernel
set_option maxRecDepth 100000 in
theorem ck_M_answersBy : cd_M_answersBy.all (fun b => am_okb 145 b.1 b.2.1 b.2.2) = true := by decide +kernel
set_option maxRecDepth 100000 in
theorem ck_M_turns : cd_M_turns.all (fun b => am_okb 146 b.1 b.2.1 b.2.2) = true := by decide +kernel
set_option maxRecDepth 100000 in
theorem ck_M_turnsOf : cd_M_turnsOf.all (fun b => am_okb 147 b.1 b.2.1 b.2.2) = true := by decide +kernel
set_option maxRecDepth 100000 in
theorem ck_M_judge : cd_M_judge.all (fun b => am_okb 148 b.1 b.2.1 b.2.2) = true := by decide +kernel
set_option maxRecDepth 100000 in
theorem ck_M_astray : cd_M_astray.all (fun b => am_okb 149 b.1 b.2.1 b.2.2) = true := by decide +kernel
set_option maxRecDepth 100000 in
theorem ck_M_made : cd_M_made.all (fun b => am_okb 150 b.1 b.2.1 b.2.2) = true := by decide +kernel
set_option maxRecDepth 100000 in
theorem ck_M_bestOf : cd_M_bestOf.all (fun b => am_okb 151 b.1 b.2.1 b.2.2) = true := by decide +kernel
set_option maxRecDepth 100000 in
theorem ck_M_head : cd_M_head.all (fun b => am_okb 152 b.1 b.2.1 b.2.2) = true := by decide +kernel
set_option maxRecDepth 100000 in
theorem ck_M_hears : cd_M_hears.all (fun b => am_okb 153 b.1 b.2.1 b.2.2) = true := by decide +kernel
set_option maxRecDepth 100000 in
theorem ck_M_isHead : cd_M_isHead.all (fun b => am_okb 154 b.1 b.2.1 b.2.2) = true := by decide +kernel
set_option maxRecDepth 100000 in
theorem ck_M_hearsOf : cd_M_hearsOf.all (fun b => am_okb 155 b.1 b.2.1 b.2.2) = true := by decide +kernel
set_option maxRecDepth 100000 in
theorem ck_M_parts : cd_M_parts.all (fun b => am_okb 156 b.1 b.2.1 b.2.2) = true := by decide +kernel
set_option maxRecDepth 100000 in
theorem ck_M_blind : cd_M_blind.all (fun b => am_okb 157 b.1 b.2.1 b.2.2) = true := by decide +kernel
set_option maxRecDepth 100000 in
theorem ck_M_tongue : cd_M_tongue.all (fun b => am_okb 158 b.1 b.2.1 b.2.2) = true := by decide +kernel
set_option maxRecDepth 100000 in
theorem ck_M_lack : cd_M_lack.all (fun b => am_okb 159 b.1 b.2.1 b.2.2) = true := by decide +kernel
set_option maxRecDepth 100000 in
theorem ck_M_isTongue : cd_M_isTongue.all (fun b => am_okb 160 b.1 b.2.1 b.2.2) = true := by decide +kernel
set_option maxRecDepth 100000 in
theorem ck_M_goes : cd_M_goes.all (fun b => am_okb 161 b.1 b.2.1 b.2.2) = true := by decide +kernel
set_option maxRecDepth 100000 in
theorem ck_M_lacksOf : cd_M_lacksOf.all (fun b => am_okb 162 b.1 b.2.1 b.2.2) = true := by decide +kernel
set_option maxRecDepth 100000 in
theorem ck_M_byIn : cd_M_byIn.all (fun b => am_okb 163 b.1 b.2.1 b.2.2) = true := by decide +kernel
set_option maxRecDepth 100000 in
theorem ck_M_goesOf : cd_M_goesOf.all (fun b => am_okb 164 b.1 b.2.1 b.2.2) = true := by decide +kernel
set_option maxRecDepth 100000 in
theorem ck_M_nearest : cd_M_nearest.all (fun b => am_okb 165 b.1 b.2.1 b.2.2) = true := by decide +kernel
set_option maxRecDepth 100000 in
theorem ck_M_letters : cd_M_letters.all (fun b => am_okb 166 b.1 b.2.1 b.2.2) = true := by decide +kernel
set_option maxRecDepth 100000 in
theorem ck_M_blank : cd_M_blank.all (fun b => am_okb 167 b.1 b.2.1 b.2.2) = true := by decide +kernel
set_option maxRecDepth 100000 in
theorem ck_M_fault : cd_M_fault.all (fun b => am_okb 168 b.1 b.2.1 b.2.2) = true := by decide +kernel
set_option maxRecDepth 100000 in
theorem ck_M_faultOf : cd_M_faultOf.all (fun b => am_okb 169 b.1 b.2.1 b.2.2) = true := by decide +kernel
set_option maxRecDepth 100000 in
theorem ck_M_go : cd_M_go.all (fun b => am_okb 170 b.1 b.2.1 b.2.2) = true := by decide +kernel
set_option maxRecDepth 100000 in
theorem ck_M_addNode : cd_M_addNode.all (fun b => am_okb 171 b.1 b.2.1 b.2.2) = true := by decide +kernel
set_option maxRecDepth 100000 in
theorem ck_M_endNode : cd_M_endNode.all (fun b => am_okb 172 b.1 b.2.1 b.2.2) = true := by decide +kernel
set_option maxRecDepth 100000 in
theorem ck_M_tree : cd_M_tree.all (fun b => am_okb 173 b.1 b.2.1 b.2.2) = true := by decide +kernel
set_option maxRecDepth 100000 in
theorem ck_M_variant : cd_M_variant.all (fun b => am_okb 174 b.1 b.2.1 b.2.2) = true := by decide +kernel
set_option maxRecDepth 100000 in
theorem ck_M_changes : cd_M_changes.all (fun b => am_okb 175 b.1 b.2.1 b.2.2) = true := by decide +kernel
set_option maxRecDepth 100000 in
theorem ck_M_leastChanges : cd_M_leastChanges.all (fun b => am_okb 176 b.1 b.2.1 b.2.2) = true := by decide +kernel
set_option maxRecDepth 100000 in
theorem ck_M_leastOf : cd_M_leastOf.all (fun b => am_okb 177 b.1 b.2.1 b.2.2) = true := by decide +kernel
set_option maxRecDepth 100000 in
theorem ck_M_sureOf : cd_M_sureOf.all (fun b => am_okb 178 b.1 b.2.1 b.2.2) = true := by decide +kernel
set_option maxRecDepth 100000 in
theorem ck_M_chance : cd_M_chance.all (fun b => am_okb 179 b.1 b.2.1 b.2.2) = true := by decide +kernel
set_option maxRecDepth 100000 in
theorem ck_M_deal : cd_M_deal.all (fun b => am_okb 180 b.1 b.2.1 b.2.2) = true := by decide +kernel
set_option maxRecDepth 100000 in
theorem ck_M_common : cd_M_common.all (fun b => am_okb 181 b.1 b.2.1 b.2.2) = true := by decide +kernel
set_option maxRecDepth 100000 in
theorem ck_M_stake : cd_M_stake.all (fun b => am_okb 182 b.1 b.2.1 b.2.2) = true := by decide +kernel
set_option maxRecDepth 100000 in
theorem ck_M_whom : cd_M_whom.all (fun b => am_okb 183 b.1 b.2.1 b.2.2) = true := by decide +kernel
set_option maxRecDepth 100000 in
theorem ck_M_layBrings : cd_M_layBrings.all (fun b => am_okb 184 b.1 b.2.1 b.2.2) = true := by decide +kernel
set_option maxRecDepth 100000 in
theorem ck_M_chosen : cd_M_chosen.all (fun b => am_okb 185 b.1 b.2.1 b.2.2) = true := by decide +kernel
set_option maxRecDepth 100000 in
theorem ck_M_count : cd_M_count.all (fun b => am_okb 186 b.1 b.2.1 b.2.2) = true := by decide +kernel
set_option maxRecDepth 100000 in
theorem ck_M_countOf : cd_M_countOf.all (fun b => am_okb 187 b.1 b.2.1 b.2.2) = true := by decide +kernel
set_option maxRecDepth 100000 in
theorem ck_M_digest : cd_M_digest.all (fun b => am_okb 188 b.1 b.2.1 b.2.2) = true := by decide +kernel
set_option maxRecDepth 100000 in
theorem ck_M_tellSaid : cd_M_tellSaid.all (fun b => am_okb 189 b.1 b.2.1 b.2.2) = true := by decide +kernel
set_option maxRecDepth 100000 in
theorem ck_M_tell : cd_M_tell.all (fun b => am_okb 190 b.1 b.2.1 b.2.2) = true := by decide +kernel
set_option maxRecDepth 100000 in
theorem ck_Arrays_fill : cd_Arrays_fill.all (fun b => am_okb 191 b.1 b.2.1 b.2.2) = true := by decide +kernel
set_option maxRecDepth 100000 in
theorem ck_Integer_bitCount : cd_Integer_bitCount.all (fun b => am_okb 192 b.1 b.2.1 b.2.2) = true := by decide +kernel
set_option maxRecDepth 100000 in
theorem ck_Arrays_fill_L : cd_Arrays_fill_L.all (fun b => am_okb 193 b.1 b.2.1 b.2.2) = true := by decide +kernel
