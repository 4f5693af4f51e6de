/-! THE ABSTRACT MACHINE: frames are lists, the heap a function from small numbers to cells; 0 is the static array, 1 the script. -/
abbrev am_E : Type := (Nat × vp_A) ⊕ (Nat × List Value)
/-- the next free number, the slots so far, the cells -/
abbrev am_H : Type := Nat × Nat × (Nat → am_E)
/-- method, instructions left in the block, the block behind it, locals, stack -/
abbrev am_F : Type := Nat × List Instr × Nat × List Value × List Value
def am_no : am_E := .inl (9, 0, .inl (fun _ => 0))
def am_blk (y pc : Nat) : Option (List Instr × Nat) := (am_cds.getD y []).lookup pc
def am_m (q : Nat) : Nat × Nat × Nat × Nat := am_ms.getD q (0, 0, 0, 0)
def am_oc (q : Nat) : Nat := (am_m q).1
def am_nl (q : Nat) : Nat := (am_m q).2.2.1
/-- an index in its row, as a Bool -/
def vp_inB (i : Int32) (n : Nat) : Bool := !decide (i < 0) && decide (i.toNatClampNeg < n)
def am_isI : Value → Bool
  | .int _ => true
  | _ => false
def am_isL : Value → Bool
  | .long _ => true
  | _ => false
def am_isR : Value → Bool
  | .ref _ => true
  | _ => false
def am_ld (ls : List Value) (k : Nat) (w : Value → Bool) (st : List Value) : Option (List Value) := match ls[k]? with
  | some v => if w v = true then some (v :: st) else none
  | none => none
def am_i1 (f : Int32 → Int32) : List Value → Option (List Value)
  | .int a :: r => some (.int (f a) :: r)
  | _ => none
def am_i2 (f : Int32 → Int32 → Int32) : List Value → Option (List Value)
  | .int b :: .int a :: r => some (.int (f a b) :: r)
  | _ => none
def am_d2 (f : Int32 → Int32 → Int32) : List Value → Option (List Value)
  | .int b :: .int a :: r => if b = 0 then none else some (.int (f a b) :: r)
  | _ => none
def am_l2 (f : Int64 → Int64 → Int64) : List Value → Option (List Value)
  | .long b :: .long a :: r => some (.long (f a b) :: r)
  | _ => none
def am_e2 (f : Int64 → Int64 → Int64) : List Value → Option (List Value)
  | .long b :: .long a :: r => if b = 0 then none else some (.long (f a b) :: r)
  | _ => none
def am_s2 (f : Int64 → Int32 → Int64) : List Value → Option (List Value)
  | .int b :: .long a :: r => some (.long (f a b) :: r)
  | _ => none
/-- instructions on the stack alone -/
def am_sop (i : Instr) (ls st : List Value) : Option (List Value) := match i with
  | .iconst n => some (.int (Int32.ofInt n) :: st)
  | .ldc2_w k => some (.long (Int64.ofNat k) :: st)
  | .iload k => am_ld ls k am_isI st
  | .lload k => am_ld ls k am_isL st
  | .aload k => am_ld ls k am_isR st
  | .iadd => am_i2 (fun a b => a + b) st
  | .isub => am_i2 (fun a b => a - b) st
  | .imul => am_i2 (fun a b => a * b) st
  | .iand => am_i2 (fun a b => a &&& b) st
  | .ior => am_i2 (fun a b => a ||| b) st
  | .ixor => am_i2 (fun a b => a ^^^ b) st
  | .idiv => am_d2 (fun a b => a / b) st
  | .irem => am_d2 (fun a b => a - a / b * b) st
  | .ineg => am_i1 (fun a => -a) st
  | .ishl => am_i2 (fun a b => a <<< (b &&& 31)) st
  | .ishr => am_i2 (fun a b => a >>> (b &&& 31)) st
  | .iushr => am_i2 (fun a b => (a.toUInt32 >>> (b.toUInt32 &&& Int32.toUInt32 31)).toInt32) st
  | .ladd => am_l2 (fun a b => a + b) st
  | .lsub => am_l2 (fun a b => a - b) st
  | .lmul => am_l2 (fun a b => a * b) st
  | .land => am_l2 (fun a b => a &&& b) st
  | .lor => am_l2 (fun a b => a ||| b) st
  | .ldiv => am_e2 (fun a b => a / b) st
  | .lrem => am_e2 (fun a b => a - a / b * b) st
  | .lshl => am_s2 (fun a b => a <<< (b.toInt64 &&& 63)) st
  | .lushr => am_s2 (fun a b => (a.toUInt64 >>> (b.toInt64.toUInt64 &&& Int64.toUInt64 63)).toInt64) st
  | .lcmp => match st with
    | .long b :: .long a :: r => some (.int (lg_cmp a b) :: r)
    | _ => none
  | .i2l => match st with
    | .int a :: r => some (.long a.toInt64 :: r)
    | _ => none
  | .l2i => match st with
    | .long a :: r => some (.int a.toInt32 :: r)
    | _ => none
  | .dup => match st with
    | .int a :: r => some (.int a :: .int a :: r)
    | .ref a :: r => some (.ref a :: .ref a :: r)
    | _ => none
  | .pop => match st with
    | .int _ :: r => some r
    | .ref _ :: r => some r
    | _ => none
  | .dup2 => match st with
    | .int a :: .ref b :: r => some (.int a :: .ref b :: .int a :: .ref b :: r)
    | _ => none
  | .getstatic 0 => some (.ref 0 :: st)
  | .dadd => match st with
    | .int b :: .int a :: r => if (r.map Value.category).sum ≤ 8 then some (.int (if b < a then b else a) :: r) else none
    | _ => none
  | .dsub => match st with
    | .int b :: .int a :: r => if (r.map Value.category).sum ≤ 8 then some (.int (if a < b then b else a) :: r) else none
    | _ => none
  | .dmul => match st with
    | .long b :: .long a :: r => if (r.map Value.category).sum ≤ 8 then some (.long (if b < a then a else b) :: r) else none
    | _ => none
  | .monitorenter => match st with
    | .ref _ :: r => if (r.map Value.category).sum ≤ 8 then some r else none
    | _ => none
  | _ => none
def am_ok (ls : List Value) : Nat → Bool
  | 0 => decide (0 < ls.length)
  | j + 1 => decide (j + 1 < ls.length) && (match ls[j]? with
    | some v => v.category == 1
    | none => true)
/-- instructions that write locals -/
def am_lop (i : Instr) (ls st : List Value) : Option (List Value × List Value) := match i with
  | .istore k => match st with
    | .int a :: r => if am_ok ls k = true then some (ls.set k (.int a), r) else none
    | _ => none
  | .astore k => match st with
    | .ref a :: r => if am_ok ls k = true then some (ls.set k (.ref a), r) else none
    | _ => none
  | .lstore k => match st with
    | .long a :: r => if (am_ok ls k && decide (k + 1 < ls.length)) = true then some ((ls.set (k + 1) .null).set k (.long a), r) else none
    | _ => none
  | .iinc k n => match ls[k]? with
    | some (.int a) => if am_ok ls k = true then some (ls.set k (.int (a + Int32.ofInt n)), st) else none
    | _ => none
  | _ => none
def am_set (h : am_H) (k : Nat) (c : am_E) : am_H := (h.1, h.2.1, va_up h.2.2 k c)
def am_new (h : am_H) (m : Nat) (c : am_E) : am_H := (h.1 + 1, h.2.1 + m, va_up h.2.2 h.1 c)
def am_fit : Nat → Value → Bool
  | 0, .int _ => true
  | 1, .int x => x == 0 || x == 1
  | 2, .ref _ => true
  | 3, .long _ => true
  | _, _ => false
/-- what is read of a cell -/
def am_get (c : am_E) (q : Nat) (r : List Value) : Option (List Value) := match c with
  | .inr (ci, fs) => if ci = q / 64 then (match fs[q % 64]? with
    | some v => if v = .null then none else some (v :: r)
    | none => none) else none
  | _ => none
def am_rd (c : am_E) (i : Int32) (r : List Value) : Option (List Value) := match c with
  | .inl (0, n, .inl f) => if vp_inB i n = true then some (.int (f i.toNatClampNeg) :: r) else none
  | .inl (3, n, .inl f) => if vp_inB i n = true then some (.int (f i.toNatClampNeg) :: r) else none
  | _ => none
def am_rdl (c : am_E) (i : Int32) (r : List Value) : Option (List Value) := match c with
  | .inl (1, n, .inr (.inl f)) => if vp_inB i n = true then some (.long (f i.toNatClampNeg) :: r) else none
  | .inl (4, n, .inr (.inl f)) => if vp_inB i n = true then some (.long (f i.toNatClampNeg) :: r) else none
  | _ => none
def am_rda (c : am_E) (i : Int32) (r : List Value) : Option (List Value) := match c with
  | .inl (2, n, .inr (.inr (.inr (.inr f)))) => if vp_inB i n = true then (match f i.toNatClampNeg with
    | some a => some (.ref a :: r)
    | none => none) else none
  | _ => none
def am_len (c : am_E) (r : List Value) : Option (List Value) := match c with
  | .inl (0, n, .inl _) => some (.int (Int32.ofNat n) :: r)
  | .inl (1, n, .inr (.inl _)) => some (.int (Int32.ofNat n) :: r)
  | .inl (3, n, .inl _) => some (.int (Int32.ofNat n) :: r)
  | _ => none
/-- what a cell becomes -/
def am_wf (c : am_E) (q : Nat) (v : Value) : Option am_E := match c with
  | .inr (ci, fs) => if ci = q / 64 % 64 ∧ q % 64 < fs.length ∧ am_fit (q / 4096) v = true then some (.inr (ci, fs.set (q % 64) v)) else none
  | _ => none
def am_wi (c : am_E) (i x : Int32) : Option am_E := match c with
  | .inl (0, n, .inl f) => if vp_inB i n = true then some (.inl (0, n, .inl (upd f i.toNatClampNeg x))) else none
  | _ => none
def am_wl (c : am_E) (i : Int32) (x : Int64) : Option am_E := match c with
  | .inl (1, n, .inr (.inl f)) => if vp_inB i n = true then some (.inl (1, n, .inr (.inl (vp_updL f i.toNatClampNeg x)))) else none
  | _ => none
def am_wa (c : am_E) (i : Int32) (x : Nat) : Option am_E := match c with
  | .inl (2, n, .inr (.inr (.inr (.inr f)))) => if vp_inB i n = true then some (.inl (2, n, .inr (.inr (.inr (.inr (va_up f i.toNatClampNeg (some x))))))) else none
  | _ => none
def am_isS (c : am_E) : Bool := match c with
  | .inr (7, _) => true
  | _ => false
def am_wc (c d : am_E) (sp dp n : Int32) : Option am_E := match c, d with
  | .inl (0, n0, .inl f), .inl (0, n1, .inl g) => if ¬ sp < 0 ∧ ¬ dp < 0 ∧ ¬ n < 0 ∧ sp.toNatClampNeg + n.toNatClampNeg ≤ n0 ∧ dp.toNatClampNeg + n.toNatClampNeg ≤ n1 then some (.inl (0, n1, .inl (va_cpy f g sp.toNatClampNeg dp.toNatClampNeg n.toNatClampNeg))) else none
  | _, _ => none
/-- instructions on the heap -/
def am_hop (i : Instr) (st : List Value) (h : am_H) : Option (List Value × am_H) := match i with
  | .getfield q => match st with
    | .ref k :: r => (am_get (h.2.2 k) q r).map (fun z => (z, h))
    | _ => none
  | .putfield q => match st with
    | v :: .ref k :: r => (am_wf (h.2.2 k) q v).map (fun c => (r, am_set h k c))
    | _ => none
  | .iaload => match st with
    | .int i :: .ref k :: r => (am_rd (h.2.2 k) i r).map (fun z => (z, h))
    | _ => none
  | .laload => match st with
    | .int i :: .ref k :: r => (am_rdl (h.2.2 k) i r).map (fun z => (z, h))
    | _ => none
  | .aaload => match st with
    | .int i :: .ref k :: r => (am_rda (h.2.2 k) i r).map (fun z => (z, h))
    | _ => none
  | .arraylength => match st with
    | .ref k :: r => (am_len (h.2.2 k) r).map (fun z => (z, h))
    | _ => none
  | .iastore => match st with
    | .int x :: .int i :: .ref k :: r => (am_wi (h.2.2 k) i x).map (fun c => (r, am_set h k c))
    | _ => none
  | .lastore => match st with
    | .long x :: .int i :: .ref k :: r => (am_wl (h.2.2 k) i x).map (fun c => (r, am_set h k c))
    | _ => none
  | .aastore => match st with
    | .ref x :: .int i :: .ref k :: r => if am_isS (h.2.2 x) = true then (am_wa (h.2.2 k) i x).map (fun c => (r, am_set h k c)) else none
    | _ => none
  | .new ci => some (.ref h.1 :: st, am_new h (am_df.getD ci []).length (.inr (ci, am_df.getD ci [])))
  | .newarray .int => match st with
    | .int n :: r => if ¬ n < 0 ∧ n.toNatClampNeg ≤ 100000 then some (.ref h.1 :: r, am_new h n.toNatClampNeg (.inl (0, n.toNatClampNeg, .inl (fun _ => 0)))) else none
    | _ => none
  | .newarray .long => match st with
    | .int n :: r => if ¬ n < 0 ∧ n.toNatClampNeg ≤ 100000 then some (.ref h.1 :: r, am_new h n.toNatClampNeg (.inl (1, n.toNatClampNeg, .inr (.inl (fun _ => 0))))) else none
    | _ => none
  | .anewarray 2 => match st with
    | .int n :: r => if ¬ n < 0 ∧ n.toNatClampNeg ≤ 100000 then some (.ref h.1 :: r, am_new h n.toNatClampNeg (.inl (2, n.toNatClampNeg, .inr (.inr (.inr (.inr (fun _ => none))))))) else none
    | _ => none
  | .invokedynamic 0 => match st with
    | .int n :: .int dp :: .ref k1 :: .int sp :: .ref k0 :: r => if (r.map Value.category).sum ≤ 8 then (am_wc (h.2.2 k0) (h.2.2 k1) sp dp n).map (fun c => (r, am_set h k1 c)) else none
    | _ => none
  | _ => none
def am_cn : ClassFile.Cond → Int32 → Int32 → Prop
  | .eq, a, b => a = b
  | .ne, a, b => ¬ a = b
  | .lt, a, b => a < b
  | .ge, a, b => b ≤ a
  | .gt, a, b => b < a
  | .le, a, b => a ≤ b
def am_cb (c : ClassFile.Cond) (a b : Int32) : Bool := match c with
  | .eq => decide (a = b)
  | .ne => !decide (a = b)
  | .lt => decide (a < b)
  | .ge => decide (b ≤ a)
  | .gt => decide (b < a)
  | .le => decide (a ≤ b)
/-- jumps: the block that it goes to, if any -/
def am_jop (i : Instr) (st : List Value) : Option (Option Nat × List Value) := match i with
  | .goto t => some (some t.toNat, st)
  | .ifCond c t => match st with
    | .int a :: r => some (if am_cb c a 0 = true then some t.toNat else none, r)
    | _ => none
  | .if_icmp c t => match st with
    | .int b :: .int a :: r => some (if am_cb c a b = true then some t.toNat else none, r)
    | _ => none
  | .tableswitch d lo hi ts => match st with
    | .int a :: r => if a.toInt < lo ∨ hi < a.toInt then some (some d.toNat, r) else (match ts[(a.toInt - lo).toNat]? with
      | some t => some (some t.toNat, r)
      | none => none)
    | _ => none
  | _ => none
/-- one instruction that is no call and no return -/
def am_stp (y : Nat) (i : Instr) (is : List Instr) (nx : Nat) (ls st : List Value) (h : am_H) : Option (am_F × am_H) :=
  match am_sop i ls st with
  | some st' => some ((y, is, nx, ls, st'), h)
  | none => match am_lop i ls st with
    | some p => some ((y, is, nx, p.1, p.2), h)
    | none => match am_hop i st h with
      | some p => some ((y, is, nx, ls, p.1), p.2)
      | none => match am_jop i st with
        | some (some t, r) => some ((y, [], t, ls, r), h)
        | some (none, r) => some ((y, is, nx, ls, r), h)
        | none => none
def am_ret (i : Instr) (st : List Value) : Option (Option Value) := match i with
  | .ireturn => match st with
    | [.int v] => some (some (.int v))
    | _ => none
  | .freturn => match st with
    | [.int v] => if v = 0 ∨ v = 1 then some (some (.int v)) else none
    | _ => none
  | .lreturn => match st with
    | [.long v] => some (some (.long v))
    | _ => none
  | .return_ => match st with
    | [] => some none
    | _ => none
  | _ => none
def am_lay (as : List Value) : List Value := as.flatMap (fun v => if v.category = 2 then [v, .null] else [v])
def am_rcv (rc : Nat) (as : List Value) (h : am_H) : Bool := match as with
  | .ref k :: _ => (match h.2.2 k with
    | .inr (ci, _) => ci == rc
    | _ => false)
  | _ => false
/-- a call: the frame of the called one, what stays on the stack -/
def am_call (i : Instr) (st : List Value) (h : am_H) : Option (Nat × List Value × List Value) := match i with
  | .invokevirtual q => if st.length < (am_m q).2.1 ∨ am_rcv (am_m q).2.2.2 (st.take (am_m q).2.1).reverse h = false then none else some (q, (st.take (am_m q).2.1).reverse, st.drop (am_m q).2.1)
  | .invokespecial q => if st.length < (am_m q).2.1 ∨ am_rcv (am_m q).2.2.2 (st.take (am_m q).2.1).reverse h = false then none else some (q, (st.take (am_m q).2.1).reverse, st.drop (am_m q).2.1)
  | .invokestatic q => if st.length < (am_m q).2.1 ∨ ¬ (am_m q).2.2.2 = 99 then none else some (q, (st.take (am_m q).2.1).reverse, st.drop (am_m q).2.1)
  | _ => none
def am_ent (q : Nat) (as : List Value) : am_F := (q, [], 0, am_lay as ++ List.replicate (am_nl q - (am_lay as).length) .null, [])
/-- the machine, with a bound on its steps and on its depth -/
def am_ev : Nat → Nat → am_F → am_H → Option (Option Value × am_H)
  | 0, _, _, _ => none
  | n + 1, d, (y, [], nx, ls, st), h => match am_blk y nx with
    | some b => am_ev n d (y, b.1, b.2, ls, st) h
    | none => none
  | n + 1, d, (y, i :: is, nx, ls, st), h => match am_ret i st with
    | some v => some (v, h)
    | none => match am_call i st h with
      | some (q, as, r) => if (am_lay as).length ≤ am_nl q ∧ (r.map Value.category).sum ≤ 8 then (match d with
        | 0 => none
        | d + 1 => match am_ev n d (am_ent q as) h with
          | some (v, h') => am_ev n (d + 1) (y, is, nx, ls, v.toList ++ r) h'
          | none => none) else none
      | none => match am_stp y i is nx ls st h with
        | some (F, h') => am_ev n d F h'
        | none => none
