/-! SETS: bits of numbers; the JDK's bitCount, fill -/
theorem nU_sh : ∀ n : Nat, n < 32 → (((jI (n : Int)).toUInt32 &&& Int32.toUInt32 31) : UInt32).toNat = n := by decide +kernel
theorem jI_ushr {z k : Int} (hz : 0 ≤ z ∧ z < 4294967296) (hk : 0 ≤ k ∧ k < 32) : ((jI z).toUInt32 >>> ((jI k).toUInt32 &&& Int32.toUInt32 31)).toInt32 = jI (z / 2 ^ k.toNat) := by
  obtain ⟨n, rfl⟩ := Int.eq_ofNat_of_zero_le hz.1
  obtain ⟨m, rfl⟩ := Int.eq_ofNat_of_zero_le hk.1
  have e := nU_sh m (by omega)
  rw [Int.toNat_natCast]
  have hn : (jI (n : Int)).toUInt32 = UInt32.ofNat n := by
    rw [← jI_nat]
    rfl
  rw [hn]
  have e2 : UInt32.ofNat n >>> ((jI (m : Int)).toUInt32 &&& Int32.toUInt32 31) = UInt32.ofNat (n / 2 ^ m) := by
    apply UInt32.toNat_inj.mp
    rw [UInt32.toNat_shiftRight, e]
    have h1 : (UInt32.ofNat n).toNat = n := UInt32.toNat_ofNat_of_lt' (by rw [show UInt32.size = 4294967296 from rfl]; omega)
    have h2 : (UInt32.ofNat (n / 2 ^ m)).toNat = n / 2 ^ m := UInt32.toNat_ofNat_of_lt' (by
      have := Nat.div_le_self n (2 ^ m)
      rw [show UInt32.size = 4294967296 from rfl]
      omega)
    rw [h1, h2, Nat.mod_eq_of_lt (by omega), Nat.shiftRight_eq_div_pow]
  rw [e2]
  have : ((n : Int) / 2 ^ m) = ((n / 2 ^ m : Nat) : Int) := rfl
  rw [this, ← jI_nat]
  rfl
theorem jI_ushr1 {z : Int} (hz : 0 ≤ z ∧ z < 4294967296) : ((jI z).toUInt32 >>> ((jI 1).toUInt32 &&& Int32.toUInt32 31)).toInt32 = jI (z / 2) := jI_ushr hz (by omega)
theorem jI_ushr2 {z : Int} (hz : 0 ≤ z ∧ z < 4294967296) : ((jI z).toUInt32 >>> ((jI 2).toUInt32 &&& Int32.toUInt32 31)).toInt32 = jI (z / 4) := jI_ushr hz (by omega)
theorem jI_ushr4 {z : Int} (hz : 0 ≤ z ∧ z < 4294967296) : ((jI z).toUInt32 >>> ((jI 4).toUInt32 &&& Int32.toUInt32 31)).toInt32 = jI (z / 16) := jI_ushr hz (by omega)
theorem jI_ushr8 {z : Int} (hz : 0 ≤ z ∧ z < 4294967296) : ((jI z).toUInt32 >>> ((jI 8).toUInt32 &&& Int32.toUInt32 31)).toInt32 = jI (z / 256) := jI_ushr hz (by omega)
theorem jI_ushr16 {z : Int} (hz : 0 ≤ z ∧ z < 4294967296) : ((jI z).toUInt32 >>> ((jI 16).toUInt32 &&& Int32.toUInt32 31)).toInt32 = jI (z / 65536) := jI_ushr hz (by omega)
theorem iand_rng {a b : Int} (ha : 0 ≤ a) (hb : 0 ≤ b) : 0 ≤ iand a b ∧ iand a b ≤ a ∧ iand a b ≤ b := by
  unfold iand
  have h1 : a.toNat &&& b.toNat ≤ a.toNat := Nat.and_le_left
  have h2 : a.toNat &&& b.toNat ≤ b.toNat := Nat.and_le_right
  omega
theorem ibit_tb (n k : Nat) : ibit (n : Int) k = if n.testBit k = true then 1 else 0 := by
  unfold ibit
  have e : ((n : Int) / 2 ^ k % 2) = ((n / 2 ^ k % 2 : Nat) : Int) := rfl
  rw [e, Nat.testBit_eq_decide_div_mod_eq]
  have := Nat.mod_two_eq_zero_or_one (n / 2 ^ k)
  rcases this with h | h <;> simp [h]
theorem ibit_tbz {z : Int} (hz : 0 ≤ z) (k : Nat) : ibit z k = if z.toNat.testBit k = true then 1 else 0 := by
  obtain ⟨n, rfl⟩ := Int.eq_ofNat_of_zero_le hz
  exact ibit_tb n k
theorem set_ext {z w : Int} (hz : 0 ≤ z) (hw : 0 ≤ w) (h : ∀ k, ibit z k = ibit w k) : z = w := by
  obtain ⟨n, rfl⟩ := Int.eq_ofNat_of_zero_le hz
  obtain ⟨m, rfl⟩ := Int.eq_ofNat_of_zero_le hw
  congr 1
  apply Nat.eq_of_testBit_eq
  intro i
  have := h i
  rw [ibit_tb, ibit_tb] at this
  cases h1 : n.testBit i <;> cases h2 : m.testBit i <;> simp [h1, h2] at this ⊢
theorem ibit_and {a b : Int} (ha : 0 ≤ a) (hb : 0 ≤ b) (k : Nat) : ibit (iand a b) k = if ibit a k = 1 ∧ ibit b k = 1 then 1 else 0 := by
  rw [ibit_tbz ha, ibit_tbz hb]
  unfold iand
  rw [ibit_tb, Nat.testBit_and]
  cases a.toNat.testBit k <;> cases b.toNat.testBit k <;> simp
theorem ibit_or {a b : Int} (ha : 0 ≤ a) (hb : 0 ≤ b) (k : Nat) : ibit (ior a b) k = if ibit a k = 1 ∨ ibit b k = 1 then 1 else 0 := by
  rw [ibit_tbz ha, ibit_tbz hb]
  unfold ior
  rw [ibit_tb, Nat.testBit_or]
  cases a.toNat.testBit k <;> cases b.toNat.testBit k <;> simp
/-- what is in a and not in b -/
def idif (a b : Int) : Int := ((a.toNat ^^^ (a.toNat &&& b.toNat) : Nat) : Int)
theorem ibit_dif {a b : Int} (ha : 0 ≤ a) (hb : 0 ≤ b) (k : Nat) : ibit (idif a b) k = if ibit a k = 1 ∧ ¬ ibit b k = 1 then 1 else 0 := by
  rw [ibit_tbz ha, ibit_tbz hb]
  unfold idif
  rw [ibit_tb, Nat.testBit_xor, Nat.testBit_and]
  cases a.toNat.testBit k <;> cases b.toNat.testBit k <;> simp
theorem jI_dif {a b : Int} (ha : 0 ≤ a) (hb : 0 ≤ b) : jI a &&& (jI b ^^^ jI (-1)) = jI (idif a b) := by
  unfold idif
  rw [jI_nI ha, jI_nI hb, ← nI_jI]
  apply Int32.toBitVec_inj.1
  show BitVec.ofNat 32 a.toNat &&& (BitVec.ofNat 32 b.toNat ^^^ BitVec.ofInt 32 (-1)) = BitVec.ofNat 32 (a.toNat ^^^ (a.toNat &&& b.toNat))
  have e : BitVec.ofInt 32 (-1) = BitVec.allOnes 32 := by decide
  rw [e]
  apply BitVec.eq_of_getLsbD_eq
  intro i hi
  simp only [BitVec.getLsbD_and, BitVec.getLsbD_xor, BitVec.getLsbD_ofNat, BitVec.getLsbD_allOnes, Nat.testBit_xor, Nat.testBit_and, hi, decide_true, Bool.true_and]
  cases a.toNat.testBit i <;> cases b.toNat.testBit i <;> rfl
theorem set_S {p : Nat → Bool} {n : Nat} {z : Int} (hz : 0 ≤ z) (h : ∀ k, ibit z k = if k < n ∧ p k = true then 1 else 0) : z = setS p 0 n :=
  set_ext hz (setS_rng p n 0).1 (fun k => by rw [h, ibit_S])
theorem ior_nn (a b : Int) : 0 ≤ ior a b := Int.natCast_nonneg _
theorem iand_nn (a b : Int) : 0 ≤ iand a b := Int.natCast_nonneg _
theorem idif_nn (a b : Int) : 0 ≤ idif a b := Int.natCast_nonneg _
theorem setS_nn (p : Nat → Bool) (n : Nat) : 0 ≤ setS p 0 n := (setS_rng p n 0).1
theorem and_SS (p q : Nat → Bool) (n : Nat) : iand (setS p 0 n) (setS q 0 n) = setS (fun i => p i && q i) 0 n :=
  set_S (iand_nn _ _) (fun k => by
    rw [ibit_and (setS_nn _ _) (setS_nn _ _), ibit_S, ibit_S]
    by_cases h : k < n <;> cases p k <;> cases q k <;> simp [h])
theorem or_SS (p q : Nat → Bool) (n : Nat) : ior (setS p 0 n) (setS q 0 n) = setS (fun i => p i || q i) 0 n :=
  set_S (ior_nn _ _) (fun k => by
    rw [ibit_or (setS_nn _ _) (setS_nn _ _), ibit_S, ibit_S]
    by_cases h : k < n <;> cases p k <;> cases q k <;> simp [h])
theorem dif_SS (p q : Nat → Bool) (n : Nat) : idif (setS p 0 n) (setS q 0 n) = setS (fun i => p i && !q i) 0 n :=
  set_S (idif_nn _ _) (fun k => by
    rw [ibit_dif (setS_nn _ _) (setS_nn _ _), ibit_S, ibit_S]
    by_cases h : k < n <;> cases p k <;> cases q k <;> simp [h])
theorem setS_all : ∀ (n i : Nat), setS (fun _ => true) i n = 2 ^ (i + n) - 2 ^ i
  | 0, i => by simp [setS]
  | n + 1, i => by
    rw [setS, setS_all n (i + 1), show i + 1 + n = i + (n + 1) by omega, Int.pow_succ 2 i]
    simp only [if_true]
    omega
theorem setS_all0 (n : Nat) : (2 : Int) ^ n - 1 = setS (fun _ => true) 0 n := by rw [setS_all, Nat.zero_add]; rfl
theorem setS_none0 (n : Nat) : setS (fun _ => false) 0 n = 0 := setS_none n 0 (fun _ _ _ => rfl)
theorem setS_inj {p q : Nat → Bool} {n : Nat} (h : setS p 0 n = setS q 0 n) : ∀ k, k < n → p k = q k := by
  intro k hk
  have e := congrArg (fun z => ibit z k) h
  simp only [ibit_S, hk, true_and] at e
  cases hp : p k <;> cases hq : q k <;> simp [hp, hq] at e ⊢
/-- one thing alone -/
theorem setS_one {t n : Nat} (h : t < n) : setS (fun k => decide (k = t)) 0 n = 2 ^ t := by
  symm
  apply set_S (Int.le_of_lt (pow_pos2 t))
  intro k
  rw [pow_nat, ibit_tb, Nat.testBit_two_pow]
  by_cases g : t = k
  · subst g; simp [h]
  · have g2 : ¬ k = t := fun e => g e.symm
    simp [g, g2]
/-! bitCount -/
def bcI (z : Int) : Int :=
  let a := z - iand (z / 2) 1431655765
  let b := iand a 858993459 + iand (a / 4) 858993459
  let c := iand (b + b / 16) 252645135
  let e := c + c / 256
  iand (e + e / 65536) 63
theorem s_bcI {d : Nat} {h : am_H} {Q : Option Value → am_H → Prop} {z : Int} (hz : 0 ≤ z ∧ z < 16777216) : Rj d 192 0 [.int (jI z)] [] h Q = Q (some (.int (jI (bcI z)))) h := by
  have a1 := iand_rng (a := z / 2) (b := 1431655765) (by omega) (by omega)
  obtain ⟨a, ha⟩ : ∃ a, a = z - iand (z / 2) 1431655765 := ⟨_, rfl⟩
  have a2 := iand_rng (a := a) (b := 858993459) (by omega) (by omega)
  have a3 := iand_rng (a := a / 4) (b := 858993459) (by omega) (by omega)
  obtain ⟨b, hb⟩ : ∃ b, b = iand a 858993459 + iand (a / 4) 858993459 := ⟨_, rfl⟩
  have a4 := iand_rng (a := b + b / 16) (b := 252645135) (by omega) (by omega)
  obtain ⟨c, hc⟩ : ∃ c, c = iand (b + b / 16) 252645135 := ⟨_, rfl⟩
  obtain ⟨e, he⟩ : ∃ e, e = c + c / 256 := ⟨_, rfl⟩
  have er : bcI z = iand (e + e / 65536) 63 := by
    unfold bcI
    simp only [← ha, ← hb, ← hc, ← he]
  rw [b_Integer_bitCount_0, er]
  simp (disch := omega) only [rn_nil, rn_iconst, rn_ldc2, rn_iadd, rn_isub, rn_imul, rn_iand, rn_ior, rn_ixor, rn_ishl, rn_ishr, rn_iushr, rn_ineg, rn_ladd, rn_lsub, rn_lmul, rn_land, rn_lor, rn_lshl, rn_lushr, rn_lcmp, rn_i2l, rn_l2i, rn_dupI, rn_dupR, rn_popI, rn_dup2, rn_idiv, rn_irem, rn_ldiv, rn_lrem, rn_dadd, rn_dsub, rn_dmul, rn_objinit, rn_iload, rn_lload, rn_aload, rn_istore, rn_astore, rn_lstore, rn_iinc, rn_getfield, rn_iaload, rn_laload, rn_aaload, rn_arraylength, rn_putfield, rn_iastore, rn_lastore, rn_goto, rn_ifCond_eq, rn_if_icmp_eq, rn_ifCond_ne, rn_if_icmp_ne, rn_ifCond_lt, rn_if_icmp_lt, rn_ifCond_ge, rn_if_icmp_ge, rn_ifCond_gt, rn_if_icmp_gt, rn_ifCond_le, rn_if_icmp_le, rn_ireturn, rn_lreturn, rn_return, rL_I, rL_L, rL_R, rS_t, rI_t, rG_s, rG_i, rP_s, rP_i, kq_v, kq_s, ok_0, ok_1I, ok_1R, ok_1N, ok_s, rc8_0, rc8_1, rc8_2, rc8_3, rc8_4, List.getElem?_cons_zero, List.getElem?_cons_succ, List.set_cons_zero, List.set_cons_succ, true_and, and_true, if_true, if_false, Int.toNat_natCast, Int.reduceToNat, Int.reduceAdd, Int.reduceSub, Int.reduceMul, Int.reduceNeg, Nat.reduceAdd, Int.reduceLT, Int.reduceLE, Int.reduceEq, reduceIte, jI_add, jI_sub, jI_mul, jI_neg, jI_eq, jI_le, jI_lt, jI_eq0, jI_eq1, jI_lt0, jI_0lt, jI_le0, jI_0le, jI_clamp, jI_inBT, kL_0, kL_1, kL_2, kL_5, kL_6, kL_7, kL_10, kL_11, kL_15, kL_23, kL_31, kL_39, kL_97, kL_99, kL_104, kL_255, kL_349, kL_999, kL_1771561, kL_16777215, kL_4294967295, kL_18446744073709551615, jI_toL, rn_zB, rn_z0, rn_z1, jIB_eq0, jIB_eq1, jIB_eqJ, jB_def, jB_not, jB_and, jB_or, jB_nand, jB_nor, jB_ite, mrg, Decidable.not_not, ite_not, u2_s, u2_n, Int.add_sub_cancel, Int.sub_add_cancel, jI_and, jI_ushr1, jI_ushr2, jI_ushr4, jI_ushr8, jI_ushr16, ← ha, ← hb, ← hc, ← he]
