/-! THE ABSTRACT MACHINE AS EQUATIONS -/
theorem am_ev_fuel : ∀ (n d : Nat) (F : am_F) (h : am_H) (z : Option Value × am_H), am_ev n d F h = some z → ∀ k, am_ev (n + k) d F h = some z
  | 0, d, F, h, z, hs, k => by simp [am_ev] at hs
  | n + 1, d, (y, [], nx, ls, st), h, z, hs, k => by
    rw [show n + 1 + k = (n + k) + 1 by omega]
    cases hb : am_blk y nx with
    | none => simp only [am_ev, hb] at hs; cases hs
    | some bb =>
      simp only [am_ev, hb] at hs ⊢
      exact am_ev_fuel n d _ h z hs k
  | n + 1, d, (y, i :: is, nx, ls, st), h, z, hs, k => by
    rw [show n + 1 + k = (n + k) + 1 by omega]
    cases hv : am_ret i st with
    | some v => simp only [am_ev, hv] at hs ⊢; exact hs
    | none =>
      cases hc : am_call i st h with
      | some w =>
        obtain ⟨q, as, r⟩ := w
        simp only [am_ev, hv, hc] at hs ⊢
        by_cases hcond : (am_lay as).length ≤ am_nl q ∧ (r.map Value.category).sum ≤ 8
        · rw [if_pos hcond] at hs ⊢
          cases d with
          | zero => cases hs
          | succ d =>
            dsimp only at hs ⊢
            cases he : am_ev n d (am_ent q as) h with
            | none => simp only [he] at hs; cases hs
            | some w =>
              obtain ⟨v1, h1⟩ := w
              simp only [he] at hs
              simp only [am_ev_fuel n d _ h _ he k]
              exact am_ev_fuel n _ _ h1 z hs k
        · rw [if_neg hcond] at hs; cases hs
      | none =>
        cases he : am_stp y i is nx ls st h with
        | none => simp only [am_ev, hv, hc, he] at hs; cases hs
        | some w =>
          obtain ⟨F1, h1⟩ := w
          simp only [am_ev, hv, hc, he] at hs ⊢
          exact am_ev_fuel n _ _ h1 z hs k
theorem am_ev_le {n n' d : Nat} {F : am_F} {h : am_H} {z : Option Value × am_H} (hs : am_ev n d F h = some z) (hn : n ≤ n') : am_ev n' d F h = some z := by
  rw [show n' = n + (n' - n) by omega]
  exact am_ev_fuel n d F h z hs _
/-- it comes to an end with Q -/
def Rn (d : Nat) (F : am_F) (h : am_H) (Q : Option Value → am_H → Prop) : Prop := ∃ n v h', am_ev n d F h = some (v, h') ∧ Q v h'
/-- at the beginning of a block -/
def Rj (d y pc : Nat) (ls st : List Value) (h : am_H) (Q : Option Value → am_H → Prop) : Prop := Rn d (y, [], pc, ls, st) h Q
/-- what is behind a call -/
def KQ (d y : Nat) (is : List Instr) (nx : Nat) (ls r : List Value) (Q : Option Value → am_H → Prop) (v : Option Value) (h : am_H) : Prop := Rn (d + 1) (y, is, nx, ls, v.toList ++ r) h Q
section RN
variable {d y nx : Nat} {i : Instr} {is : List Instr} {ls st : List Value} {h : am_H} {Q : Option Value → am_H → Prop}
theorem rn_ret {v : Option Value} (hr : am_ret i st = some v) : Rn d (y, i :: is, nx, ls, st) h Q = Q v h := by
  apply propext
  constructor
  · rintro ⟨n, v1, h1, he, hq⟩
    cases n with
    | zero => simp [am_ev] at he
    | succ n => rw [am_ev] at he; simp only [hr, Option.some.injEq, Prod.mk.injEq] at he; obtain ⟨rfl, rfl⟩ := he; exact hq
  · intro hq
    exact ⟨1, v, h, by rw [am_ev]; simp only [hr], hq⟩
theorem rn_stp {F : am_F} {h' : am_H} (h1 : am_ret i st = none) (h2 : am_call i st h = none) (h3 : am_stp y i is nx ls st h = some (F, h')) : Rn d (y, i :: is, nx, ls, st) h Q = Rn d F h' Q := by
  apply propext
  constructor
  · rintro ⟨n, v1, hh, he, hq⟩
    cases n with
    | zero => simp [am_ev] at he
    | succ n => rw [am_ev] at he; simp only [h1, h2, h3] at he; exact ⟨n, v1, hh, he, hq⟩
  · rintro ⟨n, v1, hh, he, hq⟩
    exact ⟨n + 1, v1, hh, by rw [am_ev]; simp only [h1, h2, h3]; exact he, hq⟩
theorem rn_stuck (h1 : am_ret i st = none) (h2 : am_call i st h = none) (h3 : am_stp y i is nx ls st h = none) : Rn d (y, i :: is, nx, ls, st) h Q = False := by
  apply propext
  constructor
  · rintro ⟨n, v1, hh, he, hq⟩
    cases n with
    | zero => simp [am_ev] at he
    | succ n => rw [am_ev] at he; simp only [h1, h2, h3] at he; cases he
  · intro hf; cases hf
theorem rn_blk {is' : List Instr} {nx' : Nat} (hb : am_blk y nx = some (is', nx')) : Rj d y nx ls st h Q = Rn d (y, is', nx', ls, st) h Q := by
  apply propext
  constructor
  · rintro ⟨n, v1, hh, he, hq⟩
    cases n with
    | zero => simp [am_ev] at he
    | succ n => rw [am_ev] at he; simp only [hb] at he; exact ⟨n, v1, hh, he, hq⟩
  · rintro ⟨n, v1, hh, he, hq⟩
    exact ⟨n + 1, v1, hh, by rw [am_ev]; simp only [hb]; exact he, hq⟩
theorem rn_call {q : Nat} {as r : List Value} (h1 : am_ret i st = none) (h2 : am_call i st h = some (q, as, r)) (h3 : (am_lay as).length ≤ am_nl q ∧ (r.map Value.category).sum ≤ 8) : Rn (d + 1) (y, i :: is, nx, ls, st) h Q = Rn d (am_ent q as) h (KQ d y is nx ls r Q) := by
  apply propext
  constructor
  · rintro ⟨n, v1, hh, he, hq⟩
    cases n with
    | zero => simp [am_ev] at he
    | succ n =>
      rw [am_ev] at he
      simp only [h1, h2] at he
      rw [if_pos h3] at he
      split at he
      · rename_i v2 h2' e2
        exact ⟨n, v2, h2', e2, n, v1, hh, he, hq⟩
      · cases he
  · rintro ⟨n, v2, h2', e2, n', v1, hh, he, hq⟩
    refine ⟨max n n' + 1, v1, hh, ?_, hq⟩
    rw [am_ev]
    simp only [h1, h2]
    rw [if_pos h3]
    rw [am_ev_le e2 (Nat.le_max_left n n')]
    exact am_ev_le he (Nat.le_max_right n n')
theorem rn_nil : Rn d (y, [], nx, ls, st) h Q = Rj d y nx ls st h Q := rfl
theorem kq_v {r : List Value} : KQ d y is nx ls r Q none h = Rn (d + 1) (y, is, nx, ls, r) h Q := rfl
theorem kq_s {r : List Value} {v : Value} : KQ d y is nx ls r Q (some v) h = Rn (d + 1) (y, is, nx, ls, v :: r) h Q := rfl
/-- numbers -/
def jI (z : Int) : Int32 := Int32.ofInt z
def jL (z : Int) : Int64 := Int64.ofInt z
/-- behind a read, and behind a write -/
def rG (d y : Nat) (is : List Instr) (nx : Nat) (ls : List Value) (h : am_H) (Q : Option Value → am_H → Prop) (z : Option (List Value)) : Prop := match z with
  | some st => Rn d (y, is, nx, ls, st) h Q
  | none => False
def rP (d y : Nat) (is : List Instr) (nx : Nat) (ls r : List Value) (h : am_H) (k : Nat) (Q : Option Value → am_H → Prop) (z : Option am_E) : Prop := match z with
  | some c => Rn d (y, is, nx, ls, r) (am_set h k c) Q
  | none => False
theorem rG_s {z : List Value} : rG d y is nx ls h Q (some z) = Rn d (y, is, nx, ls, z) h Q := rfl
theorem rG_i {c : Prop} [Decidable c] {z : List Value} : rG d y is nx ls h Q (if c then some z else none) = (c ∧ Rn d (y, is, nx, ls, z) h Q) := by
  by_cases hc : c
  · rw [if_pos hc]; simp [hc, rG]
  · rw [if_neg hc]; simp [hc, rG]
theorem rP_s {r : List Value} {k : Nat} {z : am_E} : rP d y is nx ls r h k Q (some z) = Rn d (y, is, nx, ls, r) (am_set h k z) Q := rfl
theorem rP_i {c : Prop} [Decidable c] {r : List Value} {k : Nat} {z : am_E} : rP d y is nx ls r h k Q (if c then some z else none) = (c ∧ Rn d (y, is, nx, ls, r) (am_set h k z) Q) := by
  by_cases hc : c
  · rw [if_pos hc]; simp [hc, rP]
  · rw [if_neg hc]; simp [hc, rP]
/-- locals -/
def rL (d y : Nat) (is : List Instr) (nx : Nat) (ls st : List Value) (h : am_H) (Q : Option Value → am_H → Prop) (w : Value → Bool) (z : Option Value) : Prop := match z with
  | some v => if w v = true then Rn d (y, is, nx, ls, v :: st) h Q else False
  | none => False
theorem rL_I {x : Int32} : rL d y is nx ls st h Q am_isI (some (.int x)) = Rn d (y, is, nx, ls, .int x :: st) h Q := rfl
theorem rL_L {x : Int64} : rL d y is nx ls st h Q am_isL (some (.long x)) = Rn d (y, is, nx, ls, .long x :: st) h Q := rfl
theorem rL_R {x : Nat} : rL d y is nx ls st h Q am_isR (some (.ref x)) = Rn d (y, is, nx, ls, .ref x :: st) h Q := rfl
def rS (d y : Nat) (is : List Instr) (nx : Nat) (ls st : List Value) (h : am_H) (Q : Option Value → am_H → Prop) (c : Bool) : Prop := if c = true then Rn d (y, is, nx, ls, st) h Q else False
theorem rS_t : rS d y is nx ls st h Q true = Rn d (y, is, nx, ls, st) h Q := rfl
variable {k : Nat} {r : List Value}
theorem rn_iconst {n : Int} : Rn d (y, .iconst n :: is, nx, ls, st) h Q = Rn d (y, is, nx, ls, .int (jI n) :: st) h Q := rn_stp rfl rfl rfl
theorem rn_ldc2 {n : Nat} : Rn d (y, .ldc2_w n :: is, nx, ls, st) h Q = Rn d (y, is, nx, ls, .long (Int64.ofNat n) :: st) h Q := rn_stp rfl rfl rfl
theorem rn_iadd {x z : Int32} : Rn d (y, .iadd :: is, nx, ls, .int z :: .int x :: r) h Q = Rn d (y, is, nx, ls, .int (x + z) :: r) h Q := rn_stp rfl rfl rfl
theorem rn_isub {x z : Int32} : Rn d (y, .isub :: is, nx, ls, .int z :: .int x :: r) h Q = Rn d (y, is, nx, ls, .int (x - z) :: r) h Q := rn_stp rfl rfl rfl
theorem rn_imul {x z : Int32} : Rn d (y, .imul :: is, nx, ls, .int z :: .int x :: r) h Q = Rn d (y, is, nx, ls, .int (x * z) :: r) h Q := rn_stp rfl rfl rfl
theorem rn_iand {x z : Int32} : Rn d (y, .iand :: is, nx, ls, .int z :: .int x :: r) h Q = Rn d (y, is, nx, ls, .int (x &&& z) :: r) h Q := rn_stp rfl rfl rfl
theorem rn_ior {x z : Int32} : Rn d (y, .ior :: is, nx, ls, .int z :: .int x :: r) h Q = Rn d (y, is, nx, ls, .int (x ||| z) :: r) h Q := rn_stp rfl rfl rfl
theorem rn_ixor {x z : Int32} : Rn d (y, .ixor :: is, nx, ls, .int z :: .int x :: r) h Q = Rn d (y, is, nx, ls, .int (x ^^^ z) :: r) h Q := rn_stp rfl rfl rfl
theorem rn_ishl {x z : Int32} : Rn d (y, .ishl :: is, nx, ls, .int z :: .int x :: r) h Q = Rn d (y, is, nx, ls, .int (x <<< (z &&& 31)) :: r) h Q := rn_stp rfl rfl rfl
theorem rn_ishr {x z : Int32} : Rn d (y, .ishr :: is, nx, ls, .int z :: .int x :: r) h Q = Rn d (y, is, nx, ls, .int (x >>> (z &&& 31)) :: r) h Q := rn_stp rfl rfl rfl
theorem rn_iushr {x z : Int32} : Rn d (y, .iushr :: is, nx, ls, .int z :: .int x :: r) h Q = Rn d (y, is, nx, ls, .int ((x.toUInt32 >>> (z.toUInt32 &&& Int32.toUInt32 31)).toInt32) :: r) h Q := rn_stp rfl rfl rfl
theorem rn_ineg {x : Int32} : Rn d (y, .ineg :: is, nx, ls, .int x :: r) h Q = Rn d (y, is, nx, ls, .int (-x) :: r) h Q := rn_stp rfl rfl rfl
theorem rn_ladd {x z : Int64} : Rn d (y, .ladd :: is, nx, ls, .long z :: .long x :: r) h Q = Rn d (y, is, nx, ls, .long (x + z) :: r) h Q := rn_stp rfl rfl rfl
theorem rn_lsub {x z : Int64} : Rn d (y, .lsub :: is, nx, ls, .long z :: .long x :: r) h Q = Rn d (y, is, nx, ls, .long (x - z) :: r) h Q := rn_stp rfl rfl rfl
theorem rn_lmul {x z : Int64} : Rn d (y, .lmul :: is, nx, ls, .long z :: .long x :: r) h Q = Rn d (y, is, nx, ls, .long (x * z) :: r) h Q := rn_stp rfl rfl rfl
theorem rn_land {x z : Int64} : Rn d (y, .land :: is, nx, ls, .long z :: .long x :: r) h Q = Rn d (y, is, nx, ls, .long (x &&& z) :: r) h Q := rn_stp rfl rfl rfl
theorem rn_lor {x z : Int64} : Rn d (y, .lor :: is, nx, ls, .long z :: .long x :: r) h Q = Rn d (y, is, nx, ls, .long (x ||| z) :: r) h Q := rn_stp rfl rfl rfl
theorem rn_lshl {x : Int64} {z : Int32} : Rn d (y, .lshl :: is, nx, ls, .int z :: .long x :: r) h Q = Rn d (y, is, nx, ls, .long (x <<< (z.toInt64 &&& 63)) :: r) h Q := rn_stp rfl rfl rfl
theorem rn_lushr {x : Int64} {z : Int32} : Rn d (y, .lushr :: is, nx, ls, .int z :: .long x :: r) h Q = Rn d (y, is, nx, ls, .long ((x.toUInt64 >>> (z.toInt64.toUInt64 &&& Int64.toUInt64 63)).toInt64) :: r) h Q := rn_stp rfl rfl rfl
theorem rn_lcmp {x z : Int64} : Rn d (y, .lcmp :: is, nx, ls, .long z :: .long x :: r) h Q = Rn d (y, is, nx, ls, .int (lg_cmp x z) :: r) h Q := rn_stp rfl rfl rfl
theorem rn_i2l {x : Int32} : Rn d (y, .i2l :: is, nx, ls, .int x :: r) h Q = Rn d (y, is, nx, ls, .long x.toInt64 :: r) h Q := rn_stp rfl rfl rfl
theorem rn_l2i {x : Int64} : Rn d (y, .l2i :: is, nx, ls, .long x :: r) h Q = Rn d (y, is, nx, ls, .int x.toInt32 :: r) h Q := rn_stp rfl rfl rfl
theorem rn_dupI {x : Int32} : Rn d (y, .dup :: is, nx, ls, .int x :: r) h Q = Rn d (y, is, nx, ls, .int x :: .int x :: r) h Q := rn_stp rfl rfl rfl
theorem rn_dupR {x : Nat} : Rn d (y, .dup :: is, nx, ls, .ref x :: r) h Q = Rn d (y, is, nx, ls, .ref x :: .ref x :: r) h Q := rn_stp rfl rfl rfl
theorem rn_popI {x : Int32} : Rn d (y, .pop :: is, nx, ls, .int x :: r) h Q = Rn d (y, is, nx, ls, r) h Q := rn_stp rfl rfl rfl
theorem rn_dup2 {x : Int32} {z : Nat} : Rn d (y, .dup2 :: is, nx, ls, .int x :: .ref z :: r) h Q = Rn d (y, is, nx, ls, .int x :: .ref z :: .int x :: .ref z :: r) h Q := rn_stp rfl rfl rfl
theorem rn_getstatic : Rn d (y, .getstatic 0 :: is, nx, ls, r) h Q = Rn d (y, is, nx, ls, .ref 0 :: r) h Q := rn_stp rfl rfl rfl
theorem rn_idiv {x z : Int32} : Rn d (y, .idiv :: is, nx, ls, .int z :: .int x :: r) h Q = (¬ z = 0 ∧ Rn d (y, is, nx, ls, .int (x / z) :: r) h Q) := by
  by_cases hz : z = 0
  · rw [rn_stuck rfl rfl (by simp [am_stp, am_sop, am_d2, hz, am_lop, am_hop, am_jop])]; simp [hz]
  · rw [rn_stp (F := (y, is, nx, ls, .int (x / z) :: r)) (h' := h) rfl rfl (by simp [am_stp, am_sop, am_d2, hz])]; simp [hz]
theorem rn_irem {x z : Int32} : Rn d (y, .irem :: is, nx, ls, .int z :: .int x :: r) h Q = (¬ z = 0 ∧ Rn d (y, is, nx, ls, .int (x - x / z * z) :: r) h Q) := by
  by_cases hz : z = 0
  · rw [rn_stuck rfl rfl (by simp [am_stp, am_sop, am_d2, hz, am_lop, am_hop, am_jop])]; simp [hz]
  · rw [rn_stp (F := (y, is, nx, ls, .int (x - x / z * z) :: r)) (h' := h) rfl rfl (by simp [am_stp, am_sop, am_d2, hz])]; simp [hz]
theorem rn_ldiv {x z : Int64} : Rn d (y, .ldiv :: is, nx, ls, .long z :: .long x :: r) h Q = (¬ z = 0 ∧ Rn d (y, is, nx, ls, .long (x / z) :: r) h Q) := by
  by_cases hz : z = 0
  · rw [rn_stuck rfl rfl (by simp [am_stp, am_sop, am_e2, hz, am_lop, am_hop, am_jop])]; simp [hz]
  · rw [rn_stp (F := (y, is, nx, ls, .long (x / z) :: r)) (h' := h) rfl rfl (by simp [am_stp, am_sop, am_e2, hz])]; simp [hz]
theorem rn_lrem {x z : Int64} : Rn d (y, .lrem :: is, nx, ls, .long z :: .long x :: r) h Q = (¬ z = 0 ∧ Rn d (y, is, nx, ls, .long (x - x / z * z) :: r) h Q) := by
  by_cases hz : z = 0
  · rw [rn_stuck rfl rfl (by simp [am_stp, am_sop, am_e2, hz, am_lop, am_hop, am_jop])]; simp [hz]
  · rw [rn_stp (F := (y, is, nx, ls, .long (x - x / z * z) :: r)) (h' := h) rfl rfl (by simp [am_stp, am_sop, am_e2, hz])]; simp [hz]
def rc8 (r : List Value) : Prop := (r.map Value.category).sum ≤ 8
theorem rn_dadd {x z : Int32} : Rn d (y, .dadd :: is, nx, ls, .int z :: .int x :: r) h Q = (rc8 r ∧ Rn d (y, is, nx, ls, .int (if z < x then z else x) :: r) h Q) := by
  by_cases h8 : rc8 r
  · rw [rn_stp (F := (y, is, nx, ls, .int (if z < x then z else x) :: r)) (h' := h) rfl rfl (by unfold rc8 at h8; simp only [am_stp, am_sop]; rw [if_pos h8])]; simp [h8]
  · rw [rn_stuck rfl rfl (by unfold rc8 at h8; simp only [am_stp, am_sop, am_lop, am_hop, am_jop]; rw [if_neg h8])]; simp [h8]
theorem rn_dsub {x z : Int32} : Rn d (y, .dsub :: is, nx, ls, .int z :: .int x :: r) h Q = (rc8 r ∧ Rn d (y, is, nx, ls, .int (if x < z then z else x) :: r) h Q) := by
  by_cases h8 : rc8 r
  · rw [rn_stp (F := (y, is, nx, ls, .int (if x < z then z else x) :: r)) (h' := h) rfl rfl (by unfold rc8 at h8; simp only [am_stp, am_sop]; rw [if_pos h8])]; simp [h8]
  · rw [rn_stuck rfl rfl (by unfold rc8 at h8; simp only [am_stp, am_sop, am_lop, am_hop, am_jop]; rw [if_neg h8])]; simp [h8]
theorem rn_dmul {x z : Int64} : Rn d (y, .dmul :: is, nx, ls, .long z :: .long x :: r) h Q = (rc8 r ∧ Rn d (y, is, nx, ls, .long (if z < x then x else z) :: r) h Q) := by
  by_cases h8 : rc8 r
  · rw [rn_stp (F := (y, is, nx, ls, .long (if z < x then x else z) :: r)) (h' := h) rfl rfl (by unfold rc8 at h8; simp only [am_stp, am_sop]; rw [if_pos h8])]; simp [h8]
  · rw [rn_stuck rfl rfl (by unfold rc8 at h8; simp only [am_stp, am_sop, am_lop, am_hop, am_jop]; rw [if_neg h8])]; simp [h8]
theorem rn_objinit {x : Nat} : Rn d (y, .monitorenter :: is, nx, ls, .ref x :: r) h Q = (rc8 r ∧ Rn d (y, is, nx, ls, r) h Q) := by
  by_cases h8 : rc8 r
  · rw [rn_stp (F := (y, is, nx, ls, r)) (h' := h) rfl rfl (by unfold rc8 at h8; simp only [am_stp, am_sop]; rw [if_pos h8])]; simp [h8]
  · rw [rn_stuck rfl rfl (by unfold rc8 at h8; simp only [am_stp, am_sop, am_lop, am_hop, am_jop]; rw [if_neg h8])]; simp [h8]
theorem rn_iload : Rn d (y, .iload k :: is, nx, ls, st) h Q = rL d y is nx ls st h Q am_isI ls[k]? := by
  unfold rL
  cases hk : ls[k]? with
  | none => exact rn_stuck rfl rfl (by simp [am_stp, am_sop, am_ld, hk, am_lop, am_hop, am_jop])
  | some v =>
    dsimp only
    by_cases hw : am_isI v = true
    · rw [if_pos hw]; exact rn_stp rfl rfl (by simp [am_stp, am_sop, am_ld, hk, hw])
    · rw [if_neg hw]; exact rn_stuck rfl rfl (by simp [am_stp, am_sop, am_ld, hk, hw, am_lop, am_hop, am_jop])
theorem rn_lload : Rn d (y, .lload k :: is, nx, ls, st) h Q = rL d y is nx ls st h Q am_isL ls[k]? := by
  unfold rL
  cases hk : ls[k]? with
  | none => exact rn_stuck rfl rfl (by simp [am_stp, am_sop, am_ld, hk, am_lop, am_hop, am_jop])
  | some v =>
    dsimp only
    by_cases hw : am_isL v = true
    · rw [if_pos hw]; exact rn_stp rfl rfl (by simp [am_stp, am_sop, am_ld, hk, hw])
    · rw [if_neg hw]; exact rn_stuck rfl rfl (by simp [am_stp, am_sop, am_ld, hk, hw, am_lop, am_hop, am_jop])
theorem rn_aload : Rn d (y, .aload k :: is, nx, ls, st) h Q = rL d y is nx ls st h Q am_isR ls[k]? := by
  unfold rL
  cases hk : ls[k]? with
  | none => exact rn_stuck rfl rfl (by simp [am_stp, am_sop, am_ld, hk, am_lop, am_hop, am_jop])
  | some v =>
    dsimp only
    by_cases hw : am_isR v = true
    · rw [if_pos hw]; exact rn_stp rfl rfl (by simp [am_stp, am_sop, am_ld, hk, hw])
    · rw [if_neg hw]; exact rn_stuck rfl rfl (by simp [am_stp, am_sop, am_ld, hk, hw, am_lop, am_hop, am_jop])
theorem rn_istore {x : Int32} : Rn d (y, .istore k :: is, nx, ls, .int x :: r) h Q = rS d y is nx (ls.set k (.int x)) r h Q (am_ok ls k) := by
  unfold rS
  by_cases hw : am_ok ls k = true
  · rw [if_pos hw]; exact rn_stp rfl rfl (by simp [am_stp, am_sop, am_lop, hw])
  · rw [if_neg hw]; exact rn_stuck rfl rfl (by simp [am_stp, am_sop, am_lop, hw, am_hop, am_jop])
theorem rn_astore {x : Nat} : Rn d (y, .astore k :: is, nx, ls, .ref x :: r) h Q = rS d y is nx (ls.set k (.ref x)) r h Q (am_ok ls k) := by
  unfold rS
  by_cases hw : am_ok ls k = true
  · rw [if_pos hw]; exact rn_stp rfl rfl (by simp [am_stp, am_sop, am_lop, hw])
  · rw [if_neg hw]; exact rn_stuck rfl rfl (by simp [am_stp, am_sop, am_lop, hw, am_hop, am_jop])
theorem rn_lstore {x : Int64} : Rn d (y, .lstore k :: is, nx, ls, .long x :: r) h Q = rS d y is nx ((ls.set (k + 1) .null).set k (.long x)) r h Q (am_ok ls k && decide (k + 1 < ls.length)) := by
  unfold rS
  by_cases hw : (am_ok ls k && decide (k + 1 < ls.length)) = true
  · rw [if_pos hw]; exact rn_stp rfl rfl (by simp only [am_stp, am_sop, am_lop, hw, if_true])
  · rw [if_neg hw]; exact rn_stuck rfl rfl (by simp only [am_stp, am_sop, am_lop, hw, am_hop, am_jop]; rfl)
/-- the local that is counted up -/
def rI (d y : Nat) (is : List Instr) (nx : Nat) (ls st : List Value) (h : am_H) (Q : Option Value → am_H → Prop) (k : Nat) (n : Int) (c : Bool) (z : Option Value) : Prop := match z with
  | some (.int x) => if c = true then Rn d (y, is, nx, ls.set k (.int (x + jI n)), st) h Q else False
  | _ => False
theorem rI_t {n : Int} {x : Int32} : rI d y is nx ls st h Q k n true (some (.int x)) = Rn d (y, is, nx, ls.set k (.int (x + jI n)), st) h Q := rfl
theorem rn_iinc {n : Int} : Rn d (y, .iinc k n :: is, nx, ls, st) h Q = rI d y is nx ls st h Q k n (am_ok ls k) ls[k]? := by
  unfold rI
  split
  · rename_i x hx
    by_cases hw : am_ok ls k = true
    · rw [if_pos hw]; exact rn_stp rfl rfl (by simp [am_stp, am_sop, am_lop, hw, hx, jI])
    · rw [if_neg hw]; exact rn_stuck rfl rfl (by simp [am_stp, am_sop, am_lop, hw, hx, am_hop, am_jop])
  · rename_i hx
    refine rn_stuck rfl rfl ?_
    simp only [am_stp, am_sop, am_lop, am_hop, am_jop]
theorem rn_getfield {q : Nat} : Rn d (y, .getfield q :: is, nx, ls, .ref k :: r) h Q = rG d y is nx ls h Q (am_get (h.2.2 k) q r) := by
  unfold rG
  cases hk : am_get (h.2.2 k) q r with
  | none => exact rn_stuck rfl rfl (by simp [am_stp, am_sop, am_lop, am_hop, hk, am_jop])
  | some z => exact rn_stp rfl rfl (by simp [am_stp, am_sop, am_lop, am_hop, hk])
theorem rn_iaload {j : Int32} : Rn d (y, .iaload :: is, nx, ls, .int j :: .ref k :: r) h Q = rG d y is nx ls h Q (am_rd (h.2.2 k) j r) := by
  unfold rG
  cases hk : am_rd (h.2.2 k) j r with
  | none => exact rn_stuck rfl rfl (by simp [am_stp, am_sop, am_lop, am_hop, hk, am_jop])
  | some z => exact rn_stp rfl rfl (by simp [am_stp, am_sop, am_lop, am_hop, hk])
theorem rn_laload {j : Int32} : Rn d (y, .laload :: is, nx, ls, .int j :: .ref k :: r) h Q = rG d y is nx ls h Q (am_rdl (h.2.2 k) j r) := by
  unfold rG
  cases hk : am_rdl (h.2.2 k) j r with
  | none => exact rn_stuck rfl rfl (by simp [am_stp, am_sop, am_lop, am_hop, hk, am_jop])
  | some z => exact rn_stp rfl rfl (by simp [am_stp, am_sop, am_lop, am_hop, hk])
theorem rn_aaload {j : Int32} : Rn d (y, .aaload :: is, nx, ls, .int j :: .ref k :: r) h Q = rG d y is nx ls h Q (am_rda (h.2.2 k) j r) := by
  unfold rG
  cases hk : am_rda (h.2.2 k) j r with
  | none => exact rn_stuck rfl rfl (by simp [am_stp, am_sop, am_lop, am_hop, hk, am_jop])
  | some z => exact rn_stp rfl rfl (by simp [am_stp, am_sop, am_lop, am_hop, hk])
theorem rn_arraylength : Rn d (y, .arraylength :: is, nx, ls, .ref k :: r) h Q = rG d y is nx ls h Q (am_len (h.2.2 k) r) := by
  unfold rG
  cases hk : am_len (h.2.2 k) r with
  | none => exact rn_stuck rfl rfl (by simp [am_stp, am_sop, am_lop, am_hop, hk, am_jop])
  | some z => exact rn_stp rfl rfl (by simp [am_stp, am_sop, am_lop, am_hop, hk])
theorem rn_putfield {q : Nat} {v : Value} : Rn d (y, .putfield q :: is, nx, ls, v :: .ref k :: r) h Q = rP d y is nx ls r h k Q (am_wf (h.2.2 k) q v) := by
  unfold rP
  cases hk : am_wf (h.2.2 k) q v with
  | none => exact rn_stuck rfl rfl (by simp [am_stp, am_sop, am_lop, am_hop, hk, am_jop])
  | some z => exact rn_stp rfl rfl (by simp [am_stp, am_sop, am_lop, am_hop, hk])
theorem rn_iastore {j x : Int32} : Rn d (y, .iastore :: is, nx, ls, .int x :: .int j :: .ref k :: r) h Q = rP d y is nx ls r h k Q (am_wi (h.2.2 k) j x) := by
  unfold rP
  cases hk : am_wi (h.2.2 k) j x with
  | none => exact rn_stuck rfl rfl (by simp [am_stp, am_sop, am_lop, am_hop, hk, am_jop])
  | some z => exact rn_stp rfl rfl (by simp [am_stp, am_sop, am_lop, am_hop, hk])
theorem rn_lastore {j : Int32} {x : Int64} : Rn d (y, .lastore :: is, nx, ls, .long x :: .int j :: .ref k :: r) h Q = rP d y is nx ls r h k Q (am_wl (h.2.2 k) j x) := by
  unfold rP
  cases hk : am_wl (h.2.2 k) j x with
  | none => exact rn_stuck rfl rfl (by simp [am_stp, am_sop, am_lop, am_hop, hk, am_jop])
  | some z => exact rn_stp rfl rfl (by simp [am_stp, am_sop, am_lop, am_hop, hk])
theorem rn_aastore {x : Nat} {j : Int32} (hx : am_isS (h.2.2 x) = true) : Rn d (y, .aastore :: is, nx, ls, .ref x :: .int j :: .ref k :: r) h Q = rP d y is nx ls r h k Q (am_wa (h.2.2 k) j x) := by
  unfold rP
  cases hk : am_wa (h.2.2 k) j x with
  | none => exact rn_stuck rfl rfl (by simp [am_stp, am_sop, am_lop, am_hop, hk, hx, am_jop])
  | some z => exact rn_stp rfl rfl (by simp [am_stp, am_sop, am_lop, am_hop, hk, hx])
theorem rn_copy {n dp sp : Int32} {k0 k1 : Nat} (h8 : rc8 r) : Rn d (y, .invokedynamic 0 :: is, nx, ls, .int n :: .int dp :: .ref k1 :: .int sp :: .ref k0 :: r) h Q = rP d y is nx ls r h k1 Q (am_wc (h.2.2 k0) (h.2.2 k1) sp dp n) := by
  unfold rP rc8 at *
  cases hk : am_wc (h.2.2 k0) (h.2.2 k1) sp dp n with
  | none => exact rn_stuck rfl rfl (by simp [am_stp, am_sop, am_lop, am_hop, hk, h8, am_jop])
  | some z => exact rn_stp rfl rfl (by simp [am_stp, am_sop, am_lop, am_hop, hk, h8])
theorem rn_new {ci : Nat} : Rn d (y, .new ci :: is, nx, ls, st) h Q = Rn d (y, is, nx, ls, .ref h.1 :: st) (am_new h (am_df.getD ci []).length (.inr (ci, am_df.getD ci []))) Q := rn_stp rfl rfl rfl
theorem rn_callx {q : Nat} {as r : List Value} {c : Prop} [Decidable c] (h1 : am_ret i st = none) (h2 : am_call i st h = if c then some (q, as, r) else none) (h3 : am_stp y i is nx ls st h = none) (h4 : (am_lay as).length ≤ am_nl q) : Rn (d + 1) (y, i :: is, nx, ls, st) h Q = (c ∧ rc8 r ∧ Rn d (am_ent q as) h (KQ d y is nx ls r Q)) := by
  by_cases hc : c
  · rw [if_pos hc] at h2
    by_cases h8 : rc8 r
    · rw [rn_call h1 h2 ⟨h4, h8⟩]; simp [hc, h8]
    · have : Rn (d + 1) (y, i :: is, nx, ls, st) h Q = False := by
        apply propext
        constructor
        · rintro ⟨n, v1, hh, he, hq⟩
          cases n with
          | zero => simp [am_ev] at he
          | succ n =>
            simp only [am_ev, h1, h2] at he
            rw [if_neg (fun z => h8 z.2)] at he
            cases he
        · intro z; cases z
      rw [this]; simp [h8]
  · rw [if_neg hc] at h2
    rw [rn_stuck h1 h2 h3]; simp [hc]
theorem rn_newi {n : Int32} (hn : ¬ n < 0 ∧ n.toNatClampNeg ≤ 100000) : Rn d (y, .newarray .int :: is, nx, ls, .int n :: r) h Q = Rn d (y, is, nx, ls, .ref h.1 :: r) (am_new h n.toNatClampNeg (.inl (0, n.toNatClampNeg, .inl (fun _ => 0)))) Q := rn_stp rfl rfl (by simp [am_stp, am_sop, am_lop, am_hop, hn])
theorem rn_newl {n : Int32} (hn : ¬ n < 0 ∧ n.toNatClampNeg ≤ 100000) : Rn d (y, .newarray .long :: is, nx, ls, .int n :: r) h Q = Rn d (y, is, nx, ls, .ref h.1 :: r) (am_new h n.toNatClampNeg (.inl (1, n.toNatClampNeg, .inr (.inl (fun _ => 0))))) Q := rn_stp rfl rfl (by simp [am_stp, am_sop, am_lop, am_hop, hn])
theorem rn_newa {n : Int32} (hn : ¬ n < 0 ∧ n.toNatClampNeg ≤ 100000) : Rn d (y, .anewarray 2 :: is, nx, ls, .int n :: r) h Q = Rn d (y, is, nx, ls, .ref h.1 :: r) (am_new h n.toNatClampNeg (.inl (2, n.toNatClampNeg, .inr (.inr (.inr (.inr (fun _ => none))))))) Q := rn_stp rfl rfl (by simp [am_stp, am_sop, am_lop, am_hop, hn])
theorem rn_goto {t : Int} : Rn d (y, .goto t :: is, nx, ls, st) h Q = Rj d y t.toNat ls st h Q := rn_stp rfl rfl rfl
theorem rn_ifCond_eq {x : Int32} {t : Int} : Rn d (y, .ifCond .eq t :: is, nx, ls, .int x :: r) h Q = (if x = 0 then Rj d y t.toNat ls r h Q else Rn d (y, is, nx, ls, r) h Q) := by
  by_cases hc : x = 0
  · rw [if_pos hc]; exact rn_stp rfl rfl (by simp [am_stp, am_sop, am_lop, am_hop, am_jop, am_cb, hc])
  · rw [if_neg hc]; exact rn_stp rfl rfl (by simp [am_stp, am_sop, am_lop, am_hop, am_jop, am_cb, hc])
theorem rn_if_icmp_eq {x z : Int32} {t : Int} : Rn d (y, .if_icmp .eq t :: is, nx, ls, .int z :: .int x :: r) h Q = (if x = z then Rj d y t.toNat ls r h Q else Rn d (y, is, nx, ls, r) h Q) := by
  by_cases hc : x = z
  · rw [if_pos hc]; exact rn_stp rfl rfl (by simp [am_stp, am_sop, am_lop, am_hop, am_jop, am_cb, hc])
  · rw [if_neg hc]; exact rn_stp rfl rfl (by simp [am_stp, am_sop, am_lop, am_hop, am_jop, am_cb, hc])
theorem rn_ifCond_ne {x : Int32} {t : Int} : Rn d (y, .ifCond .ne t :: is, nx, ls, .int x :: r) h Q = (if x = 0 then Rn d (y, is, nx, ls, r) h Q else Rj d y t.toNat ls r h Q) := by
  by_cases hc : x = 0
  · rw [if_pos hc]; exact rn_stp rfl rfl (by simp [am_stp, am_sop, am_lop, am_hop, am_jop, am_cb, hc])
  · rw [if_neg hc]; exact rn_stp rfl rfl (by simp [am_stp, am_sop, am_lop, am_hop, am_jop, am_cb, hc])
theorem rn_if_icmp_ne {x z : Int32} {t : Int} : Rn d (y, .if_icmp .ne t :: is, nx, ls, .int z :: .int x :: r) h Q = (if x = z then Rn d (y, is, nx, ls, r) h Q else Rj d y t.toNat ls r h Q) := by
  by_cases hc : x = z
  · rw [if_pos hc]; exact rn_stp rfl rfl (by simp [am_stp, am_sop, am_lop, am_hop, am_jop, am_cb, hc])
  · rw [if_neg hc]; exact rn_stp rfl rfl (by simp [am_stp, am_sop, am_lop, am_hop, am_jop, am_cb, hc])
theorem rn_ifCond_lt {x : Int32} {t : Int} : Rn d (y, .ifCond .lt t :: is, nx, ls, .int x :: r) h Q = (if x < 0 then Rj d y t.toNat ls r h Q else Rn d (y, is, nx, ls, r) h Q) := by
  by_cases hc : x < 0
  · rw [if_pos hc]; exact rn_stp rfl rfl (by simp [am_stp, am_sop, am_lop, am_hop, am_jop, am_cb, hc])
  · rw [if_neg hc]; exact rn_stp rfl rfl (by simp [am_stp, am_sop, am_lop, am_hop, am_jop, am_cb, hc])
theorem rn_if_icmp_lt {x z : Int32} {t : Int} : Rn d (y, .if_icmp .lt t :: is, nx, ls, .int z :: .int x :: r) h Q = (if x < z then Rj d y t.toNat ls r h Q else Rn d (y, is, nx, ls, r) h Q) := by
  by_cases hc : x < z
  · rw [if_pos hc]; exact rn_stp rfl rfl (by simp [am_stp, am_sop, am_lop, am_hop, am_jop, am_cb, hc])
  · rw [if_neg hc]; exact rn_stp rfl rfl (by simp [am_stp, am_sop, am_lop, am_hop, am_jop, am_cb, hc])
theorem rn_ifCond_ge {x : Int32} {t : Int} : Rn d (y, .ifCond .ge t :: is, nx, ls, .int x :: r) h Q = (if 0 ≤ x then Rj d y t.toNat ls r h Q else Rn d (y, is, nx, ls, r) h Q) := by
  by_cases hc : 0 ≤ x
  · rw [if_pos hc]; exact rn_stp rfl rfl (by simp [am_stp, am_sop, am_lop, am_hop, am_jop, am_cb, hc])
  · rw [if_neg hc]; exact rn_stp rfl rfl (by simp [am_stp, am_sop, am_lop, am_hop, am_jop, am_cb, hc])
theorem rn_if_icmp_ge {x z : Int32} {t : Int} : Rn d (y, .if_icmp .ge t :: is, nx, ls, .int z :: .int x :: r) h Q = (if z ≤ x then Rj d y t.toNat ls r h Q else Rn d (y, is, nx, ls, r) h Q) := by
  by_cases hc : z ≤ x
  · rw [if_pos hc]; exact rn_stp rfl rfl (by simp [am_stp, am_sop, am_lop, am_hop, am_jop, am_cb, hc])
  · rw [if_neg hc]; exact rn_stp rfl rfl (by simp [am_stp, am_sop, am_lop, am_hop, am_jop, am_cb, hc])
theorem rn_ifCond_gt {x : Int32} {t : Int} : Rn d (y, .ifCond .gt t :: is, nx, ls, .int x :: r) h Q = (if 0 < x then Rj d y t.toNat ls r h Q else Rn d (y, is, nx, ls, r) h Q) := by
  by_cases hc : 0 < x
  · rw [if_pos hc]; exact rn_stp rfl rfl (by simp [am_stp, am_sop, am_lop, am_hop, am_jop, am_cb, hc])
  · rw [if_neg hc]; exact rn_stp rfl rfl (by simp [am_stp, am_sop, am_lop, am_hop, am_jop, am_cb, hc])
theorem rn_if_icmp_gt {x z : Int32} {t : Int} : Rn d (y, .if_icmp .gt t :: is, nx, ls, .int z :: .int x :: r) h Q = (if z < x then Rj d y t.toNat ls r h Q else Rn d (y, is, nx, ls, r) h Q) := by
  by_cases hc : z < x
  · rw [if_pos hc]; exact rn_stp rfl rfl (by simp [am_stp, am_sop, am_lop, am_hop, am_jop, am_cb, hc])
  · rw [if_neg hc]; exact rn_stp rfl rfl (by simp [am_stp, am_sop, am_lop, am_hop, am_jop, am_cb, hc])
theorem rn_ifCond_le {x : Int32} {t : Int} : Rn d (y, .ifCond .le t :: is, nx, ls, .int x :: r) h Q = (if x ≤ 0 then Rj d y t.toNat ls r h Q else Rn d (y, is, nx, ls, r) h Q) := by
  by_cases hc : x ≤ 0
  · rw [if_pos hc]; exact rn_stp rfl rfl (by simp [am_stp, am_sop, am_lop, am_hop, am_jop, am_cb, hc])
  · rw [if_neg hc]; exact rn_stp rfl rfl (by simp [am_stp, am_sop, am_lop, am_hop, am_jop, am_cb, hc])
theorem rn_if_icmp_le {x z : Int32} {t : Int} : Rn d (y, .if_icmp .le t :: is, nx, ls, .int z :: .int x :: r) h Q = (if x ≤ z then Rj d y t.toNat ls r h Q else Rn d (y, is, nx, ls, r) h Q) := by
  by_cases hc : x ≤ z
  · rw [if_pos hc]; exact rn_stp rfl rfl (by simp [am_stp, am_sop, am_lop, am_hop, am_jop, am_cb, hc])
  · rw [if_neg hc]; exact rn_stp rfl rfl (by simp [am_stp, am_sop, am_lop, am_hop, am_jop, am_cb, hc])
theorem rn_table {dd lo hi : Int} {ts : Array Int} {x : Int32} : Rn d (y, .tableswitch dd lo hi ts :: is, nx, ls, .int x :: r) h Q = (if x.toInt < lo ∨ hi < x.toInt then Rj d y dd.toNat ls r h Q else (match ts[(x.toInt - lo).toNat]? with
    | some t => Rj d y t.toNat ls r h Q
    | none => False)) := by
  by_cases hc : x.toInt < lo ∨ hi < x.toInt
  · rw [if_pos hc]; exact rn_stp rfl rfl (by simp only [am_stp, am_sop, am_lop, am_hop, am_jop, if_pos hc])
  · rw [if_neg hc]
    split
    · rename_i t ht
      exact rn_stp rfl rfl (by simp only [am_stp, am_sop, am_lop, am_hop, am_jop, if_neg hc, ht])
    · rename_i ht
      exact rn_stuck rfl rfl (by simp only [am_stp, am_sop, am_lop, am_hop, am_jop, if_neg hc, ht])
theorem rn_ireturn {x : Int32} : Rn d (y, .ireturn :: is, nx, ls, [.int x]) h Q = Q (some (.int x)) h := rn_ret rfl
theorem rn_lreturn {x : Int64} : Rn d (y, .lreturn :: is, nx, ls, [.long x]) h Q = Q (some (.long x)) h := rn_ret rfl
theorem rn_return : Rn d (y, .return_ :: is, nx, ls, []) h Q = Q none h := rn_ret rfl
theorem rn_zreturn {x : Int32} : Rn d (y, .freturn :: is, nx, ls, [.int x]) h Q = ((x = 0 ∨ x = 1) ∧ Q (some (.int x)) h) := by
  by_cases hx : x = 0 ∨ x = 1
  · rw [rn_ret (v := some (.int x)) (by simp [am_ret, hx])]; simp [hx]
  · rw [rn_stuck (by simp [am_ret, hx]) rfl rfl]; simp [hx]
end RN
