/-! ===== one instruction of a row of steps at a time, by unification ===== -/
def lk (lv : xm_L) (n : Nat) : Option Value := (lv.find? (fun q => q.1 == n)).map (·.2)
theorem lk_get {lv : xm_L} {n : Nat} {v : Value} {f : Value → Prop} (hl : lk lv n = some v) (H : f v) : xm_get lv n f := by
  unfold lk at hl
  unfold xm_get
  cases e : lv.find? (fun q => q.1 == n) with
  | none => rw [e] at hl; cases hl
  | some q =>
    rw [e] at hl
    cases hl
    exact H
theorem by_in {j n : Nat} (hj : j < n ∧ j < 2147483648) : vp_in (nI j) n := by
  intro q
  rcases q with q | q
  · exact nI_pos hj.2 q
  · rw [nI_clamp hj.2] at q
    omega
section BY
variable {E : xm_E} {T : xm_TT} {y pc len : Nat} {lv : xm_L} {st : List Value} {h : xm_H} {post : xm_Po} {k : Nat → xm_L → List Value → xm_H → Prop} {r : List (Nat × Jvm.ClassFile.Instr × Nat)}
theorem by_nil (H : k pc lv st h) : xm_blk E T y post [] pc lv st h k := H
theorem by_iconst {n : Int} {x : Int32} (hx : Int32.ofInt n = x) (H : xm_blk E T y post r (pc + 1) lv (.int x :: st) h k) : xm_blk E T y post ((pc, .iconst n, len) :: r) pc lv (st) h k := by
  subst hx
  exact ⟨rfl, H⟩
theorem by_bipush {n : Int} {x : Int32} (hx : (Int8.ofInt n).toInt32 = x) (H : xm_blk E T y post r (pc + 2) lv (.int x :: st) h k) : xm_blk E T y post ((pc, .bipush n, len) :: r) pc lv (st) h k := by
  subst hx
  exact ⟨rfl, H⟩
theorem by_sipush {n : Int} {x : Int32} (hx : (Int16.ofInt n).toInt32 = x) (H : xm_blk E T y post r (pc + 3) lv (.int x :: st) h k) : xm_blk E T y post ((pc, .sipush n, len) :: r) pc lv (st) h k := by
  subst hx
  exact ⟨rfl, H⟩
theorem by_lconst {n : Fin 2} {x : Int64} (hx : Int64.ofNat (n : Nat) = x) (H : xm_blk E T y post r (pc + 1) lv (.long x :: st) h k) : xm_blk E T y post ((pc, .lconst n, len) :: r) pc lv (st) h k := by
  subst hx
  exact ⟨rfl, H⟩
theorem by_iload {n : Nat} {x : Int32} (hl : lk lv n = some (.int x)) (H : xm_blk E T y post r (pc + 2) lv (.int x :: st) h k) : xm_blk E T y post ((pc, .iload n, len) :: r) pc lv (st) h k := ⟨rfl, lk_get (f := fun v => xm_isI v fun x => xm_blk E T y post r (pc + 2) lv (.int x :: st) h k) hl H⟩
theorem by_iload_n {n : Fin 4} {x : Int32} (hl : lk lv (n : Nat) = some (.int x)) (H : xm_blk E T y post r (pc + 1) lv (.int x :: st) h k) : xm_blk E T y post ((pc, .iload_n n, len) :: r) pc lv (st) h k := ⟨rfl, lk_get (f := fun v => xm_isI v fun x => xm_blk E T y post r (pc + 1) lv (.int x :: st) h k) hl H⟩
theorem by_lload {n : Nat} {x : Int64} (hl : lk lv n = some (.long x)) (H : xm_blk E T y post r (pc + 2) lv (.long x :: st) h k) : xm_blk E T y post ((pc, .lload n, len) :: r) pc lv (st) h k := ⟨rfl, lk_get (f := fun v => xm_isJ v fun x => xm_blk E T y post r (pc + 2) lv (.long x :: st) h k) hl H⟩
theorem by_lload_n {n : Fin 4} {x : Int64} (hl : lk lv (n : Nat) = some (.long x)) (H : xm_blk E T y post r (pc + 1) lv (.long x :: st) h k) : xm_blk E T y post ((pc, .lload_n n, len) :: r) pc lv (st) h k := ⟨rfl, lk_get (f := fun v => xm_isJ v fun x => xm_blk E T y post r (pc + 1) lv (.long x :: st) h k) hl H⟩
theorem by_aload {n : Nat} {x : Nat} (hl : lk lv n = some (.ref x)) (H : xm_blk E T y post r (pc + 2) lv (.ref x :: st) h k) : xm_blk E T y post ((pc, .aload n, len) :: r) pc lv (st) h k := ⟨rfl, lk_get (f := fun v => xm_isR v fun x => xm_blk E T y post r (pc + 2) lv (.ref x :: st) h k) hl H⟩
theorem by_aload_n {n : Fin 4} {x : Nat} (hl : lk lv (n : Nat) = some (.ref x)) (H : xm_blk E T y post r (pc + 1) lv (.ref x :: st) h k) : xm_blk E T y post ((pc, .aload_n n, len) :: r) pc lv (st) h k := ⟨rfl, lk_get (f := fun v => xm_isR v fun x => xm_blk E T y post r (pc + 1) lv (.ref x :: st) h k) hl H⟩
theorem by_istore {n : Nat} {x : Int32} (hn : n < xe_ml E y) (H : xm_blk E T y post r (pc + 2) (xm_p1 lv n (.int x)) st h k) : xm_blk E T y post ((pc, .istore n, len) :: r) pc lv (.int x :: st) h k := ⟨rfl, hn, H⟩
theorem by_istore_n {n : Fin 4} {x : Int32} (hn : (n : Nat) < xe_ml E y) (H : xm_blk E T y post r (pc + 1) (xm_p1 lv (n : Nat) (.int x)) st h k) : xm_blk E T y post ((pc, .istore_n n, len) :: r) pc lv (.int x :: st) h k := ⟨rfl, hn, H⟩
theorem by_lstore {n : Nat} {x : Int64} (hn : n + 1 < xe_ml E y) (H : xm_blk E T y post r (pc + 2) (xm_p2 lv n (.long x)) st h k) : xm_blk E T y post ((pc, .lstore n, len) :: r) pc lv (.long x :: st) h k := ⟨rfl, hn, H⟩
theorem by_lstore_n {n : Fin 4} {x : Int64} (hn : (n : Nat) + 1 < xe_ml E y) (H : xm_blk E T y post r (pc + 1) (xm_p2 lv (n : Nat) (.long x)) st h k) : xm_blk E T y post ((pc, .lstore_n n, len) :: r) pc lv (.long x :: st) h k := ⟨rfl, hn, H⟩
theorem by_astore {n : Nat} {x : Nat} (hn : n < xe_ml E y) (H : xm_blk E T y post r (pc + 2) (xm_p1 lv n (.ref x)) st h k) : xm_blk E T y post ((pc, .astore n, len) :: r) pc lv (.ref x :: st) h k := ⟨rfl, hn, H⟩
theorem by_astore_n {n : Fin 4} {x : Nat} (hn : (n : Nat) < xe_ml E y) (H : xm_blk E T y post r (pc + 1) (xm_p1 lv (n : Nat) (.ref x)) st h k) : xm_blk E T y post ((pc, .astore_n n, len) :: r) pc lv (.ref x :: st) h k := ⟨rfl, hn, H⟩
theorem by_iinc {n : Nat} {e : Int} {x z : Int32} (hn : n < xe_ml E y) (hl : lk lv n = some (.int x)) (hz : Int32.ofInt e = z) (H : xm_blk E T y post r (pc + 3) (xm_p1 lv n (.int (x + z))) st h k) : xm_blk E T y post ((pc, .iinc n e, len) :: r) pc lv (st) h k := by
  subst hz
  exact ⟨rfl, hn, lk_get (f := fun v => xm_isI v fun x => xm_blk E T y post r (pc + 3) (xm_p1 lv n (.int (x + Int32.ofInt e))) st h k) hl H⟩
theorem by_iadd {a b : Int32} (H : xm_blk E T y post r (pc + 1) lv (.int (a + b) :: st) h k) : xm_blk E T y post ((pc, .iadd, len) :: r) pc lv (.int b :: .int a :: st) h k := ⟨rfl, H⟩
theorem by_isub {a b : Int32} (H : xm_blk E T y post r (pc + 1) lv (.int (a - b) :: st) h k) : xm_blk E T y post ((pc, .isub, len) :: r) pc lv (.int b :: .int a :: st) h k := ⟨rfl, H⟩
theorem by_imul {a b : Int32} (H : xm_blk E T y post r (pc + 1) lv (.int (a * b) :: st) h k) : xm_blk E T y post ((pc, .imul, len) :: r) pc lv (.int b :: .int a :: st) h k := ⟨rfl, H⟩
theorem by_iand {a b : Int32} (H : xm_blk E T y post r (pc + 1) lv (.int (a &&& b) :: st) h k) : xm_blk E T y post ((pc, .iand, len) :: r) pc lv (.int b :: .int a :: st) h k := ⟨rfl, H⟩
theorem by_ior {a b : Int32} (H : xm_blk E T y post r (pc + 1) lv (.int (a ||| b) :: st) h k) : xm_blk E T y post ((pc, .ior, len) :: r) pc lv (.int b :: .int a :: st) h k := ⟨rfl, H⟩
theorem by_ixor {a b : Int32} (H : xm_blk E T y post r (pc + 1) lv (.int (a ^^^ b) :: st) h k) : xm_blk E T y post ((pc, .ixor, len) :: r) pc lv (.int b :: .int a :: st) h k := ⟨rfl, H⟩
theorem by_ishl {a b : Int32} (H : xm_blk E T y post r (pc + 1) lv (.int (a <<< (b &&& 31)) :: st) h k) : xm_blk E T y post ((pc, .ishl, len) :: r) pc lv (.int b :: .int a :: st) h k := ⟨rfl, H⟩
theorem by_ishr {a b : Int32} (H : xm_blk E T y post r (pc + 1) lv (.int (a >>> (b &&& 31)) :: st) h k) : xm_blk E T y post ((pc, .ishr, len) :: r) pc lv (.int b :: .int a :: st) h k := ⟨rfl, H⟩
theorem by_iushr {a b : Int32} (H : xm_blk E T y post r (pc + 1) lv (.int ((a.toUInt32 >>> (b.toUInt32 &&& Int32.toUInt32 31)).toInt32) :: st) h k) : xm_blk E T y post ((pc, .iushr, len) :: r) pc lv (.int b :: .int a :: st) h k := ⟨rfl, H⟩
theorem by_idiv {a b : Int32} (hb : ¬ b = 0) (H : xm_blk E T y post r (pc + 1) lv (.int (a / b) :: st) h k) : xm_blk E T y post ((pc, .idiv, len) :: r) pc lv (.int b :: .int a :: st) h k := ⟨rfl, hb, H⟩
theorem by_irem {a b : Int32} (hb : ¬ b = 0) (H : xm_blk E T y post r (pc + 1) lv (.int (a - a / b * b) :: st) h k) : xm_blk E T y post ((pc, .irem, len) :: r) pc lv (.int b :: .int a :: st) h k := ⟨rfl, hb, H⟩
theorem by_ladd {a b : Int64} (H : xm_blk E T y post r (pc + 1) lv (.long (a + b) :: st) h k) : xm_blk E T y post ((pc, .ladd, len) :: r) pc lv (.long b :: .long a :: st) h k := ⟨rfl, H⟩
theorem by_lsub {a b : Int64} (H : xm_blk E T y post r (pc + 1) lv (.long (a - b) :: st) h k) : xm_blk E T y post ((pc, .lsub, len) :: r) pc lv (.long b :: .long a :: st) h k := ⟨rfl, H⟩
theorem by_lmul {a b : Int64} (H : xm_blk E T y post r (pc + 1) lv (.long (a * b) :: st) h k) : xm_blk E T y post ((pc, .lmul, len) :: r) pc lv (.long b :: .long a :: st) h k := ⟨rfl, H⟩
theorem by_land {a b : Int64} (H : xm_blk E T y post r (pc + 1) lv (.long (a &&& b) :: st) h k) : xm_blk E T y post ((pc, .land, len) :: r) pc lv (.long b :: .long a :: st) h k := ⟨rfl, H⟩
theorem by_lor {a b : Int64} (H : xm_blk E T y post r (pc + 1) lv (.long (a ||| b) :: st) h k) : xm_blk E T y post ((pc, .lor, len) :: r) pc lv (.long b :: .long a :: st) h k := ⟨rfl, H⟩
theorem by_lxor {a b : Int64} (H : xm_blk E T y post r (pc + 1) lv (.long (a ^^^ b) :: st) h k) : xm_blk E T y post ((pc, .lxor, len) :: r) pc lv (.long b :: .long a :: st) h k := ⟨rfl, H⟩
theorem by_ldiv {a b : Int64} (hb : ¬ b = 0) (H : xm_blk E T y post r (pc + 1) lv (.long (a / b) :: st) h k) : xm_blk E T y post ((pc, .ldiv, len) :: r) pc lv (.long b :: .long a :: st) h k := ⟨rfl, hb, H⟩
theorem by_lrem {a b : Int64} (hb : ¬ b = 0) (H : xm_blk E T y post r (pc + 1) lv (.long (a - a / b * b) :: st) h k) : xm_blk E T y post ((pc, .lrem, len) :: r) pc lv (.long b :: .long a :: st) h k := ⟨rfl, hb, H⟩
theorem by_lshl {a : Int64} {b : Int32} (H : xm_blk E T y post r (pc + 1) lv (.long (a <<< (b.toInt64 &&& 63)) :: st) h k) : xm_blk E T y post ((pc, .lshl, len) :: r) pc lv (.int b :: .long a :: st) h k := ⟨rfl, H⟩
theorem by_lshr {a : Int64} {b : Int32} (H : xm_blk E T y post r (pc + 1) lv (.long (a >>> (b.toInt64 &&& 63)) :: st) h k) : xm_blk E T y post ((pc, .lshr, len) :: r) pc lv (.int b :: .long a :: st) h k := ⟨rfl, H⟩
theorem by_lushr {a : Int64} {b : Int32} (H : xm_blk E T y post r (pc + 1) lv (.long ((a.toUInt64 >>> (b.toInt64.toUInt64 &&& Int64.toUInt64 63)).toInt64) :: st) h k) : xm_blk E T y post ((pc, .lushr, len) :: r) pc lv (.int b :: .long a :: st) h k := ⟨rfl, H⟩
theorem by_lcmp {a b : Int64} (H : xm_blk E T y post r (pc + 1) lv (.int (lg_cmp a b) :: st) h k) : xm_blk E T y post ((pc, .lcmp, len) :: r) pc lv (.long b :: .long a :: st) h k := ⟨rfl, H⟩
theorem by_ineg {a : Int32} (H : xm_blk E T y post r (pc + 1) lv (.int (-a) :: st) h k) : xm_blk E T y post ((pc, .ineg, len) :: r) pc lv (.int a :: st) h k := ⟨rfl, H⟩
theorem by_lneg {a : Int64} (H : xm_blk E T y post r (pc + 1) lv (.long (-a) :: st) h k) : xm_blk E T y post ((pc, .lneg, len) :: r) pc lv (.long a :: st) h k := ⟨rfl, H⟩
theorem by_i2l {a : Int32} (H : xm_blk E T y post r (pc + 1) lv (.long a.toInt64 :: st) h k) : xm_blk E T y post ((pc, .i2l, len) :: r) pc lv (.int a :: st) h k := ⟨rfl, H⟩
theorem by_l2i {a : Int64} (H : xm_blk E T y post r (pc + 1) lv (.int a.toInt32 :: st) h k) : xm_blk E T y post ((pc, .l2i, len) :: r) pc lv (.long a :: st) h k := ⟨rfl, H⟩
theorem by_i2b {a : Int32} (H : xm_blk E T y post r (pc + 1) lv (.int a.toInt8.toInt32 :: st) h k) : xm_blk E T y post ((pc, .i2b, len) :: r) pc lv (.int a :: st) h k := ⟨rfl, H⟩
theorem by_dup {v : Value} (hv : v.category = 1) (H : xm_blk E T y post r (pc + 1) lv (v :: v :: st) h k) : xm_blk E T y post ((pc, .dup, len) :: r) pc lv (v :: st) h k := ⟨rfl, hv, H⟩
theorem by_pop {v : Value} (hv : v.category = 1) (H : xm_blk E T y post r (pc + 1) lv st h k) : xm_blk E T y post ((pc, .pop, len) :: r) pc lv (v :: st) h k := ⟨rfl, hv, H⟩
theorem by_dup2 {v w : Value} (hv : v.category = 1) (hw : w.category = 1) (H : xm_blk E T y post r (pc + 1) lv (v :: w :: v :: w :: st) h k) : xm_blk E T y post ((pc, .dup2, len) :: r) pc lv (v :: w :: st) h k := ⟨rfl, hv, hw, H⟩
theorem by_to {off : Int} {f : Nat → Prop} (t : Nat) (ht : (pc : Int) + off = (t : Int)) (H : f t) : xm_to pc off f := by
  unfold xm_to
  rw [ht]
  exact ⟨Int.natCast_nonneg t, H⟩
theorem by_goto {off : Int} (t : Nat) (ht : (pc : Int) + off = (t : Int)) (H : k t lv st h) : xm_blk E T y post [(pc, .goto off, len)] pc lv st h k := ⟨rfl, by_to (f := fun t => k t lv st h) t ht H⟩
theorem by_if_eq {off : Int} {x : Int32} (t : Nat) (ht : (pc : Int) + off = (t : Int)) (H : (x = 0 → k t lv st h) ∧ (¬ x = 0 → k (pc + 3) lv st h)) : xm_blk E T y post [(pc, .ifCond .eq off, len)] pc lv (.int x :: st) h k := ⟨rfl, by_to (f := fun t => (x = 0 → k t lv st h) ∧ (¬ x = 0 → k (pc + 3) lv st h)) t ht H⟩
theorem by_if_ne {off : Int} {x : Int32} (t : Nat) (ht : (pc : Int) + off = (t : Int)) (H : (¬ x = 0 → k t lv st h) ∧ (¬ (¬ x = 0) → k (pc + 3) lv st h)) : xm_blk E T y post [(pc, .ifCond .ne off, len)] pc lv (.int x :: st) h k := ⟨rfl, by_to (f := fun t => (¬ x = 0 → k t lv st h) ∧ (¬ (¬ x = 0) → k (pc + 3) lv st h)) t ht H⟩
theorem by_if_lt {off : Int} {x : Int32} (t : Nat) (ht : (pc : Int) + off = (t : Int)) (H : (x < 0 → k t lv st h) ∧ (¬ x < 0 → k (pc + 3) lv st h)) : xm_blk E T y post [(pc, .ifCond .lt off, len)] pc lv (.int x :: st) h k := ⟨rfl, by_to (f := fun t => (x < 0 → k t lv st h) ∧ (¬ x < 0 → k (pc + 3) lv st h)) t ht H⟩
theorem by_if_ge {off : Int} {x : Int32} (t : Nat) (ht : (pc : Int) + off = (t : Int)) (H : (0 ≤ x → k t lv st h) ∧ (¬ 0 ≤ x → k (pc + 3) lv st h)) : xm_blk E T y post [(pc, .ifCond .ge off, len)] pc lv (.int x :: st) h k := ⟨rfl, by_to (f := fun t => (0 ≤ x → k t lv st h) ∧ (¬ 0 ≤ x → k (pc + 3) lv st h)) t ht H⟩
theorem by_if_gt {off : Int} {x : Int32} (t : Nat) (ht : (pc : Int) + off = (t : Int)) (H : (0 < x → k t lv st h) ∧ (¬ 0 < x → k (pc + 3) lv st h)) : xm_blk E T y post [(pc, .ifCond .gt off, len)] pc lv (.int x :: st) h k := ⟨rfl, by_to (f := fun t => (0 < x → k t lv st h) ∧ (¬ 0 < x → k (pc + 3) lv st h)) t ht H⟩
theorem by_if_le {off : Int} {x : Int32} (t : Nat) (ht : (pc : Int) + off = (t : Int)) (H : (x ≤ 0 → k t lv st h) ∧ (¬ x ≤ 0 → k (pc + 3) lv st h)) : xm_blk E T y post [(pc, .ifCond .le off, len)] pc lv (.int x :: st) h k := ⟨rfl, by_to (f := fun t => (x ≤ 0 → k t lv st h) ∧ (¬ x ≤ 0 → k (pc + 3) lv st h)) t ht H⟩
theorem by_ic_eq {off : Int} {a b : Int32} (t : Nat) (ht : (pc : Int) + off = (t : Int)) (H : (a = b → k t lv st h) ∧ (¬ a = b → k (pc + 3) lv st h)) : xm_blk E T y post [(pc, .if_icmp .eq off, len)] pc lv (.int b :: .int a :: st) h k := ⟨rfl, by_to (f := fun t => (a = b → k t lv st h) ∧ (¬ a = b → k (pc + 3) lv st h)) t ht H⟩
theorem by_ic_ne {off : Int} {a b : Int32} (t : Nat) (ht : (pc : Int) + off = (t : Int)) (H : (¬ a = b → k t lv st h) ∧ (¬ (¬ a = b) → k (pc + 3) lv st h)) : xm_blk E T y post [(pc, .if_icmp .ne off, len)] pc lv (.int b :: .int a :: st) h k := ⟨rfl, by_to (f := fun t => (¬ a = b → k t lv st h) ∧ (¬ (¬ a = b) → k (pc + 3) lv st h)) t ht H⟩
theorem by_ic_lt {off : Int} {a b : Int32} (t : Nat) (ht : (pc : Int) + off = (t : Int)) (H : (a < b → k t lv st h) ∧ (¬ a < b → k (pc + 3) lv st h)) : xm_blk E T y post [(pc, .if_icmp .lt off, len)] pc lv (.int b :: .int a :: st) h k := ⟨rfl, by_to (f := fun t => (a < b → k t lv st h) ∧ (¬ a < b → k (pc + 3) lv st h)) t ht H⟩
theorem by_ic_ge {off : Int} {a b : Int32} (t : Nat) (ht : (pc : Int) + off = (t : Int)) (H : (b ≤ a → k t lv st h) ∧ (¬ b ≤ a → k (pc + 3) lv st h)) : xm_blk E T y post [(pc, .if_icmp .ge off, len)] pc lv (.int b :: .int a :: st) h k := ⟨rfl, by_to (f := fun t => (b ≤ a → k t lv st h) ∧ (¬ b ≤ a → k (pc + 3) lv st h)) t ht H⟩
theorem by_ic_gt {off : Int} {a b : Int32} (t : Nat) (ht : (pc : Int) + off = (t : Int)) (H : (b < a → k t lv st h) ∧ (¬ b < a → k (pc + 3) lv st h)) : xm_blk E T y post [(pc, .if_icmp .gt off, len)] pc lv (.int b :: .int a :: st) h k := ⟨rfl, by_to (f := fun t => (b < a → k t lv st h) ∧ (¬ b < a → k (pc + 3) lv st h)) t ht H⟩
theorem by_ic_le {off : Int} {a b : Int32} (t : Nat) (ht : (pc : Int) + off = (t : Int)) (H : (a ≤ b → k t lv st h) ∧ (¬ a ≤ b → k (pc + 3) lv st h)) : xm_blk E T y post [(pc, .if_icmp .le off, len)] pc lv (.int b :: .int a :: st) h k := ⟨rfl, by_to (f := fun t => (a ≤ b → k t lv st h) ∧ (¬ a ≤ b → k (pc + 3) lv st h)) t ht H⟩
theorem by_getf {idx ci j N a c : Nat} (hc : xe_cn E y = c) (hf : xe_fl E c idx = some (ci, j)) (hs : (xe_sh E)[a]? = some (.inr (ci, N))) (hj : j < N) (H : xm_blk E T y post r (pc + 3) lv (h.2.2 a j :: st) h k) : xm_blk E T y post ((pc, .getfield idx, len) :: r) pc lv (.ref a :: st) h k := by
  refine ⟨rfl, ?_⟩
  simp only [xm_step, xm_st, xl_r1, hc, hf, hs]
  exact ⟨trivial, hj, H⟩
theorem by_putf {idx ci j N a c : Nat} {v : Value} {ty : FieldType} (hc : xe_cn E y = c) (hf : xe_fl E c idx = some (ci, j)) (hs : (xe_sh E)[a]? = some (.inr (ci, N))) (hj : j < N) (hnf : xm_nf (xe_cl E) ci j = True) (hft : xe_ft E ci j = ty) (hn : narrow ty v = v) (hfi : fits ty v = true) (H : xm_blk E T y post r (pc + 3) lv st (xm_sf h a j v) k) : xm_blk E T y post ((pc, .putfield idx, len) :: r) pc lv (v :: .ref a :: st) h k := by
  refine ⟨rfl, ?_⟩
  simp only [xm_step, xm_st, xl_vr, hc, hf, hs]
  exact ⟨trivial, hj, of_eq_true hnf, by rw [hft]; exact hn, by rw [hft]; exact hfi, H⟩
theorem by_iald {a n j : Nat} (hs : (xe_sh E)[a]? = some (.inl (.int, n))) (hj : j < n ∧ j < 2147483648) (H : xm_blk E T y post r (pc + 1) lv (.int (h.1 a j) :: st) h k) : xm_blk E T y post ((pc, .iaload, len) :: r) pc lv (.int (nI j) :: .ref a :: st) h k := by
  refine ⟨rfl, ?_⟩
  simp only [xm_step, xm_st, xl_ri, hs]
  rw [nI_clamp hj.2]
  exact ⟨by_in hj, H⟩
theorem by_tald {a n j : Nat} {f : Nat → Int32} (hs : (xe_sh E)[a]? = none) (ht : xe_tI E a = some (n, f)) (hj : j < n ∧ j < 2147483648) (H : xm_blk E T y post r (pc + 1) lv (.int (f j) :: st) h k) : xm_blk E T y post ((pc, .iaload, len) :: r) pc lv (.int (nI j) :: .ref a :: st) h k := by
  refine ⟨rfl, ?_⟩
  simp only [xm_step, xm_st, xl_ri, hs, ht]
  rw [nI_clamp hj.2]
  exact ⟨by_in hj, H⟩
theorem by_bald {a n j : Nat} {ty : FieldType} (hty : ty = .byte ∨ ty = .boolean) (hs : (xe_sh E)[a]? = some (.inl (ty, n))) (hj : j < n ∧ j < 2147483648) (H : xm_blk E T y post r (pc + 1) lv (.int (h.1 a j) :: st) h k) : xm_blk E T y post ((pc, .baload, len) :: r) pc lv (.int (nI j) :: .ref a :: st) h k := by
  refine ⟨rfl, ?_⟩
  rcases hty with rfl | rfl <;> simp only [xm_step, xm_st, xl_ri, hs] <;> rw [nI_clamp hj.2] <;> exact ⟨by_in hj, H⟩
theorem by_lald {a n j : Nat} (hs : (xe_sh E)[a]? = some (.inl (.long, n))) (hj : j < n ∧ j < 2147483648) (H : xm_blk E T y post r (pc + 1) lv (.long (h.2.1 a j) :: st) h k) : xm_blk E T y post ((pc, .laload, len) :: r) pc lv (.int (nI j) :: .ref a :: st) h k := by
  refine ⟨rfl, ?_⟩
  simp only [xm_step, xm_st, xl_ri, hs]
  rw [nI_clamp hj.2]
  exact ⟨by_in hj, H⟩
theorem by_tlald {a n j : Nat} {f : Nat → Int64} (hs : (xe_sh E)[a]? = none) (ht : xe_tL E a = some (n, f)) (hj : j < n ∧ j < 2147483648) (H : xm_blk E T y post r (pc + 1) lv (.long (f j) :: st) h k) : xm_blk E T y post ((pc, .laload, len) :: r) pc lv (.int (nI j) :: .ref a :: st) h k := by
  refine ⟨rfl, ?_⟩
  simp only [xm_step, xm_st, xl_ri, hs, ht]
  rw [nI_clamp hj.2]
  exact ⟨by_in hj, H⟩
theorem by_iast {a n j : Nat} {x : Int32} (hs : (xe_sh E)[a]? = some (.inl (.int, n))) (hj : j < n ∧ j < 2147483648) (H : xm_blk E T y post r (pc + 1) lv st (xm_si h a j x) k) : xm_blk E T y post ((pc, .iastore, len) :: r) pc lv (.int x :: .int (nI j) :: .ref a :: st) h k := by
  refine ⟨rfl, ?_⟩
  simp only [xm_step, xm_st, xl_rii, hs]
  rw [nI_clamp hj.2]
  exact ⟨by_in hj, H⟩
theorem by_bast {a n j : Nat} {x : Int32} (hs : (xe_sh E)[a]? = some (.inl (.byte, n))) (hj : j < n ∧ j < 2147483648) (H : xm_blk E T y post r (pc + 1) lv st (xm_si h a j (vp_nar .byte x)) k) : xm_blk E T y post ((pc, .bastore, len) :: r) pc lv (.int x :: .int (nI j) :: .ref a :: st) h k := by
  refine ⟨rfl, ?_⟩
  simp only [xm_step, xm_st, xl_rii, hs]
  rw [nI_clamp hj.2]
  exact ⟨by_in hj, H⟩
theorem by_zast {a n j : Nat} {x : Int32} (hs : (xe_sh E)[a]? = some (.inl (.boolean, n))) (hj : j < n ∧ j < 2147483648) (H : xm_blk E T y post r (pc + 1) lv st (xm_si h a j (vp_nar .boolean x)) k) : xm_blk E T y post ((pc, .bastore, len) :: r) pc lv (.int x :: .int (nI j) :: .ref a :: st) h k := by
  refine ⟨rfl, ?_⟩
  simp only [xm_step, xm_st, xl_rii, hs]
  rw [nI_clamp hj.2]
  exact ⟨by_in hj, H⟩
theorem by_last {a n j : Nat} {x : Int64} (hs : (xe_sh E)[a]? = some (.inl (.long, n))) (hj : j < n ∧ j < 2147483648) (H : xm_blk E T y post r (pc + 1) lv st (xm_sl h a j x) k) : xm_blk E T y post ((pc, .lastore, len) :: r) pc lv (.long x :: .int (nI j) :: .ref a :: st) h k := by
  refine ⟨rfl, ?_⟩
  simp only [xm_step, xm_st, xl_ril, hs]
  rw [nI_clamp hj.2]
  exact ⟨by_in hj, H⟩
theorem by_ldc {idx c : Nat} {v x : Int32} (hc : xe_cn E y = c) (hk : xe_kI E c idx = some v) (hx : v = x) (H : xm_blk E T y post r (pc + 2) lv (.int x :: st) h k) : xm_blk E T y post ((pc, .ldc idx, len) :: r) pc lv st h k := by
  subst hx
  refine ⟨rfl, ?_⟩
  simp only [xm_step, xm_st, hc, hk]
  exact H
theorem by_ldc_w {idx c : Nat} {v x : Int32} (hc : xe_cn E y = c) (hk : xe_kI E c idx = some v) (hx : v = x) (H : xm_blk E T y post r (pc + 3) lv (.int x :: st) h k) : xm_blk E T y post ((pc, .ldc_w idx, len) :: r) pc lv st h k := by
  subst hx
  refine ⟨rfl, ?_⟩
  simp only [xm_step, xm_st, hc, hk]
  exact H
theorem by_ldc2 {idx c : Nat} {v x : Int64} (hc : xe_cn E y = c) (hk : xe_kL E c idx = some v) (hx : v = x) (H : xm_blk E T y post r (pc + 3) lv (.long x :: st) h k) : xm_blk E T y post ((pc, .ldc2_w idx, len) :: r) pc lv st h k := by
  subst hx
  refine ⟨rfl, ?_⟩
  simp only [xm_step, xm_st, hc, hk]
  exact H
theorem by_gets {idx c a : Nat} (hc : xe_cn E y = c) (hk : xe_gs E c idx = some a) (H : xm_blk E T y post r (pc + 3) lv (.ref a :: st) h k) : xm_blk E T y post ((pc, .getstatic idx, len) :: r) pc lv st h k := by
  refine ⟨rfl, ?_⟩
  simp only [xm_step, xm_st, hc, hk]
  exact H
theorem by_alen {a n : Nat} {f : Nat → Int32} (ht : xe_tI E a = some (n, f)) (H : xm_blk E T y post r (pc + 1) lv (.int (nI n) :: st) h k) : xm_blk E T y post ((pc, .arraylength, len) :: r) pc lv (.ref a :: st) h k := by
  refine ⟨rfl, ?_⟩
  simp only [xm_step, xm_st, xl_r1, ht]
  exact H
theorem by_iret {v : Int32} {ty : FieldType} (hr : xe_ry E y = some ty) (hn : narrow ty (.int v) = .int v) (H : post (some (.int v)) h) : xm_blk E T y post [(pc, .ireturn, len)] pc lv [.int v] h k := by
  refine ⟨rfl, ?_⟩
  simp only [xm_step, hr]
  exact ⟨hn, H⟩
theorem by_lret {v : Int64} (hr : xe_ry E y = some .long) (H : post (some (.long v)) h) : xm_blk E T y post [(pc, .lreturn, len)] pc lv [.long v] h k := ⟨rfl, hr, H⟩
theorem by_ret (hr : xe_ry E y = none) (H : post none h) : xm_blk E T y post [(pc, .return_, len)] pc lv [] h k := ⟨rfl, rfl, hr, H⟩
theorem by_sw {dflt lo hi : Int} {offs : Array Int} {x : Int32} (H : xm_sw pc lo hi dflt offs x fun t => k t lv st h) : xm_blk E T y post [(pc, .tableswitch dflt lo hi offs, len)] pc lv (.int x :: st) h k := ⟨rfl, H⟩
theorem by_inv0 {idx c z cz N b : Nat} {rest : List Value} (hc : xe_cn E y = c) (hl : xe_lk E c idx = some z) (hz : z < xe_n E) (hi : xe_is E z = false) (hn : xe_np E z = 0) (hcz : xe_cn E z = cz) (hs : (xe_sh E)[b]? = some (.inr (cz, N))) (hr : (rest.map fun v => v.category).sum ≤ 9) (H : T z [.ref b] h (fun r h' => k (pc + 3) lv (r.toList ++ rest) h')) : xm_blk E T y post [(pc, .invokevirtual idx, len)] pc lv (.ref b :: rest) h k := by
  refine ⟨rfl, ?_⟩
  simp only [xm_step, hc, hl, xm_cv, hn]
  refine ⟨hz, hi, by simp only [List.length_cons]; omega, ?_⟩
  show (match (xe_sh E)[b]? with
        | some (.inr q) => q.1 = xe_cn E z
        | _ => False) ∧ _ ∧ _
  rw [hs]
  exact ⟨hcz.symm, hr, H⟩
theorem by_inv1 {idx c z cz N b : Nat} {v1 : Value} {rest : List Value} (hc : xe_cn E y = c) (hl : xe_lk E c idx = some z) (hz : z < xe_n E) (hi : xe_is E z = false) (hn : xe_np E z = 1) (hcz : xe_cn E z = cz) (hs : (xe_sh E)[b]? = some (.inr (cz, N))) (hr : (rest.map fun v => v.category).sum ≤ 9) (H : T z [.ref b, v1] h (fun r h' => k (pc + 3) lv (r.toList ++ rest) h')) : xm_blk E T y post [(pc, .invokevirtual idx, len)] pc lv (v1 :: .ref b :: rest) h k := by
  refine ⟨rfl, ?_⟩
  simp only [xm_step, hc, hl, xm_cv, hn]
  refine ⟨hz, hi, by simp only [List.length_cons]; omega, ?_⟩
  show (match (xe_sh E)[b]? with
        | some (.inr q) => q.1 = xe_cn E z
        | _ => False) ∧ _ ∧ _
  rw [hs]
  exact ⟨hcz.symm, hr, H⟩
theorem by_inv2 {idx c z cz N b : Nat} {v1 v2 : Value} {rest : List Value} (hc : xe_cn E y = c) (hl : xe_lk E c idx = some z) (hz : z < xe_n E) (hi : xe_is E z = false) (hn : xe_np E z = 2) (hcz : xe_cn E z = cz) (hs : (xe_sh E)[b]? = some (.inr (cz, N))) (hr : (rest.map fun v => v.category).sum ≤ 9) (H : T z [.ref b, v1, v2] h (fun r h' => k (pc + 3) lv (r.toList ++ rest) h')) : xm_blk E T y post [(pc, .invokevirtual idx, len)] pc lv (v2 :: v1 :: .ref b :: rest) h k := by
  refine ⟨rfl, ?_⟩
  simp only [xm_step, hc, hl, xm_cv, hn]
  refine ⟨hz, hi, by simp only [List.length_cons]; omega, ?_⟩
  show (match (xe_sh E)[b]? with
        | some (.inr q) => q.1 = xe_cn E z
        | _ => False) ∧ _ ∧ _
  rw [hs]
  exact ⟨hcz.symm, hr, H⟩
theorem by_inv3 {idx c z cz N b : Nat} {v1 v2 v3 : Value} {rest : List Value} (hc : xe_cn E y = c) (hl : xe_lk E c idx = some z) (hz : z < xe_n E) (hi : xe_is E z = false) (hn : xe_np E z = 3) (hcz : xe_cn E z = cz) (hs : (xe_sh E)[b]? = some (.inr (cz, N))) (hr : (rest.map fun v => v.category).sum ≤ 9) (H : T z [.ref b, v1, v2, v3] h (fun r h' => k (pc + 3) lv (r.toList ++ rest) h')) : xm_blk E T y post [(pc, .invokevirtual idx, len)] pc lv (v3 :: v2 :: v1 :: .ref b :: rest) h k := by
  refine ⟨rfl, ?_⟩
  simp only [xm_step, hc, hl, xm_cv, hn]
  refine ⟨hz, hi, by simp only [List.length_cons]; omega, ?_⟩
  show (match (xe_sh E)[b]? with
        | some (.inr q) => q.1 = xe_cn E z
        | _ => False) ∧ _ ∧ _
  rw [hs]
  exact ⟨hcz.symm, hr, H⟩
theorem by_inv4 {idx c z cz N b : Nat} {v1 v2 v3 v4 : Value} {rest : List Value} (hc : xe_cn E y = c) (hl : xe_lk E c idx = some z) (hz : z < xe_n E) (hi : xe_is E z = false) (hn : xe_np E z = 4) (hcz : xe_cn E z = cz) (hs : (xe_sh E)[b]? = some (.inr (cz, N))) (hr : (rest.map fun v => v.category).sum ≤ 9) (H : T z [.ref b, v1, v2, v3, v4] h (fun r h' => k (pc + 3) lv (r.toList ++ rest) h')) : xm_blk E T y post [(pc, .invokevirtual idx, len)] pc lv (v4 :: v3 :: v2 :: v1 :: .ref b :: rest) h k := by
  refine ⟨rfl, ?_⟩
  simp only [xm_step, hc, hl, xm_cv, hn]
  refine ⟨hz, hi, by simp only [List.length_cons]; omega, ?_⟩
  show (match (xe_sh E)[b]? with
        | some (.inr q) => q.1 = xe_cn E z
        | _ => False) ∧ _ ∧ _
  rw [hs]
  exact ⟨hcz.symm, hr, H⟩
theorem by_inv5 {idx c z cz N b : Nat} {v1 v2 v3 v4 v5 : Value} {rest : List Value} (hc : xe_cn E y = c) (hl : xe_lk E c idx = some z) (hz : z < xe_n E) (hi : xe_is E z = false) (hn : xe_np E z = 5) (hcz : xe_cn E z = cz) (hs : (xe_sh E)[b]? = some (.inr (cz, N))) (hr : (rest.map fun v => v.category).sum ≤ 9) (H : T z [.ref b, v1, v2, v3, v4, v5] h (fun r h' => k (pc + 3) lv (r.toList ++ rest) h')) : xm_blk E T y post [(pc, .invokevirtual idx, len)] pc lv (v5 :: v4 :: v3 :: v2 :: v1 :: .ref b :: rest) h k := by
  refine ⟨rfl, ?_⟩
  simp only [xm_step, hc, hl, xm_cv, hn]
  refine ⟨hz, hi, by simp only [List.length_cons]; omega, ?_⟩
  show (match (xe_sh E)[b]? with
        | some (.inr q) => q.1 = xe_cn E z
        | _ => False) ∧ _ ∧ _
  rw [hs]
  exact ⟨hcz.symm, hr, H⟩
theorem by_inv6 {idx c z cz N b : Nat} {v1 v2 v3 v4 v5 v6 : Value} {rest : List Value} (hc : xe_cn E y = c) (hl : xe_lk E c idx = some z) (hz : z < xe_n E) (hi : xe_is E z = false) (hn : xe_np E z = 6) (hcz : xe_cn E z = cz) (hs : (xe_sh E)[b]? = some (.inr (cz, N))) (hr : (rest.map fun v => v.category).sum ≤ 9) (H : T z [.ref b, v1, v2, v3, v4, v5, v6] h (fun r h' => k (pc + 3) lv (r.toList ++ rest) h')) : xm_blk E T y post [(pc, .invokevirtual idx, len)] pc lv (v6 :: v5 :: v4 :: v3 :: v2 :: v1 :: .ref b :: rest) h k := by
  refine ⟨rfl, ?_⟩
  simp only [xm_step, hc, hl, xm_cv, hn]
  refine ⟨hz, hi, by simp only [List.length_cons]; omega, ?_⟩
  show (match (xe_sh E)[b]? with
        | some (.inr q) => q.1 = xe_cn E z
        | _ => False) ∧ _ ∧ _
  rw [hs]
  exact ⟨hcz.symm, hr, H⟩
theorem by_inv7 {idx c z cz N b : Nat} {v1 v2 v3 v4 v5 v6 v7 : Value} {rest : List Value} (hc : xe_cn E y = c) (hl : xe_lk E c idx = some z) (hz : z < xe_n E) (hi : xe_is E z = false) (hn : xe_np E z = 7) (hcz : xe_cn E z = cz) (hs : (xe_sh E)[b]? = some (.inr (cz, N))) (hr : (rest.map fun v => v.category).sum ≤ 9) (H : T z [.ref b, v1, v2, v3, v4, v5, v6, v7] h (fun r h' => k (pc + 3) lv (r.toList ++ rest) h')) : xm_blk E T y post [(pc, .invokevirtual idx, len)] pc lv (v7 :: v6 :: v5 :: v4 :: v3 :: v2 :: v1 :: .ref b :: rest) h k := by
  refine ⟨rfl, ?_⟩
  simp only [xm_step, hc, hl, xm_cv, hn]
  refine ⟨hz, hi, by simp only [List.length_cons]; omega, ?_⟩
  show (match (xe_sh E)[b]? with
        | some (.inr q) => q.1 = xe_cn E z
        | _ => False) ∧ _ ∧ _
  rw [hs]
  exact ⟨hcz.symm, hr, H⟩
theorem by_inv8 {idx c z cz N b : Nat} {v1 v2 v3 v4 v5 v6 v7 v8 : Value} {rest : List Value} (hc : xe_cn E y = c) (hl : xe_lk E c idx = some z) (hz : z < xe_n E) (hi : xe_is E z = false) (hn : xe_np E z = 8) (hcz : xe_cn E z = cz) (hs : (xe_sh E)[b]? = some (.inr (cz, N))) (hr : (rest.map fun v => v.category).sum ≤ 9) (H : T z [.ref b, v1, v2, v3, v4, v5, v6, v7, v8] h (fun r h' => k (pc + 3) lv (r.toList ++ rest) h')) : xm_blk E T y post [(pc, .invokevirtual idx, len)] pc lv (v8 :: v7 :: v6 :: v5 :: v4 :: v3 :: v2 :: v1 :: .ref b :: rest) h k := by
  refine ⟨rfl, ?_⟩
  simp only [xm_step, hc, hl, xm_cv, hn]
  refine ⟨hz, hi, by simp only [List.length_cons]; omega, ?_⟩
  show (match (xe_sh E)[b]? with
        | some (.inr q) => q.1 = xe_cn E z
        | _ => False) ∧ _ ∧ _
  rw [hs]
  exact ⟨hcz.symm, hr, H⟩
theorem by_ins1 {idx c z : Nat} {v1 : Value} {rest : List Value} (hc : xe_cn E y = c) (hl : xe_lk E c idx = some z) (hz : z < xe_n E) (hi : xe_is E z = true) (hn : xe_np E z = 1) (hr : (rest.map fun v => v.category).sum ≤ 8) (H : T z [v1] h (fun r h' => k (pc + 3) lv (r.toList ++ rest) h')) : xm_blk E T y post [(pc, .invokestatic idx, len)] pc lv (v1 :: rest) h k := by
  refine ⟨rfl, ?_⟩
  simp only [xm_step, hc, hl, xm_cs, hn]
  rw [if_pos hz]
  exact ⟨hi, by simp only [List.length_cons]; omega, hr, H⟩
theorem by_ins2 {idx c z : Nat} {v1 v2 : Value} {rest : List Value} (hc : xe_cn E y = c) (hl : xe_lk E c idx = some z) (hz : z < xe_n E) (hi : xe_is E z = true) (hn : xe_np E z = 2) (hr : (rest.map fun v => v.category).sum ≤ 8) (H : T z [v1, v2] h (fun r h' => k (pc + 3) lv (r.toList ++ rest) h')) : xm_blk E T y post [(pc, .invokestatic idx, len)] pc lv (v2 :: v1 :: rest) h k := by
  refine ⟨rfl, ?_⟩
  simp only [xm_step, hc, hl, xm_cs, hn]
  rw [if_pos hz]
  exact ⟨hi, by simp only [List.length_cons]; omega, hr, H⟩
theorem by_ins3 {idx c z : Nat} {v1 v2 v3 : Value} {rest : List Value} (hc : xe_cn E y = c) (hl : xe_lk E c idx = some z) (hz : z < xe_n E) (hi : xe_is E z = true) (hn : xe_np E z = 3) (hr : (rest.map fun v => v.category).sum ≤ 8) (H : T z [v1, v2, v3] h (fun r h' => k (pc + 3) lv (r.toList ++ rest) h')) : xm_blk E T y post [(pc, .invokestatic idx, len)] pc lv (v3 :: v2 :: v1 :: rest) h k := by
  refine ⟨rfl, ?_⟩
  simp only [xm_step, hc, hl, xm_cs, hn]
  rw [if_pos hz]
  exact ⟨hi, by simp only [List.length_cons]; omega, hr, H⟩
theorem by_ins4 {idx c z : Nat} {v1 v2 v3 v4 : Value} {rest : List Value} (hc : xe_cn E y = c) (hl : xe_lk E c idx = some z) (hz : z < xe_n E) (hi : xe_is E z = true) (hn : xe_np E z = 4) (hr : (rest.map fun v => v.category).sum ≤ 8) (H : T z [v1, v2, v3, v4] h (fun r h' => k (pc + 3) lv (r.toList ++ rest) h')) : xm_blk E T y post [(pc, .invokestatic idx, len)] pc lv (v4 :: v3 :: v2 :: v1 :: rest) h k := by
  refine ⟨rfl, ?_⟩
  simp only [xm_step, hc, hl, xm_cs, hn]
  rw [if_pos hz]
  exact ⟨hi, by simp only [List.length_cons]; omega, hr, H⟩
theorem by_ins5 {idx c z : Nat} {v1 v2 v3 v4 v5 : Value} {rest : List Value} (hc : xe_cn E y = c) (hl : xe_lk E c idx = some z) (hz : z < xe_n E) (hi : xe_is E z = true) (hn : xe_np E z = 5) (hr : (rest.map fun v => v.category).sum ≤ 8) (H : T z [v1, v2, v3, v4, v5] h (fun r h' => k (pc + 3) lv (r.toList ++ rest) h')) : xm_blk E T y post [(pc, .invokestatic idx, len)] pc lv (v5 :: v4 :: v3 :: v2 :: v1 :: rest) h k := by
  refine ⟨rfl, ?_⟩
  simp only [xm_step, hc, hl, xm_cs, hn]
  rw [if_pos hz]
  exact ⟨hi, by simp only [List.length_cons]; omega, hr, H⟩
theorem by_ins6 {idx c z : Nat} {v1 v2 v3 v4 v5 v6 : Value} {rest : List Value} (hc : xe_cn E y = c) (hl : xe_lk E c idx = some z) (hz : z < xe_n E) (hi : xe_is E z = true) (hn : xe_np E z = 6) (hr : (rest.map fun v => v.category).sum ≤ 8) (H : T z [v1, v2, v3, v4, v5, v6] h (fun r h' => k (pc + 3) lv (r.toList ++ rest) h')) : xm_blk E T y post [(pc, .invokestatic idx, len)] pc lv (v6 :: v5 :: v4 :: v3 :: v2 :: v1 :: rest) h k := by
  refine ⟨rfl, ?_⟩
  simp only [xm_step, hc, hl, xm_cs, hn]
  rw [if_pos hz]
  exact ⟨hi, by simp only [List.length_cons]; omega, hr, H⟩
theorem by_ins7 {idx c z : Nat} {v1 v2 v3 v4 v5 v6 v7 : Value} {rest : List Value} (hc : xe_cn E y = c) (hl : xe_lk E c idx = some z) (hz : z < xe_n E) (hi : xe_is E z = true) (hn : xe_np E z = 7) (hr : (rest.map fun v => v.category).sum ≤ 8) (H : T z [v1, v2, v3, v4, v5, v6, v7] h (fun r h' => k (pc + 3) lv (r.toList ++ rest) h')) : xm_blk E T y post [(pc, .invokestatic idx, len)] pc lv (v7 :: v6 :: v5 :: v4 :: v3 :: v2 :: v1 :: rest) h k := by
  refine ⟨rfl, ?_⟩
  simp only [xm_step, hc, hl, xm_cs, hn]
  rw [if_pos hz]
  exact ⟨hi, by simp only [List.length_cons]; omega, hr, H⟩
theorem by_ins8 {idx c z : Nat} {v1 v2 v3 v4 v5 v6 v7 v8 : Value} {rest : List Value} (hc : xe_cn E y = c) (hl : xe_lk E c idx = some z) (hz : z < xe_n E) (hi : xe_is E z = true) (hn : xe_np E z = 8) (hr : (rest.map fun v => v.category).sum ≤ 8) (H : T z [v1, v2, v3, v4, v5, v6, v7, v8] h (fun r h' => k (pc + 3) lv (r.toList ++ rest) h')) : xm_blk E T y post [(pc, .invokestatic idx, len)] pc lv (v8 :: v7 :: v6 :: v5 :: v4 :: v3 :: v2 :: v1 :: rest) h k := by
  refine ⟨rfl, ?_⟩
  simp only [xm_step, hc, hl, xm_cs, hn]
  rw [if_pos hz]
  exact ⟨hi, by simp only [List.length_cons]; omega, hr, H⟩
theorem by_acp {idx c z a b n sp dp A B : Nat} {ty : FieldType} {rest : List Value} (hc : xe_cn E y = c) (hl : xe_lk E c idx = some z) (hz : z = xe_n E) (hb : (xe_sh E)[b]? = some (.inl (ty, B))) (ha : (xe_sh E)[a]? = some (.inl (ty, A))) (hty : ty ≠ .long ∧ refKind ty = false) (hle : sp + n ≤ B ∧ dp + n ≤ A ∧ sp + n < 2147483648 ∧ dp + n < 2147483648) (hft : ∀ i, i < n → fits ty (.int (h.1 b (sp + i))) = true) (hr : (rest.map fun v => v.category).sum ≤ 8) (H : k (pc + 3) lv rest (xm_sa h a (va_cpy (h.1 b) (h.1 a) sp dp n))) : xm_blk E T y post [(pc, .invokestatic idx, len)] pc lv (.int (nI n) :: .int (nI dp) :: .ref a :: .int (nI sp) :: .ref b :: rest) h k := by
  subst hz
  refine ⟨rfl, ?_⟩
  simp only [xm_step, hc, hl]
  rw [if_neg (Nat.lt_irrefl _), Nat.sub_self]
  simp only [xm_ext, xm_acp, ha, hb]
  rw [nI_clamp (by omega), nI_clamp (by omega), nI_clamp (by omega)]
  exact ⟨⟨trivial, hty.1, hty.2, nI_pos (by omega), nI_pos (by omega), nI_pos (by omega), hle.1, hle.2.1, hft, hr⟩, H⟩
theorem by_max {idx c z : Nat} {a b : Int32} {rest : List Value} (hc : xe_cn E y = c) (hl : xe_lk E c idx = some z) (hz : z = xe_n E + 1) (hr : (rest.map fun v => v.category).sum ≤ 8) (H : k (pc + 3) lv (.int (if a < b then b else a) :: rest) h) : xm_blk E T y post [(pc, .invokestatic idx, len)] pc lv (.int b :: .int a :: rest) h k := by
  subst hz
  refine ⟨rfl, ?_⟩
  simp only [xm_step, hc, hl]
  rw [if_neg (by omega), Nat.add_sub_cancel_left]
  exact ⟨hr, H⟩
theorem by_min {idx c z : Nat} {a b : Int32} {rest : List Value} (hc : xe_cn E y = c) (hl : xe_lk E c idx = some z) (hz : z = xe_n E + 2) (hr : (rest.map fun v => v.category).sum ≤ 8) (H : k (pc + 3) lv (.int (if b < a then b else a) :: rest) h) : xm_blk E T y post [(pc, .invokestatic idx, len)] pc lv (.int b :: .int a :: rest) h k := by
  subst hz
  refine ⟨rfl, ?_⟩
  simp only [xm_step, hc, hl]
  rw [if_neg (by omega), Nat.add_sub_cancel_left]
  exact ⟨hr, H⟩
end BY
