/-! ===== rows of bits as numbers, the first one highest ===== -/
def bnum (l : List Bool) : Nat := l.foldl (fun a b => 2 * a + b.toNat) 0
def bbits : Nat → Nat → List Bool
  | 0, _ => []
  | w + 1, x => (x / 2 ^ w % 2 == 1) :: bbits w x
theorem bbits_len : ∀ (w x : Nat), (bbits w x).length = w
  | 0, _ => rfl
  | w + 1, x => by rw [bbits, List.length_cons, bbits_len w x]
theorem bnum_fold : ∀ (l : List Bool) (a : Nat), l.foldl (fun a b => 2 * a + b.toNat) a = a * 2 ^ l.length + bnum l
  | [], a => by simp [bnum]
  | b :: l, a => by
    have e : bnum (b :: l) = (2 * 0 + b.toNat) * 2 ^ l.length + bnum l := bnum_fold l _
    rw [List.foldl_cons, bnum_fold l, e, List.length_cons, Nat.pow_succ]
    rw [Nat.mul_zero, Nat.zero_add, Nat.add_mul, Nat.mul_comm 2 a, Nat.mul_assoc, Nat.mul_comm 2, ← Nat.add_assoc]
theorem bnum_nil : bnum [] = 0 := rfl
theorem bnum_cons (b : Bool) (l : List Bool) : bnum (b :: l) = b.toNat * 2 ^ l.length + bnum l := by
  rw [bnum, List.foldl_cons, bnum_fold]; simp
theorem bnum_app (a b : List Bool) : bnum (a ++ b) = bnum a * 2 ^ b.length + bnum b := by
  rw [bnum, List.foldl_append, bnum_fold]; rfl
theorem bnum_lt : ∀ l : List Bool, bnum l < 2 ^ l.length
  | [] => by decide
  | b :: l => by
    have h := bnum_lt l
    rw [bnum_cons, List.length_cons, Nat.pow_succ]
    cases b
    · simp; omega
    · simp; omega
theorem bbits_mod : ∀ (w x : Nat), bbits w (x % 2 ^ w) = bbits w x := by
  have key : ∀ (w v x : Nat), w ≤ v → bbits w (x % 2 ^ v) = bbits w x := by
    intro w
    induction w with
    | zero => intro v x _; rfl
    | succ w ih =>
      intro v x h
      rw [bbits, bbits, ih v x (by omega)]
      have h1 : x % 2 ^ v / 2 ^ w % 2 = x / 2 ^ w % 2 := by
        rw [show v = w + (v - w) by omega, Nat.pow_add, Nat.mod_mul_right_div_self]
        rw [show v - w = (v - w - 1) + 1 by omega, Nat.pow_succ, Nat.mod_mul_left_mod]
      rw [h1]
  intro w x
  exact key w w x (Nat.le_refl _)
theorem bnum_bbits : ∀ (w x : Nat), bnum (bbits w x) = x % 2 ^ w
  | 0, x => by simp [bbits, bnum, Nat.mod_one]
  | w + 1, x => by
    rw [bbits, bnum_cons, bbits_len, bnum_bbits w x, Nat.pow_succ, Nat.mod_mul]
    have h : x / 2 ^ w % 2 < 2 := Nat.mod_lt _ (by decide)
    rcases (by omega : x / 2 ^ w % 2 = 0 ∨ x / 2 ^ w % 2 = 1) with e | e <;> simp [e] <;> omega
theorem bbits_bnum : ∀ l : List Bool, bbits l.length (bnum l) = l
  | [] => rfl
  | b :: l => by
    have h := bnum_lt l
    rw [List.length_cons, bbits, bnum_cons]
    have h1 : (b.toNat * 2 ^ l.length + bnum l) / 2 ^ l.length = b.toNat := by
      rw [Nat.mul_comm, Nat.mul_add_div (Nat.two_pow_pos _), Nat.div_eq_of_lt h, Nat.add_zero]
    rw [h1]
    have h2 : bbits l.length (b.toNat * 2 ^ l.length + bnum l) = l := by
      rw [← bbits_mod, Nat.mul_comm, Nat.mul_add_mod, Nat.mod_eq_of_lt h, bbits_bnum l]
    rw [h2]
    cases b <;> rfl
theorem bnum_inj {a b : List Bool} (hl : a.length = b.length) (h : bnum a = bnum b) : a = b := by
  rw [← bbits_bnum a, ← bbits_bnum b, hl, h]
theorem bbits_of {l : List Bool} {w x : Nat} (hl : l.length = w) (h : bnum l = x % 2 ^ w) : l = bbits w x := by
  apply bnum_inj
  · rw [hl, bbits_len]
  · rw [h, bnum_bbits]
theorem bbits_app (a b x : Nat) : bbits (a + b) x = bbits a (x / 2 ^ b) ++ bbits b x := by
  symm
  apply bbits_of
  · rw [List.length_append, bbits_len, bbits_len]
  · rw [bnum_app, bbits_len, bnum_bbits, bnum_bbits, Nat.add_comm a b, Nat.pow_add, Nat.mod_mul, Nat.mul_comm, Nat.add_comm]
theorem bbits_get : ∀ (w x i : Nat), i < w → (bbits w x).getD i false = (x / 2 ^ (w - 1 - i) % 2 == 1)
  | w + 1, x, 0, _ => by simp [bbits]
  | w + 1, x, i + 1, h => by
    rw [bbits, List.getD_cons_succ, bbits_get w x i (by omega)]
    rw [show w + 1 - 1 - (i + 1) = w - 1 - i by omega]
/-- rows of a memory -/
theorem mc_rd_add (B : Nat → Bool) (p a b : Nat) : mc_rd B p (a + b) = mc_rd B p a ++ mc_rd B (p + a) b := by
  unfold mc_rd
  rw [List.range_add, List.map_append, List.map_map]
  congr 1
  apply List.map_congr_left
  intro i _
  simp [Nat.add_assoc]
theorem mc_rd_1 (B : Nat → Bool) (p : Nat) : mc_rd B p 1 = [B p] := rfl
theorem mc_rd_s (B : Nat → Bool) (p n : Nat) : mc_rd B p (n + 1) = mc_rd B p n ++ [B (p + n)] := by rw [mc_rd_add, mc_rd_1]
theorem mc_rd_c (B : Nat → Bool) (p n : Nat) : mc_rd B p (n + 1) = B p :: mc_rd B (p + 1) n := by
  rw [Nat.add_comm, mc_rd_add, mc_rd_1]; rfl
theorem mc_rd_sh (B : Nat → Bool) (f p n : Nat) : mc_rd (mc_sh B f) p n = mc_rd B (f + p) n := by
  unfold mc_rd mc_sh
  apply List.map_congr_left
  intro i _
  rw [Nat.add_assoc]
theorem mc_rd_ex {l : List Bool} {p n : Nat} (h : p + n ≤ l.length) : mc_rd (mc_ex l) p n = (l.drop p).take n := by
  apply List.ext_getElem?
  intro i
  unfold mc_rd mc_ex
  by_cases hi : i < n
  · rw [List.getElem?_map, List.getElem?_range hi, List.getElem?_take_of_lt hi, List.getElem?_drop]
    simp [List.getD, List.getElem?_eq_getElem (show p + i < l.length by omega)]
  · rw [List.getElem?_eq_none (by simp; omega), List.getElem?_eq_none (by simp; omega)]
/-- the number of a row of a memory -/
def mc_n (B : Nat → Bool) (p w : Nat) : Nat := bnum (mc_rd B p w)
theorem mc_n_lt (B : Nat → Bool) (p w : Nat) : mc_n B p w < 2 ^ w := by
  have := bnum_lt (mc_rd B p w)
  rw [mc_rd_len] at this
  exact this
theorem mc_n_add (B : Nat → Bool) (p a b : Nat) : mc_n B p (a + b) = mc_n B p a * 2 ^ b + mc_n B (p + a) b := by
  unfold mc_n
  rw [mc_rd_add, bnum_app, mc_rd_len]
theorem mc_rd_n (B : Nat → Bool) (p w : Nat) : mc_rd B p w = bbits w (mc_n B p w) := by
  have := bbits_bnum (mc_rd B p w)
  rw [mc_rd_len] at this
  exact this.symm
theorem mc_rd_congr {B C : Nat → Bool} {p q w : Nat} (h : ∀ i, i < w → B (p + i) = C (q + i)) : mc_rd B p w = mc_rd C q w := by
  unfold mc_rd
  apply List.map_congr_left
  intro i hi
  exact h i (List.mem_range.mp hi)
