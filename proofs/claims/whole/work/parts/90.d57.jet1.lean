/-! ===== jets: what they reckon ===== -/
def jw (w : Nat) : Prop := w = 8 ∨ w = 16 ∨ w = 32 ∨ w = 64
theorem jw_le {w : Nat} (h : jw w) : 8 ≤ w ∧ w ≤ 64 := by unfold jw at h; omega
theorem jw_p {w : Nat} (h : jw w) : 2 ^ w ≤ 2 ^ 64 := Nat.pow_le_pow_right (by decide) (jw_le h).2
theorem lN_m1 : (-1 : Int64) = lN (2 ^ 64 - 1) := by decide
theorem lN_sb {a b : Nat} (hb : b ≤ 2 ^ 64) : lN a - lN b = lN (a + 2 ^ 64 - b) := by
  have h1 : lN (a + 2 ^ 64 - b) + lN b = lN a := by
    rw [lN_pl, show a + 2 ^ 64 - b + b = a + 2 ^ 64 by omega, wb_mod (a + 2 ^ 64), wb_mod a]
    rw [Nat.add_mod_right]
  rw [← h1]; exact Int64.add_sub_cancel _ _
theorem jo_and {a w : Nat} (hw : jw w) : lN a &&& lN (2 ^ w - 1) = lN (a % 2 ^ w) := by
  have hp := jw_p hw
  rw [wb_mod a, wb_and (Nat.mod_lt _ (by decide)) (by have := Nat.two_pow_pos w; omega), Nat.and_two_pow_sub_one_eq_mod]
  congr 1
  rcases hw with rfl | rfl | rfl | rfl <;> omega
theorem tb64 {i : Nat} (h : i < 64) : (2 ^ 64 - 1).testBit i = true := by
  rw [Nat.testBit_two_pow_sub_one]; simp [h]
theorem xor_lt64 {a b : Nat} (ha : a < 2 ^ 64) (hb : b < 2 ^ 64) : a ^^^ b < 2 ^ 64 := Nat.xor_lt_two_pow ha hb
theorem jb_1 {n k : Nat} (hn : n < 2 ^ 64) (hk : k < 64) : ((lN n).toUInt64 >>> ((nI k).toInt64.toUInt64 &&& Int64.toUInt64 63)).toInt64 &&& lN 1 = lN (n / 2 ^ k % 2) := by
  rw [wb_shr hn hk, wb_and (Nat.lt_of_le_of_lt (Nat.div_le_self _ _) hn) (by decide), Nat.and_one_is_mod]
theorem bF1 {P Q R : Prop} [Decidable P] [Decidable Q] [Decidable R] {n : Nat} (h : n = if (P ∧ Q) ∨ ((P ∨ Q) ∧ ¬ R) then 1 else 0) : (decide P && decide Q || (decide P || decide Q) && (decide R ^^ true)).toNat = n := by
  subst h
  by_cases p : P <;> by_cases q : Q <;> by_cases r : R <;> simp [p, q, r]
theorem bF2 {P Q R : Prop} [Decidable P] [Decidable Q] [Decidable R] {n : Nat} (h : n = if (¬ P ∧ Q) ∨ ((¬ P ∨ Q) ∧ R) then 1 else 0) : ((decide P ^^ true) && decide Q || ((decide P ^^ true) || decide Q) && decide R).toNat = n := by
  subst h
  by_cases p : P <;> by_cases q : Q <;> by_cases r : R <;> simp [p, q, r]
theorem add_bit {a b c w : Nat} (hw : jw w) (ha : a < 2 ^ w) (hb : b < 2 ^ w) (hc : c ≤ 1) : (a &&& b ||| (a ||| b) &&& ((a + b + c) % 2 ^ 64 ^^^ (2 ^ 64 - 1))) / 2 ^ (w - 1) % 2 = (a + b + c) / 2 ^ w := by
  have hle := jw_le hw
  rw [← Nat.toNat_testBit, Nat.testBit_or, Nat.testBit_and, Nat.testBit_and, Nat.testBit_or, Nat.testBit_xor, tb64 (by omega), Nat.testBit_eq_decide_div_mod_eq, Nat.testBit_eq_decide_div_mod_eq, Nat.testBit_eq_decide_div_mod_eq]
  refine bF1 ?_
  rcases hw with rfl | rfl | rfl | rfl
  all_goals
    simp only [Nat.reduceSub, Nat.reducePow] at ha hb ⊢
    split <;> omega
theorem sub_bit {a b c w : Nat} (hw : jw w) (ha : a < 2 ^ w) (hb : b < 2 ^ w) (hc : c ≤ 1) : ((a ^^^ (2 ^ 64 - 1)) &&& b ||| ((a ^^^ (2 ^ 64 - 1)) ||| b) &&& ((a + 2 ^ 64 - b + 2 ^ 64 - c) % 2 ^ 64)) / 2 ^ (w - 1) % 2 = if a < b + c then 1 else 0 := by
  have hle := jw_le hw
  rw [← Nat.toNat_testBit, Nat.testBit_or, Nat.testBit_and, Nat.testBit_and, Nat.testBit_or, Nat.testBit_xor, tb64 (by omega), Nat.testBit_eq_decide_div_mod_eq, Nat.testBit_eq_decide_div_mod_eq, Nat.testBit_eq_decide_div_mod_eq]
  refine bF2 ?_
  rcases hw with rfl | rfl | rfl | rfl
  all_goals
    simp only [Nat.reduceSub, Nat.reducePow] at ha hb ⊢
    split <;> split <;> omega
