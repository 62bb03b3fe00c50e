/-! ===== a row of bits read as a program ===== -/
/-- bits of bytes -/
def by_bit (l : List Nat) (p : Nat) : Nat := l.getD (p / 8) 0 / 2 ^ (7 - p % 8) % 2
theorem by_bit_lt (l : List Nat) (p : Nat) : by_bit l p < 2 := Nat.mod_lt _ (by decide)
/-- n bits from a on as a number -/
def pb (v : Nat → Nat) (a : Nat) : Nat → Nat
  | 0 => 0
  | n + 1 => 2 * pb v a n + v (a + n)
theorem pb_lt {v : Nat → Nat} (hv : ∀ p, v p < 2) (a : Nat) : ∀ n, pb v a n < 2 ^ n
  | 0 => by simp [pb]
  | n + 1 => by
    have := pb_lt hv a n
    have := hv (a + n)
    rw [pb, Nat.pow_succ]
    omega
theorem pb_add (v : Nat → Nat) (a m : Nat) : ∀ n, pb v a (m + n) = pb v a m * 2 ^ n + pb v (a + m) n
  | 0 => by simp [pb]
  | n + 1 => by
    rw [← Nat.add_assoc, pb, pb_add v a m n, pb, Nat.pow_succ, Nat.mul_add, Nat.add_assoc, Nat.add_assoc]
    congr 1
    rw [← Nat.mul_assoc, Nat.mul_comm 2, Nat.mul_assoc, Nat.mul_comm 2]
/-- how many 1s stand ahead -/
def pr_ones (v : Nat → Nat) (e : Nat) : Nat → Nat → Nat
  | 0, _ => 0
  | f + 1, a => if a < e ∧ v a = 1 then pr_ones v e f (a + 1) + 1 else 0
def pr_lv (v : Nat → Nat) (e : Nat) : Nat → Nat → Nat → Except Nat (Nat × Nat)
  | 0, x, a => .ok (x, a)
  | l + 1, x, a => if 15 < x then .error 4 else if a + x ≤ e then pr_lv v e l (2 ^ x + pb v a x) (a + x) else .error 1
def pr_nat (v : Nat → Nat) (e a : Nat) : Except Nat (Nat × Nat) := if a + pr_ones v e (e - a) a + 1 ≤ e then pr_lv v e (pr_ones v e (e - a) a) 1 (a + pr_ones v e (e - a) a + 1) else .error 1
/-- a node: code, children, number, hidden words -/
abbrev pr_D : Type := Nat × Option Nat × Option Nat × Nat × (Nat → Nat)
def pr_ch (v : Nat → Nat) (e n a : Nat) : Except Nat (Nat × Nat) := match pr_nat v e a with
  | .error x => .error x
  | .ok (k, b) => if n < k then .error 3 else .ok (n - k, b)
def pr_node (v : Nat → Nat) (e n a : Nat) : Except Nat (pr_D × Nat) :=
  if a + 5 ≤ e then
    let c := pb v a 5
    if 12 < c then .error 2
    else if c ≤ 6 then match pr_ch v e n (a + 5) with
      | .error x => .error x
      | .ok (i, b) => if c ≤ 2 then (match pr_ch v e n b with
          | .error x => .error x
          | .ok (j, b') => .ok ((c, some i, some j, 0, fun _ => 0), b')) else .ok ((c, some i, none, 0, fun _ => 0), b)
    else if c = 11 then (if a + 5 + 256 ≤ e then .ok ((c, none, none, 0, fun k => pb v (a + 5 + 32 * k) 32), a + 5 + 256) else .error 1)
    else if c = 12 then (if a + 5 + 8 ≤ e then (if 167 < pb v (a + 5) 8 then .error 2 else .ok ((c, none, none, pb v (a + 5) 8, fun _ => 0), a + 5 + 8)) else .error 1)
    else .ok ((c, none, none, 0, fun _ => 0), a + 5)
  else .error 1
def pr_nodes (v : Nat → Nat) (e : Nat) : Nat → List pr_D → Nat → Except Nat (List pr_D × Nat)
  | 0, ps, a => .ok (ps, a)
  | m + 1, ps, a => match pr_node v e ps.length a with
    | .error x => .error x
    | .ok (q, b) => pr_nodes v e m (ps ++ [q]) b
def pr_prog (v : Nat → Nat) (e : Nat) : Except Nat (List pr_D × Nat) := match pr_nat v e 0 with
  | .error x => .error x
  | .ok (N, a) => if 400 < N then .error 4 else pr_nodes v e N [] a
theorem pr_ones_le {v : Nat → Nat} {e : Nat} : ∀ (f a : Nat), a ≤ e → a + pr_ones v e f a ≤ e
  | 0, a, h => by simp [pr_ones]; exact h
  | f + 1, a, h => by
    unfold pr_ones
    split
    · rename_i q
      have := pr_ones_le (v := v) f (a + 1) q.1
      omega
    · omega
/-- as long as all is there: places stay within the end, numbers stay small -/
theorem pr_lv_le {v : Nat → Nat} (hv : ∀ p, v p < 2) {e : Nat} : ∀ (l x a : Nat) {y b : Nat}, a ≤ e → 1 ≤ x → x ≤ 65535 → pr_lv v e l x a = .ok (y, b) → a ≤ b ∧ b ≤ e ∧ 1 ≤ y ∧ y ≤ 65535
  | 0, x, a, y, b, ha, hx, hx2, h => by
    cases h
    exact ⟨Nat.le_refl _, ha, hx, hx2⟩
  | l + 1, x, a, y, b, ha, hx, hx2, h => by
    unfold pr_lv at h
    split at h
    · cases h
    · split at h
      · rename_i q1 q2
        have h1 := pb_lt hv a x
        have h2 : 2 ^ x ≤ 2 ^ 15 := Nat.pow_le_pow_right (by decide) (by omega)
        have h3 := Nat.two_pow_pos x
        have := pr_lv_le hv l (2 ^ x + pb v a x) (a + x) q2 (by omega) (by omega) h
        exact ⟨by omega, this.2⟩
      · cases h
theorem pr_nat_le {v : Nat → Nat} (hv : ∀ p, v p < 2) {e a y b : Nat} (ha : a ≤ e) (h : pr_nat v e a = .ok (y, b)) : a < b ∧ b ≤ e ∧ 1 ≤ y ∧ y ≤ 65535 := by
  unfold pr_nat at h
  split at h
  · rename_i q
    have := pr_lv_le hv _ 1 _ q (by omega) (by omega) h
    exact ⟨by omega, this.2⟩
  · cases h
theorem pr_ch_le {v : Nat → Nat} (hv : ∀ p, v p < 2) {e n a y b : Nat} (ha : a ≤ e) (h : pr_ch v e n a = .ok (y, b)) : a < b ∧ b ≤ e ∧ y < n := by
  unfold pr_ch at h
  split at h
  · cases h
  · rename_i k b' e1
    have := pr_nat_le hv ha e1
    split at h
    · cases h
    · cases h
      exact ⟨this.1, this.2.1, by omega⟩
/-- what a node that was read is -/
def pr_ok (n : Nat) (q : pr_D) : Prop := q.1 ≤ 12 ∧ (q.1 ≤ 6 ↔ q.2.1.isSome = true) ∧ (q.1 ≤ 2 ↔ q.2.2.1.isSome = true) ∧ (∀ x, q.2.1 = some x → x < n) ∧ (∀ x, q.2.2.1 = some x → x < n) ∧ q.2.2.2.1 ≤ 167 ∧ (q.1 ≠ 12 → q.2.2.2.1 = 0)
theorem pr_node_ok {v : Nat → Nat} (hv : ∀ p, v p < 2) {e n a b : Nat} {q : pr_D} (h : pr_node v e n a = .ok (q, b)) : a < b ∧ b ≤ e ∧ pr_ok n q := by
  unfold pr_node at h
  split at h
  · rename_i h5
    simp only at h
    split at h
    · cases h
    · rename_i h12
      split at h
      · rename_i h6
        split at h
        · cases h
        · rename_i i b1 e1
          have k1 := pr_ch_le hv h5 e1
          split at h
          · rename_i h2
            split at h
            · cases h
            · rename_i j b2 e2
              have k2 := pr_ch_le hv k1.2.1 e2
              cases h
              refine ⟨by omega, by omega, by omega, by simp; omega, by simp; omega, fun x hx => ?_, fun x hx => ?_, by simp, fun _ => rfl⟩
              · cases hx; exact k1.2.2
              · cases hx; exact k2.2.2
          · cases h
            refine ⟨by omega, by omega, by omega, by simp; omega, by simp; omega, fun x hx => ?_, fun x hx => ?_, by simp, fun _ => rfl⟩
            · cases hx; exact k1.2.2
            · cases hx
      · split at h
        · split at h
          · cases h
            refine ⟨by omega, by omega, by omega, by simp; omega, by simp; omega, fun x hx => (by cases hx), fun x hx => (by cases hx), by simp, fun _ => rfl⟩
          · cases h
        · split at h
          · rename_i hc
            split at h
            · split at h
              · cases h
              · cases h
                refine ⟨by omega, by omega, by omega, by simp; omega, by simp; omega, fun x hx => (by cases hx), fun x hx => (by cases hx), by simp; omega, fun q => absurd hc q⟩
            · cases h
          · cases h
            refine ⟨by omega, by omega, by omega, by simp; omega, by simp; omega, fun x hx => (by cases hx), fun x hx => (by cases hx), by simp, fun _ => rfl⟩
  · cases h
