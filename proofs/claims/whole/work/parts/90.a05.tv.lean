/-! ===== widths, words, values ===== -/
def ty_w : Ty → Nat
  | .add a b => 1 + max (ty_w a) (ty_w b)
  | .mul a b => ty_w a + ty_w b
  | _ => 0
def ty_is1 : Ty → Bool
  | .add _ _ => false
  | .mul _ _ => false
  | _ => true
def ty_eqb : Ty → Ty → Bool
  | .add a b, .add c d => ty_eqb a c && ty_eqb b d
  | .mul a b, .mul c d => ty_eqb a c && ty_eqb b d
  | .num _, .num _ => true
  | _, _ => false
theorem ty_eqb_iff : ∀ {a b : Ty}, ty_ok a → ty_ok b → (ty_eqb a b = true ↔ a = b)
  | .add a b, u, ha, hu => by
    cases u with
    | add c d =>
      simp only [ty_eqb, Bool.and_eq_true]
      rw [ty_eqb_iff ha.1 hu.1, ty_eqb_iff ha.2 hu.2]
      constructor
      · rintro ⟨rfl, rfl⟩; rfl
      · intro h; cases h; exact ⟨rfl, rfl⟩
    | _ => simp [ty_eqb]
  | .mul a b, u, ha, hu => by
    cases u with
    | mul c d =>
      simp only [ty_eqb, Bool.and_eq_true]
      rw [ty_eqb_iff ha.1 hu.1, ty_eqb_iff ha.2 hu.2]
      constructor
      · rintro ⟨rfl, rfl⟩; rfl
      · intro h; cases h; exact ⟨rfl, rfl⟩
    | _ => simp [ty_eqb]
  | .num k, u, ha, hu => by
    cases u with
    | num j =>
      have e1 : k = 1 := ha
      have e2 : j = 1 := hu
      simp [ty_eqb, e1, e2]
    | _ => simp [ty_eqb]
  | .natCast _, _, ha, _ => ha.elim
  | .intCast _, _, ha, _ => ha.elim
  | .var _, _, ha, _ => ha.elim
  | .neg _, _, ha, _ => ha.elim
  | .sub _ _, _, ha, _ => ha.elim
  | .pow _ _, _, ha, _ => ha.elim
def ty_word : Ty → Nat
  | .add a b => if ty_is1 a && ty_is1 b then 1 else 0
  | .mul a b => if ty_eqb a b then 2 * ty_word a else 0
  | _ => 0
def ty_tl : Ty → Nat
  | .add a b => 3 + ty_tl a + ty_tl b
  | .mul a b => 3 + ty_tl a + ty_tl b
  | _ => 1
def ty_full : Ty → Bool
  | .add a b => ty_full a && ty_full b && (ty_w a == ty_w b)
  | .mul a b => ty_full a && ty_full b
  | _ => true
/-- as many bits from a place on are 0 -/
def bz (v : Nat → Nat) (p : Nat) : Nat → Bool
  | 0 => true
  | n + 1 => bz v p n && (v (p + n) == 0)
theorem bz_iff {v : Nat → Nat} {p : Nat} : ∀ {n : Nat}, bz v p n = true ↔ ∀ i, i < n → v (p + i) = 0
  | 0 => by simp [bz]
  | n + 1 => by
    rw [bz, Bool.and_eq_true, bz_iff (n := n)]
    constructor
    · rintro ⟨h1, h2⟩ i hi
      by_cases e : i = n
      · rw [e]; simpa using h2
      · exact h1 i (by omega)
    · intro h
      exact ⟨fun i hi => h i (by omega), by simpa using h n (by omega)⟩
/-- the bits from p on are a value of a type -/
def ty_val (v : Nat → Nat) : Ty → Nat → Bool
  | .add a b, p => if v p = 0 then bz v (p + 1) (max (ty_w a) (ty_w b) - ty_w a) && ty_val v a (p + 1 + (max (ty_w a) (ty_w b) - ty_w a)) else bz v (p + 1) (max (ty_w a) (ty_w b) - ty_w b) && ty_val v b (p + 1 + (max (ty_w a) (ty_w b) - ty_w b))
  | .mul a b, p => ty_val v a p && ty_val v b (p + ty_w a)
  | _, _ => true
theorem ty_full_val {v : Nat → Nat} : ∀ (t : Ty) (p : Nat), ty_full t = true → ty_val v t p = true
  | .add a b, p, h => by
    simp only [ty_full, Bool.and_eq_true, beq_iff_eq] at h
    obtain ⟨⟨h1, h2⟩, h3⟩ := h
    have e1 : max (ty_w a) (ty_w b) - ty_w a = 0 := by omega
    have e2 : max (ty_w a) (ty_w b) - ty_w b = 0 := by omega
    simp only [ty_val, e1, e2, bz, Bool.true_and]
    split
    · exact ty_full_val a _ h1
    · exact ty_full_val b _ h2
  | .mul a b, p, h => by
    simp only [ty_full, Bool.and_eq_true] at h
    simp only [ty_val, ty_full_val a _ h.1, ty_full_val b _ h.2, Bool.and_true]
  | .num _, _, _ => rfl
  | .natCast _, _, _ => rfl
  | .intCast _, _, _ => rfl
  | .var _, _, _ => rfl
  | .neg _, _, _ => rfl
  | .sub _ _, _, _ => rfl
  | .pow _ _, _, _ => rfl
theorem ty_w0_full : ∀ (t : Ty), ty_w t = 0 → ty_full t = true
  | .add a b, h => by simp only [ty_w] at h; omega
  | .mul a b, h => by
    simp only [ty_w] at h
    simp only [ty_full, ty_w0_full a (by omega), ty_w0_full b (by omega), Bool.and_true]
  | .num _, _ => rfl
  | .natCast _, _ => rfl
  | .intCast _, _ => rfl
  | .var _, _ => rfl
  | .neg _, _ => rfl
  | .sub _ _, _ => rfl
  | .pow _ _, _ => rfl
theorem ty_nfull_w : ∀ (t : Ty), ty_full t = false → 2 ≤ ty_w t
  | .add a b, h => by
    by_cases e : ty_w a = ty_w b
    · have h2 : ¬ (ty_full a = true ∧ ty_full b = true) := fun q => by
        simp [ty_full, q.1, q.2, e] at h
      have h3 : ty_full a = false ∨ ty_full b = false := by
        cases h4 : ty_full a <;> cases h5 : ty_full b <;> simp_all
      simp only [ty_w]
      rcases h3 with h4 | h4
      · have := ty_nfull_w a h4; omega
      · have := ty_nfull_w b h4; omega
    · simp only [ty_w]; omega
  | .mul a b, h => by
    have h3 : ty_full a = false ∨ ty_full b = false := by
      cases h4 : ty_full a <;> cases h5 : ty_full b <;> simp_all [ty_full]
    simp only [ty_w]
    rcases h3 with h4 | h4
    · have := ty_nfull_w a h4; omega
    · have := ty_nfull_w b h4; omega
  | .num _, h => by cases h
  | .natCast _, h => by cases h
  | .intCast _, h => by cases h
  | .var _, h => by cases h
  | .neg _, h => by cases h
  | .sub _ _, h => by cases h
  | .pow _ _, h => by cases h
/-- a row of types, one behind the other -/
def ty_vals (v : Nat → Nat) : List Ty → Nat → Bool
  | [], _ => true
  | t :: q, p => ty_val v t p && ty_vals v q (p + ty_w t)
/-- values depend on the bits alone that they have -/
theorem bz_congr {v u : Nat → Nat} {p q : Nat} : ∀ {n : Nat}, (∀ i, i < n → v (p + i) = u (q + i)) → bz v p n = bz u q n
  | 0, _ => rfl
  | n + 1, h => by rw [bz, bz, bz_congr (n := n) (fun i hi => h i (by omega)), h n (by omega)]
theorem ty_val_congr {v u : Nat → Nat} : ∀ (t : Ty) (p q : Nat), (∀ i, i < ty_w t → v (p + i) = u (q + i)) → ty_val v t p = ty_val u t q
  | .add a b, p, q, h => by
    simp only [ty_w] at h
    have h0 : v p = u q := h 0 (by omega)
    have e1 : ∀ n k, n + k ≤ max (ty_w a) (ty_w b) → ∀ i, i < k → v (p + 1 + n + i) = u (q + 1 + n + i) := by
      intro n k hk i hi
      have := h (1 + n + i) (by omega)
      rw [show p + 1 + n + i = p + (1 + n + i) by omega, show q + 1 + n + i = q + (1 + n + i) by omega]
      exact this
    simp only [ty_val]
    rw [h0, bz_congr (v := v) (u := u) (p := p + 1) (q := q + 1) (n := max (ty_w a) (ty_w b) - ty_w a) (fun i hi => e1 0 _ (by omega) i hi), bz_congr (v := v) (u := u) (p := p + 1) (q := q + 1) (n := max (ty_w a) (ty_w b) - ty_w b) (fun i hi => e1 0 _ (by omega) i hi),
      ty_val_congr a _ (q + 1 + (max (ty_w a) (ty_w b) - ty_w a)) (e1 _ _ (by omega)), ty_val_congr b _ (q + 1 + (max (ty_w a) (ty_w b) - ty_w b)) (e1 _ _ (by omega))]
  | .mul a b, p, q, h => by
    simp only [ty_w] at h
    simp only [ty_val]
    rw [ty_val_congr a p q (fun i hi => h i (by omega)), ty_val_congr b (p + ty_w a) (q + ty_w a) (fun i hi => by
      rw [Nat.add_assoc, Nat.add_assoc]; exact h (ty_w a + i) (by omega))]
  | .num _, _, _, _ => rfl
  | .natCast _, _, _, _ => rfl
  | .intCast _, _, _, _ => rfl
  | .var _, _, _, _ => rfl
  | .neg _, _, _, _ => rfl
  | .sub _ _, _, _, _ => rfl
  | .pow _ _, _, _, _ => rfl
