/-! ===== what nodes give, and a machine that works them ===== -/
/-- codes: op, two children, what is skipped, and other -/
abbrev mc_A : Type := (Nat → Nat) × (Nat → Nat) × (Nat → Nat) × (Nat → Nat) × (Nat → Nat)
def mc_op (A : mc_A) : Nat → Nat := A.1
def mc_on (A : mc_A) : Nat → Nat := A.2.1
def mc_tw (A : mc_A) : Nat → Nat := A.2.2.1
def mc_sk (A : mc_A) : Nat → Nat := A.2.2.2.1
def mc_ot (A : mc_A) : Nat → Nat := A.2.2.2.2
/-- a row of bits from a place of a memory on; a row as a memory -/
def mc_rd (B : Nat → Bool) (p w : Nat) : List Bool := (List.range w).map fun i => B (p + i)
def mc_sh (B : Nat → Bool) (p : Nat) : Nat → Bool := fun i => B (p + i)
def mc_ex (l : List Bool) : Nat → Bool := fun i => l.getD i false
def mc_wr (B : Nat → Bool) (p : Nat) (l : List Bool) : Nat → Bool := fun i => if p ≤ i ∧ i < p + l.length then l.getD (i - p) false else B i
abbrev mc_V : Type := List Bool × Nat × Nat × Nat
/-- what a node gives, with steps, cells and frames that it uses; jf: what jets give (none: as defined, from dn on), wb: bits of witnesses -/
def mc_ev (A : mc_A) (jf : Nat → (Nat → Bool) → Option mc_V) (wb : Nat → Bool) : Nat → Nat → (Nat → Bool) → Option mc_V
  | 0, _, _ => none
  | f + 1, n, u => match mc_op A n with
    | 0 => match mc_ev A jf wb f (mc_on A n) u with
      | some (a, s1, c1, g1) => match mc_ev A jf wb f (mc_tw A n) (mc_ex a) with
        | some (b, s2, c2, g2) => some (b, 1 + s1 + s2, mc_sk A n + max c1 c2, 1 + max g1 g2)
        | none => none
      | none => none
    | 1 => match mc_ev A jf wb f (if u 0 = false then mc_on A n else mc_tw A n) (mc_sh u (if u 0 = false then mc_sk A n else mc_ot A n)) with
      | some (a, s1, c1, g1) => some (a, 1 + s1, c1, g1)
      | none => none
    | 2 => match mc_ev A jf wb f (mc_on A n) u with
      | some (a, s1, c1, g1) => match mc_ev A jf wb f (mc_tw A n) u with
        | some (b, s2, c2, g2) => some (a ++ b, 1 + s1 + s2, max c1 c2, max g1 g2)
        | none => none
      | none => none
    | 3 => match mc_ev A jf wb f (mc_on A n) u with
      | some (a, s1, c1, g1) => some (false :: (List.replicate (mc_sk A n) false ++ a), 1 + s1, c1, g1)
      | none => none
    | 4 => match mc_ev A jf wb f (mc_on A n) u with
      | some (a, s1, c1, g1) => some (true :: (List.replicate (mc_sk A n) false ++ a), 1 + s1, c1, g1)
      | none => none
    | 5 => match mc_ev A jf wb f (mc_on A n) u with
      | some (a, s1, c1, g1) => some (a, 1 + s1, c1, g1)
      | none => none
    | 6 => match mc_ev A jf wb f (mc_on A n) (mc_sh u (mc_sk A n)) with
      | some (a, s1, c1, g1) => some (a, 1 + s1, c1, g1)
      | none => none
    | 7 => some (mc_rd u (mc_ot A n) (mc_sk A n), 1 + mc_sk A n, 0, 0)
    | 8 => some ([], 1, 0, 0)
    | 10 => some (mc_rd wb (mc_sk A n) (mc_ot A n), 1 + mc_ot A n, 0, 0)
    | 12 => match jf n u with
      | some (a, s1, c1, g1) => some (a, 1 + s1, c1, g1)
      | none => none
    | _ => none
/-- the children of a node, as it is worked -/
def mc_ch (A : mc_A) (n x : Nat) : Prop := (mc_op A n ≤ 6 ∧ x = mc_on A n) ∨ (mc_op A n ≤ 2 ∧ x = mc_tw A n)
/-- more turns give the same where children come ahead -/
theorem mc_ev_mono {A : mc_A} {jf : Nat → (Nat → Bool) → Option mc_V} {wb : Nat → Bool} {lo : Nat} (hch : ∀ n x, lo ≤ n → mc_ch A n x → lo ≤ x ∧ x < n) : ∀ (f n : Nat) (u : Nat → Bool), lo ≤ n → n < lo + f → mc_ev A jf wb f n u = mc_ev A jf wb (n + 1 - lo) n u := by
  have key : ∀ (f g n : Nat) (u : Nat → Bool), lo ≤ n → n < lo + f → n < lo + g → mc_ev A jf wb f n u = mc_ev A jf wb g n u := by
    intro f
    induction f with
    | zero => intro g n u h0 h1; omega
    | succ f ih =>
      intro g n u h0 h1 h2
      cases g with
      | zero => omega
      | succ g =>
        have hon : mc_op A n ≤ 6 → ∀ u, mc_ev A jf wb f (mc_on A n) u = mc_ev A jf wb g (mc_on A n) u := fun h u => by
          have := hch n _ h0 (Or.inl ⟨h, rfl⟩)
          exact ih g _ u this.1 (by omega) (by omega)
        have htw : mc_op A n ≤ 2 → ∀ u, mc_ev A jf wb f (mc_tw A n) u = mc_ev A jf wb g (mc_tw A n) u := fun h u => by
          have := hch n _ h0 (Or.inr ⟨h, rfl⟩)
          exact ih g _ u this.1 (by omega) (by omega)
        unfold mc_ev
        split <;> try rfl
        · rename_i e
          rw [e] at hon htw
          rw [hon (by omega)]
          cases mc_ev A jf wb g (mc_on A n) u with
          | none => rfl
          | some q => simp only [htw (by omega)]
        · rename_i e
          rw [e] at hon htw
          by_cases hu : u 0 = false
          · simp only [if_pos hu]; rw [hon (by omega)]
          · simp only [if_neg hu]; rw [htw (by omega)]
        · rename_i e
          rw [e] at hon htw
          rw [hon (by omega)]
          cases mc_ev A jf wb g (mc_on A n) u with
          | none => rfl
          | some q => simp only [htw (by omega)]
        · rename_i e
          rw [e] at hon htw
          rw [hon (by omega)]
        · rename_i e
          rw [e] at hon htw
          rw [hon (by omega)]
        · rename_i e
          rw [e] at hon htw
          rw [hon (by omega)]
        · rename_i e
          rw [e] at hon htw
          rw [hon (by omega)]
  intro f n u h0 h1
  exact key f (n + 1 - lo) n u h0 h1 (by omega)
