/-! ===== texts of values, read: what both do ===== -/
def dgv (b : Nat) : Option Nat := if 48 ≤ b ∧ b ≤ 57 then some (b - 48) else if 97 ≤ b ∧ b ≤ 102 then some (b - 87) else none
def nib (x : Nat) : Nat → Nat := fun i => x / 2 ^ i % 2
def rdDs (l : List Nat) (p : Nat) : Nat → Option (List Nat)
  | 0 => some []
  | n + 1 => match rdDs l p n, dgv (l.getD (p + n) 0) with
    | some bs, some x => some (bs ++ hiB (nib x) 4)
    | _, _ => none
theorem rdDs_none {l : List Nat} {p k : Nat} (h : rdDs l p k = none) : ∀ j, rdDs l p (k + j) = none
  | 0 => h
  | j + 1 => by rw [← Nat.add_assoc, rdDs, rdDs_none h j]
theorem rdDs_bad {l : List Nat} {p k n : Nat} (h : dgv (l.getD (p + k) 0) = none) (hk : k < n) : rdDs l p n = none := by
  have : rdDs l p (k + 1) = none := by
    rw [rdDs, h]; cases rdDs l p k <;> rfl
  have := rdDs_none this (n - (k + 1))
  rwa [show k + 1 + (n - (k + 1)) = n by omega] at this
def rdP (l : List Nat) (p : Nat) : Ty → Option (Nat × List Nat × List itm)
  | .add a b => if ty_word (.add a b) = 1 then (if l.getD p 0 = 48 then some (p + 1, [0], []) else if l.getD p 0 = 49 then some (p + 1, [1], []) else none)
      else if l.getD p 0 = 76 then some (p + 1, 0 :: hiB (fun _ => 0) (max (ty_w a) (ty_w b) - ty_w a), [.inr a])
      else if l.getD p 0 = 82 then some (p + 1, 1 :: hiB (fun _ => 0) (max (ty_w a) (ty_w b) - ty_w b), [.inr b]) else none
  | .mul a b => if 4 ≤ ty_word (.mul a b) then (if l.getD p 0 = 35 then (rdDs l (p + 1) (ty_word (.mul a b) / 4)).map (fun bs => (p + 1 + ty_word (.mul a b) / 4, bs, [])) else none)
      else if l.getD p 0 = 40 then some (p + 1, [], [.inr a, .inl 44, .inr b, .inl 41]) else none
  | _ => if l.getD p 0 = 85 then some (p + 1, [], []) else none
def rdS (l : List Nat) : Nat → List itm → Nat → List Nat → Option (List Nat)
  | 0, _, _, _ => none
  | _ + 1, [], p, bs => if p = l.length then some bs else none
  | f + 1, .inl c :: q, p, bs => if l.getD p 0 = c then rdS l f q (p + 1) bs else none
  | f + 1, .inr t :: q, p, bs => match rdP l p t with
    | none => none
    | some (p', b, its) => rdS l f (its ++ q) p' (bs ++ b)
theorem rdS_t {l : List Nat} {f p p' : Nat} {t : Ty} {q its : List itm} {bs b : List Nat} (h : rdP l p t = some (p', b, its)) : rdS l (f + 1) (.inr t :: q) p bs = rdS l f (its ++ q) p' (bs ++ b) := by rw [rdS, h]
theorem rdS_n {l : List Nat} {f p : Nat} {t : Ty} {q : List itm} {bs : List Nat} (h : rdP l p t = none) : rdS l (f + 1) (.inr t :: q) p bs = none := by rw [rdS, h]
theorem gN_out {l : List Nat} {p : Nat} (h : l.length ≤ p) : l.getD p 0 = 0 := by
  rw [List.getD_eq_getElem?_getD, List.getElem?_eq_none h]; rfl
theorem rdP_out {l : List Nat} {p : Nat} (h : l.length ≤ p) : ∀ t : Ty, rdP l p t = none
  | .add a b => by simp only [rdP, gN_out h]; simp
  | .mul a b => by simp only [rdP, gN_out h]; simp
  | .num _ => by simp only [rdP, gN_out h]; simp
  | .natCast _ => by simp only [rdP, gN_out h]; simp
  | .intCast _ => by simp only [rdP, gN_out h]; simp
  | .var _ => by simp only [rdP, gN_out h]; simp
  | .neg _ => by simp only [rdP, gN_out h]; simp
  | .sub _ _ => by simp only [rdP, gN_out h]; simp
  | .pow _ _ => by simp only [rdP, gN_out h]; simp
theorem nib_lt (x i : Nat) : nib x i < 2 := Nat.mod_lt _ (by decide)
theorem hiB_ok {g : Nat → Nat} : ∀ {n : Nat}, (∀ i, i < n → g i < 2) → bOK (hiB g n)
  | 0, _ => fun x hx => by simp [hiB] at hx
  | n + 1, h => fun x hx => by
    simp only [hiB, List.mem_cons] at hx
    rcases hx with rfl | hx
    · exact h n (by omega)
    · exact hiB_ok (fun i hi => h i (by omega)) x hx
theorem rdDs_len {l : List Nat} {p : Nat} : ∀ {n : Nat} {bs : List Nat}, rdDs l p n = some bs → bs.length = 4 * n
  | 0, bs, h => by simp [rdDs] at h; subst h; rfl
  | n + 1, bs, h => by
    rw [rdDs] at h
    cases e1 : rdDs l p n with
    | none => rw [e1] at h; simp at h
    | some b1 =>
      cases e2 : dgv (l.getD (p + n) 0) with
      | none => rw [e1, e2] at h; simp at h
      | some x =>
        rw [e1, e2] at h
        simp only [Option.some.injEq] at h
        subst h
        rw [List.length_append, hiB_len, rdDs_len e1]; omega
/-- where reading succeeds, the tape has that many bytes, and the bits are as wide as the type -/
theorem rdDs_le {l : List Nat} {p : Nat} : ∀ {n : Nat} {bs : List Nat}, rdDs l p n = some bs → 1 ≤ n → p + n ≤ l.length := by
  intro n bs h hn
  refine Nat.le_of_not_lt (fun z => ?_)
  have : dgv (l.getD (p + (n - 1)) 0) = none := by rw [gN_out (by omega)]; rfl
  rw [rdDs_bad this (by omega)] at h; cases h
theorem rdDs_ok {l : List Nat} {p : Nat} : ∀ {n : Nat} {bs : List Nat}, rdDs l p n = some bs → bOK bs
  | 0, bs, h => by simp [rdDs] at h; subst h; exact fun x hx => by simp at hx
  | n + 1, bs, h => by
    rw [rdDs] at h
    cases e1 : rdDs l p n with
    | none => rw [e1] at h; simp at h
    | some b1 =>
      cases e2 : dgv (l.getD (p + n) 0) with
      | none => rw [e1, e2] at h; simp at h
      | some x =>
        rw [e1, e2] at h
        simp only [Option.some.injEq] at h
        subst h
        exact bOK_app (rdDs_ok e1) (hiB_ok (fun i _ => nib_lt x i))
theorem bOK_cons {b : Nat} {bl : List Nat} (h : b < 2) (hb : bOK bl) : bOK (b :: bl) := fun x hx => by
  simp only [List.mem_cons] at hx
  rcases hx with rfl | hx
  · exact h
  · exact hb x hx
theorem bOK_nil : bOK [] := fun x hx => by simp at hx
theorem rdP_ok {l : List Nat} {p p' : Nat} {b : List Nat} {its : List itm} : ∀ {t : Ty}, rdP l p t = some (p', b, its) → bOK b := by
  intro t h
  have hlast : ∀ {v : Option (Nat × List Nat × List itm)}, v = (if l.getD p 0 = 85 then some (p + 1, [], []) else none) → v = some (p', b, its) → bOK b := by
    intro v hv h
    rw [hv] at h
    split at h
    · simp only [Option.some.injEq, Prod.mk.injEq] at h; obtain ⟨_, rfl, _⟩ := h; exact bOK_nil
    · cases h
  cases t with
  | add x y =>
    simp only [rdP] at h
    split at h
    · split at h
      · simp only [Option.some.injEq, Prod.mk.injEq] at h; obtain ⟨_, rfl, _⟩ := h; exact bOK_cons (by decide) bOK_nil
      · split at h
        · simp only [Option.some.injEq, Prod.mk.injEq] at h; obtain ⟨_, rfl, _⟩ := h; exact bOK_cons (by decide) bOK_nil
        · cases h
    · split at h
      · simp only [Option.some.injEq, Prod.mk.injEq] at h; obtain ⟨_, rfl, _⟩ := h; exact bOK_cons (by decide) (hiB_ok (fun _ _ => by decide))
      · split at h
        · simp only [Option.some.injEq, Prod.mk.injEq] at h; obtain ⟨_, rfl, _⟩ := h; exact bOK_cons (by decide) (hiB_ok (fun _ _ => by decide))
        · cases h
  | mul x y =>
    simp only [rdP] at h
    split at h
    · split at h
      · cases e : rdDs l (p + 1) (ty_word (.mul x y) / 4) with
        | none => rw [e] at h; cases h
        | some bs =>
          rw [e] at h
          simp only [Option.map_some, Option.some.injEq, Prod.mk.injEq] at h
          obtain ⟨_, rfl, _⟩ := h
          exact rdDs_ok e
      · cases h
    · split at h
      · simp only [Option.some.injEq, Prod.mk.injEq] at h; obtain ⟨_, rfl, _⟩ := h; exact bOK_nil
      · cases h
  | num _ => exact hlast rfl h
  | natCast _ => exact hlast rfl h
  | intCast _ => exact hlast rfl h
  | var _ => exact hlast rfl h
  | neg _ => exact hlast rfl h
  | sub _ _ => exact hlast rfl h
  | pow _ _ => exact hlast rfl h
theorem rdS_ok {l : List Nat} : ∀ {f : Nat} {q : List itm} {p : Nat} {bl bs : List Nat}, bOK bl → rdS l f q p bl = some bs → bOK bs
  | 0, _, _, _, _, _, h => by simp [rdS] at h
  | f + 1, [], p, bl, bs, hb, h => by
    rw [rdS] at h
    split at h
    · simp only [Option.some.injEq] at h; subst h; exact hb
    · cases h
  | f + 1, .inl c :: q, p, bl, bs, hb, h => by
    rw [rdS] at h
    split at h
    · exact rdS_ok hb h
    · cases h
  | f + 1, .inr t :: q, p, bl, bs, hb, h => by
    cases e : rdP l p t with
    | none => rw [rdS_n e] at h; cases h
    | some v =>
      obtain ⟨p', b, its⟩ := v
      rw [rdS_t e] at h
      exact rdS_ok (bOK_app hb (rdP_ok e)) h
