/-! ===== say: the program that a text tells, as it is made ===== -/
abbrev sG : Type := Nat × (Nat → Nat) × (Nat → Option Nat) × (Nat → Option Nat) × (Nat → Nat) × (Nat → Nat) × (Nat → Nat → Nat)
def sCt (G : sG) : Nat := G.1
def sCd (G : sG) : Nat → Nat := G.2.1
def sC1 (G : sG) : Nat → Option Nat := G.2.2.1
def sC2 (G : sG) : Nat → Option Nat := G.2.2.2.1
def sNu (G : sG) : Nat → Nat := G.2.2.2.2.1
def sLn (G : sG) : Nat → Nat := G.2.2.2.2.2.1
def sHw (G : sG) : Nat → Nat → Nat := G.2.2.2.2.2.2
def sUp {α : Type} (f : Nat → α) (n : Nat) (v : α) : Nat → α := fun x => if x = n then v else f x
theorem sUp_s {α : Type} (f : Nat → α) (n : Nat) (v : α) : sUp f n v n = v := if_pos rfl
theorem sUp_o {α : Type} (f : Nat → α) {n m : Nat} (v : α) (h : m ≠ n) : sUp f n v m = f m := if_neg h
/-- one more node -/
def sAdd (G : sG) (c nu ln : Nat) (hw : Nat → Nat) : sG := (sCt G + 1, sUp (sCd G) (sCt G) c, sUp (sC1 G) (sCt G) none, sUp (sC2 G) (sCt G) none, sUp (sNu G) (sCt G) nu, sUp (sLn G) (sCt G) ln, sUp (sHw G) (sCt G) hw)
def sSet1 (G : sG) (h n : Nat) : sG := (sCt G, sCd G, sUp (sC1 G) h (some n), sC2 G, sNu G, sLn G, sHw G)
def sSet2 (G : sG) (h n : Nat) : sG := (sCt G, sCd G, sC1 G, sUp (sC2 G) h (some n), sNu G, sLn G, sHw G)
def ixF : List Nat → Nat → Nat
  | [], _ => 0
  | a :: r, x => if a = x then 0 else ixF r x + 1
theorem ixF_of : ∀ {L : List Nat} {i : Nat}, L.Nodup → i < L.length → ixF L (L.getD i 0) = i
  | [], _, _, hi => nomatch hi
  | a :: r, 0, _, _ => if_pos rfl
  | a :: r, i + 1, hd, hi => by
    rw [List.nodup_cons] at hd
    have hi2 : i < r.length := by simpa using hi
    have e : (a :: r).getD (i + 1) 0 = r.getD i 0 := rfl
    have hm : r.getD i 0 ∈ r := by rw [List.getD_eq_getElem?_getD, List.getElem?_eq_getElem hi2]; exact List.getElem_mem hi2
    rw [e, ixF, if_neg (fun z => hd.1 (by rw [z]; exact hm)), ixF_of hd.2 hi2]
theorem ixF_lt : ∀ {L : List Nat} {x : Nat}, x ∈ L → ixF L x < L.length ∧ L.getD (ixF L x) 0 = x
  | [], _, h => nomatch h
  | a :: r, x, h => by
    rw [ixF]
    split
    · rename_i e
      exact ⟨Nat.succ_pos _, e⟩
    · rename_i e
      have := ixF_lt (L := r) (x := x) (by rcases List.mem_cons.mp h with z | z; exact absurd z.symm e; exact z)
      exact ⟨Nat.succ_lt_succ this.1, this.2⟩
/-- the first k nodes of L, copied -/
def sCp (G : sG) (L : List Nat) (k : Nat) : sG :=
  (sCt G + k, fun x => if sCt G ≤ x ∧ x < sCt G + k then sCd G (L.getD (x - sCt G) 0) else sCd G x,
    fun x => if sCt G ≤ x ∧ x < sCt G + k then (sC1 G (L.getD (x - sCt G) 0)).map (fun y => sCt G + ixF L y) else sC1 G x,
    fun x => if sCt G ≤ x ∧ x < sCt G + k then (sC2 G (L.getD (x - sCt G) 0)).map (fun y => sCt G + ixF L y) else sC2 G x,
    fun x => if sCt G ≤ x ∧ x < sCt G + k then sNu G (L.getD (x - sCt G) 0) else sNu G x,
    fun x => if sCt G ≤ x ∧ x < sCt G + k then sLn G (L.getD (x - sCt G) 0) else sLn G x,
    fun x => if sCt G ≤ x ∧ x < sCt G + k then sHw G (L.getD (x - sCt G) 0) else sHw G x)
noncomputable def dfL (c1 c2 : Nat → Option Nat) (root : Nat) : List Nat := Classical.epsilon (fun L => df_out c1 c2 root L)
theorem dfL_of {c1 c2 : Nat → Option Nat} {root : Nat} {L : List Nat} (h : df_out c1 c2 root L) : dfL c1 c2 root = L := df_out_uniq (Classical.epsilon_spec (p := fun L => df_out c1 c2 root L) ⟨L, h⟩) h
/-- a hidden node's digits -/
def hdg (b : Nat) : Option Nat := if 48 ≤ b ∧ b ≤ 57 then some (b - 48) else if 97 ≤ b ∧ b ≤ 102 then some (b - 87) else none
def hdv (t : List Nat) (f : Nat) : Nat → Nat
  | 0 => 0
  | i + 1 => 16 * hdv t f i + (hdg (t.getD (f + i) 0)).getD 0
/-- the words of a hidden node that is told from f on -/
def hdW (t : List Nat) (f : Nat) (k : Nat) : Nat := hdv t (f + 8 * k) 8
abbrev hdOK (t : List Nat) (f : Nat) : Prop := ∀ i, i < 64 → (hdg (t.getD (f + i) 0)).isSome = true
/-- a witness's row -/
abbrev rwOK (t : List Nat) (f e : Nat) : Prop := (e - f = 1 ∧ t.getD f 0 = 45) ∨ ∀ i, i < e - f → t.getD (f + i) 0 = 48 ∨ t.getD (f + i) 0 = 49
def rwL (t : List Nat) (f e : Nat) : Nat := if e - f = 1 ∧ t.getD f 0 = 45 then 0 else e - f
def jnv (t : List Nat) (f : Nat) : Nat → Nat
  | 0 => 0
  | i + 1 => 10 * jnv t f i + (t.getD (f + i) 0 - 48)
abbrev jnOK (t : List Nat) (f e : Nat) : Prop := e - f ≤ 3 ∧ (∀ i, i < e - f → dg (t.getD (f + i) 0)) ∧ jnv t f (e - f) ≤ 167
/-- what a word behind witness, hidden or jet tells -/
def sOp (t : List Nat) (c p : Nat) : Option (Nat × Nat × (Nat → Nat)) :=
  if tkK t p = 5 then
    (if c = 10 then (if rwOK t (tkF t p) (tkE t p) then some (tkF t p, rwL t (tkF t p) (tkE t p), fun _ => 0) else none)
    else if c = 11 then (if tkE t p - tkF t p = 64 ∧ hdOK t (tkF t p) then some (0, 0, hdW t (tkF t p)) else none)
    else (if jnOK t (tkF t p) (tkE t p) then some (jnv t (tkF t p) (tkE t p - tkF t p), 0, fun _ => 0) else none))
  else none
abbrev sS : Type := sG × List (Option Nat) × Nat
/-- a fault and its place, or the state with the node that is complete, if one is -/
abbrev sO : Type := (Nat × Nat) ⊕ (sS × Option Nat)
/-- the node that the next word completes, or what waits then -/
noncomputable def sBeg (t : List Nat) (NL : List (List Nat × Nat)) (G : sG) (st : List (Option Nat)) (p : Nat) : sO :=
  if tkK t p = 3 then .inr ((G, none :: st, tkE t p), none)
  else match wdO t p with
    | none => .inl (1, tkF t p)
    | some w => match tgI w with
      | none => (match nmF w NL with
        | none => .inl (2, tkF t p)
        | some n => .inr ((G, st, tkE t p), some n))
      | some c =>
        if c = 13 then (match wdO t (tkE t p) with
          | none => .inl (1, tkF t (tkE t p))
          | some w2 => if (tgI w2).isSome then .inl (1, tkF t (tkE t p)) else (match nmF w2 NL with
            | none => .inl (2, tkF t (tkE t p))
            | some root => if 2000 < sCt G + (dfL (sC1 G) (sC2 G) root).length then .inl (3, tkF t p) else .inr ((sCp G (dfL (sC1 G) (sC2 G) root) (dfL (sC1 G) (sC2 G) root).length, st, tkE t (tkE t p)), some (sCt G + (dfL (sC1 G) (sC2 G) root).length - 1))))
        else if 2000 ≤ sCt G then .inl (3, tkF t p)
        else if c ≤ 6 then .inr ((sAdd G c 0 0 (fun _ => 0), some (sCt G) :: st, tkE t p), none)
        else if c ≤ 9 then .inr ((sAdd G c 0 0 (fun _ => 0), st, tkE t p), some (sCt G))
        else (match sOp t c (tkE t p) with
          | none => .inl (1, tkF t (tkE t p))
          | some q => .inr ((sAdd G c q.1 q.2.1 q.2.2, st, tkE t (tkE t p)), some (sCt G)))
/-- a node that is complete goes to what waits for it -/
def sFin (t : List Nat) : Nat → sG → List (Option Nat) → Nat → sO
  | n, G, [], p => .inr ((G, [], p), some n)
  | n, G, none :: r, p => if tkK t p = 4 then sFin t n G r (tkE t p) else .inl (1, tkF t p)
  | n, G, some h :: r, p => if (sC1 G h).isSome then sFin t h (sSet2 G h n) r p else if sCd G h ≤ 2 then .inr ((sSet1 G h n, some h :: r, p), none) else sFin t h (sSet1 G h n) r p
noncomputable def sTrn (t : List Nat) (NL : List (List Nat × Nat)) (G : sG) (st : List (Option Nat)) (p : Nat) : sO := match sBeg t NL G st p with
  | .inl x => .inl x
  | .inr (S, none) => .inr (S, none)
  | .inr (S, some n) => sFin t n S.1 S.2.1 S.2.2
/-- an expression: a fault and its place, or the program, the place behind it, its node -/
noncomputable def sXf (t : List Nat) (NL : List (List Nat × Nat)) : Nat → sG → List (Option Nat) → Nat → Option ((Nat × Nat) ⊕ (sG × Nat × Nat))
  | 0, _, _, _ => none
  | f + 1, G, st, p => match sTrn t NL G st p with
    | .inl x => some (.inl x)
    | .inr (S, some n) => some (.inr (S.1, S.2.2, n))
    | .inr (S, none) => sXf t NL f S.1 S.2.1 S.2.2
theorem sXf_mono {t : List Nat} {NL : List (List Nat × Nat)} : ∀ (f : Nat) {g : Nat} {G : sG} {st : List (Option Nat)} {p : Nat} {o : (Nat × Nat) ⊕ (sG × Nat × Nat)}, sXf t NL f G st p = some o → f ≤ g → sXf t NL g G st p = some o
  | 0, _, _, _, _, _, h, _ => by cases h
  | f + 1, 0, _, _, _, _, _, hg => by omega
  | f + 1, g + 1, G, st, p, o, h, hg => by
    rw [sXf] at h ⊢
    split at h
    · exact h
    · exact h
    · exact sXf_mono f h (by omega)
/-- a definition, and those behind it -/
noncomputable def sDf (t : List Nat) : Nat → sG → List (List Nat × Nat) → Nat → Option ((Nat × Nat) ⊕ (sG × List (List Nat × Nat)))
  | 0, _, _, _ => none
  | f + 1, G, NL, p => if tkK t p = 0 ∧ NL ≠ [] then some (.inr (G, NL)) else match wdO t p with
    | none => some (.inl (1, tkF t p))
    | some w => if (tgI w).isSome then some (.inl (1, tkF t p)) else if (nmF w NL).isSome then some (.inl (2, tkF t p)) else if tkK t (tkE t p) ≠ 2 then some (.inl (1, tkF t (tkE t p))) else match sXf t NL f G [] (tkE t (tkE t p)) with
      | none => none
      | some (.inl x) => some (.inl x)
      | some (.inr (G', p', n)) => sDf t f G' (NL ++ [(w, n)]) p'
theorem sDf_mono {t : List Nat} : ∀ (f : Nat) {g : Nat} {G : sG} {NL : List (List Nat × Nat)} {p : Nat} {o : (Nat × Nat) ⊕ (sG × List (List Nat × Nat))}, sDf t f G NL p = some o → f ≤ g → sDf t g G NL p = some o
  | 0, _, _, _, _, _, h, _ => by cases h
  | f + 1, 0, _, _, _, _, _, hg => by omega
  | f + 1, g + 1, G, NL, p, o, h, hg => by
    rw [sDf] at h ⊢
    split at h
    · rename_i q
      rw [if_pos q]
      exact h
    · rename_i q
      rw [if_neg q]
      split at h
      · exact h
      · split at h
        · rename_i q2
          rw [if_pos q2]
          exact h
        · rename_i q2
          rw [if_neg q2]
          split at h
          · rename_i q3
            rw [if_pos q3]
            exact h
          · rename_i q3
            rw [if_neg q3]
            split at h
            · rename_i q4
              rw [if_pos q4]
              exact h
            · rename_i q4
              rw [if_neg q4]
              split at h
              · cases h
              · rename_i e
                rw [sXf_mono f e (by omega)]
                exact h
              · rename_i e
                rw [sXf_mono f e (by omega)]
                exact sDf_mono f h (by omega)
theorem sDf_uniq {t : List Nat} {f g : Nat} {G : sG} {NL : List (List Nat × Nat)} {p : Nat} {o o' : (Nat × Nat) ⊕ (sG × List (List Nat × Nat))} (h : sDf t f G NL p = some o) (h' : sDf t g G NL p = some o') : o = o' := by
  have h1 := sDf_mono f h (Nat.le_max_left f g)
  have h2 := sDf_mono g h' (Nat.le_max_right f g)
  rw [h1] at h2
  cases h2
  rfl
