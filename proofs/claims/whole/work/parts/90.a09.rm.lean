/-! ===== the reference's machine ===== -/
abbrev rm_S : Type := List (Nat × Nat × Nat × Nat) × (Nat → Bool) × Nat × Nat × Nat × Nat × Nat × Nat
def rm_own (A : mc_A) (n : Nat) : Nat := 1 + (if mc_op A n = 7 then mc_sk A n else if mc_op A n = 10 ∨ mc_op A n = 12 then mc_ot A n else 0)
def rm_step (A : mc_A) (jt : Nat → (Nat → Bool) → List Bool) (wb : Nat → Bool) : rm_S → Option rm_S
  | ([], q) => some ([], q)
  | ((n, d, i, t) :: E, B, fr, cn, cm, fn, fm, st) => match mc_op A n with
    | 0 => if d = 0 then some ((mc_on A n, 0, i, fr) :: (n, 1, i, t) :: E, B, fr + mc_sk A n, cn + mc_sk A n, max cm (cn + mc_sk A n), fn + 1, max fm (fn + 1), st + rm_own A (mc_on A n))
      else if d = 1 then some ((mc_tw A n, 0, fr - mc_sk A n, t) :: (n, 2, i, t) :: E, B, fr, cn, cm, fn, fm, st + rm_own A (mc_tw A n))
      else some (E, B, fr - mc_sk A n, cn - mc_sk A n, cm, fn - 1, fm, st)
    | 1 => if d = 0 then (if B i = false then (if mc_op A (mc_on A n) = 11 then none else some ((mc_on A n, 0, i + mc_sk A n, t) :: (n, 1, i, t) :: E, B, fr, cn, cm, fn, fm, st + rm_own A (mc_on A n))) else (if mc_op A (mc_tw A n) = 11 then none else some ((mc_tw A n, 0, i + mc_ot A n, t) :: (n, 1, i, t) :: E, B, fr, cn, cm, fn, fm, st + rm_own A (mc_tw A n)))) else some (E, B, fr, cn, cm, fn, fm, st)
    | 2 => if d = 0 then some ((mc_on A n, 0, i, t) :: (n, 1, i, t) :: E, B, fr, cn, cm, fn, fm, st + rm_own A (mc_on A n))
      else if d = 1 then some ((mc_tw A n, 0, i, t + mc_sk A n) :: (n, 2, i, t) :: E, B, fr, cn, cm, fn, fm, st + rm_own A (mc_tw A n))
      else some (E, B, fr, cn, cm, fn, fm, st)
    | 3 => if d = 0 then some ((mc_on A n, 0, i, t + (1 + mc_sk A n)) :: (n, 1, i, t) :: E, mc_wr B t (false :: List.replicate (mc_sk A n) false), fr, cn, cm, fn, fm, st + rm_own A (mc_on A n)) else some (E, B, fr, cn, cm, fn, fm, st)
    | 4 => if d = 0 then some ((mc_on A n, 0, i, t + (1 + mc_sk A n)) :: (n, 1, i, t) :: E, mc_wr B t (true :: List.replicate (mc_sk A n) false), fr, cn, cm, fn, fm, st + rm_own A (mc_on A n)) else some (E, B, fr, cn, cm, fn, fm, st)
    | 5 => if d = 0 then some ((mc_on A n, 0, i, t) :: (n, 1, i, t) :: E, B, fr, cn, cm, fn, fm, st + rm_own A (mc_on A n)) else some (E, B, fr, cn, cm, fn, fm, st)
    | 6 => if d = 0 then some ((mc_on A n, 0, i + mc_sk A n, t) :: (n, 1, i, t) :: E, B, fr, cn, cm, fn, fm, st + rm_own A (mc_on A n)) else some (E, B, fr, cn, cm, fn, fm, st)
    | 7 => some (E, mc_wr B t (mc_rd B (i + mc_ot A n) (mc_sk A n)), fr, cn, cm, fn, fm, st)
    | 8 => some (E, B, fr, cn, cm, fn, fm, st)
    | 10 => some (E, mc_wr B t (mc_rd wb (mc_sk A n) (mc_ot A n)), fr, cn, cm, fn, fm, st)
    | 12 => some (E, mc_wr B t (jt (mc_sk A n) (mc_sh B i)), fr, cn, cm, fn, fm, st)
    | _ => none
def rm_it (stp : rm_S → Option rm_S) : Nat → rm_S → Option rm_S
  | 0, q => some q
  | j + 1, q => match stp q with
    | some q' => rm_it stp j q'
    | none => none
theorem rm_it_s {stp : rm_S → Option rm_S} {q q' : rm_S} (h : stp q = some q') (j : Nat) : rm_it stp (j + 1) q = rm_it stp j q' := by simp [rm_it, h]
theorem rm_it_n {stp : rm_S → Option rm_S} {q : rm_S} (h : stp q = none) : rm_it stp 1 q = none := by simp [rm_it, h]
theorem rm_it_add {stp : rm_S → Option rm_S} : ∀ (i j : Nat) {q q' : rm_S}, rm_it stp i q = some q' → rm_it stp (i + j) q = rm_it stp j q'
  | 0, j, q, q', h => by
    cases h
    rw [Nat.zero_add]
  | i + 1, j, q, q', h => by
    rw [Nat.add_right_comm]
    cases hs : stp q with
    | none => simp [rm_it, hs] at h
    | some p =>
      rw [rm_it_s hs] at h ⊢
      exact rm_it_add i j h
/-- what working a node does -/
def rm_P (stp : rm_S → Option rm_S) (ws wt own : Nat → Nat) (n : Nat) (r : (Nat → Bool) → Option mc_V) : Prop :=
  (∀ u u' : Nat → Bool, (∀ i, i < ws n → u i = u' i) → r u = r u') ∧
  ∀ (i t : Nat) (E : List (Nat × Nat × Nat × Nat)) (B : Nat → Bool) (fr cn cm fn fm st : Nat), i + ws n ≤ fr → t + wt n ≤ fr → (i + ws n ≤ t ∨ t + wt n ≤ i) → cn ≤ cm → fn ≤ fm →
    match r (mc_sh B i) with
    | some (a, s, c, h) => a.length = wt n ∧ ∃ j B', rm_it stp j ((n, 0, i, t) :: E, B, fr, cn, cm, fn, fm, st + own n) = some (E, B', fr, cn, max cm (cn + c), fn, max fm (fn + h), st + s) ∧ (∀ k, k < wt n → B' (t + k) = a.getD k false) ∧ ∀ k, k < fr → (k < t ∨ t + wt n ≤ k) → B' k = B k
    | none => ∃ j, rm_it stp j ((n, 0, i, t) :: E, B, fr, cn, cm, fn, fm, st + own n) = none
theorem rm_P_leaf {stp : rm_S → Option rm_S} {ws wt own : Nat → Nat} {n : Nat} {l : (Nat → Bool) → List Bool} (hloc : ∀ u u' : Nat → Bool, (∀ i, i < ws n → u i = u' i) → l u = l u') (hlen : ∀ u, (l u).length = wt n)
    (hst : ∀ i t E B fr cn cm fn fm st, stp ((n, 0, i, t) :: E, B, fr, cn, cm, fn, fm, st) = some (E, mc_wr B t (l (mc_sh B i)), fr, cn, cm, fn, fm, st)) : rm_P stp ws wt own n (fun u => some (l u, own n, 0, 0)) := by
  refine ⟨fun u u' h => by show some _ = some _; rw [hloc u u' h], fun i t E B fr cn cm fn fm st h1 h2 h3 h4 h5 => ?_⟩
  refine ⟨hlen _, 1, mc_wr B t (l (mc_sh B i)), ?_, fun k hk => ?_, fun k hk h => ?_⟩
  · rw [rm_it_s (hst i t E B fr cn cm fn fm _)]
    show some _ = some _
    rw [Nat.max_eq_left (by omega), Nat.max_eq_left (by omega)]
  · exact mc_wr_in (by rw [hlen]; exact hk)
  · exact mc_wr_out (by rw [hlen]; exact h)
theorem rm_P_one {stp : rm_S → Option rm_S} {ws wt own : Nat → Nat} {n x k : Nat} {w : List Bool} {rx : (Nat → Bool) → Option mc_V} (hx : rm_P stp ws wt own x rx) (hown : own n = 1) (hws : k + ws x ≤ ws n) (hwt : wt n = w.length + wt x)
    (hst : ∀ i t E B fr cn cm fn fm st, stp ((n, 0, i, t) :: E, B, fr, cn, cm, fn, fm, st) = some ((x, 0, i + k, t + w.length) :: (n, 1, i, t) :: E, mc_wr B t w, fr, cn, cm, fn, fm, st + own x))
    (hst1 : ∀ i t E B fr cn cm fn fm st, stp ((n, 1, i, t) :: E, B, fr, cn, cm, fn, fm, st) = some (E, B, fr, cn, cm, fn, fm, st)) :
    rm_P stp ws wt own n (fun u => match rx (mc_sh u k) with
      | some (a, s1, c1, g1) => some (w ++ a, 1 + s1, c1, g1)
      | none => none) := by
  refine ⟨fun u u' h => ?_, fun i t E B fr cn cm fn fm st h1 h2 h3 h4 h5 => ?_⟩
  · show (match rx (mc_sh u k) with
      | some (a, s1, c1, g1) => some (w ++ a, 1 + s1, c1, g1)
      | none => none) = _
    rw [hx.1 (mc_sh u k) (mc_sh u' k) (fun i hi => h (k + i) (by omega))]
  · have hloc : rx (mc_sh (mc_sh B i) k) = rx (mc_sh (mc_wr B t w) (i + k)) := by
      rw [mc_sh_sh]
      refine hx.1 _ _ (fun q hq => ?_)
      show B (i + k + q) = mc_wr B t w (i + k + q)
      exact (mc_wr_out (by omega)).symm
    have h := hx.2 (i + k) (t + w.length) ((n, 1, i, t) :: E) (mc_wr B t w) fr cn cm fn fm (st + own n) (by omega) (by omega) (by omega) h4 h5
    show match (match rx (mc_sh (mc_sh B i) k) with
      | some (a, s1, c1, g1) => some (w ++ a, 1 + s1, c1, g1)
      | none => none) with
    | some (a, s, c, h) => _
    | none => _
    rw [hloc]
    cases e : rx (mc_sh (mc_wr B t w) (i + k)) with
    | none =>
      rw [e] at h
      obtain ⟨j, h⟩ := h
      exact ⟨j + 1, by rw [rm_it_s (hst i t E B fr cn cm fn fm _)]; exact h⟩
    | some q =>
      obtain ⟨a, s1, c1, g1⟩ := q
      rw [e] at h
      obtain ⟨hl, j, B', h6, h7, h8⟩ := h
      refine ⟨by rw [List.length_append, hl]; omega, j + 1 + 1, B', ?_, fun q hq => ?_, fun q hq hd => ?_⟩
      · rw [rm_it_s (hst i t E B fr cn cm fn fm _), rm_it_add j 1 h6, rm_it_s (hst1 i t E B' fr cn _ fn _ _) 0, hown, Nat.add_assoc]
        rfl
      · by_cases hw : q < w.length
        · rw [h8 (t + q) (by omega) (Or.inl (by omega)), mc_wr_in hw, gd_l hw]
        · have := h7 (q - w.length) (by omega)
          rw [show t + w.length + (q - w.length) = t + q by omega] at this
          rw [this, gd_r (by omega)]
      · rw [h8 q hq (by omega), mc_wr_out (by omega)]
theorem rm_P_comp {stp : rm_S → Option rm_S} {ws wt own : Nat → Nat} {n x y k : Nat} {rx ry : (Nat → Bool) → Option mc_V} (hx : rm_P stp ws wt own x rx) (hy : rm_P stp ws wt own y ry) (hown : own n = 1) (h1 : ws x ≤ ws n) (h2 : wt x = k) (h3 : ws y ≤ k) (h4 : wt y = wt n)
    (hst : ∀ i t E B fr cn cm fn fm st, stp ((n, 0, i, t) :: E, B, fr, cn, cm, fn, fm, st) = some ((x, 0, i, fr) :: (n, 1, i, t) :: E, B, fr + k, cn + k, max cm (cn + k), fn + 1, max fm (fn + 1), st + own x))
    (hst1 : ∀ i t E B fr cn cm fn fm st, stp ((n, 1, i, t) :: E, B, fr + k, cn, cm, fn, fm, st) = some ((y, 0, fr, t) :: (n, 2, i, t) :: E, B, fr + k, cn, cm, fn, fm, st + own y))
    (hst2 : ∀ i t E B fr cn cm fn fm st, stp ((n, 2, i, t) :: E, B, fr + k, cn + k, cm, fn + 1, fm, st) = some (E, B, fr, cn, cm, fn, fm, st)) :
    rm_P stp ws wt own n (fun u => match rx u with
      | some (a, s1, c1, g1) => match ry (mc_ex a) with
        | some (b, s2, c2, g2) => some (b, 1 + s1 + s2, k + max c1 c2, 1 + max g1 g2)
        | none => none
      | none => none) := by
  refine ⟨fun u u' h => ?_, fun i t E B fr cn cm fn fm st q1 q2 q3 q4 q5 => ?_⟩
  · have e := hx.1 u u' (fun i hi => h i (by omega))
    simp only [e]
  · have h := hx.2 i fr ((n, 1, i, t) :: E) B (fr + k) (cn + k) (max cm (cn + k)) (fn + 1) (max fm (fn + 1)) (st + own n) (by omega) (by omega) (by omega) (by omega) (by omega)
    show match (match rx (mc_sh B i) with
      | some (a, s1, c1, g1) => match ry (mc_ex a) with
        | some (b, s2, c2, g2) => some (b, 1 + s1 + s2, k + max c1 c2, 1 + max g1 g2)
        | none => none
      | none => none) with
    | some (a, s, c, h) => _
    | none => _
    cases e : rx (mc_sh B i) with
    | none =>
      rw [e] at h
      obtain ⟨j, h⟩ := h
      exact ⟨j + 1, by rw [rm_it_s (hst i t E B fr cn cm fn fm _)]; exact h⟩
    | some q =>
      obtain ⟨a, s1, c1, g1⟩ := q
      rw [e] at h
      obtain ⟨hl, j, B1, h6, h7, h8⟩ := h
      have hloc : ry (mc_ex a) = ry (mc_sh B1 fr) := hy.1 _ _ (fun q hq => (h7 q (by omega)).symm)
      have h' := hy.2 fr t ((n, 2, i, t) :: E) B1 (fr + k) (cn + k) (max (max cm (cn + k)) (cn + k + c1)) (fn + 1) (max (max fm (fn + 1)) (fn + 1 + g1)) (st + own n + s1) (by omega) (by omega) (by omega) (by omega) (by omega)
      show match (match ry (mc_ex a) with
        | some (b, s2, c2, g2) => some (b, 1 + s1 + s2, k + max c1 c2, 1 + max g1 g2)
        | none => none) with
      | some (a, s, c, h) => _
      | none => _
      rw [hloc]
      cases e2 : ry (mc_sh B1 fr) with
      | none =>
        rw [e2] at h'
        obtain ⟨j', h'⟩ := h'
        exact ⟨j + (j' + 1) + 1, by rw [rm_it_s (hst i t E B fr cn cm fn fm _), rm_it_add j (j' + 1) h6, rm_it_s (hst1 i t E B1 fr _ _ _ _ _)]; exact h'⟩
      | some q =>
        obtain ⟨a2, s2, c2, g2⟩ := q
        rw [e2] at h'
        obtain ⟨hl', j', B', h6', h7', h8'⟩ := h'
        refine ⟨by rw [hl', h4], j + ((j' + 1) + 1) + 1, B', ?_, fun q hq => h7' q (by omega), fun q hq hd => ?_⟩
        · rw [rm_it_s (hst i t E B fr cn cm fn fm _), rm_it_add j (j' + 1 + 1) h6, rm_it_s (hst1 i t E B1 fr _ _ _ _ _), rm_it_add j' 1 h6', rm_it_s (hst2 i t E B' fr cn _ fn _ _) 0]
          show some _ = some _
          rw [hown, show st + 1 + s1 + s2 = st + (1 + s1 + s2) by omega, show max (max (max cm (cn + k)) (cn + k + c1)) (cn + k + c2) = max cm (cn + (k + max c1 c2)) by omega, show max (max (max fm (fn + 1)) (fn + 1 + g1)) (fn + 1 + g2) = max fm (fn + (1 + max g1 g2)) by omega]
        · rw [h8' q (by omega) (by omega), h8 q (by omega) (by omega)]
theorem rm_P_pair {stp : rm_S → Option rm_S} {ws wt own : Nat → Nat} {n x y k : Nat} {rx ry : (Nat → Bool) → Option mc_V} (hx : rm_P stp ws wt own x rx) (hy : rm_P stp ws wt own y ry) (hown : own n = 1) (h1 : ws x ≤ ws n) (h2 : wt x = k) (h3 : ws y ≤ ws n) (h4 : k + wt y = wt n)
    (hst : ∀ i t E B fr cn cm fn fm st, stp ((n, 0, i, t) :: E, B, fr, cn, cm, fn, fm, st) = some ((x, 0, i, t) :: (n, 1, i, t) :: E, B, fr, cn, cm, fn, fm, st + own x))
    (hst1 : ∀ i t E B fr cn cm fn fm st, stp ((n, 1, i, t) :: E, B, fr, cn, cm, fn, fm, st) = some ((y, 0, i, t + k) :: (n, 2, i, t) :: E, B, fr, cn, cm, fn, fm, st + own y))
    (hst2 : ∀ i t E B fr cn cm fn fm st, stp ((n, 2, i, t) :: E, B, fr, cn, cm, fn, fm, st) = some (E, B, fr, cn, cm, fn, fm, st)) :
    rm_P stp ws wt own n (fun u => match rx u with
      | some (a, s1, c1, g1) => match ry u with
        | some (b, s2, c2, g2) => some (a ++ b, 1 + s1 + s2, max c1 c2, max g1 g2)
        | none => none
      | none => none) := by
  refine ⟨fun u u' h => ?_, fun i t E B fr cn cm fn fm st q1 q2 q3 q4 q5 => ?_⟩
  · have e := hx.1 u u' (fun i hi => h i (by omega))
    have e2 := hy.1 u u' (fun i hi => h i (by omega))
    simp only [e, e2]
  · have h := hx.2 i t ((n, 1, i, t) :: E) B fr cn cm fn fm (st + own n) (by omega) (by omega) (by omega) (by omega) (by omega)
    show match (match rx (mc_sh B i) with
      | some (a, s1, c1, g1) => match ry (mc_sh B i) with
        | some (b, s2, c2, g2) => some (a ++ b, 1 + s1 + s2, max c1 c2, max g1 g2)
        | none => none
      | none => none) with
    | some (a, s, c, h) => _
    | none => _
    cases e : rx (mc_sh B i) with
    | none =>
      rw [e] at h
      obtain ⟨j, h⟩ := h
      exact ⟨j + 1, by rw [rm_it_s (hst i t E B fr cn cm fn fm _)]; exact h⟩
    | some q =>
      obtain ⟨a, s1, c1, g1⟩ := q
      rw [e] at h
      obtain ⟨hl, j, B1, h6, h7, h8⟩ := h
      have hloc : ry (mc_sh B i) = ry (mc_sh B1 i) := hy.1 _ _ (fun q hq => (h8 (i + q) (by omega) (by omega)).symm)
      have h' := hy.2 i (t + k) ((n, 2, i, t) :: E) B1 fr cn (max cm (cn + c1)) fn (max fm (fn + g1)) (st + own n + s1) (by omega) (by omega) (by omega) (by omega) (by omega)
      show match (match ry (mc_sh B i) with
        | some (b, s2, c2, g2) => some (a ++ b, 1 + s1 + s2, max c1 c2, max g1 g2)
        | none => none) with
      | some (a, s, c, h) => _
      | none => _
      rw [hloc]
      cases e2 : ry (mc_sh B1 i) with
      | none =>
        rw [e2] at h'
        obtain ⟨j', h'⟩ := h'
        exact ⟨j + (j' + 1) + 1, by rw [rm_it_s (hst i t E B fr cn cm fn fm _), rm_it_add j (j' + 1) h6, rm_it_s (hst1 i t E B1 fr _ _ _ _ _)]; exact h'⟩
      | some q =>
        obtain ⟨a2, s2, c2, g2⟩ := q
        rw [e2] at h'
        obtain ⟨hl', j', B', h6', h7', h8'⟩ := h'
        refine ⟨by rw [List.length_append, hl, hl']; omega, j + ((j' + 1) + 1) + 1, B', ?_, fun q hq => ?_, fun q hq hd => ?_⟩
        · rw [rm_it_s (hst i t E B fr cn cm fn fm _), rm_it_add j (j' + 1 + 1) h6, rm_it_s (hst1 i t E B1 fr _ _ _ _ _), rm_it_add j' 1 h6', rm_it_s (hst2 i t E B' fr cn _ fn _ _) 0]
          show some _ = some _
          rw [hown, show st + 1 + s1 + s2 = st + (1 + s1 + s2) by omega, show max (max cm (cn + c1)) (cn + c2) = max cm (cn + max c1 c2) by omega, show max (max fm (fn + g1)) (fn + g2) = max fm (fn + max g1 g2) by omega]
        · by_cases hk : q < k
          · rw [h8' (t + q) (by omega) (by omega), h7 q (by omega), gd_l (by omega)]
          · have := h7' (q - k) (by omega)
            rw [show t + k + (q - k) = t + q by omega] at this
            rw [this, gd_r (by omega), hl, h2]
        · rw [h8' q (by omega) (by omega), h8 q (by omega) (by omega)]
