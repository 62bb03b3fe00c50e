/-! ===== the machine's steps, and that they give what nodes give ===== -/
abbrev mc_F : Type := Nat × Nat × Nat × Nat × Nat
abbrev mc_S : Type := List mc_F × (Nat → Bool) × Nat × Nat × Nat
def mc_step (A : mc_A) (df : Bool) (dn : Nat → Nat) (jt : Nat → (Nat → Bool) → List Bool) (wb : Nat → Bool) : mc_S → Option mc_S
  | ([], q) => some ([], q)
  | ((n, f, t, b, g) :: K, B, pc, pf, sp) => match mc_op A n with
    | 0 => some ((mc_on A n, f, b, b + mc_sk A n, g + 1) :: (mc_tw A n, b, t, b + mc_sk A n, g + 1) :: K, B, max pc (b + mc_sk A n), max pf (g + 1), sp + 1)
    | 1 => if B f = false then some ((mc_on A n, f + mc_sk A n, t, b, g) :: K, B, pc, pf, sp + 1) else some ((mc_tw A n, f + mc_ot A n, t, b, g) :: K, B, pc, pf, sp + 1)
    | 2 => some ((mc_on A n, f, t, b, g) :: (mc_tw A n, f, t + mc_sk A n, b, g) :: K, B, pc, pf, sp + 1)
    | 3 => some ((mc_on A n, f, t + (1 + mc_sk A n), b, g) :: K, mc_wr B t (false :: List.replicate (mc_sk A n) false), pc, pf, sp + 1)
    | 4 => some ((mc_on A n, f, t + (1 + mc_sk A n), b, g) :: K, mc_wr B t (true :: List.replicate (mc_sk A n) false), pc, pf, sp + 1)
    | 5 => some ((mc_on A n, f, t, b, g) :: K, B, pc, pf, sp + 1)
    | 6 => some ((mc_on A n, f + mc_sk A n, t, b, g) :: K, B, pc, pf, sp + 1)
    | 7 => some (K, mc_wr B t (mc_rd B (f + mc_ot A n) (mc_sk A n)), pc, pf, sp + (1 + mc_sk A n))
    | 8 => some (K, B, pc, pf, sp + 1)
    | 10 => some (K, mc_wr B t (mc_rd wb (mc_sk A n) (mc_ot A n)), pc, pf, sp + (1 + mc_ot A n))
    | 12 => if df = true then some ((dn (mc_sk A n), f, t, b, g) :: K, B, pc, pf, sp + 1) else some (K, mc_wr B t (jt (mc_sk A n) (mc_sh B f)), pc, pf, sp + (1 + mc_ot A n))
    | _ => none
def mc_it (stp : mc_S → Option mc_S) : Nat → mc_S → Option mc_S
  | 0, q => some q
  | j + 1, q => match stp q with
    | some q' => mc_it stp j q'
    | none => none
theorem mc_it_s {stp : mc_S → Option mc_S} {q q' : mc_S} (h : stp q = some q') (j : Nat) : mc_it stp (j + 1) q = mc_it stp j q' := by simp [mc_it, h]
theorem mc_it_n {stp : mc_S → Option mc_S} {q : mc_S} (h : stp q = none) : mc_it stp 1 q = none := by simp [mc_it, h]
theorem mc_it_add {stp : mc_S → Option mc_S} : ∀ (i j : Nat) {q q' : mc_S}, mc_it stp i q = some q' → mc_it stp (i + j) q = mc_it stp j q'
  | 0, j, q, q', h => by
    cases h
    rw [Nat.zero_add]
  | i + 1, j, q, q', h => by
    rw [Nat.add_right_comm]
    cases hs : stp q with
    | none => simp [mc_it, hs] at h
    | some p =>
      rw [mc_it_s hs] at h ⊢
      exact mc_it_add i j h
theorem gd_l {a b : List Bool} {i : Nat} (h : i < a.length) : (a ++ b).getD i false = a.getD i false := by
  simp [List.getD, List.getElem?_append_left h]
theorem gd_r {a b : List Bool} {i : Nat} (h : a.length ≤ i) : (a ++ b).getD i false = b.getD (i - a.length) false := by
  simp [List.getD, List.getElem?_append_right h]
/-- what working a node does, from any place -/
def mc_P (stp : mc_S → Option mc_S) (ws wt sb : Nat → Nat) (n : Nat) (r : (Nat → Bool) → Option mc_V) : Prop :=
  (∀ u u' : Nat → Bool, (∀ i, i < ws n → u i = u' i) → r u = r u') ∧
  ∀ (f t b g : Nat) (K : List mc_F) (B : Nat → Bool) (pc pf sp : Nat), f + ws n ≤ b → t + wt n ≤ b → (f + ws n ≤ t ∨ t + wt n ≤ f) → b ≤ pc → g ≤ pf →
    match r (mc_sh B f) with
    | some (a, s, c, h) => a.length = wt n ∧ ∃ j B', j ≤ sb n ∧ mc_it stp j ((n, f, t, b, g) :: K, B, pc, pf, sp) = some (K, B', max pc (b + c), max pf (g + h), sp + s) ∧ (∀ i, i < wt n → B' (t + i) = a.getD i false) ∧ ∀ i, i < b → (i < t ∨ t + wt n ≤ i) → B' i = B i
    | none => ∃ j, j ≤ sb n ∧ mc_it stp j ((n, f, t, b, g) :: K, B, pc, pf, sp) = none
theorem mc_rd_len (B : Nat → Bool) (p w : Nat) : (mc_rd B p w).length = w := by simp [mc_rd]
theorem mc_rd_get (B : Nat → Bool) (p : Nat) {w i : Nat} (h : i < w) : (mc_rd B p w).getD i false = B (p + i) := by
  simp [mc_rd, List.getD, List.getElem?_map, List.getElem?_range h]
theorem mc_wr_in {B : Nat → Bool} {p i : Nat} {l : List Bool} (h : i < l.length) : mc_wr B p l (p + i) = l.getD i false := by
  unfold mc_wr
  rw [if_pos ⟨by omega, by omega⟩]
  congr 1
  omega
theorem mc_wr_out {B : Nat → Bool} {p i : Nat} {l : List Bool} (h : i < p ∨ p + l.length ≤ i) : mc_wr B p l i = B i := by
  unfold mc_wr
  rw [if_neg (by omega)]
theorem mc_sh_sh (B : Nat → Bool) (f k : Nat) : mc_sh (mc_sh B f) k = mc_sh B (f + k) := by
  funext i
  simp only [mc_sh]
  congr 1
  omega
/-- a leaf: one step that writes -/
theorem mc_P_leaf {stp : mc_S → Option mc_S} {ws wt sb : Nat → Nat} {n s : Nat} {l : (Nat → Bool) → List Bool} (hsb : 1 ≤ sb n) (hloc : ∀ u u' : Nat → Bool, (∀ i, i < ws n → u i = u' i) → l u = l u') (hlen : ∀ u, (l u).length = wt n)
    (hst : ∀ f t b g K B pc pf sp, stp ((n, f, t, b, g) :: K, B, pc, pf, sp) = some (K, mc_wr B t (l (mc_sh B f)), pc, pf, sp + s)) : mc_P stp ws wt sb n (fun u => some (l u, s, 0, 0)) := by
  refine ⟨fun u u' h => by show some _ = some _; rw [hloc u u' h], fun f t b g K B pc pf sp h1 h2 h3 h4 h5 => ?_⟩
  refine ⟨hlen _, 1, mc_wr B t (l (mc_sh B f)), hsb, ?_, fun i hi => ?_, fun i hi h => ?_⟩
  · rw [mc_it_s (hst f t b g K B pc pf sp)]
    show some _ = some _
    rw [Nat.max_eq_left (by omega), Nat.max_eq_left (by omega)]
  · exact mc_wr_in (by rw [hlen]; exact hi)
  · exact mc_wr_out (by rw [hlen]; exact h)
/-- a node with one child, which is worked at another place -/
theorem mc_P_one {stp : mc_S → Option mc_S} {ws wt sb : Nat → Nat} {n x k : Nat} {w : List Bool} {rx : (Nat → Bool) → Option mc_V} (hx : mc_P stp ws wt sb x rx) (hsb : 1 + sb x ≤ sb n) (hws : k + ws x ≤ ws n) (hwt : wt n = w.length + wt x)
    (hst : ∀ f t b g K B pc pf sp, f + ws n ≤ b → t + wt n ≤ b → stp ((n, f, t, b, g) :: K, B, pc, pf, sp) = some ((x, f + k, t + w.length, b, g) :: K, mc_wr B t w, pc, pf, sp + 1)) :
    mc_P stp ws wt sb n (fun u => match rx (mc_sh u k) with
      | some (a, s1, c1, g1) => some (w ++ a, 1 + s1, c1, g1)
      | none => none) := by
  refine ⟨fun u u' h => ?_, fun f t b g K B pc pf sp h1 h2 h3 h4 h5 => ?_⟩
  · show (match rx (mc_sh u k) with
      | some (a, s1, c1, g1) => some (w ++ a, 1 + s1, c1, g1)
      | none => none) = _
    rw [hx.1 (mc_sh u k) (mc_sh u' k) (fun i hi => h (k + i) (by omega))]
  · have hloc : rx (mc_sh (mc_sh B f) k) = rx (mc_sh (mc_wr B t w) (f + k)) := by
      rw [mc_sh_sh]
      refine hx.1 _ _ (fun i hi => ?_)
      show B (f + k + i) = mc_wr B t w (f + k + i)
      exact (mc_wr_out (by omega)).symm
    have h := hx.2 (f + k) (t + w.length) b g K (mc_wr B t w) pc pf (sp + 1) (by omega) (by omega) (by omega) h4 h5
    show match (match rx (mc_sh (mc_sh B f) k) with
      | some (a, s1, c1, g1) => some (w ++ a, 1 + s1, c1, g1)
      | none => none) with
    | some (a, s, c, h) => _
    | none => _
    rw [hloc]
    cases e : rx (mc_sh (mc_wr B t w) (f + k)) with
    | none =>
      rw [e] at h
      obtain ⟨j, hj, h⟩ := h
      exact ⟨j + 1, by omega, by rw [mc_it_s (hst f t b g K B pc pf sp h1 h2)]; exact h⟩
    | some q =>
      obtain ⟨a, s1, c1, g1⟩ := q
      rw [e] at h
      obtain ⟨hl, j, B', hj, h6, h7, h8⟩ := h
      refine ⟨by rw [List.length_append, hl]; omega, j + 1, B', by omega, ?_, fun i hi => ?_, fun i hi hd => ?_⟩
      · rw [mc_it_s (hst f t b g K B pc pf sp h1 h2), h6]
        rw [Nat.add_assoc]
      · by_cases hw : i < w.length
        · rw [h8 (t + i) (by omega) (Or.inl (by omega)), mc_wr_in hw, gd_l hw]
        · have := h7 (i - w.length) (by omega)
          rw [show t + w.length + (i - w.length) = t + i by omega] at this
          rw [this, gd_r (by omega)]
      · rw [h8 i hi (by omega), mc_wr_out (by omega)]
/-- COMP -/
theorem mc_P_comp {stp : mc_S → Option mc_S} {ws wt sb : Nat → Nat} {n x y k : Nat} {rx ry : (Nat → Bool) → Option mc_V} (hx : mc_P stp ws wt sb x rx) (hy : mc_P stp ws wt sb y ry) (hsb : 1 + sb x + sb y ≤ sb n) (h1 : ws x ≤ ws n) (h2 : wt x = k) (h3 : ws y ≤ k) (h4 : wt y = wt n)
    (hst : ∀ f t b g K B pc pf sp, stp ((n, f, t, b, g) :: K, B, pc, pf, sp) = some ((x, f, b, b + k, g + 1) :: (y, b, t, b + k, g + 1) :: K, B, max pc (b + k), max pf (g + 1), sp + 1)) :
    mc_P stp ws wt sb n (fun u => match rx u with
      | some (a, s1, c1, g1) => match ry (mc_ex a) with
        | some (b, s2, c2, g2) => some (b, 1 + s1 + s2, k + max c1 c2, 1 + max g1 g2)
        | none => none
      | none => none) := by
  refine ⟨fun u u' h => ?_, fun f t b g K B pc pf sp q1 q2 q3 q4 q5 => ?_⟩
  · have e := hx.1 u u' (fun i hi => h i (by omega))
    simp only [e]
  · have h := hx.2 f b (b + k) (g + 1) ((y, b, t, b + k, g + 1) :: K) B (max pc (b + k)) (max pf (g + 1)) (sp + 1) (by omega) (by omega) (by omega) (by omega) (by omega)
    show match (match rx (mc_sh B f) with
      | some (a, s1, c1, g1) => match ry (mc_ex a) with
        | some (b, s2, c2, g2) => some (b, 1 + s1 + s2, k + max c1 c2, 1 + max g1 g2)
        | none => none
      | none => none) with
    | some (a, s, c, h) => _
    | none => _
    cases e : rx (mc_sh B f) with
    | none =>
      rw [e] at h
      obtain ⟨j, hj, h⟩ := h
      exact ⟨j + 1, by omega, by rw [mc_it_s (hst f t b g K B pc pf sp)]; exact h⟩
    | some q =>
      obtain ⟨a, s1, c1, g1⟩ := q
      rw [e] at h
      obtain ⟨hl, j, B1, hj, h6, h7, h8⟩ := h
      have hloc : ry (mc_ex a) = ry (mc_sh B1 b) := hy.1 _ _ (fun i hi => (h7 i (by omega)).symm)
      have h' := hy.2 b t (b + k) (g + 1) K B1 (max (max pc (b + k)) (b + k + c1)) (max (max pf (g + 1)) (g + 1 + g1)) (sp + 1 + s1) (by omega) (by omega) (by omega) (by omega) (by omega)
      show match (match ry (mc_ex a) with
        | some (b, s2, c2, g2) => some (b, 1 + s1 + s2, k + max c1 c2, 1 + max g1 g2)
        | none => none) with
      | some (a, s, c, h) => _
      | none => _
      rw [hloc]
      cases e2 : ry (mc_sh B1 b) with
      | none =>
        rw [e2] at h'
        obtain ⟨j', hj', h'⟩ := h'
        exact ⟨j + j' + 1, by omega, by rw [mc_it_s (hst f t b g K B pc pf sp), mc_it_add j j' h6]; exact h'⟩
      | some q =>
        obtain ⟨a2, s2, c2, g2⟩ := q
        rw [e2] at h'
        obtain ⟨hl', j', B', hj', h6', h7', h8'⟩ := h'
        refine ⟨by rw [hl', h4], j + j' + 1, B', by omega, ?_, fun i hi => h7' i (by omega), fun i hi hd => ?_⟩
        · rw [mc_it_s (hst f t b g K B pc pf sp), mc_it_add j j' h6, h6']
          congr 3
          · rw [show sp + 1 + s1 + s2 = sp + (1 + s1 + s2) by omega, show max (max (max pc (b + k)) (b + k + c1)) (b + k + c2) = max pc (b + (k + max c1 c2)) by omega, show max (max (max pf (g + 1)) (g + 1 + g1)) (g + 1 + g2) = max pf (g + (1 + max g1 g2)) by omega]
        · rw [h8' i (by omega) (by omega), h8 i (by omega) (by omega)]
/-- PAIR -/
theorem mc_P_pair {stp : mc_S → Option mc_S} {ws wt sb : Nat → Nat} {n x y k : Nat} {rx ry : (Nat → Bool) → Option mc_V} (hx : mc_P stp ws wt sb x rx) (hy : mc_P stp ws wt sb y ry) (hsb : 1 + sb x + sb y ≤ sb n) (h1 : ws x ≤ ws n) (h2 : wt x = k) (h3 : ws y ≤ ws n) (h4 : k + wt y = wt n)
    (hst : ∀ f t b g K B pc pf sp, stp ((n, f, t, b, g) :: K, B, pc, pf, sp) = some ((x, f, t, b, g) :: (y, f, t + k, b, g) :: K, B, pc, pf, sp + 1)) :
    mc_P stp ws wt sb n (fun u => match rx u with
      | some (a, s1, c1, g1) => match ry u with
        | some (b, s2, c2, g2) => some (a ++ b, 1 + s1 + s2, max c1 c2, max g1 g2)
        | none => none
      | none => none) := by
  refine ⟨fun u u' h => ?_, fun f t b g K B pc pf sp q1 q2 q3 q4 q5 => ?_⟩
  · have e := hx.1 u u' (fun i hi => h i (by omega))
    have e2 := hy.1 u u' (fun i hi => h i (by omega))
    simp only [e, e2]
  · have h := hx.2 f t b g ((y, f, t + k, b, g) :: K) B pc pf (sp + 1) (by omega) (by omega) (by omega) (by omega) (by omega)
    show match (match rx (mc_sh B f) with
      | some (a, s1, c1, g1) => match ry (mc_sh B f) with
        | some (b, s2, c2, g2) => some (a ++ b, 1 + s1 + s2, max c1 c2, max g1 g2)
        | none => none
      | none => none) with
    | some (a, s, c, h) => _
    | none => _
    cases e : rx (mc_sh B f) with
    | none =>
      rw [e] at h
      obtain ⟨j, hj, h⟩ := h
      exact ⟨j + 1, by omega, by rw [mc_it_s (hst f t b g K B pc pf sp)]; exact h⟩
    | some q =>
      obtain ⟨a, s1, c1, g1⟩ := q
      rw [e] at h
      obtain ⟨hl, j, B1, hj, h6, h7, h8⟩ := h
      have hloc : ry (mc_sh B f) = ry (mc_sh B1 f) := hy.1 _ _ (fun i hi => (h8 (f + i) (by omega) (by omega)).symm)
      have h' := hy.2 f (t + k) b g K B1 (max pc (b + c1)) (max pf (g + g1)) (sp + 1 + s1) (by omega) (by omega) (by omega) (by omega) (by omega)
      show match (match ry (mc_sh B f) with
        | some (b, s2, c2, g2) => some (a ++ b, 1 + s1 + s2, max c1 c2, max g1 g2)
        | none => none) with
      | some (a, s, c, h) => _
      | none => _
      rw [hloc]
      cases e2 : ry (mc_sh B1 f) with
      | none =>
        rw [e2] at h'
        obtain ⟨j', hj', h'⟩ := h'
        exact ⟨j + j' + 1, by omega, by rw [mc_it_s (hst f t b g K B pc pf sp), mc_it_add j j' h6]; exact h'⟩
      | some q =>
        obtain ⟨a2, s2, c2, g2⟩ := q
        rw [e2] at h'
        obtain ⟨hl', j', B', hj', h6', h7', h8'⟩ := h'
        refine ⟨by rw [List.length_append, hl, hl']; omega, j + j' + 1, B', by omega, ?_, fun i hi => ?_, fun i hi hd => ?_⟩
        · rw [mc_it_s (hst f t b g K B pc pf sp), mc_it_add j j' h6, h6']
          rw [show sp + 1 + s1 + s2 = sp + (1 + s1 + s2) by omega, show max (max pc (b + c1)) (b + c2) = max pc (b + max c1 c2) by omega, show max (max pf (g + g1)) (g + g2) = max pf (g + max g1 g2) by omega]
        · by_cases hk : i < k
          · rw [h8' (t + i) (by omega) (by omega), h7 i (by omega), gd_l (by omega)]
          · have := h7' (i - k) (by omega)
            rw [show t + k + (i - k) = t + i by omega] at this
            rw [this, gd_r (by omega), hl, h2]
        · rw [h8' i (by omega) (by omega), h8 i (by omega) (by omega)]
