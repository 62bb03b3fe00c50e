/-! ===== going through nodes, children ahead ===== -/
theorem nd_len : ∀ (N : Nat) (l : List Nat), l.Nodup → (∀ x ∈ l, x < N) → l.length ≤ N
  | 0, l, _, h => by
    cases l with
    | nil => exact Nat.le_refl _
    | cons a q => exact absurd (h a (by simp)) (Nat.not_lt_zero _)
  | N + 1, l, hn, h => by
    have h1 := nd_len N (l.filter (fun x => x != N)) (hn.filter _) (fun x hx => by
      have h2 := List.mem_filter.mp hx
      have h3 := h x h2.1
      have h4 : x ≠ N := by simpa using h2.2
      omega)
    have h5 : ∀ m : List Nat, m.Nodup → m.length ≤ (m.filter (fun x => x != N)).length + 1 := by
      intro m hm
      induction m with
      | nil => simp
      | cons a q ih =>
        have hq := List.nodup_cons.mp hm
        by_cases e : a = N
        · subst e
          have h6 : q.filter (fun x => x != a) = q := List.filter_eq_self.mpr (fun x hx => by
            have : x ≠ a := fun z => hq.1 (by rw [← z]; exact hx)
            simpa using this)
          simp [h6]
        · have h7 : (a != N) = true := by simpa using e
          rw [List.filter_cons, if_pos h7]
          have := ih hq.2
          simp only [List.length_cons]
          omega
    have := h5 l hn
    omega
abbrev df_S : Type := List Nat × (Nat → Bool) × List Nat
def df_nx (m : Nat → Bool) (c : Option Nat) : Option Nat := match c with
  | some x => if m x then none else some x
  | none => none
def df_st (m : Nat → Bool) (x : Nat) : Nat → Bool := fun y => if y = x then true else m y
def df_step (c1 c2 : Nat → Option Nat) : df_S → df_S
  | ([], m, o) => ([], m, o)
  | (n :: s, m, o) => match df_nx m (c1 n) with
    | some x => (x :: n :: s, df_st m x, o)
    | none => match df_nx m (c2 n) with
      | some x => (x :: n :: s, df_st m x, o)
      | none => (s, m, o ++ [n])
theorem df_step_1 {c1 c2 : Nat → Option Nat} {n x : Nat} {s o : List Nat} {m : Nat → Bool} (h : df_nx m (c1 n) = some x) : df_step c1 c2 (n :: s, m, o) = (x :: n :: s, df_st m x, o) := by simp [df_step, h]
theorem df_step_2 {c1 c2 : Nat → Option Nat} {n x : Nat} {s o : List Nat} {m : Nat → Bool} (h : df_nx m (c1 n) = none) (h2 : df_nx m (c2 n) = some x) : df_step c1 c2 (n :: s, m, o) = (x :: n :: s, df_st m x, o) := by simp [df_step, h, h2]
theorem df_step_3 {c1 c2 : Nat → Option Nat} {n : Nat} {s o : List Nat} {m : Nat → Bool} (h : df_nx m (c1 n) = none) (h2 : df_nx m (c2 n) = none) : df_step c1 c2 (n :: s, m, o) = (s, m, o ++ [n]) := by simp [df_step, h, h2]
def df_it (c1 c2 : Nat → Option Nat) : Nat → df_S → df_S
  | 0, q => q
  | j + 1, q => df_it c1 c2 j (df_step c1 c2 q)
def df_0 (root : Nat) : df_S := ([root], df_st (fun _ => false) root, [])
/-- the nodes that are come to from a root, in the order in which they are left -/
def df_out (c1 c2 : Nat → Option Nat) (root : Nat) (L : List Nat) : Prop := ∃ j m, df_it c1 c2 j (df_0 root) = ([], m, L)
theorem df_it_end (c1 c2 : Nat → Option Nat) (m : Nat → Bool) (o : List Nat) : ∀ j, df_it c1 c2 j ([], m, o) = ([], m, o)
  | 0 => rfl
  | j + 1 => df_it_end c1 c2 m o j
theorem df_it_add (c1 c2 : Nat → Option Nat) : ∀ (i j : Nat) (q : df_S), df_it c1 c2 (i + j) q = df_it c1 c2 j (df_it c1 c2 i q)
  | 0, j, q => by rw [Nat.zero_add]; rfl
  | i + 1, j, q => by
    rw [Nat.add_right_comm]
    exact df_it_add c1 c2 i j (df_step c1 c2 q)
theorem df_out_uniq {c1 c2 : Nat → Option Nat} {root : Nat} {L L' : List Nat} (h : df_out c1 c2 root L) (h' : df_out c1 c2 root L') : L = L' := by
  obtain ⟨j, m, e⟩ := h
  obtain ⟨j', m', e'⟩ := h'
  have h1 : df_it c1 c2 (j + j') (df_0 root) = ([], m, L) := by rw [df_it_add, e, df_it_end]
  have h2 : df_it c1 c2 (j' + j) (df_0 root) = ([], m', L') := by rw [df_it_add, e', df_it_end]
  rw [Nat.add_comm, h2] at h1
  cases h1
  rfl
/-- nodes below N, marks are those that wait or are left, none twice -/
def df_ok (c1 c2 : Nat → Option Nat) (N : Nat) (q : df_S) : Prop := (q.1 ++ q.2.2).Nodup ∧ (∀ x, q.2.1 x = true ↔ x ∈ q.1 ++ q.2.2) ∧ ∀ x ∈ q.1 ++ q.2.2, x < N
def df_cN (c1 c2 : Nat → Option Nat) (N : Nat) : Prop := ∀ n, n < N → ∀ x, (c1 n = some x ∨ c2 n = some x) → x < N
theorem df_nx_some {m : Nat → Bool} {c : Option Nat} {x : Nat} (h : df_nx m c = some x) : c = some x ∧ m x = false := by
  unfold df_nx at h
  cases c with
  | none => cases h
  | some y =>
    by_cases e : m y = true
    · simp [e] at h
    · simp [e] at h
      subst h
      exact ⟨rfl, by simpa using e⟩
theorem df_nx_none {m : Nat → Bool} {c : Option Nat} (h : df_nx m c = none) : ∀ x, c = some x → m x = true := by
  intro x hx
  subst hx
  unfold df_nx at h
  by_cases e : m x = true
  · exact e
  · simp [e] at h
theorem df_ok_push {c1 c2 : Nat → Option Nat} {N n x : Nat} {s : List Nat} {m : Nat → Bool} {o : List Nat} (h : df_ok c1 c2 N (n :: s, m, o)) (hx : x < N) (hm : m x = false) : df_ok c1 c2 N (x :: n :: s, df_st m x, o) := by
  obtain ⟨h1, h2, h3⟩ := h
  have hx2 : x ∉ (n :: s) ++ o := fun z => by
    have := (h2 x).mpr z
    rw [show (n :: s, m, o).2.1 x = m x from rfl, hm] at this
    cases this
  refine ⟨?_, fun y => ?_, fun y hy => ?_⟩
  · show (x :: ((n :: s) ++ o)).Nodup
    exact List.nodup_cons.mpr ⟨hx2, h1⟩
  · show df_st m x y = true ↔ y ∈ x :: ((n :: s) ++ o)
    unfold df_st
    rw [List.mem_cons]
    by_cases e : y = x
    · simp [e]
    · simp only [e, if_false, false_or]; exact h2 y
  · rcases List.mem_cons.mp (show y ∈ x :: ((n :: s) ++ o) from hy) with e | e
    · rw [e]; exact hx
    · exact h3 y e
theorem df_ok_pop {c1 c2 : Nat → Option Nat} {N n : Nat} {s : List Nat} {m : Nat → Bool} {o : List Nat} (h : df_ok c1 c2 N (n :: s, m, o)) : df_ok c1 c2 N (s, m, o ++ [n]) := by
  obtain ⟨h1, h2, h3⟩ := h
  have hp : (s ++ (o ++ [n])).Perm ((n :: s) ++ o) := by
    rw [← List.append_assoc]
    exact List.perm_append_comm.trans (List.Perm.refl _)
  refine ⟨hp.nodup_iff.mpr h1, fun y => ?_, fun y hy => h3 y (hp.mem_iff.mp hy)⟩
  exact (h2 y).trans hp.mem_iff.symm
theorem df_ok_step {c1 c2 : Nat → Option Nat} {N : Nat} (hN : df_cN c1 c2 N) {q : df_S} (h : df_ok c1 c2 N q) : df_ok c1 c2 N (df_step c1 c2 q) := by
  obtain ⟨s, m, o⟩ := q
  cases s with
  | nil => exact h
  | cons n s =>
    have hn : n < N := h.2.2 n (by simp)
    cases e1 : df_nx m (c1 n) with
    | some x =>
      obtain ⟨q1, q2⟩ := df_nx_some e1
      rw [df_step_1 e1]
      exact df_ok_push h (hN n hn x (Or.inl q1)) q2
    | none =>
      cases e2 : df_nx m (c2 n) with
      | some x =>
        obtain ⟨q1, q2⟩ := df_nx_some e2
        rw [df_step_2 e1 e2]
        exact df_ok_push h (hN n hn x (Or.inr q1)) q2
      | none =>
        rw [df_step_3 e1 e2]
        exact df_ok_pop h
theorem df_ok_0 {c1 c2 : Nat → Option Nat} {N root : Nat} (h : root < N) : df_ok c1 c2 N (df_0 root) := by
  refine ⟨by simp [df_0], fun x => ?_, fun x hx => ?_⟩
  · simp [df_0, df_st]
  · have : x = root := by simpa [df_0] using hx
    rw [this]; exact h
theorem df_ok_len {c1 c2 : Nat → Option Nat} {N : Nat} {q : df_S} (h : df_ok c1 c2 N q) : q.1.length + q.2.2.length ≤ N := by
  have := nd_len N _ h.1 h.2.2
  rw [List.length_append] at this
  exact this
/-- what is left: children ahead of their nodes; ranks fall from what waits below to what waits above -/
def df_cl (c1 c2 : Nat → Option Nat) (L : List Nat) : Prop := ∀ A n B, L = A ++ n :: B → ∀ x, (c1 n = some x ∨ c2 n = some x) → x ∈ A
theorem df_cl_app {c1 c2 : Nat → Option Nat} {L : List Nat} {n : Nat} (h : df_cl c1 c2 L) (hn : ∀ x, (c1 n = some x ∨ c2 n = some x) → x ∈ L) : df_cl c1 c2 (L ++ [n]) := by
  intro A p B e x hx
  rcases List.append_eq_append_iff.mp e with ⟨C, e1, e2⟩ | ⟨C, e1, e2⟩
  · cases C with
    | nil =>
      simp at e1 e2
      subst e1
      rw [← e2.1] at hx
      exact hn x hx
    | cons y C => simp at e2
  · cases C with
    | nil =>
      simp at e1 e2
      rw [← e1]
      rw [e2.1] at hx
      exact hn x hx
    | cons y C =>
      simp at e2
      rw [← e2.1] at e1
      exact h A p C e1 x hx
def df_rk (rk : Nat → Nat) : List Nat → Prop
  | [] => True
  | t :: q => (∀ u ∈ q, rk t < rk u) ∧ df_rk rk q
def df_ac (c1 c2 : Nat → Option Nat) (N : Nat) (rk : Nat → Nat) : Prop := ∀ n, n < N → ∀ x, (c1 n = some x ∨ c2 n = some x) → rk x < rk n
def df_iv (c1 c2 : Nat → Option Nat) (N : Nat) (rk : Nat → Nat) (q : df_S) : Prop := df_ok c1 c2 N q ∧ df_cl c1 c2 q.2.2 ∧ df_rk rk q.1
theorem df_iv_step {c1 c2 : Nat → Option Nat} {N : Nat} {rk : Nat → Nat} (hN : df_cN c1 c2 N) (hR : df_ac c1 c2 N rk) {q : df_S} (h : df_iv c1 c2 N rk q) : df_iv c1 c2 N rk (df_step c1 c2 q) := by
  refine ⟨df_ok_step hN h.1, ?_⟩
  obtain ⟨s, m, o⟩ := q
  obtain ⟨h1, h2, h3⟩ := h
  cases s with
  | nil => exact ⟨h2, h3⟩
  | cons n s =>
    have hn : n < N := h1.2.2 n (by simp)
    have hpush : ∀ x, (c1 n = some x ∨ c2 n = some x) → df_rk rk (x :: n :: s) := by
      intro x hx
      have h4 := hR n hn x hx
      refine ⟨fun u hu => ?_, h3⟩
      rcases List.mem_cons.mp hu with e | e
      · rw [e]; exact h4
      · exact Nat.lt_trans h4 (h3.1 u e)
    cases e1 : df_nx m (c1 n) with
    | some x =>
      rw [df_step_1 e1]
      exact ⟨h2, hpush x (Or.inl (df_nx_some e1).1)⟩
    | none =>
      cases e2 : df_nx m (c2 n) with
      | some x =>
        rw [df_step_2 e1 e2]
        exact ⟨h2, hpush x (Or.inr (df_nx_some e2).1)⟩
      | none =>
        rw [df_step_3 e1 e2]
        refine ⟨df_cl_app h2 (fun x hx => ?_), h3.2⟩
        have hm : m x = true := by
          rcases hx with e | e
          · exact df_nx_none e1 x e
          · exact df_nx_none e2 x e
        have h5 := (h1.2.1 x).mp hm
        rcases List.mem_append.mp h5 with h6 | h6
        · exfalso
          have h4 := hR n hn x hx
          rcases List.mem_cons.mp h6 with e | e
          · rw [e] at h4; omega
          · have := h3.1 x e; omega
        · exact h6
theorem df_iv_it {c1 c2 : Nat → Option Nat} {N : Nat} {rk : Nat → Nat} (hN : df_cN c1 c2 N) (hR : df_ac c1 c2 N rk) : ∀ (j : Nat) {q : df_S}, df_iv c1 c2 N rk q → df_iv c1 c2 N rk (df_it c1 c2 j q)
  | 0, _, h => h
  | j + 1, _, h => df_iv_it hN hR j (df_iv_step hN hR h)
theorem df_ok_it {c1 c2 : Nat → Option Nat} {N : Nat} (hN : df_cN c1 c2 N) : ∀ (j : Nat) {q : df_S}, df_ok c1 c2 N q → df_ok c1 c2 N (df_it c1 c2 j q)
  | 0, _, h => h
  | j + 1, _, h => df_ok_it hN j (df_ok_step hN h)
theorem df_out_cl {c1 c2 : Nat → Option Nat} {N root : Nat} {rk : Nat → Nat} {L : List Nat} (hN : df_cN c1 c2 N) (hR : df_ac c1 c2 N rk) (hr : root < N) (h : df_out c1 c2 root L) : L.Nodup ∧ (∀ x ∈ L, x < N) ∧ df_cl c1 c2 L := by
  obtain ⟨j, m, e⟩ := h
  have h1 : df_iv c1 c2 N rk (df_0 root) := ⟨df_ok_0 hr, fun A n B e => absurd (congrArg List.length e) (by simp [df_0]), ⟨fun _ h => (by cases h), trivial⟩⟩
  have h2 := df_iv_it hN hR j h1
  rw [e] at h2
  exact ⟨by simpa using h2.1.1, fun x hx => h2.1.2.2 x (by simpa using hx), h2.2.1⟩
