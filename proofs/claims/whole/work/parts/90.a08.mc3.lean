/-- a child of CASE: worked, or one that fails at once -/
def mc_C (stp : mc_S → Option mc_S) (ws wt sb : Nat → Nat) (n x k : Nat) (rx : (Nat → Bool) → Option mc_V) : Prop :=
  (mc_P stp ws wt sb x rx ∧ k + ws x ≤ ws n ∧ wt x = wt n ∧ 1 + sb x ≤ sb n) ∨ ((∀ u, rx u = none) ∧ 2 ≤ sb n ∧ ∀ f t b g K B pc pf sp, stp ((x, f, t, b, g) :: K, B, pc, pf, sp) = none)
theorem mc_P_case1 {stp : mc_S → Option mc_S} {ws wt sb : Nat → Nat} {n x k : Nat} {rx : (Nat → Bool) → Option mc_V} (hx : mc_C stp ws wt sb n x k rx) {f t b g : Nat} {K : List mc_F} {B : Nat → Bool} {pc pf sp : Nat} (q1 : f + ws n ≤ b) (q2 : t + wt n ≤ b) (q3 : f + ws n ≤ t ∨ t + wt n ≤ f) (q4 : b ≤ pc) (q5 : g ≤ pf) (hst : stp ((n, f, t, b, g) :: K, B, pc, pf, sp) = some ((x, f + k, t, b, g) :: K, B, pc, pf, sp + 1)) :
    match (match rx (mc_sh B (f + k)) with
      | some (a, s1, c1, g1) => some (a, 1 + s1, c1, g1)
      | none => none) with
    | some (a, s, c, h) => a.length = wt n ∧ ∃ j B', j ≤ sb n ∧ mc_it stp j ((n, f, t, b, g) :: K, B, pc, pf, sp) = some (K, B', max pc (b + c), max pf (g + h), sp + s) ∧ (∀ i, i < wt n → B' (t + i) = a.getD i false) ∧ ∀ i, i < b → (i < t ∨ t + wt n ≤ i) → B' i = B i
    | none => ∃ j, j ≤ sb n ∧ mc_it stp j ((n, f, t, b, g) :: K, B, pc, pf, sp) = none := by
  rcases hx with ⟨hx, w1, w2, w3⟩ | ⟨hx, w1, w2⟩
  · have h := hx.2 (f + k) t b g K B pc pf (sp + 1) (by omega) (by omega) (by omega) q4 q5
    cases e : rx (mc_sh B (f + k)) with
    | none =>
      rw [e] at h
      obtain ⟨j, hj, h⟩ := h
      exact ⟨j + 1, by omega, by rw [mc_it_s hst]; exact h⟩
    | some q =>
      obtain ⟨a, s1, c1, g1⟩ := q
      rw [e] at h
      obtain ⟨hl, j, B', hj, h6, h7, h8⟩ := h
      refine ⟨by rw [hl, w2], j + 1, B', by omega, ?_, fun i hi => h7 i (by omega), fun i hi hd => h8 i hi (by omega)⟩
      rw [mc_it_s hst, h6, Nat.add_assoc]
  · rw [hx]
    exact ⟨2, by omega, by rw [mc_it_s hst]; exact mc_it_n (w2 _ _ _ _ _ _ _ _ _)⟩
theorem mc_C_loc {stp : mc_S → Option mc_S} {ws wt sb : Nat → Nat} {n x k : Nat} {rx : (Nat → Bool) → Option mc_V} (hx : mc_C stp ws wt sb n x k rx) {u u' : Nat → Bool} (h : ∀ i, i < ws n → u i = u' i) : rx (mc_sh u k) = rx (mc_sh u' k) := by
  rcases hx with ⟨hx, w1, w2, w3⟩ | ⟨hx, w1, w2⟩
  · exact hx.1 _ _ (fun i hi => h (k + i) (by omega))
  · rw [hx, hx]
theorem mc_P_case {stp : mc_S → Option mc_S} {ws wt sb : Nat → Nat} {n x y kx ky : Nat} {rx ry : (Nat → Bool) → Option mc_V} (hw : 1 ≤ ws n) (hx : mc_C stp ws wt sb n x kx rx) (hy : mc_C stp ws wt sb n y ky ry)
    (hst : ∀ f t b g K B pc pf sp, stp ((n, f, t, b, g) :: K, B, pc, pf, sp) = if B f = false then some ((x, f + kx, t, b, g) :: K, B, pc, pf, sp + 1) else some ((y, f + ky, t, b, g) :: K, B, pc, pf, sp + 1)) :
    mc_P stp ws wt sb n (fun u => match (if u 0 = false then rx (mc_sh u kx) else ry (mc_sh u ky)) with
      | some (a, s1, c1, g1) => some (a, 1 + s1, c1, g1)
      | none => none) := by
  refine ⟨fun u u' h => ?_, fun f t b g K B pc pf sp q1 q2 q3 q4 q5 => ?_⟩
  · simp only [h 0 (by omega), mc_C_loc hx h, mc_C_loc hy h]
  · have e0 : mc_sh B f 0 = B f := rfl
    simp only [mc_sh_sh, e0]
    have hs := hst f t b g K B pc pf sp
    by_cases hb : B f = false
    · rw [if_pos hb] at hs ⊢
      exact mc_P_case1 hx q1 q2 q3 q4 q5 hs
    · rw [if_neg hb] at hs ⊢
      exact mc_P_case1 hy q1 q2 q3 q4 q5 hs
/-- widths and bounds that fit a node -/
def mc_ty (A : mc_A) (ws wt sb : Nat → Nat) (n : Nat) : Prop :=
  (mc_op A n = 0 → ws (mc_on A n) ≤ ws n ∧ wt (mc_on A n) = mc_sk A n ∧ ws (mc_tw A n) ≤ mc_sk A n ∧ wt (mc_tw A n) = wt n ∧ 1 + sb (mc_on A n) + sb (mc_tw A n) ≤ sb n) ∧
  (mc_op A n = 1 → 1 ≤ ws n ∧ ((mc_sk A n + ws (mc_on A n) ≤ ws n ∧ wt (mc_on A n) = wt n ∧ 1 + sb (mc_on A n) ≤ sb n) ∨ (mc_op A (mc_on A n) = 11 ∧ 2 ≤ sb n)) ∧ ((mc_ot A n + ws (mc_tw A n) ≤ ws n ∧ wt (mc_tw A n) = wt n ∧ 1 + sb (mc_tw A n) ≤ sb n) ∨ (mc_op A (mc_tw A n) = 11 ∧ 2 ≤ sb n))) ∧
  (mc_op A n = 2 → ws (mc_on A n) ≤ ws n ∧ wt (mc_on A n) = mc_sk A n ∧ ws (mc_tw A n) ≤ ws n ∧ mc_sk A n + wt (mc_tw A n) = wt n ∧ 1 + sb (mc_on A n) + sb (mc_tw A n) ≤ sb n) ∧
  ((mc_op A n = 3 ∨ mc_op A n = 4) → ws (mc_on A n) ≤ ws n ∧ wt n = 1 + mc_sk A n + wt (mc_on A n) ∧ 1 + sb (mc_on A n) ≤ sb n) ∧
  (mc_op A n = 5 → ws (mc_on A n) ≤ ws n ∧ wt (mc_on A n) = wt n ∧ 1 + sb (mc_on A n) ≤ sb n) ∧
  (mc_op A n = 6 → mc_sk A n + ws (mc_on A n) ≤ ws n ∧ wt (mc_on A n) = wt n ∧ 1 + sb (mc_on A n) ≤ sb n) ∧
  (mc_op A n = 7 → mc_ot A n + mc_sk A n ≤ ws n ∧ wt n = mc_sk A n) ∧ (mc_op A n = 8 → wt n = 0) ∧ (mc_op A n = 10 → wt n = mc_ot A n) ∧ 1 ≤ sb n
theorem mc_wr_nil (B : Nat → Bool) (t : Nat) : mc_wr B t [] = B := by
  funext i
  exact mc_wr_out (by simp; omega)
theorem mc_ev_0 {A : mc_A} {jf : Nat → (Nat → Bool) → Option mc_V} {wb : Nat → Bool} {f n : Nat} (h : mc_op A n = 9 ∨ mc_op A n = 11) (u : Nat → Bool) : mc_ev A jf wb f n u = none := by
  cases f with
  | zero => rfl
  | succ f => rcases h with h | h <;> simp [mc_ev, h]
set_option maxHeartbeats 4000000 in
theorem mc_run {A : mc_A} {df : Bool} {dn : Nat → Nat} {jt : Nat → (Nat → Bool) → List Bool} {wb : Nat → Bool} {jf : Nat → (Nat → Bool) → Option mc_V} {ws wt sb rk : Nat → Nat} {X : Nat → Prop} (hX : ∀ n x, X n → mc_ch A n x → X x ∧ rk x < rk n) (hty : ∀ n, X n → mc_ty A ws wt sb n) (hop : ∀ n, X n → mc_op A n ≤ 12)
    (hjet : ∀ n, X n → mc_op A n = 12 → mc_P (mc_step A df dn jt wb) ws wt sb n (fun u => match jf n u with
      | some (a, s1, c1, g1) => some (a, 1 + s1, c1, g1)
      | none => none)) : ∀ (f n : Nat), X n → rk n < f → mc_P (mc_step A df dn jt wb) ws wt sb n (mc_ev A jf wb f n) := by
  intro f
  induction f with
  | zero => intro n _ h; omega
  | succ f ih =>
    intro n hn hf
    obtain ⟨t0, t1, t2, t3, t5, t6, t7, t8, t10, tb⟩ := hty n hn
    have hon : mc_op A n ≤ 6 → mc_P (mc_step A df dn jt wb) ws wt sb (mc_on A n) (mc_ev A jf wb f (mc_on A n)) := fun h => by
      have := hX n _ hn (Or.inl ⟨h, rfl⟩)
      exact ih _ this.1 (by omega)
    have htw : mc_op A n ≤ 2 → mc_P (mc_step A df dn jt wb) ws wt sb (mc_tw A n) (mc_ev A jf wb f (mc_tw A n)) := fun h => by
      have := hX n _ hn (Or.inr ⟨h, rfl⟩)
      exact ih _ this.1 (by omega)
    have h12 := hop n hn
    have hfail : ∀ x, mc_op A x = 11 → ∀ f t b g K B pc pf sp, mc_step A df dn jt wb ((x, f, t, b, g) :: K, B, pc, pf, sp) = none := by
      intro x hx f t b g K B pc pf sp
      simp [mc_step, hx]
    rcases (by omega : mc_op A n = 0 ∨ mc_op A n = 1 ∨ mc_op A n = 2 ∨ mc_op A n = 3 ∨ mc_op A n = 4 ∨ mc_op A n = 5 ∨ mc_op A n = 6 ∨ mc_op A n = 7 ∨ mc_op A n = 8 ∨ mc_op A n = 10 ∨ mc_op A n = 12 ∨ (mc_op A n = 9 ∨ mc_op A n = 11)) with e | e | e | e | e | e | e | e | e | e | e | e
    · obtain ⟨a1, a2, a3, a4, a5⟩ := t0 e
      have h := mc_P_comp (hon (by omega)) (htw (by omega)) a5 a1 a2 a3 a4 (fun f t b g K B pc pf sp => by simp [mc_step, e])
      have e2 : mc_ev A jf wb (f + 1) n = fun u => match mc_ev A jf wb f (mc_on A n) u with
        | some (a, s1, c1, g1) => match mc_ev A jf wb f (mc_tw A n) (mc_ex a) with
          | some (b, s2, c2, g2) => some (b, 1 + s1 + s2, mc_sk A n + max c1 c2, 1 + max g1 g2)
          | none => none
        | none => none := by funext u; simp only [mc_ev, e] <;> rfl
      rw [e2]; exact h
    · obtain ⟨a0, a1, a2⟩ := t1 e
      have hx : mc_C (mc_step A df dn jt wb) ws wt sb n (mc_on A n) (mc_sk A n) (mc_ev A jf wb f (mc_on A n)) := by
        rcases a1 with ⟨b1, b2, b3⟩ | ⟨b1, b2⟩
        · exact Or.inl ⟨hon (by omega), b1, b2, b3⟩
        · exact Or.inr ⟨mc_ev_0 (Or.inr b1), b2, hfail _ b1⟩
      have hy : mc_C (mc_step A df dn jt wb) ws wt sb n (mc_tw A n) (mc_ot A n) (mc_ev A jf wb f (mc_tw A n)) := by
        rcases a2 with ⟨b1, b2, b3⟩ | ⟨b1, b2⟩
        · exact Or.inl ⟨htw (by omega), b1, b2, b3⟩
        · exact Or.inr ⟨mc_ev_0 (Or.inr b1), b2, hfail _ b1⟩
      have h := mc_P_case a0 hx hy (fun f t b g K B pc pf sp => by simp [mc_step, e])
      have e2 : mc_ev A jf wb (f + 1) n = fun u => match (if u 0 = false then mc_ev A jf wb f (mc_on A n) (mc_sh u (mc_sk A n)) else mc_ev A jf wb f (mc_tw A n) (mc_sh u (mc_ot A n))) with
        | some (a, s1, c1, g1) => some (a, 1 + s1, c1, g1)
        | none => none := by
        funext u
        simp only [mc_ev, e]
        by_cases hu : u 0 = false
        · simp only [if_pos hu] <;> rfl
        · simp only [if_neg hu] <;> rfl
      rw [e2]; exact h
    · obtain ⟨a1, a2, a3, a4, a5⟩ := t2 e
      have h := mc_P_pair (hon (by omega)) (htw (by omega)) a5 a1 a2 a3 a4 (fun f t b g K B pc pf sp => by simp [mc_step, e])
      have e2 : mc_ev A jf wb (f + 1) n = fun u => match mc_ev A jf wb f (mc_on A n) u with
        | some (a, s1, c1, g1) => match mc_ev A jf wb f (mc_tw A n) u with
          | some (b, s2, c2, g2) => some (a ++ b, 1 + s1 + s2, max c1 c2, max g1 g2)
          | none => none
        | none => none := by funext u; simp only [mc_ev, e] <;> rfl
      rw [e2]; exact h
    · obtain ⟨a1, a2, a3⟩ := t3 (Or.inl e)
      have h := mc_P_one (w := false :: List.replicate (mc_sk A n) false) (k := 0) (hon (by omega)) a3 (by omega) (by simp; omega) (fun f t b g K B pc pf sp _ _ => by simp [mc_step, e]; omega)
      have e2 : mc_ev A jf wb (f + 1) n = fun u => match mc_ev A jf wb f (mc_on A n) (mc_sh u 0) with
        | some (a, s1, c1, g1) => some ((false :: List.replicate (mc_sk A n) false) ++ a, 1 + s1, c1, g1)
        | none => none := by
        funext u
        have e3 : mc_sh u 0 = u := by funext i; simp [mc_sh]
        rw [e3]
        simp only [mc_ev, e, List.cons_append] <;> rfl
      rw [e2]; exact h
    · obtain ⟨a1, a2, a3⟩ := t3 (Or.inr e)
      have h := mc_P_one (w := true :: List.replicate (mc_sk A n) false) (k := 0) (hon (by omega)) a3 (by omega) (by simp; omega) (fun f t b g K B pc pf sp _ _ => by simp [mc_step, e]; omega)
      have e2 : mc_ev A jf wb (f + 1) n = fun u => match mc_ev A jf wb f (mc_on A n) (mc_sh u 0) with
        | some (a, s1, c1, g1) => some ((true :: List.replicate (mc_sk A n) false) ++ a, 1 + s1, c1, g1)
        | none => none := by
        funext u
        have e3 : mc_sh u 0 = u := by funext i; simp [mc_sh]
        rw [e3]
        simp only [mc_ev, e, List.cons_append] <;> rfl
      rw [e2]; exact h
    · obtain ⟨a1, a2, a3⟩ := t5 e
      have h := mc_P_one (w := []) (k := 0) (hon (by omega)) a3 (by omega) (by simp; omega) (fun f t b g K B pc pf sp _ _ => by simp [mc_step, e, mc_wr_nil])
      have e2 : mc_ev A jf wb (f + 1) n = fun u => match mc_ev A jf wb f (mc_on A n) (mc_sh u 0) with
        | some (a, s1, c1, g1) => some ([] ++ a, 1 + s1, c1, g1)
        | none => none := by
        funext u
        have e3 : mc_sh u 0 = u := by funext i; simp [mc_sh]
        rw [e3]
        simp only [mc_ev, e, List.nil_append] <;> rfl
      rw [e2]; exact h
    · obtain ⟨a1, a2, a3⟩ := t6 e
      have h := mc_P_one (w := []) (k := mc_sk A n) (hon (by omega)) a3 (by omega) (by simp; omega) (fun f t b g K B pc pf sp _ _ => by simp [mc_step, e, mc_wr_nil])
      have e2 : mc_ev A jf wb (f + 1) n = fun u => match mc_ev A jf wb f (mc_on A n) (mc_sh u (mc_sk A n)) with
        | some (a, s1, c1, g1) => some ([] ++ a, 1 + s1, c1, g1)
        | none => none := by
        funext u
        simp only [mc_ev, e, List.nil_append] <;> rfl
      rw [e2]; exact h
    · obtain ⟨a1, a2⟩ := t7 e
      have h := mc_P_leaf (stp := mc_step A df dn jt wb) (ws := ws) (wt := wt) (sb := sb) (n := n) (s := 1 + mc_sk A n) (l := fun u => mc_rd u (mc_ot A n) (mc_sk A n)) tb (fun u u' q => by
        unfold mc_rd
        apply List.map_congr_left
        intro i hi
        exact q _ (by have := List.mem_range.mp hi; omega)) (fun u => by rw [mc_rd_len, a2]) (fun f t b g K B pc pf sp => by
        have e3 : mc_rd B (f + mc_ot A n) (mc_sk A n) = mc_rd (mc_sh B f) (mc_ot A n) (mc_sk A n) := by
          unfold mc_rd mc_sh
          apply List.map_congr_left
          intro i _
          rw [Nat.add_assoc]
        simp [mc_step, e, e3])
      have e2 : mc_ev A jf wb (f + 1) n = fun u => some (mc_rd u (mc_ot A n) (mc_sk A n), 1 + mc_sk A n, 0, 0) := by funext u; simp only [mc_ev, e] <;> rfl
      rw [e2]; exact h
    · have h := mc_P_leaf (stp := mc_step A df dn jt wb) (ws := ws) (wt := wt) (sb := sb) (n := n) (s := 1) (l := fun _ => []) tb (fun u u' q => rfl) (fun u => by rw [t8 e]; rfl) (fun f t b g K B pc pf sp => by simp [mc_step, e, mc_wr_nil])
      have e2 : mc_ev A jf wb (f + 1) n = fun u => some ([], 1, 0, 0) := by funext u; simp only [mc_ev, e] <;> rfl
      rw [e2]; exact h
    · have h := mc_P_leaf (stp := mc_step A df dn jt wb) (ws := ws) (wt := wt) (sb := sb) (n := n) (s := 1 + mc_ot A n) (l := fun _ => mc_rd wb (mc_sk A n) (mc_ot A n)) tb (fun u u' q => rfl) (fun u => by rw [mc_rd_len, t10 e]) (fun f t b g K B pc pf sp => by simp [mc_step, e])
      have e2 : mc_ev A jf wb (f + 1) n = fun u => some (mc_rd wb (mc_sk A n) (mc_ot A n), 1 + mc_ot A n, 0, 0) := by funext u; simp only [mc_ev, e] <;> rfl
      rw [e2]; exact h
    · have h := hjet n hn e
      have e2 : mc_ev A jf wb (f + 1) n = fun u => match jf n u with
        | some (a, s1, c1, g1) => some (a, 1 + s1, c1, g1)
        | none => none := by funext u; simp only [mc_ev, e] <;> rfl
      rw [e2]; exact h
    · have e2 : mc_ev A jf wb (f + 1) n = fun _ => none := by funext u; exact mc_ev_0 e u
      rw [e2]
      refine ⟨fun _ _ _ => rfl, fun f t b g K B pc pf sp _ _ _ _ _ => ⟨1, tb, mc_it_n ?_⟩⟩
      rcases e with e | e <;> simp [mc_step, e]
