/-- a child of CASE: worked, or a hidden one -/
def rm_C (A : mc_A) (stp : rm_S → Option rm_S) (ws wt own : Nat → Nat) (n x k : Nat) (rx : (Nat → Bool) → Option mc_V) : Prop :=
  (rm_P stp ws wt own x rx ∧ k + ws x ≤ ws n ∧ wt x = wt n ∧ mc_op A x ≠ 11) ∨ ((∀ u, rx u = none) ∧ mc_op A x = 11)
theorem rm_C_loc {A : mc_A} {stp : rm_S → Option rm_S} {ws wt own : Nat → Nat} {n x k : Nat} {rx : (Nat → Bool) → Option mc_V} (hx : rm_C A stp ws wt own n x k rx) {u u' : Nat → Bool} (h : ∀ i, i < ws n → u i = u' i) : rx (mc_sh u k) = rx (mc_sh u' k) := by
  rcases hx with ⟨hx, w1, w2, w3⟩ | ⟨hx, w1⟩
  · exact hx.1 _ _ (fun i hi => h (k + i) (by omega))
  · rw [hx, hx]
theorem rm_P_case1 {A : mc_A} {stp : rm_S → Option rm_S} {ws wt own : Nat → Nat} {n x k : Nat} {rx : (Nat → Bool) → Option mc_V} (hx : rm_C A stp ws wt own n x k rx) (hown : own n = 1) {i t : Nat} {E : List (Nat × Nat × Nat × Nat)} {B : Nat → Bool} {fr cn cm fn fm st : Nat} (q1 : i + ws n ≤ fr) (q2 : t + wt n ≤ fr) (q3 : i + ws n ≤ t ∨ t + wt n ≤ i) (q4 : cn ≤ cm) (q5 : fn ≤ fm)
    (hst : stp ((n, 0, i, t) :: E, B, fr, cn, cm, fn, fm, st + own n) = if mc_op A x = 11 then none else some ((x, 0, i + k, t) :: (n, 1, i, t) :: E, B, fr, cn, cm, fn, fm, st + own n + own x))
    (hst1 : ∀ B fr cn cm fn fm st, stp ((n, 1, i, t) :: E, B, fr, cn, cm, fn, fm, st) = some (E, B, fr, cn, cm, fn, fm, st)) :
    match (match rx (mc_sh B (i + k)) with
      | some (a, s1, c1, g1) => some (a, 1 + s1, c1, g1)
      | none => none) with
    | some (a, s, c, h) => a.length = wt n ∧ ∃ j B', rm_it stp j ((n, 0, i, t) :: E, B, fr, cn, cm, fn, fm, st + own n) = some (E, B', fr, cn, max cm (cn + c), fn, max fm (fn + h), st + s) ∧ (∀ k, k < wt n → B' (t + k) = a.getD k false) ∧ ∀ k, k < fr → (k < t ∨ t + wt n ≤ k) → B' k = B k
    | none => ∃ j, rm_it stp j ((n, 0, i, t) :: E, B, fr, cn, cm, fn, fm, st + own n) = none := by
  rcases hx with ⟨hx, w1, w2, w3⟩ | ⟨hx, w1⟩
  · rw [if_neg w3] at hst
    have h := hx.2 (i + k) t ((n, 1, i, t) :: E) B fr cn cm fn fm (st + own n) (by omega) (by omega) (by omega) q4 q5
    cases e : rx (mc_sh B (i + k)) with
    | none =>
      rw [e] at h
      obtain ⟨j, h⟩ := h
      exact ⟨j + 1, by rw [rm_it_s hst]; exact h⟩
    | some q =>
      obtain ⟨a, s1, c1, g1⟩ := q
      rw [e] at h
      obtain ⟨hl, j, B', h6, h7, h8⟩ := h
      refine ⟨by rw [hl, w2], j + 1 + 1, B', ?_, fun q hq => h7 q (by omega), fun q hq hd => h8 q hq (by omega)⟩
      rw [rm_it_s hst, rm_it_add j 1 h6, rm_it_s (hst1 B' fr cn _ fn _ _) 0, hown, Nat.add_assoc]
      rfl
  · rw [hx]
    rw [if_pos w1] at hst
    exact ⟨1, rm_it_n hst⟩
theorem rm_P_case {A : mc_A} {stp : rm_S → Option rm_S} {ws wt own : Nat → Nat} {n x y kx ky : Nat} {rx ry : (Nat → Bool) → Option mc_V} (hw : 1 ≤ ws n) (hown : own n = 1) (hx : rm_C A stp ws wt own n x kx rx) (hy : rm_C A stp ws wt own n y ky ry)
    (hst : ∀ i t E B fr cn cm fn fm st, stp ((n, 0, i, t) :: E, B, fr, cn, cm, fn, fm, st) = if B i = false then (if mc_op A x = 11 then none else some ((x, 0, i + kx, t) :: (n, 1, i, t) :: E, B, fr, cn, cm, fn, fm, st + own x)) else (if mc_op A y = 11 then none else some ((y, 0, i + ky, t) :: (n, 1, i, t) :: E, B, fr, cn, cm, fn, fm, st + own y)))
    (hst1 : ∀ i t E B fr cn cm fn fm st, stp ((n, 1, i, t) :: E, B, fr, cn, cm, fn, fm, st) = some (E, B, fr, cn, cm, fn, fm, st)) :
    rm_P stp ws wt own n (fun u => match (if u 0 = false then rx (mc_sh u kx) else ry (mc_sh u ky)) with
      | some (a, s1, c1, g1) => some (a, 1 + s1, c1, g1)
      | none => none) := by
  refine ⟨fun u u' h => ?_, fun i t E B fr cn cm fn fm st q1 q2 q3 q4 q5 => ?_⟩
  · simp only [h 0 (by omega), rm_C_loc hx h, rm_C_loc hy h]
  · have e0 : mc_sh B i 0 = B i := rfl
    simp only [mc_sh_sh, e0]
    have hs := hst i t E B fr cn cm fn fm (st + own n)
    by_cases hb : B i = false
    · rw [if_pos hb] at hs ⊢
      exact rm_P_case1 hx hown q1 q2 q3 q4 q5 hs (fun _ _ _ _ _ _ _ => hst1 _ _ _ _ _ _ _ _ _ _)
    · rw [if_neg hb] at hs ⊢
      exact rm_P_case1 hy hown q1 q2 q3 q4 q5 hs (fun _ _ _ _ _ _ _ => hst1 _ _ _ _ _ _ _ _ _ _)
theorem op_cs : ∀ {k : Nat}, k < 13 → k = 0 ∨ k = 1 ∨ k = 2 ∨ k = 3 ∨ k = 4 ∨ k = 5 ∨ k = 6 ∨ k = 7 ∨ k = 8 ∨ k = 10 ∨ k = 12 ∨ k = 9 ∨ k = 11 := by decide
def rm_jf (A : mc_A) (jt : Nat → (Nat → Bool) → List Bool) : Nat → (Nat → Bool) → Option mc_V := fun n u => some (jt (mc_sk A n) u, mc_ot A n, 0, 0)
section RMS
variable {A : mc_A} {jt : Nat → (Nat → Bool) → List Bool} {wb : Nat → Bool} {n i t fr cn cm fn fm st : Nat} {E : List (Nat × Nat × Nat × Nat)} {B : Nat → Bool}
theorem rm_s00 (e : mc_op A n = 0) : rm_step A jt wb ((n, 0, i, t) :: E, B, fr, cn, cm, fn, fm, st) = some ((mc_on A n, 0, i, fr) :: (n, 1, i, t) :: E, B, fr + mc_sk A n, cn + mc_sk A n, max cm (cn + mc_sk A n), fn + 1, max fm (fn + 1), st + rm_own A (mc_on A n)) := by simp only [rm_step, e, if_true]
theorem rm_s01 (e : mc_op A n = 0) : rm_step A jt wb ((n, 1, i, t) :: E, B, fr + mc_sk A n, cn, cm, fn, fm, st) = some ((mc_tw A n, 0, fr, t) :: (n, 2, i, t) :: E, B, fr + mc_sk A n, cn, cm, fn, fm, st + rm_own A (mc_tw A n)) := by simp only [rm_step, e, Nat.one_ne_zero, if_true, if_false, Nat.add_sub_cancel]
theorem rm_s02 (e : mc_op A n = 0) : rm_step A jt wb ((n, 2, i, t) :: E, B, fr + mc_sk A n, cn + mc_sk A n, cm, fn + 1, fm, st) = some (E, B, fr, cn, cm, fn, fm, st) := by
  have h1 : ¬ (2 = 0) := by decide
  have h2 : ¬ (2 = 1) := by decide
  simp only [rm_step, e, if_neg h1, if_neg h2, Nat.add_sub_cancel]
theorem rm_s10 (e : mc_op A n = 1) : rm_step A jt wb ((n, 0, i, t) :: E, B, fr, cn, cm, fn, fm, st) = if B i = false then (if mc_op A (mc_on A n) = 11 then none else some ((mc_on A n, 0, i + mc_sk A n, t) :: (n, 1, i, t) :: E, B, fr, cn, cm, fn, fm, st + rm_own A (mc_on A n))) else (if mc_op A (mc_tw A n) = 11 then none else some ((mc_tw A n, 0, i + mc_ot A n, t) :: (n, 1, i, t) :: E, B, fr, cn, cm, fn, fm, st + rm_own A (mc_tw A n))) := by simp only [rm_step, e, if_true]
theorem rm_s11 (e : mc_op A n = 1 ∨ mc_op A n = 3 ∨ mc_op A n = 4 ∨ mc_op A n = 5 ∨ mc_op A n = 6) : rm_step A jt wb ((n, 1, i, t) :: E, B, fr, cn, cm, fn, fm, st) = some (E, B, fr, cn, cm, fn, fm, st) := by
  rcases e with e | e | e | e | e <;> simp only [rm_step, e, Nat.one_ne_zero, if_false]
theorem rm_s20 (e : mc_op A n = 2) : rm_step A jt wb ((n, 0, i, t) :: E, B, fr, cn, cm, fn, fm, st) = some ((mc_on A n, 0, i, t) :: (n, 1, i, t) :: E, B, fr, cn, cm, fn, fm, st + rm_own A (mc_on A n)) := by simp only [rm_step, e, if_true]
theorem rm_s21 (e : mc_op A n = 2) : rm_step A jt wb ((n, 1, i, t) :: E, B, fr, cn, cm, fn, fm, st) = some ((mc_tw A n, 0, i, t + mc_sk A n) :: (n, 2, i, t) :: E, B, fr, cn, cm, fn, fm, st + rm_own A (mc_tw A n)) := by simp only [rm_step, e, Nat.one_ne_zero, if_true, if_false]
theorem rm_s22 (e : mc_op A n = 2) : rm_step A jt wb ((n, 2, i, t) :: E, B, fr, cn, cm, fn, fm, st) = some (E, B, fr, cn, cm, fn, fm, st) := by
  have h1 : ¬ (2 = 0) := by decide
  have h2 : ¬ (2 = 1) := by decide
  simp only [rm_step, e, if_neg h1, if_neg h2]
theorem rm_s30 (e : mc_op A n = 3) : rm_step A jt wb ((n, 0, i, t) :: E, B, fr, cn, cm, fn, fm, st) = some ((mc_on A n, 0, i + 0, t + (false :: List.replicate (mc_sk A n) false).length) :: (n, 1, i, t) :: E, mc_wr B t (false :: List.replicate (mc_sk A n) false), fr, cn, cm, fn, fm, st + rm_own A (mc_on A n)) := by
  simp only [rm_step, e, if_true, List.length_cons, List.length_replicate, Nat.add_zero]
  rw [Nat.add_comm 1]
theorem rm_s40 (e : mc_op A n = 4) : rm_step A jt wb ((n, 0, i, t) :: E, B, fr, cn, cm, fn, fm, st) = some ((mc_on A n, 0, i + 0, t + (true :: List.replicate (mc_sk A n) false).length) :: (n, 1, i, t) :: E, mc_wr B t (true :: List.replicate (mc_sk A n) false), fr, cn, cm, fn, fm, st + rm_own A (mc_on A n)) := by
  simp only [rm_step, e, if_true, List.length_cons, List.length_replicate, Nat.add_zero]
  rw [Nat.add_comm 1]
theorem rm_s50 (e : mc_op A n = 5) : rm_step A jt wb ((n, 0, i, t) :: E, B, fr, cn, cm, fn, fm, st) = some ((mc_on A n, 0, i + 0, t + ([] : List Bool).length) :: (n, 1, i, t) :: E, mc_wr B t [], fr, cn, cm, fn, fm, st + rm_own A (mc_on A n)) := by simp only [rm_step, e, if_true, mc_wr_nil, List.length_nil, Nat.add_zero]
theorem rm_s60 (e : mc_op A n = 6) : rm_step A jt wb ((n, 0, i, t) :: E, B, fr, cn, cm, fn, fm, st) = some ((mc_on A n, 0, i + mc_sk A n, t + ([] : List Bool).length) :: (n, 1, i, t) :: E, mc_wr B t [], fr, cn, cm, fn, fm, st + rm_own A (mc_on A n)) := by simp only [rm_step, e, if_true, mc_wr_nil, List.length_nil, Nat.add_zero]
theorem rm_s7 (e : mc_op A n = 7) : rm_step A jt wb ((n, 0, i, t) :: E, B, fr, cn, cm, fn, fm, st) = some (E, mc_wr B t (mc_rd (mc_sh B i) (mc_ot A n) (mc_sk A n)), fr, cn, cm, fn, fm, st) := by
  have e3 : mc_rd B (i + mc_ot A n) (mc_sk A n) = mc_rd (mc_sh B i) (mc_ot A n) (mc_sk A n) := by
    unfold mc_rd mc_sh
    apply List.map_congr_left
    intro i _
    rw [Nat.add_assoc]
  simp only [rm_step, e, e3]
theorem rm_s8 (e : mc_op A n = 8) : rm_step A jt wb ((n, 0, i, t) :: E, B, fr, cn, cm, fn, fm, st) = some (E, mc_wr B t [], fr, cn, cm, fn, fm, st) := by simp only [rm_step, e, mc_wr_nil]
theorem rm_sA (e : mc_op A n = 10) : rm_step A jt wb ((n, 0, i, t) :: E, B, fr, cn, cm, fn, fm, st) = some (E, mc_wr B t (mc_rd wb (mc_sk A n) (mc_ot A n)), fr, cn, cm, fn, fm, st) := by simp only [rm_step, e]
theorem rm_sC (e : mc_op A n = 12) : rm_step A jt wb ((n, 0, i, t) :: E, B, fr, cn, cm, fn, fm, st) = some (E, mc_wr B t (jt (mc_sk A n) (mc_sh B i)), fr, cn, cm, fn, fm, st) := by simp only [rm_step, e]
theorem rm_o1 (e : mc_op A n ≤ 6 ∨ mc_op A n = 8) : rm_own A n = 1 := by
  unfold rm_own
  rw [if_neg (by omega), if_neg (by omega)]
theorem rm_o7 (e : mc_op A n = 7) : rm_own A n = 1 + mc_sk A n := by
  unfold rm_own
  rw [if_pos e]
theorem rm_oA (e : mc_op A n = 10 ∨ mc_op A n = 12) : rm_own A n = 1 + mc_ot A n := by
  unfold rm_own
  rw [if_neg (by omega), if_pos e]
end RMS
set_option maxHeartbeats 4000000 in
theorem rm_run {A : mc_A} {jt : Nat → (Nat → Bool) → List Bool} {wb : Nat → Bool} {ws wt sb rk : Nat → Nat} {X : Nat → Prop} (hX : ∀ n x, X n → mc_ch A n x → X x ∧ rk x < rk n) (hty : ∀ n, X n → mc_ty A ws wt sb n) (hop : ∀ n, X n → mc_op A n ≤ 12)
    (hhid : ∀ n, X n → mc_op A n ≠ 1 → ∀ x, mc_ch A n x → mc_op A x ≠ 11)
    (hjl : ∀ n, X n → mc_op A n = 12 → ∀ u u' : Nat → Bool, (∀ i, i < ws n → u i = u' i) → jt (mc_sk A n) u = jt (mc_sk A n) u') (hjw : ∀ n, X n → mc_op A n = 12 → ∀ u, (jt (mc_sk A n) u).length = wt n) :
    ∀ (f n : Nat), X n → rk n < f → mc_op A n ≠ 11 → rm_P (rm_step A jt wb) ws wt (rm_own A) n (mc_ev A (rm_jf A jt) wb f n) := by
  intro f
  induction f with
  | zero => intro n _ h; omega
  | succ f ih =>
    intro n hn hf h11
    obtain ⟨t0, t1, t2, t3, t5, t6, t7, t8, t10, tb⟩ := hty n hn
    have hon : mc_op A n ≤ 6 → mc_op A (mc_on A n) ≠ 11 → rm_P (rm_step A jt wb) ws wt (rm_own A) (mc_on A n) (mc_ev A (rm_jf A jt) wb f (mc_on A n)) := fun h h2 => by
      have := hX n _ hn (Or.inl ⟨h, rfl⟩)
      exact ih _ this.1 (by omega) h2
    have htw : mc_op A n ≤ 2 → mc_op A (mc_tw A n) ≠ 11 → rm_P (rm_step A jt wb) ws wt (rm_own A) (mc_tw A n) (mc_ev A (rm_jf A jt) wb f (mc_tw A n)) := fun h h2 => by
      have := hX n _ hn (Or.inr ⟨h, rfl⟩)
      exact ih _ this.1 (by omega) h2
    have hd1 : mc_op A n ≤ 6 → mc_op A n ≠ 1 → mc_op A (mc_on A n) ≠ 11 := fun h h2 => hhid n hn h2 _ (Or.inl ⟨h, rfl⟩)
    have hd2 : mc_op A n ≤ 2 → mc_op A n ≠ 1 → mc_op A (mc_tw A n) ≠ 11 := fun h h2 => hhid n hn h2 _ (Or.inr ⟨h, rfl⟩)
    have h12 := hop n hn
    rcases op_cs (Nat.lt_succ_of_le h12) with e | e | e | e | e | e | e | e | e | e | e | e | e
    · obtain ⟨a1, a2, a3, a4, a5⟩ := t0 e
      have h := rm_P_comp (stp := rm_step A jt wb) (own := rm_own A) (n := n) (hon (by omega) (hd1 (by omega) (by omega))) (htw (by omega) (hd2 (by omega) (by omega))) (rm_o1 (by omega)) a1 a2 a3 a4 (fun _ _ _ _ _ _ _ _ _ _ => rm_s00 e) (fun _ _ _ _ _ _ _ _ _ _ => rm_s01 e) (fun _ _ _ _ _ _ _ _ _ _ => rm_s02 e)
      have e2 : mc_ev A (rm_jf A jt) wb (f + 1) n = fun u => match mc_ev A (rm_jf A jt) wb f (mc_on A n) u with
        | some (a, s1, c1, g1) => match mc_ev A (rm_jf A jt) wb f (mc_tw A n) (mc_ex a) with
          | some (b, s2, c2, g2) => some (b, 1 + s1 + s2, mc_sk A n + max c1 c2, 1 + max g1 g2)
          | none => none
        | none => none := by funext u; simp only [mc_ev, e] <;> rfl
      rw [e2]; exact h
    · obtain ⟨a0, a1, a2⟩ := t1 e
      have hx : rm_C A (rm_step A jt wb) ws wt (rm_own A) n (mc_on A n) (mc_sk A n) (mc_ev A (rm_jf A jt) wb f (mc_on A n)) := by
        by_cases h11 : mc_op A (mc_on A n) = 11
        · exact Or.inr ⟨mc_ev_0 (Or.inr h11), h11⟩
        · rcases a1 with ⟨b1, b2, b3⟩ | ⟨b1, b2⟩
          · exact Or.inl ⟨hon (by omega) h11, b1, b2, h11⟩
          · exact absurd b1 h11
      have hy : rm_C A (rm_step A jt wb) ws wt (rm_own A) n (mc_tw A n) (mc_ot A n) (mc_ev A (rm_jf A jt) wb f (mc_tw A n)) := by
        by_cases h11 : mc_op A (mc_tw A n) = 11
        · exact Or.inr ⟨mc_ev_0 (Or.inr h11), h11⟩
        · rcases a2 with ⟨b1, b2, b3⟩ | ⟨b1, b2⟩
          · exact Or.inl ⟨htw (by omega) h11, b1, b2, h11⟩
          · exact absurd b1 h11
      have h := rm_P_case a0 (rm_o1 (by omega)) hx hy (fun _ _ _ _ _ _ _ _ _ _ => rm_s10 e) (fun _ _ _ _ _ _ _ _ _ _ => rm_s11 (by omega))
      have e2 : mc_ev A (rm_jf A jt) wb (f + 1) n = fun u => match (if u 0 = false then mc_ev A (rm_jf A jt) wb f (mc_on A n) (mc_sh u (mc_sk A n)) else mc_ev A (rm_jf A jt) wb f (mc_tw A n) (mc_sh u (mc_ot A n))) with
        | some (a, s1, c1, g1) => some (a, 1 + s1, c1, g1)
        | none => none := by
        funext u
        simp only [mc_ev, e]
        by_cases hu : u 0 = false
        · simp only [if_pos hu] <;> rfl
        · simp only [if_neg hu] <;> rfl
      rw [e2]; exact h
    · obtain ⟨a1, a2, a3, a4, a5⟩ := t2 e
      have h := rm_P_pair (stp := rm_step A jt wb) (own := rm_own A) (n := n) (hon (by omega) (hd1 (by omega) (by omega))) (htw (by omega) (hd2 (by omega) (by omega))) (rm_o1 (by omega)) a1 a2 a3 a4 (fun _ _ _ _ _ _ _ _ _ _ => rm_s20 e) (fun _ _ _ _ _ _ _ _ _ _ => rm_s21 e) (fun _ _ _ _ _ _ _ _ _ _ => rm_s22 e)
      have e2 : mc_ev A (rm_jf A jt) wb (f + 1) n = fun u => match mc_ev A (rm_jf A jt) wb f (mc_on A n) u with
        | some (a, s1, c1, g1) => match mc_ev A (rm_jf A jt) wb f (mc_tw A n) u with
          | some (b, s2, c2, g2) => some (a ++ b, 1 + s1 + s2, max c1 c2, max g1 g2)
          | none => none
        | none => none := by funext u; simp only [mc_ev, e] <;> rfl
      rw [e2]; exact h
    · obtain ⟨a1, a2, a3⟩ := t3 (Or.inl e)
      have h := rm_P_one (stp := rm_step A jt wb) (own := rm_own A) (n := n) (w := false :: List.replicate (mc_sk A n) false) (k := 0) (hon (by omega) (hd1 (by omega) (by omega))) (rm_o1 (by omega)) (by omega) (by simp only [List.length_cons, List.length_replicate]; omega) (fun _ _ _ _ _ _ _ _ _ _ => rm_s30 e) (fun _ _ _ _ _ _ _ _ _ _ => rm_s11 (by omega))
      have e2 : mc_ev A (rm_jf A jt) wb (f + 1) n = fun u => match mc_ev A (rm_jf A jt) wb f (mc_on A n) (mc_sh u 0) with
        | some (a, s1, c1, g1) => some ((false :: List.replicate (mc_sk A n) false) ++ a, 1 + s1, c1, g1)
        | none => none := by
        funext u
        have e3 : mc_sh u 0 = u := by funext i; simp [mc_sh]
        rw [e3]
        simp only [mc_ev, e, List.cons_append] <;> rfl
      rw [e2]; exact h
    · obtain ⟨a1, a2, a3⟩ := t3 (Or.inr e)
      have h := rm_P_one (stp := rm_step A jt wb) (own := rm_own A) (n := n) (w := true :: List.replicate (mc_sk A n) false) (k := 0) (hon (by omega) (hd1 (by omega) (by omega))) (rm_o1 (by omega)) (by omega) (by simp only [List.length_cons, List.length_replicate]; omega) (fun _ _ _ _ _ _ _ _ _ _ => rm_s40 e) (fun _ _ _ _ _ _ _ _ _ _ => rm_s11 (by omega))
      have e2 : mc_ev A (rm_jf A jt) wb (f + 1) n = fun u => match mc_ev A (rm_jf A jt) wb f (mc_on A n) (mc_sh u 0) with
        | some (a, s1, c1, g1) => some ((true :: List.replicate (mc_sk A n) false) ++ a, 1 + s1, c1, g1)
        | none => none := by
        funext u
        have e3 : mc_sh u 0 = u := by funext i; simp [mc_sh]
        rw [e3]
        simp only [mc_ev, e, List.cons_append] <;> rfl
      rw [e2]; exact h
    · obtain ⟨a1, a2, a3⟩ := t5 e
      have h := rm_P_one (stp := rm_step A jt wb) (own := rm_own A) (n := n) (w := []) (k := 0) (hon (by omega) (hd1 (by omega) (by omega))) (rm_o1 (by omega)) (by omega) (by simp only [List.length_nil]; omega) (fun _ _ _ _ _ _ _ _ _ _ => rm_s50 e) (fun _ _ _ _ _ _ _ _ _ _ => rm_s11 (by omega))
      have e2 : mc_ev A (rm_jf A jt) wb (f + 1) n = fun u => match mc_ev A (rm_jf A jt) wb f (mc_on A n) (mc_sh u 0) with
        | some (a, s1, c1, g1) => some ([] ++ a, 1 + s1, c1, g1)
        | none => none := by
        funext u
        have e3 : mc_sh u 0 = u := by funext i; simp [mc_sh]
        rw [e3]
        simp only [mc_ev, e, List.nil_append] <;> rfl
      rw [e2]; exact h
    · obtain ⟨a1, a2, a3⟩ := t6 e
      have h := rm_P_one (stp := rm_step A jt wb) (own := rm_own A) (n := n) (w := []) (k := mc_sk A n) (hon (by omega) (hd1 (by omega) (by omega))) (rm_o1 (by omega)) (by omega) (by simp only [List.length_nil]; omega) (fun _ _ _ _ _ _ _ _ _ _ => rm_s60 e) (fun _ _ _ _ _ _ _ _ _ _ => rm_s11 (by omega))
      have e2 : mc_ev A (rm_jf A jt) wb (f + 1) n = fun u => match mc_ev A (rm_jf A jt) wb f (mc_on A n) (mc_sh u (mc_sk A n)) with
        | some (a, s1, c1, g1) => some ([] ++ a, 1 + s1, c1, g1)
        | none => none := by
        funext u
        simp only [mc_ev, e, List.nil_append] <;> rfl
      rw [e2]; exact h
    · obtain ⟨a1, a2⟩ := t7 e
      have h := rm_P_leaf (stp := rm_step A jt wb) (ws := ws) (wt := wt) (own := rm_own A) (n := n) (l := fun u => mc_rd u (mc_ot A n) (mc_sk A n)) (fun u u' q => by
        unfold mc_rd
        apply List.map_congr_left
        intro i hi
        exact q _ (by have := List.mem_range.mp hi; omega)) (fun u => by rw [mc_rd_len, a2]) (fun _ _ _ _ _ _ _ _ _ _ => rm_s7 e)
      have e2 : mc_ev A (rm_jf A jt) wb (f + 1) n = fun u => some (mc_rd u (mc_ot A n) (mc_sk A n), rm_own A n, 0, 0) := by funext u; rw [rm_o7 e]; simp only [mc_ev, e]
      rw [e2]; exact h
    · have h := rm_P_leaf (stp := rm_step A jt wb) (ws := ws) (wt := wt) (own := rm_own A) (n := n) (l := fun _ => []) (fun u u' q => rfl) (fun u => by rw [t8 e]; rfl) (fun _ _ _ _ _ _ _ _ _ _ => rm_s8 e)
      have e2 : mc_ev A (rm_jf A jt) wb (f + 1) n = fun u => some ([], rm_own A n, 0, 0) := by funext u; rw [rm_o1 (by omega)]; simp only [mc_ev, e]
      rw [e2]; exact h
    · have h := rm_P_leaf (stp := rm_step A jt wb) (ws := ws) (wt := wt) (own := rm_own A) (n := n) (l := fun _ => mc_rd wb (mc_sk A n) (mc_ot A n)) (fun u u' q => rfl) (fun u => by rw [mc_rd_len, t10 e]) (fun _ _ _ _ _ _ _ _ _ _ => rm_sA e)
      have e2 : mc_ev A (rm_jf A jt) wb (f + 1) n = fun u => some (mc_rd wb (mc_sk A n) (mc_ot A n), rm_own A n, 0, 0) := by funext u; rw [rm_oA (by omega)]; simp only [mc_ev, e]
      rw [e2]; exact h
    · have h := rm_P_leaf (stp := rm_step A jt wb) (ws := ws) (wt := wt) (own := rm_own A) (n := n) (l := fun u => jt (mc_sk A n) u) (hjl n hn e) (hjw n hn e) (fun _ _ _ _ _ _ _ _ _ _ => rm_sC e)
      have e2 : mc_ev A (rm_jf A jt) wb (f + 1) n = fun u => some (jt (mc_sk A n) u, rm_own A n, 0, 0) := by funext u; rw [rm_oA (by omega)]; simp only [mc_ev, e, rm_jf]
      rw [e2]; exact h
    · have e2 : mc_ev A (rm_jf A jt) wb (f + 1) n = fun _ => none := by funext u; exact mc_ev_0 (Or.inl e) u
      rw [e2]
      refine ⟨fun _ _ _ => rfl, fun i t E B fr cn cm fn fm st _ _ _ _ _ => ⟨1, rm_it_n ?_⟩⟩
      simp only [rm_step, e]
    · exact absurd e h11
