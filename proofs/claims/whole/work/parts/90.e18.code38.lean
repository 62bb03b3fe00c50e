/-! ===== the class: workTape ===== -/
section ES
variable {l : List Nat} {ps : List pr_D} {a : Nat} {S T : Nat → Ty} {C F B : Nat → Nat} {wb : Nat → Bool}
/-- steps are bounded as the bounds say -/
theorem ev_steps (ho : psOK ps) (hG : LdG l ps a 0 S T) (hb : bnd ps S T C F B ps.length) : ∀ (f n : Nat) (u : Nat → Bool) (x : List Bool) (s c e : Nat), pX ps B n → mc_ev (mcQ (l, ps, a, S, T)) (jf0 (mcQ (l, ps, a, S, T))) wb f n u = some (x, s, c, e) → s ≤ B n := by
  intro f
  induction f with
  | zero => intro n u x s c e hX h; cases h
  | succ f ih =>
    intro n u x s c e hX h
    have hq := mqW_of ho hG hX.1
    have h3 := (hb n hX.1).2.2
    have hBM := hX.2
    have hop : mc_op (mcQ (l, ps, a, S, T)) n = pC ps n := rfl
    have hon : mc_op (mcQ (l, ps, a, S, T)) n ≤ 6 → pX ps B (mc_on (mcQ (l, ps, a, S, T)) n) ∧ gO B (p1 ps n) = B (mc_on (mcQ (l, ps, a, S, T)) n) := fun z => ⟨(pX_ch ho hG hb hX (Or.inl ⟨z, rfl⟩)).1, by rw [(hq.1 z).2]; rfl⟩
    have htw : mc_op (mcQ (l, ps, a, S, T)) n ≤ 2 → pX ps B (mc_tw (mcQ (l, ps, a, S, T)) n) ∧ gO B (p2 ps n) = B (mc_tw (mcQ (l, ps, a, S, T)) n) := fun z => ⟨(pX_ch ho hG hb hX (Or.inr ⟨z, rfl⟩)).1, by rw [(hq.2.1 z).2]; rfl⟩
    have t7 := hq.2.2.2.2.2.2.2.2.2.1
    have t10 := hq.2.2.2.2.2.2.2.2.2.2.2.1
    have t12 := hq.2.2.2.2.2.2.2.2.2.2.2.2.1
    clear hq
    unfold mc_ev at h
    split at h
    · rename_i e0
      obtain ⟨x1, x2⟩ := hon (by rw [e0]; decide)
      obtain ⟨y1, y2⟩ := htw (by rw [e0]; decide)
      rw [hop] at e0
      rw [if_neg (by rw [e0]; decide), if_neg (by rw [e0]; decide), x2, y2] at h3
      clear hon htw t7 t10 t12
      split at h
      · rename_i a1 s1 k1 g1 r1
        split at h
        · rename_i a2 s2 k2 g2 r2
          have i1 := ih _ _ _ _ _ _ x1 r1
          have i2 := ih _ _ _ _ _ _ y1 r2
          simp only [Option.some.injEq, Prod.mk.injEq] at h
          omega
        · cases h
      · cases h
    · rename_i e0
      obtain ⟨x1, x2⟩ := hon (by rw [e0]; decide)
      obtain ⟨y1, y2⟩ := htw (by rw [e0]; decide)
      rw [hop] at e0
      rw [if_neg (by rw [e0]; decide), if_pos e0, x2, y2] at h3
      clear hon htw t7 t10 t12
      split at h
      · rename_i a1 s1 k1 g1 r1
        simp only [Option.some.injEq, Prod.mk.injEq] at h
        by_cases hu : u 0 = false
        · rw [if_pos hu, if_pos hu] at r1
          have i1 := ih _ _ _ _ _ _ x1 r1
          omega
        · rw [if_neg hu, if_neg hu] at r1
          have i1 := ih _ _ _ _ _ _ y1 r1
          omega
      · cases h
    · rename_i e0
      obtain ⟨x1, x2⟩ := hon (by rw [e0]; decide)
      obtain ⟨y1, y2⟩ := htw (by rw [e0]; decide)
      rw [hop] at e0
      rw [if_neg (by rw [e0]; decide), if_neg (by rw [e0]; decide), x2, y2] at h3
      clear hon htw t7 t10 t12
      split at h
      · rename_i a1 s1 k1 g1 r1
        split at h
        · rename_i a2 s2 k2 g2 r2
          have i1 := ih _ _ _ _ _ _ x1 r1
          have i2 := ih _ _ _ _ _ _ y1 r2
          simp only [Option.some.injEq, Prod.mk.injEq] at h
          omega
        · cases h
      · cases h
    all_goals try (
      rename_i e0
      obtain ⟨x1, x2⟩ := hon (by rw [e0]; decide)
      rw [hop] at e0
      rw [if_neg (by rw [e0]; decide), if_neg (by rw [e0]; decide), x2] at h3
      clear hon htw t7 t10 t12
      split at h
      · rename_i a1 s1 k1 g1 r1
        have i1 := ih _ _ _ _ _ _ x1 r1
        simp only [Option.some.injEq, Prod.mk.injEq] at h
        generalize gO B (p2 ps n) = g2 at *
        omega
      · cases h
      done)
    · rename_i e0
      have h7 := (t7 e0).2.1
      have e0' : pC ps n = 7 := e0
      have ow : ownS ps S T n = ty_w (S n) := by unfold ownS; rw [if_pos e0']
      rw [if_neg (by rw [e0']; decide), if_neg (by rw [e0']; decide), ow] at h3
      clear hon htw t7 t10 t12
      simp only [Option.some.injEq, Prod.mk.injEq] at h
      generalize gO B (p1 ps n) = g1 at *
      generalize gO B (p2 ps n) = g2 at *
      omega
    · rename_i e0
      have e0' : pC ps n = 8 := e0
      rw [if_neg (by rw [e0']; decide), if_neg (by rw [e0']; decide)] at h3
      clear hon htw t7 t10 t12
      simp only [Option.some.injEq, Prod.mk.injEq] at h
      generalize gO B (p1 ps n) = g1 at *
      generalize gO B (p2 ps n) = g2 at *
      omega
    · rename_i e0
      have h7 := t10 e0
      have e0' : pC ps n = 10 := e0
      have ow : ownS ps S T n = ty_w (T n) := by unfold ownS; rw [if_neg (by rw [e0']; decide), if_pos e0']
      rw [if_neg (by rw [e0']; decide), if_neg (by rw [e0']; decide), ow] at h3
      clear hon htw t7 t10 t12
      simp only [Option.some.injEq, Prod.mk.injEq] at h
      generalize gO B (p1 ps n) = g1 at *
      generalize gO B (p2 ps n) = g2 at *
      omega
    · rename_i e0
      have h7 := (t12 e0).2.1
      have e0' : pC ps n = 12 := e0
      have ow : ownS ps S T n = ty_w (S n) + ty_w (T n) := by unfold ownS; rw [if_neg (by rw [e0']; decide), if_neg (by rw [e0']; decide), if_pos e0']
      rw [if_neg (by rw [e0']; decide), if_neg (by rw [e0']; decide), ow] at h3
      clear hon htw t7 t10 t12
      simp only [jf0, Option.some.injEq, Prod.mk.injEq] at h
      generalize gO B (p1 ps n) = g1 at *
      generalize gO B (p2 ps n) = g2 at *
      omega
    · cases h
end ES
theorem dI_fr {SS : List Nat} {TT : List (Nat × Nat)} {h h' : xm_H} {G : Nat → gN} {c : Nat} (hI : dI h G c) (hf : Fr SS TT h h') (hr : ∀ r, r ∈ [23, 24, 25, 26, 27, 28, 29, 30, 31] → r ∉ SS) (ht : (22, 9) ∉ TT) : dI h' G c := by
  obtain ⟨⟨⟨g1, g2, g3, g4⟩, c2, c3, c4, c5⟩, d2, d3⟩ := hI
  have e : ∀ r, r ∈ [23, 24, 25, 26, 27, 28, 29, 30, 31] → h'.1 r = h.1 r := fun r hr' => hf.1 r (hr r hr')
  have e28 := e 28 (by simp)
  have e31 := e 31 (by simp)
  refine ⟨⟨⟨by rw [hf.2.2 _ _ ht]; exact g1, g2, g3, fun n h1 h2 => ⟨(g4 n h1 h2).1, ?_⟩⟩, by rw [e31]; exact c2, by rw [e31, e28]; exact c3, by omega, by simp⟩, by rw [e28]; exact d2, fun n hn => by rw [e28]; exact d3 n hn⟩
  have := (g4 n h1 h2).2
  unfold gR at this ⊢
  rw [e 23 (by simp), e 24 (by simp), e 25 (by simp), e 26 (by simp), e 27 (by simp), e 29 (by simp), e 30 (by simp)]
  exact this
