/-! ===== a loaded program as the machine's codes: widths that fit ===== -/
def wtB (q : PgD) : Nat := match pr_nat (by_bit q.1) (8 * q.1.length) q.2.2.1 with
  | .ok (_, b) => b
  | .error _ => 0
def mcQ (q : PgD) : mc_A := (pC q.2.1, fiO (p1 q.2.1), fiO (p2 q.2.1), cSk q.2.1 q.2.2.2.1 q.2.2.2.2 (wtB q), cOt q.2.1 q.2.2.2.1 q.2.2.2.2)
section MQ
variable {l : List Nat} {ps : List pr_D} {a n : Nat} {S T : Nat → Ty}
/-- what the rules of types say of widths -/
def mqW (ps : List pr_D) (S T : Nat → Ty) (A : mc_A) (n : Nat) : Prop :=
  (mc_op A n ≤ 6 → mc_on A n < n ∧ p1 ps n = some (mc_on A n)) ∧ (mc_op A n ≤ 2 → mc_tw A n < n ∧ p2 ps n = some (mc_tw A n)) ∧ (mc_op A n ≠ 1 → (mc_op A n ≤ 6 → mc_op A (mc_on A n) ≠ 11) ∧ (mc_op A n ≤ 2 → mc_op A (mc_tw A n) ≠ 11)) ∧
  (mc_op A n = 0 → S (mc_on A n) = S n ∧ ty_w (T (mc_on A n)) = mc_sk A n ∧ ty_w (S (mc_tw A n)) = mc_sk A n ∧ T (mc_tw A n) = T n) ∧
  (mc_op A n = 1 → 1 ≤ ty_w (S n) ∧ (mc_op A (mc_on A n) ≠ 11 → mc_sk A n + ty_w (S (mc_on A n)) = ty_w (S n) ∧ T (mc_on A n) = T n) ∧ (mc_op A (mc_tw A n) ≠ 11 → mc_ot A n + ty_w (S (mc_tw A n)) = ty_w (S n) ∧ T (mc_tw A n) = T n)) ∧
  (mc_op A n = 2 → S (mc_on A n) = S n ∧ S (mc_tw A n) = S n ∧ ty_w (T (mc_on A n)) = mc_sk A n ∧ mc_sk A n + ty_w (T (mc_tw A n)) = ty_w (T n)) ∧
  ((mc_op A n = 3 ∨ mc_op A n = 4) → S (mc_on A n) = S n ∧ ty_w (T n) = 1 + mc_sk A n + ty_w (T (mc_on A n))) ∧
  (mc_op A n = 5 → T (mc_on A n) = T n ∧ ty_w (S (mc_on A n)) ≤ ty_w (S n)) ∧
  (mc_op A n = 6 → T (mc_on A n) = T n ∧ mc_sk A n + ty_w (S (mc_on A n)) = ty_w (S n)) ∧
  (mc_op A n = 7 → T n = S n ∧ mc_sk A n = ty_w (S n) ∧ mc_ot A n = 0) ∧ (mc_op A n = 8 → ty_w (T n) = 0) ∧ (mc_op A n = 10 → mc_ot A n = ty_w (T n)) ∧ (mc_op A n = 12 → mc_sk A n = pNu ps n ∧ mc_ot A n = ty_w (S n) + ty_w (T n) ∧ S n = ty_js (pNu ps n) ∧ T n = ty_jt (pNu ps n)) ∧ (mc_op A n ≤ 12)
theorem mqW_of (ho : psOK ps) (hG : LdG l ps a 0 S T) (hn : n < ps.length) : mqW ps S T (mcQ (l, ps, a, S, T)) n := by
  obtain ⟨g1, g2, g3, g4, g5⟩ := LdG_0 hG
  have hr := g3.1.2.2 n (List.mem_range.mpr hn)
  obtain ⟨r0, r1, r2, r3, r4, r5, r6, r7, r8, r12⟩ := hr
  have hok := ho n hn
  have h7 := nb7 g2 hn
  have e1 : ∀ {x}, p1 ps n = some x → fiO (p1 ps) n = x := fun h => by unfold fiO; rw [h]; rfl
  have e2 : ∀ {x}, p2 ps n = some x → fiO (p2 ps) n = x := fun h => by unfold fiO; rw [h]; rfl
  have c1 : pC ps n ≤ 6 → ∃ x, p1 ps n = some x ∧ x < n := fun h => by
    obtain ⟨x, hx⟩ := Option.isSome_iff_exists.mp (hok.2.1.mp h)
    exact ⟨x, hx, hok.2.2.2.1 x hx⟩
  have c2 : pC ps n ≤ 2 → ∃ x, p2 ps n = some x ∧ x < n := fun h => by
    obtain ⟨x, hx⟩ := Option.isSome_iff_exists.mp (hok.2.2.1.mp h)
    exact ⟨x, hx, hok.2.2.2.2.1 x hx⟩
  have o1 : ∀ {x}, p1 ps n = some x → mc_on (mcQ (l, ps, a, S, T)) n = x := fun h => e1 h
  have o2 : ∀ {x}, p2 ps n = some x → mc_tw (mcQ (l, ps, a, S, T)) n = x := fun h => e2 h
  have hsk : mc_sk (mcQ (l, ps, a, S, T)) n = cSk ps S T (wtB (l, ps, a, S, T)) n := rfl
  have hot : mc_ot (mcQ (l, ps, a, S, T)) n = cOt ps S T n := rfl
  have hop : ∀ m, mc_op (mcQ (l, ps, a, S, T)) m = pC ps m := fun _ => rfl
  simp only [mqW, hop, hsk, hot]
  refine ⟨fun h => ?_, fun h => ?_, fun h => ⟨fun h' => ?_, fun h' => ?_⟩, fun h => ?_, fun h => ?_, fun h => ?_, fun h => ?_, fun h => ?_, fun h => ?_, fun h => ?_, fun h => ?_, fun h => ?_, fun h => ?_, hok.1⟩
  · obtain ⟨x, hx, hl⟩ := c1 h
    rw [o1 hx]; exact ⟨hl, hx⟩
  · obtain ⟨x, hx, hl⟩ := c2 h
    rw [o2 hx]; exact ⟨hl, hx⟩
  · obtain ⟨x, hx, hl⟩ := c1 h'
    rw [o1 hx]; exact (h7 h).1 x hx
  · obtain ⟨x, hx, hl⟩ := c2 h'
    rw [o2 hx]; exact (h7 h).2 x hx
  · obtain ⟨x, hx, _⟩ := c1 (by omega)
    obtain ⟨y, hy, _⟩ := c2 (by omega)
    have r := r0 h
    rw [e1 hx, e2 hy] at r
    have es : cSk ps S T (wtB (l, ps, a, S, T)) n = ty_w (T x) := by unfold cSk; rw [h]; simp only [gO, hx]
    rw [o1 hx, o2 hy, es]
    exact ⟨r.1, rfl, by rw [r.2.2], r.2.1⟩
  · obtain ⟨x, hx, _⟩ := c1 (by omega)
    obtain ⟨y, hy, _⟩ := c2 (by omega)
    obtain ⟨ta, tb, tc, q1, q2, q3⟩ := r1 h
    rw [e1 hx] at q2
    rw [e2 hy] at q3
    have es : cSk ps S T (wtB (l, ps, a, S, T)) n = 1 + max (ty_w ta) (ty_w tb) - ty_w ta := by unfold cSk; rw [h, q1]; rfl
    have et : cOt ps S T n = 1 + max (ty_w ta) (ty_w tb) - ty_w tb := by unfold cOt; rw [h, q1]; rfl
    have ew : ty_w (S n) = 1 + max (ty_w ta) (ty_w tb) + ty_w tc := by rw [q1]; rfl
    rw [o1 hx, o2 hy, es, et]
    refine ⟨by omega, fun z => ?_, fun z => ?_⟩
    · obtain ⟨q4, q5⟩ := q2 z
      refine ⟨?_, q5⟩
      rw [q4, ew]
      show _ + (ty_w ta + ty_w tc) = _
      omega
    · obtain ⟨q4, q5⟩ := q3 z
      refine ⟨?_, q5⟩
      rw [q4, ew]
      show _ + (ty_w tb + ty_w tc) = _
      omega
  · obtain ⟨x, hx, _⟩ := c1 (by omega)
    obtain ⟨y, hy, _⟩ := c2 (by omega)
    have r := r2 h
    rw [e1 hx, e2 hy] at r
    have es : cSk ps S T (wtB (l, ps, a, S, T)) n = ty_w (T x) := by unfold cSk; rw [h]; simp only [gO, hx]
    rw [o1 hx, o2 hy, es]
    exact ⟨r.1, r.2.1, rfl, by rw [r.2.2]; rfl⟩
  · obtain ⟨x, hx, _⟩ := c1 (by omega)
    rw [o1 hx]
    rcases h with h | h
    · have r := r3 h
      rw [e1 hx] at r
      obtain ⟨q1, c, q2⟩ := r
      have es : cSk ps S T (wtB (l, ps, a, S, T)) n = 1 + max (ty_w (T x)) (ty_w c) - 1 - ty_w (T x) := by unfold cSk; rw [h, q2]; rfl
      refine ⟨q1, ?_⟩
      rw [es, q2]
      show 1 + max (ty_w (T x)) (ty_w c) = _
      omega
    · have r := r4 h
      rw [e1 hx] at r
      obtain ⟨q1, c, q2⟩ := r
      have es : cSk ps S T (wtB (l, ps, a, S, T)) n = 1 + max (ty_w c) (ty_w (T x)) - 1 - ty_w (T x) := by unfold cSk; rw [h, q2]; rfl
      refine ⟨q1, ?_⟩
      rw [es, q2]
      show 1 + max (ty_w c) (ty_w (T x)) = _
      omega
  · obtain ⟨x, hx, _⟩ := c1 (by omega)
    have r := r5 h
    rw [e1 hx] at r
    obtain ⟨q1, c, q2⟩ := r
    rw [o1 hx]
    refine ⟨q1, ?_⟩
    rw [q2]
    show _ ≤ ty_w (S x) + ty_w c
    omega
  · obtain ⟨x, hx, _⟩ := c1 (by omega)
    have r := r6 h
    rw [e1 hx] at r
    obtain ⟨q1, c, q2⟩ := r
    have es : cSk ps S T (wtB (l, ps, a, S, T)) n = ty_w c := by unfold cSk; rw [h, q2]; rfl
    rw [o1 hx, es]
    exact ⟨q1, by rw [q2]; rfl⟩
  · have es : cSk ps S T (wtB (l, ps, a, S, T)) n = ty_w (S n) := by unfold cSk; rw [h]; rfl
    have et : cOt ps S T n = 0 := by unfold cOt; rw [h]; rfl
    exact ⟨r7 h, es, et⟩
  · rw [r8 h]; rfl
  · unfold cOt; rw [h]; rfl
  · have es : cSk ps S T (wtB (l, ps, a, S, T)) n = pNu ps n := by unfold cSk; rw [h]; rfl
    have et : cOt ps S T n = ty_w (S n) + ty_w (T n) := by unfold cOt; rw [h]; rfl
    exact ⟨es, et, (r12 h).1, (r12 h).2⟩
end MQ
