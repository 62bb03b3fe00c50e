/-! ===== the class's machine works a loaded program ===== -/
theorem wsum_le2 {cd : Nat → Nat} {T : Nat → Ty} {n : Nat} : ∀ m, n ≤ m → wsum cd T n ≤ wsum cd T m := by
  intro m hm
  induction m with
  | zero =>
    have : n = 0 := by omega
    subst this
    exact Nat.le_refl _
  | succ m ih =>
    by_cases e : n = m + 1
    · subst e; exact Nat.le_refl _
    · exact Nat.le_trans (ih (by omega)) (Nat.le_add_right _ _)
/-- widths and bounds of a program's nodes -/
def pW (q : PgD) (B : Nat → Nat) : mc_W := (fun n => ty_w (q.2.2.2.1 n), fun n => ty_w (q.2.2.2.2 n), fun n => 200000 * B n + (if pC q.2.1 n = 11 then 1 else 0), fun n => n + 40, fun n => 2048 * (n + 1) + 4000, fun n => n + 4001, fun n => 7600 + n)
section PX
variable {l : List Nat} {ps : List pr_D} {a k b : Nat} {S T : Nat → Ty} {C F B : Nat → Nat}
theorem wtB_e (hk : pr_nat (by_bit l) (8 * l.length) a = .ok (k, b)) : wtB (l, ps, a, S, T) = b := by unfold wtB; simp only [hk]
theorem w8_of (hG : LdG l ps a 0 S T) (hk : pr_nat (by_bit l) (8 * l.length) a = .ok (k, b)) {n : Nat} (hn : n < ps.length) (he : pC ps n = 10) : wtB (l, ps, a, S, T) + wsum (pC ps) T n + ty_w (T n) ≤ 8 * l.length := by
  have hw := (LdG_0 hG).2.2.2.2
  unfold wf at hw
  rw [wtB_e hk]
  simp only [hk] at hw
  split at hw
  · cases hw
  · split at hw
    · cases hw
    · rename_i h1 h2
      have h3 := wsum_le2 (cd := pC ps) (T := T) (n := n + 1) ps.length hn
      have h4 : wsum (pC ps) T (n + 1) = wsum (pC ps) T n + ty_w (T n) := by
        show wsum (pC ps) T n + wtF (pC ps) T n = _
        unfold wtF
        rw [if_pos he]
      omega
/-- nodes whose steps are bounded -/
def pX (ps : List pr_D) (B : Nat → Nat) (n : Nat) : Prop := n < ps.length ∧ B n ≤ 1000000
theorem pX_ch (ho : psOK ps) (hG : LdG l ps a 0 S T) (hb : bnd ps S T C F B ps.length) {n x : Nat} (hX : pX ps B n) (hc : mc_ch (mcQ (l, ps, a, S, T)) n x) : pX ps B x ∧ x < n := by
  obtain ⟨hn, hB⟩ := hX
  have hq := mqW_of ho hG hn
  have h3 := (hb n hn).2.2
  have hx : (p1 ps n = some x ∨ p2 ps n = some x) ∧ x < n ∧ pC ps n ≤ 6 := by
    rcases hc with ⟨h1, rfl⟩ | ⟨h1, rfl⟩
    · exact ⟨Or.inl (hq.1 h1).2, (hq.1 h1).1, h1⟩
    · have h1' : pC ps n ≤ 2 := h1
      exact ⟨Or.inr (hq.2.1 h1).2, (hq.2.1 h1).1, by omega⟩
  obtain ⟨hx1, hx2, hx3⟩ := hx
  refine ⟨⟨by omega, ?_⟩, hx2⟩
  rw [if_neg (by omega)] at h3
  have hg : B x ≤ gO B (p1 ps n) ∨ B x ≤ gO B (p2 ps n) := by
    rcases hx1 with e | e
    · left; rw [e]; exact Nat.le_refl _
    · right; rw [e]; exact Nat.le_refl _
  generalize gO B (p1 ps n) = g1 at *
  generalize gO B (p2 ps n) = g2 at *
  split at h3 <;> omega
theorem pX_wy (ho : psOK ps) (hG : LdG l ps a 0 S T) (hk : pr_nat (by_bit l) (8 * l.length) a = .ok (k, b)) (hl : l.length ≤ 8192) (hN : ps.length ≤ 400) (hb : bnd ps S T C F B ps.length) {n : Nat} (hX : pX ps B n) : mc_wy (mcQ (l, ps, a, S, T)) (pW (l, ps, a, S, T) B) n := by
  obtain ⟨hn, hB⟩ := hX
  have hw8 : pC ps n = 10 → _ := w8_of hG hk hn
  obtain ⟨m1, m2, m3, u0, t1, t2, t3, t5, t6, t7, t8, t10, t12, m12⟩ := mqW_of ho hG hn
  have h3 := (hb n hn).2.2
  have hop : mc_op (mcQ (l, ps, a, S, T)) n = pC ps n := rfl
  have hWd : ∀ m, m < ps.length → pC ps m ≠ 11 → ty_w (S m) ≤ 2048 ∧ ty_w (T m) ≤ 2048 := fun m hm h => ⟨PG_w (tb := 0) hG hm h, PG_w (tb := 1) hG hm h⟩
  have hBx : ∀ m, (pW (l, ps, a, S, T) B).2.2.1 m = 200000 * B m + (if pC ps m = 11 then 1 else 0) := fun _ => rfl
  have c1w : ∀ {x i j : Nat}, x < n → pC ps n ≠ 11 → pC ps x ≠ 11 → 1 + B x ≤ B n → i + ty_w (S x) ≤ ty_w (S n) → ty_w (T n) = j + ty_w (T x) → mc_c1 (pW (l, ps, a, S, T) B) n x i j := by
    intro x i j hx h11 hx11 hBn h1 h2
    refine ⟨h1, h2, ?_, ?_, ?_, ?_⟩
    · show 1 + (200000 * B x + _) ≤ 200000 * B n + _
      rw [if_neg hx11, if_neg h11]
      omega
    · show x + 40 ≤ n + 40; omega
    · show 2048 * (x + 1) + 4000 ≤ 2048 * (n + 1) + 4000; omega
    · show x + 4001 ≤ n + 4001; omega
  have g1 : ∀ {x}, p1 ps n = some x → gO B (p1 ps n) = B x := fun h => by rw [h]; rfl
  have g2 : ∀ {x}, p2 ps n = some x → gO B (p2 ps n) = B x := fun h => by rw [h]; rfl
  have one : pC ps n ≤ 6 → pC ps n ≠ 1 → ∀ x, p1 ps n = some x → 1 + B x + gO B (p2 ps n) ≤ B n := fun h6 h1 x hx => by
    rw [if_neg (by omega), if_neg h1, g1 hx] at h3
    generalize gO B (p2 ps n) = g2 at *
    omega
  have b1 : 1 ≤ w_b (pW (l, ps, a, S, T) B) n := by
    show 1 ≤ 200000 * B n + _
    by_cases e : pC ps n = 11
    · rw [if_pos e]; omega
    · rw [if_neg e] at h3
      have : 1 ≤ B n := by
        rw [h3]
        generalize (if pC ps n = 1 then max (gO B (p1 ps n)) (gO B (p2 ps n)) else gO B (p1 ps n) + gO B (p2 ps n)) = z
        omega
      omega
  refine ⟨fun e => ?_, fun e => ?_, fun e => ?_, fun e => ?_, fun e => ?_, fun e => ?_, fun e => ?_, fun e => t8 e, fun e => ?_, b1, by show 7600 + n < 8000; omega⟩
  · obtain ⟨x1, x2⟩ := m1 (by omega)
    obtain ⟨y1, y2⟩ := m2 (by omega)
    obtain ⟨a1, a2, a3, a4⟩ := u0 e
    have hx11 : pC ps _ ≠ 11 := (m3 (by omega)).1 (by omega)
    have hy11 : pC ps _ ≠ 11 := (m3 (by omega)).2 (by omega)
    have hB2 := one (by omega) (by omega) _ x2
    rw [g2 y2] at hB2
    have hwx := hWd _ (by omega) hx11
    have h11 : pC ps n ≠ 11 := by omega
    rw [← a2]
    refine ⟨Nat.le_of_eq (congrArg ty_w a1), rfl, by rw [a2]; exact Nat.le_of_eq a3, congrArg ty_w a4, ?_, ?_, ?_, ?_, ?_, ?_, ?_⟩
    · show 1 + (200000 * B _ + _) + (200000 * B _ + _) ≤ 200000 * B n + _
      rw [if_neg hx11, if_neg hy11, if_neg h11]
      omega
    · show 1 + (_ + 40) ≤ n + 40; omega
    · show _ + 40 ≤ n + 40; omega
    · show ty_w (T _) + (2048 * (_ + 1) + 4000) ≤ 2048 * (n + 1) + 4000; omega
    · show ty_w (T _) + (2048 * (_ + 1) + 4000) ≤ 2048 * (n + 1) + 4000; omega
    · show 1 + (_ + 4001) ≤ n + 4001; omega
    · show 1 + (_ + 4001) ≤ n + 4001; omega
  · obtain ⟨x1, x2⟩ := m1 (by omega)
    obtain ⟨y1, y2⟩ := m2 (by omega)
    obtain ⟨a0, a1, a2⟩ := t1 e
    have h11 : pC ps n ≠ 11 := by omega
    rw [if_neg h11, if_pos (by rw [← hop]; exact e), g1 x2, g2 y2] at h3
    have cs : ∀ x i, x < n → 1 + B x ≤ B n → (mc_op (mcQ (l, ps, a, S, T)) x ≠ 11 → i + ty_w (S x) = ty_w (S n) ∧ T x = T n) → mc_cw (mcQ (l, ps, a, S, T)) (pW (l, ps, a, S, T) B) n x i := by
      intro x i hx hBn hh
      by_cases e11 : mc_op (mcQ (l, ps, a, S, T)) x = 11
      · exact Or.inr e11
      · obtain ⟨j1, j2⟩ := hh e11
        obtain ⟨q1, q2, q3, q4, q5, q6⟩ := c1w (i := i) (j := 0) hx h11 e11 hBn (by omega) (by rw [j2]; omega)
        exact Or.inl ⟨q1, by omega, q3, q4, q5, q6⟩
    exact ⟨a0, cs _ _ x1 (by omega) a1, cs _ _ y1 (by omega) a2⟩
  · obtain ⟨x1, x2⟩ := m1 (by omega)
    obtain ⟨y1, y2⟩ := m2 (by omega)
    obtain ⟨a1, a2, a3, a4⟩ := t2 e
    have hx11 : pC ps _ ≠ 11 := (m3 (by omega)).1 (by omega)
    have hy11 : pC ps _ ≠ 11 := (m3 (by omega)).2 (by omega)
    have hB2 := one (by omega) (by omega) _ x2
    rw [g2 y2] at hB2
    have h11 : pC ps n ≠ 11 := by omega
    rw [← a3] at a4 ⊢
    refine ⟨Nat.le_of_eq (congrArg ty_w a1), rfl, Nat.le_of_eq (congrArg ty_w a2), a4, ?_, ?_, ?_, ?_, ?_, ?_, ?_⟩
    · show 1 + (200000 * B _ + _) + (200000 * B _ + _) ≤ 200000 * B n + _
      rw [if_neg hx11, if_neg hy11, if_neg h11]
      omega
    · show 1 + (_ + 40) ≤ n + 40; omega
    · show _ + 40 ≤ n + 40; omega
    · show 2048 * (_ + 1) + 4000 ≤ 2048 * (n + 1) + 4000; omega
    · show 2048 * (_ + 1) + 4000 ≤ 2048 * (n + 1) + 4000; omega
    · show _ + 4001 ≤ n + 4001; omega
    · show _ + 4001 ≤ n + 4001; omega
  · have h6 : mc_op (mcQ (l, ps, a, S, T)) n ≤ 6 := by omega
    obtain ⟨x1, x2⟩ := m1 h6
    obtain ⟨a1, a2⟩ := t3 e
    have hx11 : pC ps _ ≠ 11 := (m3 (by omega)).1 h6
    have hB2 := one (by omega) (by omega) _ x2
    exact c1w x1 (by omega) hx11 (by omega) (by rw [a1]; omega) a2
  · obtain ⟨x1, x2⟩ := m1 (by omega)
    obtain ⟨a1, a2⟩ := t5 e
    have hx11 : pC ps _ ≠ 11 := (m3 (by omega)).1 (by omega)
    have hB2 := one (by omega) (by omega) _ x2
    exact c1w x1 (by omega) hx11 (by omega) (by omega) (by rw [a1]; omega)
  · obtain ⟨x1, x2⟩ := m1 (by omega)
    obtain ⟨a1, a2⟩ := t6 e
    have hx11 : pC ps _ ≠ 11 := (m3 (by omega)).1 (by omega)
    have hB2 := one (by omega) (by omega) _ x2
    exact c1w x1 (by omega) hx11 (by omega) (by omega) (by rw [a1]; omega)
  · obtain ⟨a1, a2, a3⟩ := t7 e
    rw [a2, a3]
    exact ⟨by show 0 + ty_w (S n) ≤ ty_w (S n); omega, by show ty_w (T n) = _; rw [a1]⟩
  · have e10 : pC ps n = 10 := e
    have h8 := hw8 e10
    have es : mc_sk (mcQ (l, ps, a, S, T)) n = wtB (l, ps, a, S, T) + wsum (pC ps) T n := by
      show cSk ps S T (wtB (l, ps, a, S, T)) n = _
      unfold cSk
      simp only [e10]
    rw [t10 e, es]
    exact ⟨rfl, by omega⟩
end PX
