/-! ===== what a load must answer ===== -/
def pC (ps : List pr_D) (n : Nat) : Nat := (nd ps n).1
def p1 (ps : List pr_D) (n : Nat) : Option Nat := (nd ps n).2.1
def p2 (ps : List pr_D) (n : Nat) : Option Nat := (nd ps n).2.2.1
def pNu (ps : List pr_D) (n : Nat) : Nat := (nd ps n).2.2.2.1
def pHw (ps : List pr_D) (n k : Nat) : Nat := (nd ps n).2.2.2.2 k
def psOK (ps : List pr_D) : Prop := ∀ n, n < ps.length → pr_ok n (nd ps n)
theorem nd_app {ps : List pr_D} {q : pr_D} {n : Nat} (h : n < ps.length) : nd (ps ++ [q]) n = nd ps n := by
  unfold nd
  simp [List.getD, List.getElem?_append_left h]
theorem nd_new {ps : List pr_D} {q : pr_D} : nd (ps ++ [q]) ps.length = q := by
  unfold nd
  simp [List.getD]
theorem psOK_app {ps : List pr_D} {q : pr_D} (h : psOK ps) (hq : pr_ok ps.length q) : psOK (ps ++ [q]) := by
  intro n hn
  simp only [List.length_append, List.length_cons, List.length_nil] at hn
  by_cases e : n < ps.length
  · rw [nd_app e]; exact h n e
  · have : n = ps.length := by omega
    subst this
    rw [nd_new]; exact hq
theorem psOK_nodes {v : Nat → Nat} (hv : ∀ p, v p < 2) {e : Nat} : ∀ (m : Nat) (ps : List pr_D) (a : Nat) {ps' : List pr_D} {b : Nat}, psOK ps → pr_nodes v e m ps a = .ok (ps', b) → psOK ps' ∧ ps'.length = ps.length + m
  | 0, ps, a, ps', b, h, hr => by
    rw [pr_nodes] at hr
    cases hr
    exact ⟨h, rfl⟩
  | m + 1, ps, a, ps', b, h, hr => by
    rw [pr_nodes] at hr
    cases e1 : pr_node v e ps.length a with
    | error x => rw [e1] at hr; cases hr
    | ok r =>
      obtain ⟨q, b1⟩ := r
      rw [e1] at hr
      obtain ⟨k1, k2⟩ := psOK_nodes hv m (ps ++ [q]) b1 (psOK_app h (pr_node_ok hv e1).2.2) hr
      refine ⟨k1, ?_⟩
      rw [k2]
      simp only [List.length_append, List.length_cons, List.length_nil]
      omega
theorem psOK_prog {v : Nat → Nat} (hv : ∀ p, v p < 2) {e : Nat} {ps : List pr_D} {a : Nat} (h : pr_prog v e = .ok (ps, a)) : psOK ps ∧ 1 ≤ ps.length ∧ ps.length ≤ 400 := by
  unfold pr_prog at h
  cases e1 : pr_nat v e 0 with
  | error x => rw [e1] at h; cases h
  | ok r =>
    obtain ⟨N, b⟩ := r
    rw [e1] at h
    simp only at h
    split at h
    · cases h
    · rename_i hN
      obtain ⟨k1, k2, k3, k4⟩ := pr_nat_le hv (Nat.zero_le _) e1
      obtain ⟨q1, q2⟩ := psOK_nodes hv N [] b (fun n hn => absurd hn (by simp)) h
      simp only [List.length_nil] at q2
      exact ⟨q1, by omega, by omega⟩
theorem ps_cN {ps : List pr_D} (h : psOK ps) : df_cN (p1 ps) (p2 ps) ps.length := by
  intro n hn x hx
  obtain ⟨a1, a2, a3, a4, a5, _⟩ := h n hn
  rcases hx with hx | hx
  · have := a4 x hx; omega
  · have := a5 x hx; omega
theorem ps_ac {ps : List pr_D} (h : psOK ps) : df_ac (p1 ps) (p2 ps) ps.length (fun n => n) := by
  intro n hn x hx
  obtain ⟨a1, a2, a3, a4, a5, _⟩ := h n hn
  rcases hx with hx | hx
  · exact a4 x hx
  · exact a5 x hx
theorem ps_O {ps : List pr_D} (h : psOK ps) : ndO (pC ps) (p1 ps) (p2 ps) ps.length := fun n hn => ⟨(h n hn).2.1, (h n hn).2.2.1⟩
/-- two nodes are the same -/
def smP (ps : List pr_D) (S T : Nat → Ty) (a b : Nat) : Prop := pC ps a = pC ps b ∧ pC ps a ≠ 10 ∧ (pC ps a = 11 → ∀ k, k < 8 → nI (pHw ps a k) = nI (pHw ps b k)) ∧ (pC ps a ≠ 11 → p1 ps a = p1 ps b ∧ p2 ps a = p2 ps b ∧ pNu ps a = pNu ps b ∧ S a = S b ∧ T a = T b)
def bad7 (ps : List pr_D) : Prop := pC ps (ps.length - 1) = 11 ∨ ∃ n ∈ List.range ps.length, hwl (pC ps) (p1 ps) (p2 ps) n = false
/-- behind the nodes -/
def LdG (l : List Nat) (ps : List pr_D) (a f : Nat) (S T : Nat → Ty) : Prop :=
  (¬ df_out (p1 ps) (p2 ps) (ps.length - 1) (List.range ps.length) ∧ f = 5) ∨ (df_out (p1 ps) (p2 ps) (ps.length - 1) (List.range ps.length) ∧ ((bad7 ps ∧ f = 7) ∨ (¬ bad7 ps ∧
    (((∀ S T, ¬ ty_sol (pC ps) (fiO (p1 ps)) (fiO (p2 ps)) (pNu ps) (List.range ps.length) S T) ∧ f = 8) ∨ (ty_least (pC ps) (fiO (p1 ps)) (fiO (p2 ps)) (pNu ps) (List.range ps.length) S T ∧
      ((jdW (pC ps) (List.range ps.length) S T ∧ f = 9) ∨ (¬ jdW (pC ps) (List.range ps.length) S T ∧
        (((∃ a b, a < ps.length ∧ b < a ∧ smP ps S T b a) ∧ f = 6) ∨ ((∀ a b, a < ps.length → b < a → ¬ smP ps S T b a) ∧ f = wf (by_bit l) (8 * l.length) a ps.length (pC ps) T)))))))))
def LdF (l : List Nat) (f : Nat) (ps : List pr_D) (a : Nat) (S T : Nat → Ty) : Prop := (1 ≤ f ∧ pr_prog (by_bit l) (8 * l.length) = .error f) ∨ (pr_prog (by_bit l) (8 * l.length) = .ok (ps, a) ∧ LdG l ps a f S T)
theorem smP_sw {ps : List pr_D} {S T : Nat → Ty} {a b : Nat} (h : smP ps S T a b) : smP ps S T b a := by
  obtain ⟨h1, h2, h3, h4⟩ := h
  refine ⟨h1.symm, by rw [← h1]; exact h2, fun e k hk => (h3 (h1.trans e) k hk).symm, fun e => ?_⟩
  obtain ⟨a1, a2, a3, a4, a5⟩ := h4 (by rw [h1]; exact e)
  exact ⟨a1.symm, a2.symm, a3.symm, a4.symm, a5.symm⟩
theorem smP_congr {ps : List pr_D} {S T S' T' : Nat → Ty} {a b : Nat} (hS : ∀ n, n < ps.length → pC ps n ≠ 11 → S n = S' n ∧ T n = T' n) (ha : a < ps.length) (hb : b < ps.length) (h : smP ps S T a b) : smP ps S' T' a b := by
  obtain ⟨h1, h2, h3, h4⟩ := h
  refine ⟨h1, h2, h3, fun e => ?_⟩
  obtain ⟨a1, a2, a3, a4, a5⟩ := h4 e
  have x := hS a ha e
  have y := hS b hb (by rw [← h1]; exact e)
  exact ⟨a1, a2, a3, by rw [← x.1, ← y.1]; exact a4, by rw [← x.2, ← y.2]; exact a5⟩
theorem wsum_congr {cd : Nat → Nat} {T T' : Nat → Ty} : ∀ {N : Nat}, (∀ n, n < N → cd n = 10 → T n = T' n) → wsum cd T N = wsum cd T' N
  | 0, _ => rfl
  | N + 1, h => by
    simp only [wsum]
    rw [wsum_congr (N := N) (fun n hn => h n (by omega))]
    congr 1
    unfold wtF
    by_cases e : cd N = 10
    · rw [if_pos e, if_pos e, h N (by omega) e]
    · rw [if_neg e, if_neg e]
theorem wall_congr {v : Nat → Nat} {cd : Nat → Nat} {T T' : Nat → Ty} {b : Nat} : ∀ {N : Nat}, (∀ n, n < N → cd n = 10 → T n = T' n) → wall v cd T b N = wall v cd T' b N
  | 0, _ => rfl
  | N + 1, h => by
    simp only [wall]
    rw [wall_congr (N := N) (fun n hn => h n (by omega)), wsum_congr (N := N) (fun n hn => h n (by omega))]
    congr 1
    by_cases e : cd N = 10
    · rw [if_pos e, if_pos e, h N (by omega) e]
    · rw [if_neg e, if_neg e]
theorem wf_congr {v : Nat → Nat} {e a N : Nat} {cd : Nat → Nat} {T T' : Nat → Ty} (h : ∀ n, n < N → cd n = 10 → T n = T' n) : wf v e a N cd T = wf v e a N cd T' := by
  unfold wf
  cases pr_nat v e a with
  | error x => rfl
  | ok r =>
    obtain ⟨k, b⟩ := r
    simp only
    rw [wsum_congr h, wall_congr h]
/-- the answer is one -/
theorem LdF_uniq {l : List Nat} {f f' a a' : Nat} {ps ps' : List pr_D} {S T S' T' : Nat → Ty} (h : LdF l f ps a S T) (h' : LdF l f' ps' a' S' T') : f = f' ∧ (f = 0 → ps = ps' ∧ a = a' ∧ ∀ n, n < ps.length → pC ps n ≠ 11 → S n = S' n ∧ T n = T' n) := by
  rcases h with ⟨h0, h⟩ | ⟨h, g⟩
  · rcases h' with ⟨_, h'⟩ | ⟨h', _⟩
    · rw [h] at h'
      cases h'
      exact ⟨rfl, fun z => by omega⟩
    · rw [h] at h'; cases h'
  · rcases h' with ⟨_, h'⟩ | ⟨h', g'⟩
    · rw [h] at h'; cases h'
    · rw [h] at h'
      cases h'
      have hu : ty_least (pC ps) (fiO (p1 ps)) (fiO (p2 ps)) (pNu ps) (List.range ps.length) S T → ty_least (pC ps) (fiO (p1 ps)) (fiO (p2 ps)) (pNu ps) (List.range ps.length) S' T' → ∀ n, n < ps.length → pC ps n ≠ 11 → S n = S' n ∧ T n = T' n := fun q q' n hn hc => ty_least_uniq q q' (List.mem_range.mpr hn) hc
      have hw : (∀ n, n < ps.length → pC ps n ≠ 11 → S n = S' n ∧ T n = T' n) → jdW (pC ps) (List.range ps.length) S T → jdW (pC ps) (List.range ps.length) S' T' := by
        rintro q ⟨n, n1, n2, n3⟩
        obtain ⟨q1, q2⟩ := q n (List.mem_range.mp n1) n2
        exact ⟨n, n1, n2, by rw [← q1, ← q2]; exact n3⟩
      have hw' : (∀ n, n < ps.length → pC ps n ≠ 11 → S n = S' n ∧ T n = T' n) → jdW (pC ps) (List.range ps.length) S' T' → jdW (pC ps) (List.range ps.length) S T := by
        rintro q ⟨n, n1, n2, n3⟩
        obtain ⟨q1, q2⟩ := q n (List.mem_range.mp n1) n2
        exact ⟨n, n1, n2, by rw [q1, q2]; exact n3⟩
      rcases g with ⟨a1, a2⟩ | ⟨a1, g⟩
      · rcases g' with ⟨b1, b2⟩ | ⟨b1, _⟩
        · exact ⟨by omega, fun z => by omega⟩
        · exact absurd b1 a1
      · rcases g' with ⟨b1, b2⟩ | ⟨_, g'⟩
        · exact absurd a1 b1
        · rcases g with ⟨c1, c2⟩ | ⟨c1, g⟩
          · rcases g' with ⟨d1, d2⟩ | ⟨d1, _⟩
            · exact ⟨by omega, fun z => by omega⟩
            · exact absurd c1 d1
          · rcases g' with ⟨d1, d2⟩ | ⟨_, g'⟩
            · exact absurd d1 c1
            · rcases g with ⟨e1, e2⟩ | ⟨e1, g⟩
              · rcases g' with ⟨i1, i2⟩ | ⟨i1, _⟩
                · exact ⟨by omega, fun z => by omega⟩
                · exact absurd i1.1 (e1 _ _)
              · rcases g' with ⟨i1, i2⟩ | ⟨i1, g'⟩
                · exact absurd e1.1 (i1 _ _)
                · have q := hu e1 i1
                  rcases g with ⟨m1, m2⟩ | ⟨m1, g⟩
                  · rcases g' with ⟨n1, n2⟩ | ⟨n1, _⟩
                    · exact ⟨by omega, fun z => by omega⟩
                    · exact absurd (hw q m1) n1
                  · rcases g' with ⟨n1, n2⟩ | ⟨_, g'⟩
                    · exact absurd (hw' q n1) m1
                    · rcases g with ⟨⟨x, y, x1, x2, x3⟩, r2⟩ | ⟨r1, r2⟩
                      · rcases g' with ⟨_, t2⟩ | ⟨t1, _⟩
                        · exact ⟨by omega, fun z => by omega⟩
                        · exact absurd (smP_congr q (by omega) x1 x3) (t1 x y x1 x2)
                      · rcases g' with ⟨⟨x, y, x1, x2, x3⟩, t2⟩ | ⟨t1, t2⟩
                        · exact absurd (smP_congr (fun n hn hc => ⟨(q n hn hc).1.symm, (q n hn hc).2.symm⟩) (by omega) x1 x3) (r1 x y x1 x2)
                        · refine ⟨?_, fun _ => ⟨rfl, rfl, q⟩⟩
                          rw [r2, t2]
                          exact wf_congr (fun n hn hc => (q n hn (by omega)).2)
