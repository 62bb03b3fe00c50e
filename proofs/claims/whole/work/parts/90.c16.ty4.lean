/-! ===== nodes so far and their terms: what is known, and that each solution is a valuation ===== -/
def tx (c c' : Nat) (k l r k' l' r' : Nat → Nat) : Prop := c ≤ c' ∧ ∀ t, t < c → k' t = k t ∧ l' t = l t ∧ r' t = r t
theorem tx_rf {c : Nat} {k l r : Nat → Nat} : tx c c k l r k l r := ⟨Nat.le_refl _, fun _ _ => ⟨rfl, rfl, rfl⟩⟩
theorem tx_tr {c c' c'' : Nat} {k l r k' l' r' k'' l'' r'' : Nat → Nat} (a : tx c c' k l r k' l' r') (b : tx c' c'' k' l' r' k'' l'' r'') : tx c c'' k l r k'' l'' r'' :=
  ⟨Nat.le_trans a.1 b.1, fun t ht => by
    obtain ⟨e1, e2, e3⟩ := a.2 t ht
    obtain ⟨f1, f2, f3⟩ := b.2 t (Nat.lt_of_lt_of_le ht a.1)
    exact ⟨by rw [f1, e1], by rw [f2, e2], by rw [f3, e3]⟩⟩
theorem ty_nf_mo {cd fi se nu : Nat → Nat} {c c' : Nat} {k l r k' l' r' src tgt src' tgt' f : Nat → Nat} {n : Nat} (he : tx c c' k l r k' l' r') (h1 : src' n = src n ∧ tgt' n = tgt n) (h2 : cd n ≤ 6 → src' (fi n) = src (fi n) ∧ tgt' (fi n) = tgt (fi n)) (h3 : cd n ≤ 2 → src' (se n) = src (se n) ∧ tgt' (se n) = tgt (se n))
    (h : ty_nf cd fi se nu c k l r src tgt f n) : ty_nf cd fi se nu c' k' l' r' src' tgt' f n := by
  obtain ⟨n0, n1, n2, n3, n4, n5, n6, n7, n8, n12⟩ := h
  obtain ⟨s1, s2⟩ := h1
  have hc := he.1
  refine ⟨fun e => ?_, fun e => ?_, fun e => ?_, fun e => ?_, fun e => ?_, fun e => ?_, fun e => ?_, fun e => ?_, fun e => ?_, fun e => ?_⟩
  · obtain ⟨a1, a2⟩ := h2 (by omega)
    obtain ⟨b1, b2⟩ := h3 (by omega)
    rw [s1, s2, a1, a2, b1, b2]; exact n0 e
  · obtain ⟨a1, a2⟩ := h2 (by omega)
    obtain ⟨b1, b2⟩ := h3 (by omega)
    obtain ⟨q1, q2, q3, q4, q5, q6⟩ := n1 e
    obtain ⟨x1, x2, x3⟩ := he.2 _ q1
    obtain ⟨y1, y2, y3⟩ := he.2 _ q3
    rw [s1, s2, a1, a2, b1, b2, x1, x2, x3, y1, y2, y3]
    refine ⟨by omega, q2, by omega, q4, fun g => ?_, fun g => ?_⟩
    · obtain ⟨z1, p, z2, z3, z4, z5, z6⟩ := q5 g
      obtain ⟨w1, w2, w3⟩ := he.2 p z2
      exact ⟨z1, p, by omega, by rw [w1, z3], by rw [w2, z4], by rw [w3, z5], z6⟩
    · obtain ⟨z1, p, z2, z3, z4, z5, z6⟩ := q6 g
      obtain ⟨w1, w2, w3⟩ := he.2 p z2
      exact ⟨z1, p, by omega, by rw [w1, z3], by rw [w2, z4], by rw [w3, z5], z6⟩
  · obtain ⟨a1, a2⟩ := h2 (by omega)
    obtain ⟨b1, b2⟩ := h3 (by omega)
    obtain ⟨q1, q2, q3, q4, q5, q6⟩ := n2 e
    obtain ⟨x1, x2, x3⟩ := he.2 _ q2
    rw [s1, s2, a1, a2, b1, b2, x1, x2, x3]
    exact ⟨q1, by omega, q3, q4, q5, q6⟩
  · obtain ⟨a1, a2⟩ := h2 (by omega)
    obtain ⟨q1, q2, q3, q4⟩ := n3 e
    obtain ⟨x1, x2, x3⟩ := he.2 _ q2
    rw [s1, s2, a1, a2, x1, x2]
    exact ⟨q1, by omega, q3, q4⟩
  · obtain ⟨a1, a2⟩ := h2 (by omega)
    obtain ⟨q1, q2, q3, q4⟩ := n4 e
    obtain ⟨x1, x2, x3⟩ := he.2 _ q2
    rw [s1, s2, a1, a2, x1, x3]
    exact ⟨q1, by omega, q3, q4⟩
  · obtain ⟨a1, a2⟩ := h2 (by omega)
    obtain ⟨q1, q2, q3, q4⟩ := n5 e
    obtain ⟨x1, x2, x3⟩ := he.2 _ q2
    rw [s1, s2, a1, a2, x1, x2]
    exact ⟨q1, by omega, q3, q4⟩
  · obtain ⟨a1, a2⟩ := h2 (by omega)
    obtain ⟨q1, q2, q3, q4⟩ := n6 e
    obtain ⟨x1, x2, x3⟩ := he.2 _ q2
    rw [s1, s2, a1, a2, x1, x3]
    exact ⟨q1, by omega, q3, q4⟩
  · rw [s1, s2]; exact n7 e
  · obtain ⟨q1, q2⟩ := n8 e
    obtain ⟨x1, x2, x3⟩ := he.2 _ q1
    rw [s2, x1]; exact ⟨by omega, q2⟩
  · obtain ⟨q1, q2⟩ := n12 e
    rw [s1, s2]
    exact ⟨ty_den_mono hc he.2 _ _ q1, ty_den_mono hc he.2 _ _ q2⟩
/-- nodes so far: facts of their terms, solutions are valuations -/
def tyS (cd fi se nu : Nat → Nat) (L : List Nat) (c : Nat) (k l r : Nat → Nat) (es : List (Nat × Nat)) (src tgt : Nat → Nat) : Prop :=
  (∀ t, t < c → k t < 4 ∧ (2 ≤ k t → l t < c ∧ r t < c)) ∧ (∀ q ∈ es, q.1 < c ∧ q.2 < c) ∧ (∀ n ∈ L, cd n ≠ 11 → src n < c ∧ tgt n < c) ∧ (∀ f : Nat → Nat, ty_pd es f → ∀ n ∈ L, ty_nf cd fi se nu c k l r src tgt f n) ∧
  ∀ S T, ty_sol cd fi se nu L S T → ∃ V, ty_vok V ∧ ty_all c k l r V ∧ ty_pd es V ∧ ∀ n ∈ L, cd n ≠ 11 → V (src n) = S n ∧ V (tgt n) = T n
/-- a valuation goes on to new terms -/
theorem tx_all {c c' : Nat} {k l r k' l' r' : Nat → Nat} {V V' : Nat → Ty} (he : tx c c' k l r k' l' r') (hb : ∀ t, t < c → k t < 4 ∧ (2 ≤ k t → l t < c ∧ r t < c)) (hV : ty_all c k l r V) (hv : ∀ t, t < c → V' t = V t) (hn : ∀ t, c ≤ t → t < c' → ty_st V' (k' t) (l' t) (r' t) t) : ty_all c' k' l' r' V' := by
  intro t ht
  by_cases e : t < c
  · obtain ⟨x1, x2, x3⟩ := he.2 t e
    obtain ⟨b1, b2⟩ := hb t e
    obtain ⟨v1, v2, v3⟩ := hV t e
    rw [x1, x2, x3]
    refine ⟨fun q => by rw [hv t e]; exact v1 q, fun q => ?_, fun q => ?_⟩
    · obtain ⟨b3, b4⟩ := b2 (by omega)
      rw [hv t e, hv _ b3, hv _ b4]; exact v2 q
    · obtain ⟨b3, b4⟩ := b2 (by omega)
      rw [hv t e, hv _ b3, hv _ b4]; exact v3 q
  · exact hn t (by omega) ht
theorem tx_pd {c : Nat} {es : List (Nat × Nat)} {V V' : Nat → Ty} (hb : ∀ q ∈ es, q.1 < c ∧ q.2 < c) (hV : ty_pd es V) (hv : ∀ t, t < c → V' t = V t) : ty_pd es V' := fun q hq => by
  rw [hv _ (hb q hq).1, hv _ (hb q hq).2]; exact hV q hq
/-- a row of new trees behind the old ones -/
def tvx (V : Nat → Ty) (c : Nat) (g : List Ty) : Nat → Ty := fun t => if t < c then V t else g.getD (t - c) tO
theorem tvx_o {V : Nat → Ty} {c t : Nat} {g : List Ty} (h : t < c) : tvx V c g t = V t := if_pos h
theorem tvx_n {V : Nat → Ty} {c i : Nat} {g : List Ty} : tvx V c g (c + i) = g.getD i tO := by
  unfold tvx
  rw [if_neg (by omega), Nat.add_sub_cancel_left]
theorem tvx_ok {V : Nat → Ty} {c : Nat} {g : List Ty} (hV : ty_vok V) (hg : ∀ a ∈ g, ty_ok a) : ty_vok (tvx V c g) := by
  intro t
  unfold tvx
  split
  · exact hV t
  · by_cases e : t - c < g.length
    · rw [List.getD_eq_getElem?_getD, List.getElem?_eq_getElem e]
      exact hg _ (List.getElem_mem e)
    · rw [List.getD_eq_getElem?_getD, List.getElem?_eq_none (by omega)]
      exact rfl
/-- one node more -/
theorem tyS_add {cd fi se nu : Nat → Nat} {L : List Nat} {c c' : Nat} {k l r k' l' r' : Nat → Nat} {es es' : List (Nat × Nat)} {src tgt : Nat → Nat} {n s t : Nat} (hS : tyS cd fi se nu L c k l r es src tgt) (he : tx c c' k l r k' l' r') (hk : ∀ t, c ≤ t → t < c' → k' t < 4 ∧ (2 ≤ k' t → l' t < c' ∧ r' t < c')) (hes : ∀ q ∈ es', q ∈ es ∨ (q.1 < c' ∧ q.2 < c')) (hee : ∀ q ∈ es, q ∈ es')
    (hnL : n ∉ L) (hch : ∀ m ∈ L, (cd m ≤ 6 → fi m ≠ n) ∧ (cd m ≤ 2 → se m ≠ n)) (hst : cd n ≠ 11 → s < c' ∧ t < c') (hnf : ∀ f : Nat → Nat, ty_pd es' f → ty_nf cd fi se nu c' k' l' r' (updN src n s) (updN tgt n t) f n)
    (hsol : ∀ S T V, ty_vok S → ty_vok T → ty_rule cd fi se nu S T n → ty_vok V → ty_all c k l r V → ty_pd es V → (∀ m ∈ L, cd m ≠ 11 → V (src m) = S m ∧ V (tgt m) = T m) → ∃ V', ty_vok V' ∧ (∀ t, t < c → V' t = V t) ∧ (∀ t, c ≤ t → t < c' → ty_st V' (k' t) (l' t) (r' t) t) ∧ ty_pd es' V' ∧ (cd n ≠ 11 → V' s = S n ∧ V' t = T n)) :
    tyS cd fi se nu (L ++ [n]) c' k' l' r' es' (updN src n s) (updN tgt n t) := by
  obtain ⟨s1, s2, s3, s4, s5⟩ := hS
  have hc := he.1
  have hmem : ∀ m, m ∈ L → m ≠ n := fun m hm z => hnL (by rw [← z]; exact hm)
  refine ⟨fun t ht => ?_, fun q hq => ?_, fun m hm e => ?_, fun f hf m hm => ?_, fun S T hso => ?_⟩
  · by_cases e : t < c
    · obtain ⟨x1, x2, x3⟩ := he.2 t e
      rw [x1, x2, x3]
      exact ⟨(s1 t e).1, fun q => by have := (s1 t e).2 q; omega⟩
    · exact hk t (by omega) ht
  · rcases hes q hq with h | h
    · have := s2 q h; omega
    · exact h
  · rcases List.mem_append.mp hm with h | h
    · rw [updN_o (hmem m h), updN_o (hmem m h)]
      have := s3 m h e; omega
    · rw [List.mem_singleton.mp h] at e ⊢
      rw [updN_s, updN_s]; exact hst e
  · rcases List.mem_append.mp hm with h | h
    · obtain ⟨g1, g2⟩ := hch m h
      exact ty_nf_mo he ⟨updN_o (hmem m h), updN_o (hmem m h)⟩ (fun e => ⟨updN_o (g1 e), updN_o (g1 e)⟩) (fun e => ⟨updN_o (g2 e), updN_o (g2 e)⟩) (s4 f (fun q hq => hf q (hee q hq)) m h)
    · rw [List.mem_singleton.mp h]; exact hnf f hf
  · obtain ⟨V, v1, v2, v3, v4⟩ := s5 S T ⟨hso.1, hso.2.1, fun m hm => hso.2.2 m (List.mem_append_left _ hm)⟩
    obtain ⟨V', w1, w2, w3, w4, w5⟩ := hsol S T V hso.1 hso.2.1 (hso.2.2 n (List.mem_append_right _ (by simp))) v1 v2 v3 v4
    refine ⟨V', w1, tx_all he s1 v2 w2 w3, w4, fun m hm e => ?_⟩
    rcases List.mem_append.mp hm with h | h
    · rw [updN_o (hmem m h), updN_o (hmem m h), w2 _ (s3 m h e).1, w2 _ (s3 m h e).2]
      exact v4 m h e
    · rw [List.mem_singleton.mp h] at e ⊢
      rw [updN_s, updN_s]; exact w5 e
