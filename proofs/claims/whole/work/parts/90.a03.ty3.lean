/-! ===== terms of nodes: what they give of the rules ===== -/
/-- the terms below t are just this tree -/
def ty_den (c : Nat) (k l r : Nat → Nat) : Ty → Nat → Prop
  | .add a b, t => t < c ∧ k t = 2 ∧ ty_den c k l r a (l t) ∧ ty_den c k l r b (r t)
  | .mul a b, t => t < c ∧ k t = 3 ∧ ty_den c k l r a (l t) ∧ ty_den c k l r b (r t)
  | _, t => t < c ∧ k t = 1
theorem ty_den_mono {c c' : Nat} {k l r k' l' r' : Nat → Nat} (hc : c ≤ c') (he : ∀ t, t < c → k' t = k t ∧ l' t = l t ∧ r' t = r t) : ∀ (a : Ty) (t : Nat), ty_den c k l r a t → ty_den c' k' l' r' a t
  | .add a b, t, h => by
    obtain ⟨h1, h2, h3, h4⟩ := h
    obtain ⟨e1, e2, e3⟩ := he t h1
    exact ⟨by omega, by rw [e1, h2], by rw [e2]; exact ty_den_mono hc he a _ h3, by rw [e3]; exact ty_den_mono hc he b _ h4⟩
  | .mul a b, t, h => by
    obtain ⟨h1, h2, h3, h4⟩ := h
    obtain ⟨e1, e2, e3⟩ := he t h1
    exact ⟨by omega, by rw [e1, h2], by rw [e2]; exact ty_den_mono hc he a _ h3, by rw [e3]; exact ty_den_mono hc he b _ h4⟩
  | .num _, t, h => ⟨by have := h.1; omega, by rw [(he t h.1).1]; exact h.2⟩
  | .natCast _, t, h => ⟨by have := h.1; omega, by rw [(he t h.1).1]; exact h.2⟩
  | .intCast _, t, h => ⟨by have := h.1; omega, by rw [(he t h.1).1]; exact h.2⟩
  | .var _, t, h => ⟨by have := h.1; omega, by rw [(he t h.1).1]; exact h.2⟩
  | .neg _, t, h => ⟨by have := h.1; omega, by rw [(he t h.1).1]; exact h.2⟩
  | .sub _ _, t, h => ⟨by have := h.1; omega, by rw [(he t h.1).1]; exact h.2⟩
  | .pow _ _, t, h => ⟨by have := h.1; omega, by rw [(he t h.1).1]; exact h.2⟩
theorem ty_den_V {c : Nat} {k l r : Nat → Nat} {V : Nat → Ty} (hA : ty_all c k l r V) : ∀ (a : Ty) (t : Nat), ty_ok a → ty_den c k l r a t → V t = a
  | .add a b, t, ho, h => by
    obtain ⟨h1, h2, h3, h4⟩ := h
    rw [(hA t h1).2.1 h2, ty_den_V hA a _ ho.1 h3, ty_den_V hA b _ ho.2 h4]
  | .mul a b, t, ho, h => by
    obtain ⟨h1, h2, h3, h4⟩ := h
    rw [(hA t h1).2.2 h2, ty_den_V hA a _ ho.1 h3, ty_den_V hA b _ ho.2 h4]
  | .num k, t, ho, h => by
    have e : k = 1 := ho
    rw [(hA t h.1).1 h.2, e]; rfl
  | .natCast _, _, ho, _ => ho.elim
  | .intCast _, _, ho, _ => ho.elim
  | .var _, _, ho, _ => ho.elim
  | .neg _, _, ho, _ => ho.elim
  | .sub _ _, _, ho, _ => ho.elim
  | .pow _ _, _, ho, _ => ho.elim
/-- what is known of the terms of a node; f makes equal what equations make equal -/
def ty_nf (cd fi se nu : Nat → Nat) (c : Nat) (k l r src tgt f : Nat → Nat) (n : Nat) : Prop :=
  (cd n = 0 → src n = src (fi n) ∧ tgt n = tgt (se n) ∧ f (tgt (fi n)) = f (src (se n))) ∧
  (cd n = 1 → src n < c ∧ k (src n) = 3 ∧ l (src n) < c ∧ k (l (src n)) = 2 ∧ (cd (fi n) ≠ 11 → f (tgt n) = f (tgt (fi n)) ∧ ∃ p, p < c ∧ k p = 3 ∧ l p = l (l (src n)) ∧ r p = r (src n) ∧ f p = f (src (fi n))) ∧
    (cd (se n) ≠ 11 → f (tgt n) = f (tgt (se n)) ∧ ∃ p, p < c ∧ k p = 3 ∧ l p = r (l (src n)) ∧ r p = r (src n) ∧ f p = f (src (se n)))) ∧
  (cd n = 2 → src n = src (fi n) ∧ tgt n < c ∧ k (tgt n) = 3 ∧ l (tgt n) = tgt (fi n) ∧ r (tgt n) = tgt (se n) ∧ f (src (fi n)) = f (src (se n))) ∧
  (cd n = 3 → src n = src (fi n) ∧ tgt n < c ∧ k (tgt n) = 2 ∧ l (tgt n) = tgt (fi n)) ∧
  (cd n = 4 → src n = src (fi n) ∧ tgt n < c ∧ k (tgt n) = 2 ∧ r (tgt n) = tgt (fi n)) ∧
  (cd n = 5 → tgt n = tgt (fi n) ∧ src n < c ∧ k (src n) = 3 ∧ l (src n) = src (fi n)) ∧
  (cd n = 6 → tgt n = tgt (fi n) ∧ src n < c ∧ k (src n) = 3 ∧ r (src n) = src (fi n)) ∧
  (cd n = 7 → tgt n = src n) ∧ (cd n = 8 → tgt n < c ∧ k (tgt n) = 1) ∧ (cd n = 12 → ty_den c k l r (ty_js (nu n)) (src n) ∧ ty_den c k l r (ty_jt (nu n)) (tgt n))
/-- a tree of terms below one that was found -/
theorem rs_den {c : Nat} {k l r rt : Nat → Nat} {es : List (Nat × Nat)} {fd : Nat → Option Ty} (hG : ty_G c k l r rt) (h : rs_fd c k l r rt fd) (hK : ty_JK c k l r rt es []) : ∀ (a : Ty) (t : Nat), ty_ok a → (fd (rt t)).isSome = true → ty_den c k l r a t → rs_V rt fd t = a
  | .add a b, t, ho, hf, hd => by
    obtain ⟨h1, h2, h3, h4⟩ := hd
    obtain ⟨q1, q2⟩ := rs_st hG h hK h1 hf (by omega)
    obtain ⟨f1, f2⟩ := q2 (by omega)
    rw [q1.2.1 h2, rs_den hG h hK a _ ho.1 f1 h3, rs_den hG h hK b _ ho.2 f2 h4]
  | .mul a b, t, ho, hf, hd => by
    obtain ⟨h1, h2, h3, h4⟩ := hd
    obtain ⟨q1, q2⟩ := rs_st hG h hK h1 hf (by omega)
    obtain ⟨f1, f2⟩ := q2 (by omega)
    rw [q1.2.2 h2, rs_den hG h hK a _ ho.1 f1 h3, rs_den hG h hK b _ ho.2 f2 h4]
  | .num k, t, ho, hf, hd => by
    have e : k = 1 := ho
    have := (rs_st hG h hK hd.1 hf (by rw [hd.2]; exact Nat.le_refl _)).1.1 hd.2
    rw [this, e]; rfl
  | .natCast _, _, ho, _, _ => ho.elim
  | .intCast _, _, ho, _, _ => ho.elim
  | .var _, _, ho, _, _ => ho.elim
  | .neg _, _, ho, _, _ => ho.elim
  | .sub _ _, _, ho, _, _ => ho.elim
  | .pow _ _, _, ho, _, _ => ho.elim
theorem rs_V_rt {rt : Nat → Nat} {fd : Nat → Option Ty} {x y : Nat} (h : rt x = rt y) : rs_V rt fd x = rs_V rt fd y := by unfold rs_V; rw [h]
/-- when all is found, the trees keep the rules -/
theorem rs_rule {cd fi se nu : Nat → Nat} {c : Nat} {k l r rt src tgt : Nat → Nat} {es : List (Nat × Nat)} {fd : Nat → Option Ty} {n : Nat} (hG : ty_G c k l r rt) (h : rs_fd c k l r rt fd) (hK : ty_JK c k l r rt es []) (hs : cd n ≠ 11 → (fd (rt (src n))).isSome = true ∧ (fd (rt (tgt n))).isSome = true)
    (hs1 : cd n = 1 → cd (fi n) ≠ 11 → (fd (rt (src (fi n)))).isSome = true) (hs2 : cd n = 1 → cd (se n) ≠ 11 → (fd (rt (src (se n)))).isSome = true) (hn : ty_nf cd fi se nu c k l r src tgt rt n) : ty_rule cd fi se nu (fun n => rs_V rt fd (src n)) (fun n => rs_V rt fd (tgt n)) n := by
  obtain ⟨n0, n1, n2, n3, n4, n5, n6, n7, n8, n12⟩ := hn
  refine ⟨fun e => ?_, fun e => ?_, fun e => ?_, fun e => ?_, fun e => ?_, fun e => ?_, fun e => ?_, fun e => ?_, fun e => ?_, fun e => ?_⟩
  · obtain ⟨a, b, d⟩ := n0 e
    exact ⟨congrArg (rs_V rt fd) a.symm, congrArg (rs_V rt fd) b.symm, rs_V_rt d⟩
  · obtain ⟨a1, a2, a3, a4, a5, a6⟩ := n1 e
    obtain ⟨q1, q2⟩ := rs_st hG h hK a1 (hs (by omega)).1 (by omega)
    obtain ⟨f1, f2⟩ := q2 (by omega)
    obtain ⟨q3, q4⟩ := rs_st hG h hK a3 f1 (by omega)
    obtain ⟨f3, f4⟩ := q4 (by omega)
    refine ⟨rs_V rt fd (l (l (src n))), rs_V rt fd (r (l (src n))), rs_V rt fd (r (src n)), ?_, fun hc => ?_, fun hc => ?_⟩
    · show rs_V rt fd (src n) = _
      rw [q1.2.2 a2, q3.2.1 a4]
    · obtain ⟨b1, p, b2, b3, b4, b5, b6⟩ := a5 hc
      refine ⟨?_, (rs_V_rt b1).symm⟩
      show rs_V rt fd (src (fi n)) = _
      rw [← rs_V_rt b6]
      rw [(rs_st hG h hK b2 (by rw [b6]; exact hs1 e hc) (by omega)).1.2.2 b3, b4, b5]
    · obtain ⟨b1, p, b2, b3, b4, b5, b6⟩ := a6 hc
      refine ⟨?_, (rs_V_rt b1).symm⟩
      show rs_V rt fd (src (se n)) = _
      rw [← rs_V_rt b6]
      rw [(rs_st hG h hK b2 (by rw [b6]; exact hs2 e hc) (by omega)).1.2.2 b3, b4, b5]
  · obtain ⟨a, b1, b2, b3, b4, b5⟩ := n2 e
    have q := (rs_st hG h hK b1 (hs (by omega)).2 (by omega)).1.2.2 b2
    refine ⟨congrArg (rs_V rt fd) a.symm, ?_, ?_⟩
    · show rs_V rt fd (src (se n)) = rs_V rt fd (src n)
      rw [a]; exact (rs_V_rt b5).symm
    · show rs_V rt fd (tgt n) = _
      rw [q, b3, b4]
  · obtain ⟨a, b1, b2, b3⟩ := n3 e
    have q := (rs_st hG h hK b1 (hs (by omega)).2 (by omega)).1.2.1 b2
    refine ⟨congrArg (rs_V rt fd) a.symm, rs_V rt fd (r (tgt n)), ?_⟩
    show rs_V rt fd (tgt n) = _
    rw [q, b3]
  · obtain ⟨a, b1, b2, b3⟩ := n4 e
    have q := (rs_st hG h hK b1 (hs (by omega)).2 (by omega)).1.2.1 b2
    refine ⟨congrArg (rs_V rt fd) a.symm, rs_V rt fd (l (tgt n)), ?_⟩
    show rs_V rt fd (tgt n) = _
    rw [q, b3]
  · obtain ⟨a, b1, b2, b3⟩ := n5 e
    have q := (rs_st hG h hK b1 (hs (by omega)).1 (by omega)).1.2.2 b2
    refine ⟨congrArg (rs_V rt fd) a.symm, rs_V rt fd (r (src n)), ?_⟩
    show rs_V rt fd (src n) = _
    rw [q, b3]
  · obtain ⟨a, b1, b2, b3⟩ := n6 e
    have q := (rs_st hG h hK b1 (hs (by omega)).1 (by omega)).1.2.2 b2
    refine ⟨congrArg (rs_V rt fd) a.symm, rs_V rt fd (l (src n)), ?_⟩
    show rs_V rt fd (src n) = _
    rw [q, b3]
  · show rs_V rt fd (tgt n) = rs_V rt fd (src n)
    rw [n7 e]
  · exact (rs_st hG h hK (n8 e).1 (hs (by omega)).2 (by rw [(n8 e).2]; exact Nat.le_refl _)).1.1 (n8 e).2
  · obtain ⟨a, b⟩ := n12 e
    exact ⟨rs_den hG h hK _ _ (ty_shp_ok _ _) (hs (by omega)).1 a, rs_den hG h hK _ _ (ty_shp_ok _ _) (hs (by omega)).2 b⟩
