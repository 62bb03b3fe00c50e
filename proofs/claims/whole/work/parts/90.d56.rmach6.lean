/-! ===== the reference's machine works any node ===== -/
def rDp (n : Nat) : Nat := n + 1
def rCb (n : Nat) : Nat := 2048 * (n + 1)
def rW (q : PgD) : mc_W := (rws q, rwt q, rDp, rDp, rCb, rDp, rDp)
section RA
variable {sc : xm_Sc} {d df s0 t0 : Nat} {H0 : xm_H} {post : xm_Po} {l : List Nat} {ps : List pr_D} {a : Nat} {S T : Nat → Ty} {jf : Nat → (Nat → Bool) → Option mc_V}
theorem rb_all (hP : mPg H0 (some (l, ps, a, S, T))) (hl : mrow H0 128 l) (hw8 : ∀ n, n < ps.length → pC ps n = 10 → wtB (l, ps, a, S, T) + wsum (pC ps) T n + ty_w (T n) ≤ 8 * l.length)
    (hjet : ∀ n, n < ps.length → pC ps n = 12 → RBg sc d df s0 t0 (l, ps, a, S, T) rDp rCb H0 post n (fun u => match jf n u with
      | some (a, s1, c1, g1) => some (a, 1 + s1, c1, g1)
      | none => none) ∧ Lr (rW (l, ps, a, S, T)) n (fun u => match jf n u with
      | some (a, s1, c1, g1) => some (a, 1 + s1, c1, g1)
      | none => none)) : ∀ (f n : Nat), n < ps.length → n < f → pC ps n ≠ 11 → RBg sc d df s0 t0 (l, ps, a, S, T) rDp rCb H0 post n (mc_ev (mcQ (l, ps, a, S, T)) jf (byB l) f n) ∧ Lr (rW (l, ps, a, S, T)) n (mc_ev (mcQ (l, ps, a, S, T)) jf (byB l) f n) := by
  have ho : psOK ps := hP.1
  have hG : LdG l ps a 0 S T := hP.2.2.2.1
  have hd1 : ∀ m, 1 ≤ rDp m := fun m => by unfold rDp; omega
  intro f
  induction f with
  | zero => intro n _ h; omega
  | succ f ih =>
    intro n hn hf h11
    obtain ⟨m1, m2, m3, u0, t1, t2, t3, t5, t6, t7, t8, t10, t12, m12⟩ := mqW_of ho hG hn
    have hW : ∀ m, m < ps.length → pC ps m ≠ 11 → ty_w (S m) ≤ 2048 ∧ ty_w (T m) ≤ 2048 := fun m hm h => ⟨PG_w (tb := 0) hG hm h, PG_w (tb := 1) hG hm h⟩
    have hwn := hW n hn h11
    have e3 : ∀ u : Nat → Bool, mc_sh u 0 = u := fun u => by funext i; simp [mc_sh]
    have c1w : ∀ {x k j : Nat}, x < n → k + ty_w (S x) ≤ ty_w (S n) → ty_w (T n) = j + ty_w (T x) → mc_c1 (rW (l, ps, a, S, T)) n x k j := by
      intro x k j hx h1 h2
      refine ⟨h1, h2, ?_, ?_, ?_, ?_⟩
      · show 1 + rDp x ≤ rDp n; unfold rDp; omega
      · show rDp x ≤ rDp n; unfold rDp; omega
      · show rCb x ≤ rCb n; unfold rCb; omega
      · show rDp x ≤ rDp n; unfold rDp; omega
    rcases op_cs (by omega : mc_op (mcQ (l, ps, a, S, T)) n < 13) with e | e | e | e | e | e | e | e | e | e | e | e | e
    · obtain ⟨x1, x2⟩ := m1 (by omega)
      obtain ⟨y1, y2⟩ := m2 (by omega)
      obtain ⟨a1, a2, a3, a4⟩ := u0 e
      have hx11 := (m3 (by omega)).1 (by omega)
      have hy11 := (m3 (by omega)).2 (by omega)
      obtain ⟨bx, lx⟩ := ih _ (by omega) (by omega) hx11
      obtain ⟨by_, ly⟩ := ih _ (by omega) (by omega) hy11
      have hwx := hW _ (show mc_on (mcQ (l, ps, a, S, T)) n < ps.length by omega) hx11
      have e2 : mc_ev (mcQ (l, ps, a, S, T)) jf (byB l) (f + 1) n = fun u => match mc_ev (mcQ (l, ps, a, S, T)) jf (byB l) f (mc_on (mcQ (l, ps, a, S, T)) n) u with
        | some (a', s1, c1, g1) => match mc_ev (mcQ (l, ps, a, S, T)) jf (byB l) f (mc_tw (mcQ (l, ps, a, S, T)) n) (mc_ex a') with
          | some (b, s2, c2, g2) => some (b, 1 + s1 + s2, mc_sk (mcQ (l, ps, a, S, T)) n + max c1 c2, 1 + max g1 g2)
          | none => none
        | none => none := by funext u; simp only [mc_ev, e] <;> rfl
      rw [e2]
      refine ⟨rb_comp hP hn e x2 y2 x1 y1 hx11 hy11 bx by_ lx ly (congrArg ty_w a1) a2 a3 (congrArg ty_w a4) (by omega) (by unfold rDp; omega) (by unfold rDp; omega) (by unfold rCb; omega) (by unfold rCb; omega) hd1, Lr_two (nx := fun a _ => mc_ex a) (mk := fun _ b => b) (C := fun c1 c2 => mc_sk (mcQ (l, ps, a, S, T)) n + max c1 c2) (G := fun g1 g2 => 1 + max g1 g2) lx ly (Nat.le_of_eq (congrArg ty_w a1)) (fun _ _ _ _ _ _ _ => rfl) (fun a b ha hb => by rw [hb]; exact congrArg ty_w a4) (fun a' b' ha hb => ?_) (fun a' b' ha hb => ?_)⟩
      · have ha' : a' ≤ rCb (mc_on (mcQ (l, ps, a, S, T)) n) := ha
        have hb' : b' ≤ rCb (mc_tw (mcQ (l, ps, a, S, T)) n) := hb
        show _ ≤ rCb n
        unfold rCb at *; omega
      · have ha' : a' ≤ rDp (mc_on (mcQ (l, ps, a, S, T)) n) := ha
        have hb' : b' ≤ rDp (mc_tw (mcQ (l, ps, a, S, T)) n) := hb
        show _ ≤ rDp n
        unfold rDp at *; omega
    · obtain ⟨x1, x2⟩ := m1 (by omega)
      obtain ⟨y1, y2⟩ := m2 (by omega)
      obtain ⟨a0, a1, a2⟩ := t1 e
      have cs : ∀ x k, x < n → (mc_op (mcQ (l, ps, a, S, T)) x ≠ 11 → k + ty_w (S x) = ty_w (S n) ∧ T x = T n) → csR sc d df s0 t0 (l, ps, a, S, T) rDp rCb H0 post n x k (mc_ev (mcQ (l, ps, a, S, T)) jf (byB l) f x) := by
        intro x k hx hk
        by_cases h : pC ps x = 11
        · exact Or.inr ⟨h, mc_ev_0 (Or.inr h)⟩
        · obtain ⟨b1, b2⟩ := ih x (by omega) (by omega) h
          exact Or.inl ⟨h, b1, b2, (hk h).1, (congrArg ty_w (hk h).2).symm, by unfold rDp; omega, by unfold rCb; omega⟩
      have e2 : mc_ev (mcQ (l, ps, a, S, T)) jf (byB l) (f + 1) n = fun u => match (if u 0 = false then mc_ev (mcQ (l, ps, a, S, T)) jf (byB l) f (mc_on (mcQ (l, ps, a, S, T)) n) (mc_sh u (mc_sk (mcQ (l, ps, a, S, T)) n)) else mc_ev (mcQ (l, ps, a, S, T)) jf (byB l) f (mc_tw (mcQ (l, ps, a, S, T)) n) (mc_sh u (mc_ot (mcQ (l, ps, a, S, T)) n))) with
        | some (a', s1, c1, g1) => some (a', 1 + s1, c1, g1)
        | none => none := by
        funext u
        simp only [mc_ev, e]
        by_cases hu : u 0 = false
        · simp only [if_pos hu] <;> rfl
        · simp only [if_neg hu] <;> rfl
      rw [e2]
      have lo : ∀ x k, x < n → (mc_op (mcQ (l, ps, a, S, T)) x ≠ 11 → k + ty_w (S x) = ty_w (S n) ∧ T x = T n) → (∀ u u' : Nat → Bool, (∀ i, i < ty_w (S n) → u i = u' i) → mc_ev (mcQ (l, ps, a, S, T)) jf (byB l) f x (mc_sh u k) = mc_ev (mcQ (l, ps, a, S, T)) jf (byB l) f x (mc_sh u' k)) ∧ ∀ u a' s' c' g', mc_ev (mcQ (l, ps, a, S, T)) jf (byB l) f x u = some (a', s', c', g') → a'.length = ty_w (T n) ∧ c' ≤ rCb n ∧ g' ≤ rDp n := by
        intro x k hx hk
        by_cases h : pC ps x = 11
        · refine ⟨fun u u' _ => ?_, fun u a' s' c' g' hr => ?_⟩
          · rw [mc_ev_0 (A := mcQ (l, ps, a, S, T)) (Or.inr h), mc_ev_0 (A := mcQ (l, ps, a, S, T)) (Or.inr h)]
          · rw [mc_ev_0 (A := mcQ (l, ps, a, S, T)) (Or.inr h)] at hr; cases hr
        · obtain ⟨b1, b2⟩ := ih x (by omega) (by omega) h
          have hk' := hk h
          refine ⟨fun u u' hu => b2.1 _ _ (fun i hi => hu _ (by have : i < ty_w (S x) := hi; omega)), fun u a' s' c' g' hr => ?_⟩
          obtain ⟨l1, l2, l3⟩ := b2.2 _ _ _ _ _ hr
          have l1' : a'.length = ty_w (T x) := l1
          have l2' : c' ≤ rCb x := l2
          have l3' : g' ≤ rDp x := l3
          rw [hk'.2] at l1'
          unfold rCb rDp at *
          exact ⟨l1', by omega, by omega⟩
      refine ⟨rb_case hP hn e x2 y2 x1 y1 (cs _ _ x1 a1) (cs _ _ y1 a2) a0 hwn.1 hd1, fun u u' hu => ?_, fun u a' s c g h => ?_⟩
      · have hu' : ∀ i, i < ty_w (S n) → u i = u' i := hu
        simp only [(lo _ _ x1 a1).1 u u' hu', (lo _ _ y1 a2).1 u u' hu', hu' 0 (by omega)]
      · by_cases hu : u 0 = false
        · cases hr : mc_ev (mcQ (l, ps, a, S, T)) jf (byB l) f (mc_on (mcQ (l, ps, a, S, T)) n) (mc_sh u (mc_sk (mcQ (l, ps, a, S, T)) n)) with
          | none => simp only [if_pos hu, hr] at h; cases h
          | some v =>
            obtain ⟨a2', s', c', g'⟩ := v
            simp only [if_pos hu, hr, Option.some.injEq, Prod.mk.injEq] at h
            obtain ⟨rfl, rfl, rfl, rfl⟩ := h
            exact (lo _ _ x1 a1).2 _ _ _ _ _ hr
        · cases hr : mc_ev (mcQ (l, ps, a, S, T)) jf (byB l) f (mc_tw (mcQ (l, ps, a, S, T)) n) (mc_sh u (mc_ot (mcQ (l, ps, a, S, T)) n)) with
          | none => simp only [if_neg hu, hr] at h; cases h
          | some v =>
            obtain ⟨a2', s', c', g'⟩ := v
            simp only [if_neg hu, hr, Option.some.injEq, Prod.mk.injEq] at h
            obtain ⟨rfl, rfl, rfl, rfl⟩ := h
            exact (lo _ _ y1 a2).2 _ _ _ _ _ hr
    · obtain ⟨x1, x2⟩ := m1 (by omega)
      obtain ⟨y1, y2⟩ := m2 (by omega)
      obtain ⟨a1, a2, a3, a4⟩ := t2 e
      have hx11 := (m3 (by omega)).1 (by omega)
      have hy11 := (m3 (by omega)).2 (by omega)
      obtain ⟨bx, lx⟩ := ih _ (by omega) (by omega) hx11
      obtain ⟨by_, ly⟩ := ih _ (by omega) (by omega) hy11
      have hwx := hW _ (show mc_on (mcQ (l, ps, a, S, T)) n < ps.length by omega) hx11
      have e2 : mc_ev (mcQ (l, ps, a, S, T)) jf (byB l) (f + 1) n = fun u => match mc_ev (mcQ (l, ps, a, S, T)) jf (byB l) f (mc_on (mcQ (l, ps, a, S, T)) n) u with
        | some (a', s1, c1, g1) => match mc_ev (mcQ (l, ps, a, S, T)) jf (byB l) f (mc_tw (mcQ (l, ps, a, S, T)) n) u with
          | some (b, s2, c2, g2) => some (a' ++ b, 1 + s1 + s2, max c1 c2, max g1 g2)
          | none => none
        | none => none := by funext u; simp only [mc_ev, e] <;> rfl
      rw [e2]
      refine ⟨rb_pair hP hn e x2 y2 x1 y1 hx11 hy11 bx by_ lx ly (congrArg ty_w a1) a3 (congrArg ty_w a2) a4 (by omega) (by unfold rDp; omega) (by unfold rDp; omega) (by unfold rCb; omega) (by unfold rCb; omega) hd1, Lr_two (nx := fun _ u => u) (mk := fun a b => a ++ b) (C := fun c1 c2 => max c1 c2) (G := fun g1 g2 => max g1 g2) lx ly (Nat.le_of_eq (congrArg ty_w a1)) (fun _ _ _ _ hu i hi => hu i ?_) (fun a' b' ha hb => ?_) (fun a' b' ha hb => ?_) (fun a' b' ha hb => ?_)⟩
      · have hi' : i < ty_w (S (mc_tw (mcQ (l, ps, a, S, T)) n)) := hi
        rw [a2] at hi'; exact hi'
      · have ha' : a'.length = ty_w (T (mc_on (mcQ (l, ps, a, S, T)) n)) := ha
        have hb' : b'.length = ty_w (T (mc_tw (mcQ (l, ps, a, S, T)) n)) := hb
        show (a' ++ b').length = ty_w (T n)
        rw [List.length_append]; omega
      · have ha' : a' ≤ rCb (mc_on (mcQ (l, ps, a, S, T)) n) := ha
        have hb' : b' ≤ rCb (mc_tw (mcQ (l, ps, a, S, T)) n) := hb
        show _ ≤ rCb n
        unfold rCb at *; omega
      · have ha' : a' ≤ rDp (mc_on (mcQ (l, ps, a, S, T)) n) := ha
        have hb' : b' ≤ rDp (mc_tw (mcQ (l, ps, a, S, T)) n) := hb
        show _ ≤ rDp n
        unfold rDp at *; omega
    · obtain ⟨x1, x2⟩ := m1 (by omega)
      obtain ⟨a1, a2⟩ := t3 (Or.inl e)
      have hx11 := (m3 (by omega)).1 (by omega)
      obtain ⟨bx, lx⟩ := ih _ (by omega) (by omega) hx11
      have e2 : mc_ev (mcQ (l, ps, a, S, T)) jf (byB l) (f + 1) n = fun u => match mc_ev (mcQ (l, ps, a, S, T)) jf (byB l) f (mc_on (mcQ (l, ps, a, S, T)) n) u with
        | some (a', s1, c1, g1) => some (((0 : Nat) == 1) :: (List.replicate (mc_sk (mcQ (l, ps, a, S, T)) n) false ++ a'), 1 + s1, c1, g1)
        | none => none := by funext u; simp only [mc_ev, e] <;> rfl
      have e4 : mc_ev (mcQ (l, ps, a, S, T)) jf (byB l) (f + 1) n = fun u => match mc_ev (mcQ (l, ps, a, S, T)) jf (byB l) f (mc_on (mcQ (l, ps, a, S, T)) n) (mc_sh u 0) with
        | some (a', s1, c1, g1) => some ((false :: List.replicate (mc_sk (mcQ (l, ps, a, S, T)) n) false) ++ a', 1 + s1, c1, g1)
        | none => none := by funext u; rw [e3]; simp only [mc_ev, e, List.cons_append] <;> rfl
      refine ⟨?_, ?_⟩
      · rw [e2]; exact rb_inj hP hn (Or.inl ⟨e, rfl⟩) x2 x1 hx11 bx lx (congrArg ty_w a1) a2 hwn.2 (by unfold rDp; omega) (by unfold rCb; omega) hd1
      · rw [e4]; exact Lr_one (j := 1 + mc_sk (mcQ (l, ps, a, S, T)) n) (c1w x1 (by rw [a1]; exact Nat.le_of_eq (Nat.zero_add _)) a2) (by simp [Nat.add_comm]) lx
    · obtain ⟨x1, x2⟩ := m1 (by omega)
      obtain ⟨a1, a2⟩ := t3 (Or.inr e)
      have hx11 := (m3 (by omega)).1 (by omega)
      obtain ⟨bx, lx⟩ := ih _ (by omega) (by omega) hx11
      have e2 : mc_ev (mcQ (l, ps, a, S, T)) jf (byB l) (f + 1) n = fun u => match mc_ev (mcQ (l, ps, a, S, T)) jf (byB l) f (mc_on (mcQ (l, ps, a, S, T)) n) u with
        | some (a', s1, c1, g1) => some (((1 : Nat) == 1) :: (List.replicate (mc_sk (mcQ (l, ps, a, S, T)) n) false ++ a'), 1 + s1, c1, g1)
        | none => none := by funext u; simp only [mc_ev, e] <;> rfl
      have e4 : mc_ev (mcQ (l, ps, a, S, T)) jf (byB l) (f + 1) n = fun u => match mc_ev (mcQ (l, ps, a, S, T)) jf (byB l) f (mc_on (mcQ (l, ps, a, S, T)) n) (mc_sh u 0) with
        | some (a', s1, c1, g1) => some ((true :: List.replicate (mc_sk (mcQ (l, ps, a, S, T)) n) false) ++ a', 1 + s1, c1, g1)
        | none => none := by funext u; rw [e3]; simp only [mc_ev, e, List.cons_append] <;> rfl
      refine ⟨?_, ?_⟩
      · rw [e2]; exact rb_inj hP hn (Or.inr ⟨e, rfl⟩) x2 x1 hx11 bx lx (congrArg ty_w a1) a2 hwn.2 (by unfold rDp; omega) (by unfold rCb; omega) hd1
      · rw [e4]; exact Lr_one (j := 1 + mc_sk (mcQ (l, ps, a, S, T)) n) (c1w x1 (by rw [a1]; exact Nat.le_of_eq (Nat.zero_add _)) a2) (by simp [Nat.add_comm]) lx
    · obtain ⟨x1, x2⟩ := m1 (by omega)
      obtain ⟨a1, a2⟩ := t5 e
      have hx11 := (m3 (by omega)).1 (by omega)
      obtain ⟨bx, lx⟩ := ih _ (by omega) (by omega) hx11
      have e2 : mc_ev (mcQ (l, ps, a, S, T)) jf (byB l) (f + 1) n = fun u => match mc_ev (mcQ (l, ps, a, S, T)) jf (byB l) f (mc_on (mcQ (l, ps, a, S, T)) n) (mc_sh u (0)) with
        | some (a', s1, c1, g1) => some (a', 1 + s1, c1, g1)
        | none => none := by funext u; rw [e3]; simp only [mc_ev, e] <;> rfl
      rw [e2]
      refine ⟨rb_take hP hn (Or.inl ⟨e, rfl⟩) x2 x1 hx11 bx lx (fun z => absurd (e.symm.trans z) (by decide)) (by show 0 + ty_w (S _) ≤ ty_w (S n); omega) (congrArg ty_w a1).symm hwn.1 (by unfold rDp; omega) (by unfold rCb; omega) hd1, Lr_one (wr := []) (j := 0) (c1w x1 (by omega) (by rw [a1]; exact (Nat.zero_add _).symm)) rfl lx⟩
    · obtain ⟨x1, x2⟩ := m1 (by omega)
      obtain ⟨a1, a2⟩ := t6 e
      have hx11 := (m3 (by omega)).1 (by omega)
      obtain ⟨bx, lx⟩ := ih _ (by omega) (by omega) hx11
      have e2 : mc_ev (mcQ (l, ps, a, S, T)) jf (byB l) (f + 1) n = fun u => match mc_ev (mcQ (l, ps, a, S, T)) jf (byB l) f (mc_on (mcQ (l, ps, a, S, T)) n) (mc_sh u (mc_sk (mcQ (l, ps, a, S, T)) n)) with
        | some (a', s1, c1, g1) => some (a', 1 + s1, c1, g1)
        | none => none := by funext u; simp only [mc_ev, e] <;> rfl
      rw [e2]
      refine ⟨rb_take hP hn (Or.inr e) x2 x1 hx11 bx lx (fun z => a2) (Nat.le_of_eq a2) (congrArg ty_w a1).symm hwn.1 (by unfold rDp; omega) (by unfold rCb; omega) hd1, Lr_one (wr := []) (j := 0) (c1w x1 (Nat.le_of_eq a2) (by rw [a1]; exact (Nat.zero_add _).symm)) rfl lx⟩
    · obtain ⟨a1, a2, a3⟩ := t7 e
      have o : ownQ (l, ps, a, S, T) n = 1 + ty_w (S n) := by
        have e' : pC ps n = 7 := e
        show 1 + ownS ps S T n = _; unfold ownS; rw [if_pos e']
      have e2 : mc_ev (mcQ (l, ps, a, S, T)) jf (byB l) (f + 1) n = fun u => some (mc_rd u 0 (rws (l, ps, a, S, T) n), ownQ (l, ps, a, S, T) n, 0, 0) := by funext u; simp only [mc_ev, e, a2, a3, o] <;> rfl
      rw [e2]
      refine ⟨rb_iden hP hn e (congrArg ty_w a1) hd1, fun u u' hu => ?_, fun u a' s c g h => ?_⟩
      · have : mc_rd u 0 (rws (l, ps, a, S, T) n) = mc_rd u' 0 (rws (l, ps, a, S, T) n) := mc_rd_congr (fun i hi => hu _ (by rw [Nat.zero_add]; exact hi))
        simp only [this]
      · simp only [Option.some.injEq, Prod.mk.injEq] at h
        obtain ⟨rfl, rfl, rfl, rfl⟩ := h
        exact ⟨by rw [mc_rd_len]; exact (congrArg ty_w a1).symm, Nat.zero_le _, Nat.zero_le _⟩
    · have o : ownQ (l, ps, a, S, T) n = 1 := by
        have e' : pC ps n = 8 := e
        show 1 + ownS ps S T n = _; unfold ownS; rw [if_neg (by omega), if_neg (by omega), if_neg (by omega)]
      have e2 : mc_ev (mcQ (l, ps, a, S, T)) jf (byB l) (f + 1) n = fun _ => some ([], ownQ (l, ps, a, S, T) n, 0, 0) := by funext u; simp only [mc_ev, e, o]
      rw [e2]
      refine ⟨rb_unit hP hn e (t8 e) hd1, fun _ _ _ => rfl, fun u a' s c g h => ?_⟩
      simp only [Option.some.injEq, Prod.mk.injEq] at h
      obtain ⟨rfl, rfl, rfl, rfl⟩ := h
      exact ⟨(t8 e).symm, Nat.zero_le _, Nat.zero_le _⟩
    · have o : ownQ (l, ps, a, S, T) n = 1 + ty_w (T n) := by
        have e' : pC ps n = 10 := e
        show 1 + ownS ps S T n = _; unfold ownS; rw [if_neg (by omega), if_pos e']
      have ek : mc_sk (mcQ (l, ps, a, S, T)) n = wtB (l, ps, a, S, T) + wsum (pC ps) T n := by
        have e' : pC ps n = 10 := e
        show cSk ps S T (wtB (l, ps, a, S, T)) n = _
        unfold cSk; rw [e']; rfl
      have e2 : mc_ev (mcQ (l, ps, a, S, T)) jf (byB l) (f + 1) n = fun _ => some (mc_rd (byB l) (wtB (l, ps, a, S, T) + wsum (pC ps) T n) (rwt (l, ps, a, S, T) n), ownQ (l, ps, a, S, T) n, 0, 0) := by funext u; simp only [mc_ev, e, ek, t10 e, o] <;> rfl
      rw [e2]
      refine ⟨rb_wit hP hn e hl rfl (hw8 n hn e) hd1, fun _ _ _ => rfl, fun u a' s c g h => ?_⟩
      simp only [Option.some.injEq, Prod.mk.injEq] at h
      obtain ⟨rfl, rfl, rfl, rfl⟩ := h
      exact ⟨by rw [mc_rd_len]; rfl, Nat.zero_le _, Nat.zero_le _⟩
    · have e2 : mc_ev (mcQ (l, ps, a, S, T)) jf (byB l) (f + 1) n = fun u => match jf n u with
        | some (a', s1, c1, g1) => some (a', 1 + s1, c1, g1)
        | none => none := by funext u; simp only [mc_ev, e] <;> rfl
      rw [e2]
      exact hjet n hn e
    · have e2 : mc_ev (mcQ (l, ps, a, S, T)) jf (byB l) (f + 1) n = fun _ => none := by funext u; exact mc_ev_0 (Or.inl e) u
      rw [e2]
      exact ⟨rb_fail hP hn e hd1, fun _ _ _ => rfl, fun u a' s c g h => by cases h⟩
    · exact absurd e h11
end RA
