/-! ===== the start: the law's own end ===== -/
theorem go_st0 {sc : xm_Sc} {T : xm_TT} {pc : Nat} {lv : xm_L} {st : List Value} {h : xm_H} {post : xm_Po} {k : Nat → xm_L → List Value → xm_H → Prop} (hs : xm_step (XE sc) T 330 .ireturn pc lv st h post k) : ∃ v, st = [.int v] ∧ post (some (.int v)) h := by
  simp only [xm_step] at hs
  split at hs
  · exact ⟨_, rfl, hs.2⟩
  · exact hs.elim
theorem go_st1 {sc : xm_Sc} {T : xm_TT} {pc : Nat} {lv : xm_L} {st : List Value} {h : xm_H} {post : xm_Po} {k : Nat → xm_L → List Value → xm_H → Prop} (hs : xm_step (XE sc) T 330 .lreturn pc lv st h post k) : False := by
  simp only [xm_step] at hs
  split at hs
  · have h1 := hs.1
    rw [go_ry] at h1
    cases h1
  · exact hs.elim
theorem go_st2 {sc : xm_Sc} {T : xm_TT} {pc : Nat} {lv : xm_L} {st : List Value} {h : xm_H} {post : xm_Po} {k : Nat → xm_L → List Value → xm_H → Prop} (hs : xm_step (XE sc) T 330 .return_ pc lv st h post k) : False := by
  simp only [xm_step] at hs
  have h1 := hs.2.1
  rw [go_ry] at h1
  cases h1
theorem go_ret {p : Program} {e : Env} {s : State} {m : MethodId} {below : List Frame} {meth : Method} {c : Code} {l : Launch} {b L : Nat} {xs : Nat → Int32} {ad : Nat → Nat} {ks : Nat → ClassId} {D : va_G} (C0 : lw_At p s m meth c b L xs) {n : Nat} (hAl : ∀ q : Nat, xm_A ad n s.heap.size q → s.heap.size ≤ q) : ∀ (k pc : Nat) (lv : xm_L) (st : List Value) (h : xm_H) (i : Jvm.ClassFile.Instr), k ≤ 600 → decode (xe_cy (XE (L, xs)) 330) pc = .ok (i, xm_len i) → (i = .ireturn ∨ i = .lreturn ∨ i = .return_) → xm_step (XE (L, xs)) (xm_T (XE (L, xs)) 60) 330 i pc lv st h (fun r _ => r = some (.int (nI 1))) (fun _ _ _ _ => False) → xm_W p l e room_1 s m #[Value.ref b] below meth c (164 + k) (1857593 + 6 * k) (lw_Zr below #[Value.ref b] s) D (xe_cl (XE (L, xs))) (xm_A ad n s.heap.size) ad ks (xe_sh (XE (L, xs))) (xe_ml (XE (L, xs)) 330) pc lv st h := by
  obtain ⟨hx, hb0, hr, hml, hown0, hts0, hX, hbl, hlocks, hgv⟩ := id C0
  clear hts0 hgv C0
  intro k pc lv st h i hk hdg hi hs
  rw [go_cy] at hdg
  rcases hi with rfl | rfl | rfl
  · obtain ⟨v, rfl, h2⟩ := go_st0 hs
    have h2 : some (Value.int v) = some (Value.int (nI 1)) := h2
    simp only [Option.some.injEq, Value.int.injEq] at h2
    subst h2
    intro H locs ls hR
    refine va_forget (fun q hq => hAl _ (hR.2.2.2.2.2 q hq)) ?_
    refine W.widen (k := room_1.cells) (n := room_1.slots) (Nat.le_trans (by omega) go_r3) (Nat.le_trans (by omega) go_r4) ?_
    have hd2 : decode code pc = .ok (.ireturn, 1) := hdg
    show W p l e room_1 s m #[Value.ref b] below meth c H [] room_1.cells room_1.slots (lw_Zr below #[Value.ref b] s) (F0 m pc ls [.int 1])
    exact lw_retr hx hb0 hr hlocks hd2
  · exact (go_st1 hs).elim
  · exact (go_st2 hs).elim
