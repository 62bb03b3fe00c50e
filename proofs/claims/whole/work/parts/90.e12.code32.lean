/-! ===== the class's machine works a loaded program: both ways ===== -/
theorem lfT_w : ∀ t : Ty, ty_w (lfT t) ≤ ty_w t := by
  intro t
  unfold lfT
  split
  · simp only [ty_w]; omega
  · simp only [ty_w]; omega
  · exact Nat.le_refl _
theorem lfW_w : ∀ t : Ty, lfW t ≤ ty_w t := by
  intro t
  unfold lfW
  split
  · simp only [ty_w]; omega
  · simp only [ty_w]; omega
  · exact Nat.zero_le _
theorem cSk_le {ps : List pr_D} {S T : Nat → Ty} {b n : Nat} (hg : pC ps n ≤ 2 → pC ps n ≠ 1 → gO (fun x => ty_w (T x)) (p1 ps n) ≤ 2048) (hS : pC ps n ≠ 11 → ty_w (S n) ≤ 2048 ∧ ty_w (T n) ≤ 2048) (h10 : pC ps n = 10 → b + wsum (pC ps) T n ≤ 70000) (h12 : pNu ps n ≤ 167) : cSk ps S T b n ≤ 100000 := by
  have l1 := lfT_w (S n)
  have l2 := lfW_w (S n)
  unfold cSk
  split <;> rename_i e
  · have := hg (by omega) (by omega); omega
  · have := (hS (by omega)).1; omega
  · have := hg (by omega) (by omega); omega
  · have := (hS (by omega)).2; omega
  · have := (hS (by omega)).2; omega
  · have := (hS (by omega)).1; omega
  · have := (hS (by omega)).1; omega
  · have := h10 e; omega
  · omega
  · omega
theorem cOt_le {ps : List pr_D} {S T : Nat → Ty} {n : Nat} (hS : pC ps n ≠ 11 → ty_w (S n) ≤ 2048 ∧ ty_w (T n) ≤ 2048) : cOt ps S T n ≤ 100000 := by
  have l1 := lfT_w (S n)
  unfold cOt
  split <;> rename_i e
  · have := (hS (by omega)).1; omega
  · have := (hS (by omega)).2; omega
  · have := hS (by omega); omega
  · omega
section PX
variable {l : List Nat} {ps : List pr_D} {a k b : Nat} {S T : Nat → Ty} {C F B : Nat → Nat} {h : xm_H}
theorem cd_prog (hc : ciV h ps.length b ps S T) (ho : psOK ps) (hG : LdG l ps a 0 S T) (hk : pr_nat (by_bit l) (8 * l.length) a = .ok (k, b)) (hl : l.length ≤ 8192) (hN : ps.length ≤ 400) {n : Nat} (hn : n < ps.length) : cdN h (mcQ (l, ps, a, S, T)) n := by
  obtain ⟨c1, c2, c3, c4, c5⟩ := hc n hn
  have hw8 : pC ps n = 10 → _ := w8_of hG hk hn
  have hq := mqW_of ho hG hn
  have eb := wtB_e (ps := ps) (S := S) (T := T) hk
  have es : mc_sk (mcQ (l, ps, a, S, T)) n = cSk ps S T b n := by show cSk ps S T (wtB (l, ps, a, S, T)) n = _; rw [eb]
  have hWd : ∀ m, m < ps.length → pC ps m ≠ 11 → ty_w (S m) ≤ 2048 ∧ ty_w (T m) ≤ 2048 := fun m hm h => ⟨PG_w (tb := 0) hG hm h, PG_w (tb := 1) hG hm h⟩
  refine ⟨by omega, c1, by rw [es]; exact c4, c5, fun z => ?_, fun z => ?_, ?_, cOt_le (hWd n hn)⟩
  · rw [c2, (hq.1 z).2]; rfl
  · rw [c3, (hq.2.1 z).2]; rfl
  · rw [es]
    refine cSk_le (fun h2 h1 => ?_) (hWd n hn) (fun e => ?_) (ho n hn).2.2.2.2.2.1
    · have h6 : mc_op (mcQ (l, ps, a, S, T)) n ≤ 6 := Nat.le_trans h2 (by decide)
      obtain ⟨x1, x2⟩ := hq.1 h6
      have hx11 := (hq.2.2.1 h1).1 h6
      clear hq
      rw [x2]
      exact (hWd _ (Nat.lt_trans x1 hn) hx11).2
    · have h8 := hw8 e
      rw [eb] at h8
      clear hq
      omega
end PX
section PB
variable {sc : xm_Sc} {d pp : Nat} {l : List Nat} {ps : List pr_D} {a k b : Nat} {S T : Nat → Ty} {C F B : Nat → Nat} {H0 : xm_H} {post : xm_Po}
/-- the program itself, its jets worked as they are -/
theorem bg_p0 (hpp : pp = 52 ∨ pp = 77) (hr : rowIs H0 (pp + 12) (pp + 13) l) (hc : ciV H0 ps.length b ps S T) (ho : psOK ps) (hG : LdG l ps a 0 S T) (hk : pr_nat (by_bit l) (8 * l.length) a = .ok (k, b)) (hN : ps.length ≤ 400) (hb : bnd ps S T C F B ps.length) {n : Nat} (hX : pX ps B n) :
    Bg sc d pp 0 (pW (l, ps, a, S, T) B) H0 post n (mc_ev (mcQ (l, ps, a, S, T)) (jf0 (mcQ (l, ps, a, S, T))) (byB l) 8000 n) ∧ Lr (pW (l, ps, a, S, T) B) n (mc_ev (mcQ (l, ps, a, S, T)) (jf0 (mcQ (l, ps, a, S, T))) (byB l) 8000 n) := by
  have hl := hr.2.2.1
  refine bg_all (X := pX ps B) hpp hr (fun n x hn hch => ?_) (fun n hn => cd_prog hc ho hG hk hl hN hn.1) (fun n hn => pX_wy ho hG hk hl hN hb hn) (fun n hn => (mqW_of ho hG hn.1).2.2.2.2.2.2.2.2.2.2.2.2.2) (fun n hn e => ?_) 8000 n hX (by show 7600 + n < 8000; have := hX.1; omega)
  · obtain ⟨h1, h2⟩ := pX_ch ho hG hb hn hch
    exact ⟨h1, by show 7600 + x < 7600 + n; omega⟩
  · obtain ⟨t1, t2, t3, t4⟩ := (mqW_of ho hG hn.1).2.2.2.2.2.2.2.2.2.2.2.2.1 e
    have h6 : pNu ps n < 168 := Nat.lt_succ_of_le (ho n hn.1).2.2.2.2.2.1
    have hw1 := (pX_wy ho hG hk hl hN hb hn).2.2.2.2.2.2.2.2.2.1
    simp only [jf0, t1]
    exact ⟨bg_jet0 bc_ok (cd_prog hc ho hG hk hl hN hn.1) e t1 rfl h6 (by show _ ≤ ty_w (S n); rw [t3]; exact Nat.le_refl _) (by show ty_w (T n) = _; rw [t4]) hw1, lr_jet0 h6 (by show _ ≤ ty_w (S n); rw [t3]; exact Nat.le_refl _) (by show ty_w (T n) = _; rw [t4])⟩
end PB
