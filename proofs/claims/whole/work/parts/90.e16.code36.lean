/-! ===== a loaded program stays ===== -/
def pgR (pp : Nat) : List Nat := [pp + 1, pp + 2, pp + 3, pp + 4, pp + 6, pp + 7, pp + 8, pp + 9, pp + 10, pp + 11, pp + 13, pp + 15, pp + 16, pp + 17, pp + 18, pp + 19, pp + 20, pp + 21, pp + 22, pp + 23]
def pgT (pp : Nat) : List (Nat × Nat) := [(pp, 0), (pp, 14), (pp, 15), (pp + 12, 0), (pp + 12, 1), (pp + 14, 0)]
def pgK (pp : Nat) (SS : List Nat) (TT : List (Nat × Nat)) : Bool := (pgR pp).all (fun r => !(SS.contains r)) && (pgT pp).all (fun q => !(TT.contains q))
theorem pgK_r {pp : Nat} {SS : List Nat} {TT : List (Nat × Nat)} (h : pgK pp SS TT = true) {r : Nat} (hr : r ∈ pgR pp) : r ∉ SS := by
  unfold pgK at h
  rw [Bool.and_eq_true, List.all_eq_true] at h
  have := h.1 r hr
  simpa using this
theorem pgK_t {pp : Nat} {SS : List Nat} {TT : List (Nat × Nat)} (h : pgK pp SS TT = true) {q : Nat × Nat} (hq : q ∈ pgT pp) : q ∉ TT := by
  unfold pgK at h
  rw [Bool.and_eq_true, List.all_eq_true, List.all_eq_true] at h
  have := h.2 q hq
  simpa using this
section PG
variable {SS : List Nat} {TT : List (Nat × Nat)} {h h' : xm_H} {pp a : Nat} {l : List Nat} {ps : List pr_D} {S T : Nat → Ty}
theorem PF_fk (hP : PF h pp l ps a S T) (hf : Fr SS TT h h') (hk : pgK pp SS TT = true) : PF h' pp l ps a S T :=
  PF_fr hP hf (pgK_t hk (by simp [pgT])) (pgK_t hk (by simp [pgT])) (pgK_t hk (by simp [pgT])) (pgK_t hk (by simp [pgT])) (pgK_t hk (by simp [pgT])) (pgK_t hk (by simp [pgT])) (pgK_r hk (by simp [pgR])) (pgK_r hk (by simp [pgR])) (pgK_r hk (by simp [pgR])) (pgK_r hk (by simp [pgR])) (pgK_r hk (by simp [pgR])) (pgK_r hk (by simp [pgR])) (pgK_r hk (by simp [pgR])) (pgK_r hk (by simp [pgR])) (fun q hq => pgK_r hk (by simp [taR] at hq; simp [pgR]; omega))
theorem PG_fk (hP : PG h pp l ps a S T) (hf : Fr SS TT h h') (hk : pgK pp SS TT = true) (hc : ∀ r j, j < 400 → r ∈ gRw → h'.1 r j = h.1 r j) : PG h' pp l ps a S T := by
  obtain ⟨p1, p2, p3, C, F, G, k, b, b1, b2, b3, b4⟩ := hP
  have hN : ps.length ≤ 400 := p1.2.2.1
  refine ⟨PF_fk p1 hf hk, p2, p3, C, F, G, k, b, b1, fun m hm => ?_, fun m hm => ?_, b4⟩
  · rw [hf.1 _ (pgK_r hk (by simp [pgR])), hf.1 _ (pgK_r hk (by simp [pgR])), hf.1 _ (pgK_r hk (by simp [pgR]))]
    exact b2 m hm
  · rw [hc 23 m (by omega) (by simp [gRw]), hc 24 m (by omega) (by simp [gRw]), hc 25 m (by omega) (by simp [gRw]), hc 26 m (by omega) (by simp [gRw]), hc 27 m (by omega) (by simp [gRw])]
    exact b3 m hm
variable {sc : xm_Sc} {d n : Nat} {post : xm_Po}
theorem sp_pgs (hF : XF h) (hpp : pp = 52 ∨ pp = 77) (hP : PF h pp l ps a S T) (hn : n < ps.length) (h11 : pC ps n ≠ 11) (hw : ty_w (S n) ≤ 2048) (hp : post (some (.int (nI (ty_w (S n))))) h) : xm_T (XE sc) (d + 1) 110 [.ref pp, .int (nI n)] h post := by
  have hN : ps.length ≤ 400 := hP.2.2.1
  obtain ⟨_, cn, tr, K, L, R, c1, c2, c3⟩ := xPg_ty (tb := 0) hP (by decide) hn
  obtain ⟨t, t1, t2, t3⟩ := c3 h11
  have t3' : tr t = S n := t3
  refine sp_srcW hF hpp (by omega) c2 (by omega) t1 t2 ?_
  rw [t3', Nat.min_eq_right (by omega)]
  exact hp
theorem sp_pgt (hF : XF h) (hpp : pp = 52 ∨ pp = 77) (hP : PF h pp l ps a S T) (hn : n < ps.length) (h11 : pC ps n ≠ 11) (hw : ty_w (T n) ≤ 2048) (hp : post (some (.int (nI (ty_w (T n))))) h) : xm_T (XE sc) (d + 1) 111 [.ref pp, .int (nI n)] h post := by
  have hN : ps.length ≤ 400 := hP.2.2.1
  obtain ⟨_, cn, tr, K, L, R, c1, c2, c3⟩ := xPg_ty (tb := 1) hP (by decide) hn
  obtain ⟨t, t1, t2, t3⟩ := c3 h11
  have t3' : tr t = T n := t3
  refine sp_tgtW hF hpp (by omega) c2 (by omega) t1 t2 ?_
  rw [t3', Nat.min_eq_right (by omega)]
  exact hp
end PG
/-- what a run works out -/
def rnE (q : PgD) (tl : List Nat) : Option mc_V := mc_ev (mcQ q) (jf0 (mcQ q)) (byB q.1) 8000 (q.2.1.length - 1) (byB tl)
/-- too much is needed -/
def rnX (q : PgD) (C B : Nat → Nat) (st ce : Nat) : Prop := st < B (q.2.1.length - 1) ∨ 1000000 < B (q.2.1.length - 1) ∨ ce < min 2147483647 (C (q.2.1.length - 1) + ty_w (q.2.2.2.1 (q.2.1.length - 1)) + ty_w (q.2.2.2.2 (q.2.1.length - 1)))
