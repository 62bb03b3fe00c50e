/-! ===== the object's own state, of both ===== -/
theorem Fr_sy {S : List Nat} {T : List (Nat × Nat)} {h h' : xm_H} (hf : Fr S T h h') : Fr S T h' h := ⟨fun c hc => (hf.1 c hc).symm, fun c hc => (hf.2.1 c hc).symm, fun c j hc => (hf.2.2 c j hc).symm⟩
/-- lists that don't meet -/
def ndS (A S : List Nat) : Bool := A.all (fun c => !(S.contains c))
def ndT (A T : List (Nat × Nat)) : Bool := A.all (fun c => !(T.contains c))
theorem ndS_m {A S : List Nat} (h : ndS A S = true) {c : Nat} (hc : c ∈ A) : c ∉ S := fun z => by
  have := List.all_eq_true.mp h c hc
  simp [z] at this
theorem ndT_m {A T : List (Nat × Nat)} (h : ndT A T = true) {c : Nat × Nat} (hc : c ∈ A) : c ∉ T := fun z => by
  have := List.all_eq_true.mp h c hc
  simp [z] at this
/-- the class's program, and what is found out of it -/
def xC (h : xm_H) (pp qq : Nat) (o : Option PgD) : Prop := XF h ∧ ((pp = 52 ∧ qq = 77) ∨ (pp = 77 ∧ qq = 52)) ∧ h.2.2 0 9 = .ref pp ∧ h.2.2 0 10 = .ref qq ∧ xPg h pp o ∧ fxA h ∧ lvI h ∧ (∃ G c, dI h G c) ∧ ∃ lp, rowIs h (pp + 12) (pp + 13) lp
def xG (h : xm_H) (le pl rn : Int32) (uc uf us : Nat) : Prop := h.2.2 0 11 = .int le ∧ h.2.2 0 16 = .int pl ∧ h.2.2 0 12 = .int rn ∧ h.2.2 0 13 = .int (nI uc) ∧ h.2.2 0 14 = .int (nI uf) ∧ h.2.2 0 15 = .int (nI us)
def mG (h : xm_H) (le pl rn : Int32) (uc uf us : Nat) : Prop := h.2.2 102 34 = .int le ∧ h.2.2 102 36 = .int pl ∧ h.2.2 102 35 = .int rn ∧ h.2.2 102 37 = .long (lN uc) ∧ h.2.2 102 38 = .long (lN uf) ∧ h.2.2 102 39 = .long (lN us)
def xI (h : xm_H) (pp qq W : Nat) (t ou : List Nat) (o : Option PgD) (le pl rn : Int32) (uc uf us : Nat) : Prop := xC h pp qq o ∧ rowIs h 1 2 t ∧ rowIs h 3 4 ou ∧ ordI h W ∧ xG h le pl rn uc uf us
def mI (h : xm_H) (t ou : List Nat) (o : Option PgD) (le pl rn : Int32) (uc uf us : Nat) : Prop := mtp h t ∧ mrow h 104 ou ∧ h.2.2 102 4 = .int (nI ou.length) ∧ mPg h o ∧ tgM h ∧ (∃ n, n ≤ 8192 ∧ h.2.2 102 32 = .int (nI n)) ∧ mG h le pl rn uc uf us
abbrev xcR : List Nat := [16, 17, 18, 23, 24, 25, 26, 27, 28, 29, 30, 31, 41, 42, 43]
abbrev xcT : List (Nat × Nat) := [(0, 9), (0, 10), (22, 9), (40, 4), (40, 5), (40, 6)]
abbrev xgT : List (Nat × Nat) := [(0, 11), (0, 12), (0, 13), (0, 14), (0, 15), (0, 16)]
def finK (T : List (Nat × Nat)) : Bool := xt_fin.all (fun q => !(T.contains (q.1, q.2.1)))
section RL
variable {SS : List Nat} {TT : List (Nat × Nat)} {h h' : xm_H} {pp qq W : Nat} {t ou : List Nat} {o : Option PgD} {le pl rn : Int32} {uc uf us : Nat}
theorem lvI_fr (hl : lvI h) (hf : Fr SS TT h h') (q1 : 43 ∉ SS) (q2 : (40, 4) ∉ TT) : lvI h' := by
  unfold lvI xlv at *
  rw [hf.2.2 _ _ q2, hf.1 _ q1]
  exact hl
theorem nwI_fr {ps : List pr_D} (hl : nwI h ps) (hf : Fr SS TT h h') (q1 : 41 ∉ SS) (q2 : (40, 5) ∉ TT) : nwI h' ps := by
  unfold nwI at *
  rw [hf.2.2 _ _ q2, hf.1 _ q1]
  exact hl
theorem twA_fr (hl : twA h pp) (hf : Fr SS TT h h') (q1 : 42 ∉ SS) (q2 : (40, 6) ∉ TT) (q3 : (pp + 14, 0) ∉ TT) (q4 : ∀ q, q ∈ taR pp → q ∉ SS) : twA h' pp := by
  unfold twA twQ at *
  rw [hf.2.2 _ _ q2, hf.1 _ q1]
  rcases hl with z | ⟨z1, z2⟩
  · exact Or.inl z
  · exact Or.inr ⟨z1, fun cn tr K L R hcn hT => z2 cn tr K L R hcn (tyT_fr hT (Fr_sy hf) q3 q4)⟩
theorem xPg_fk (hP : xPg h pp o) (hf : Fr SS TT h h') (hk : pgK pp SS TT = true) (hc : ∀ r j, j < 400 → r ∈ gRw → h'.1 r j = h.1 r j) (q1 : 41 ∉ SS) (q2 : 42 ∉ SS) (q3 : (40, 5) ∉ TT) (q4 : (40, 6) ∉ TT) : xPg h' pp o := by
  cases o with
  | none =>
    show h'.2.2 pp 0 = _
    rw [hf.2.2 _ _ (pgK_t hk (by simp [pgT]))]
    exact hP
  | some q =>
    obtain ⟨l, ps, a, S, T⟩ := q
    obtain ⟨z1, z2, z3⟩ := hP
    exact ⟨PG_fk z1 hf hk hc, nwI_fr z2 hf q1 q3, twA_fr z3 hf q2 q4 (pgK_t hk (by simp [pgT])) (fun q hq => pgK_r hk (by simp [taR] at hq; simp [pgR]; omega))⟩
theorem xC_fr (hx : xC h pp qq o) (hf : Fr SS TT h h') (hk : pgK pp SS TT = true) (h1 : ndS xcR SS = true) (h2 : ndT xcT TT = true) (h3 : finK TT = true) : xC h' pp qq o := by
  obtain ⟨x1, x2, x3, x4, x5, x6, x7, ⟨G, c, x8⟩, lp, x9⟩ := hx
  refine ⟨Fr_XF x1 hf h3, x2, by rw [hf.2.2 _ _ (ndT_m h2 (by simp))]; exact x3, by rw [hf.2.2 _ _ (ndT_m h2 (by simp))]; exact x4, xPg_fk x5 hf hk (fun r j _ hr => by rw [hf.1 r (ndS_m h1 (by simp [gRw] at hr; simp; omega))]) (ndS_m h1 (by simp)) (ndS_m h1 (by simp)) (ndT_m h2 (by simp)) (ndT_m h2 (by simp)), fxA_fr x6 hf (ndS_m h1 (by simp)) (ndS_m h1 (by simp)) (ndS_m h1 (by simp)), lvI_fr x7 hf (ndS_m h1 (by simp)) (ndT_m h2 (by simp)), ⟨G, c, dI_fr x8 hf (fun r hr => ndS_m h1 (by simp at hr; simp; omega)) (ndT_m h2 (by simp))⟩, lp, rowIs_fr x9 hf (pgK_r hk (by simp [pgR])) (pgK_t hk (by simp [pgT])) (pgK_t hk (by simp [pgT]))⟩
theorem xG_fr (hx : xG h le pl rn uc uf us) (hf : Fr SS TT h h') (h2 : ndT xgT TT = true) : xG h' le pl rn uc uf us := by
  obtain ⟨x1, x2, x3, x4, x5, x6⟩ := hx
  exact ⟨by rw [hf.2.2 _ _ (ndT_m h2 (by simp))]; exact x1, by rw [hf.2.2 _ _ (ndT_m h2 (by simp))]; exact x2, by rw [hf.2.2 _ _ (ndT_m h2 (by simp))]; exact x3, by rw [hf.2.2 _ _ (ndT_m h2 (by simp))]; exact x4, by rw [hf.2.2 _ _ (ndT_m h2 (by simp))]; exact x5, by rw [hf.2.2 _ _ (ndT_m h2 (by simp))]; exact x6⟩
theorem ordI_fr (hx : ordI h W) (hf : Fr SS TT h h') (q1 : 10 ∉ SS) (q2 : (7, 9) ∉ TT) : ordI h' W := ⟨by rw [hf.2.2 _ _ q2]; exact hx.1, fun x hx2 => by rw [hf.1 _ q1]; exact hx.2 x hx2⟩
/-- cells of the class only, of the reference only -/
def loK (S : List Nat) (T : List (Nat × Nat)) : Bool := S.all (fun c => decide (c < 102 ∨ 163 ≤ c)) && T.all (fun q => decide (q.1 < 102 ∨ 163 ≤ q.1))
def hiK (S : List Nat) (T : List (Nat × Nat)) : Bool := S.all (fun c => decide (102 ≤ c)) && T.all (fun q => decide (102 ≤ q.1))
theorem loK_r (h : loK SS TT = true) {c : Nat} (h1 : 102 ≤ c) (h2 : c < 163) : c ∉ SS := fun z => by
  unfold loK at h
  rw [Bool.and_eq_true] at h
  have := List.all_eq_true.mp h.1 c z
  simp at this
  omega
theorem loK_t (h : loK SS TT = true) {c j : Nat} (h1 : 102 ≤ c) (h2 : c < 163) : (c, j) ∉ TT := fun z => by
  unfold loK at h
  rw [Bool.and_eq_true] at h
  have := List.all_eq_true.mp h.2 (c, j) z
  simp at this
  omega
theorem hiK_r (h : hiK SS TT = true) {c : Nat} (h1 : c < 102) : c ∉ SS := fun z => by
  unfold hiK at h
  rw [Bool.and_eq_true] at h
  have := List.all_eq_true.mp h.1 c z
  simp at this
  omega
theorem hiK_t (h : hiK SS TT = true) {c j : Nat} (h1 : c < 102) : (c, j) ∉ TT := fun z => by
  unfold hiK at h
  rw [Bool.and_eq_true] at h
  have := List.all_eq_true.mp h.2 (c, j) z
  simp at this
  omega
theorem mPg_lo (hP : mPg h o) (hf : Fr SS TT h h') (hk : loK SS TT = true) : mPg h' o := by
  cases o with
  | none => exact ⟨by rw [hf.2.2 _ _ (loK_t hk (by decide) (by decide))]; exact hP.1, by rw [hf.2.2 _ _ (loK_t hk (by decide) (by decide))]; exact hP.2⟩
  | some q =>
    obtain ⟨l, ps, a, S, T⟩ := q
    exact PK_fr hP hf (kpT_fr hf (fun a q1 q2 => loK_r hk (by omega) (by omega))) (fun q q1 q2 => loK_r hk (by omega) (by omega)) (loK_r hk (by decide) (by decide)) (loK_r hk (by decide) (by decide)) (loK_t hk (by decide) (by decide)) (loK_t hk (by decide) (by decide)) (hf.2.2 _ _ (loK_t hk (by decide) (by decide)))
theorem mI_lo (hm : mI h t ou o le pl rn uc uf us) (hf : Fr SS TT h h') (hk : loK SS TT = true) : mI h' t ou o le pl rn uc uf us := by
  obtain ⟨m1, m2, m3, m4, m5, ⟨n, n1, n2⟩, g1, g2, g3, g4, g5, g6⟩ := hm
  have e : ∀ j, h'.2.2 102 j = h.2.2 102 j := fun j => hf.2.2 _ _ (loK_t hk (by decide) (by decide))
  refine ⟨mtp_f2 m1 hf (loK_r hk (by decide) (by decide)) (loK_t hk (by decide) (by decide)), ⟨fun i hi => by rw [hf.1 _ (loK_r hk (by decide) (by decide))]; exact m2.1 i hi, m2.2⟩, by rw [e]; exact m3, mPg_lo m4 hf hk, fun c hc => by rw [hf.2.1 _ (loK_r hk (by decide) (by decide))]; exact m5 c hc, ⟨n, n1, by rw [e]; exact n2⟩, ?_⟩
  unfold mG
  rw [e, e, e, e, e, e]
  exact ⟨g1, g2, g3, g4, g5, g6⟩
theorem xI_hi (hx : xI h pp qq W t ou o le pl rn uc uf us) (hf : Fr SS TT h h') (hk : hiK SS TT = true) (h3 : finK TT = true) : xI h' pp qq W t ou o le pl rn uc uf us := by
  obtain ⟨x1, x2, x3, x4, x5⟩ := hx
  have hpp : pp = 52 ∨ pp = 77 := by rcases x1.2.1 with z | z <;> omega
  have k1 : pgK pp SS TT = true := by
    unfold pgK
    rw [Bool.and_eq_true, List.all_eq_true, List.all_eq_true]
    refine ⟨fun r hr => ?_, fun q hq => ?_⟩
    · have : r ∉ SS := hiK_r hk (by simp [pgR] at hr; omega)
      simp [this]
    · have h1 : q.1 < 102 := by
        simp [pgT] at hq
        rcases hq with rfl | rfl | rfl | rfl | rfl | rfl <;> simp <;> omega
      have : q ∉ TT := hiK_t hk (j := q.2) h1
      simp [this]
  have k2 : ndS xcR SS = true := List.all_eq_true.mpr (fun c hc => by
    have : c ∉ SS := hiK_r hk (by simp at hc; omega)
    simp [this])
  have k3 : ndT xcT TT = true := List.all_eq_true.mpr (fun q hq => by
    have h1 : q.1 < 102 := by
      simp at hq
      rcases hq with rfl | rfl | rfl | rfl | rfl | rfl <;> simp
    have : q ∉ TT := hiK_t hk (j := q.2) h1
    simp [this])
  have k4 : ndT xgT TT = true := List.all_eq_true.mpr (fun q hq => by
    have h1 : q.1 < 102 := by
      simp at hq
      rcases hq with rfl | rfl | rfl | rfl | rfl | rfl <;> simp
    have : q ∉ TT := hiK_t hk (j := q.2) h1
    simp [this])
  exact ⟨xC_fr x1 hf k1 k2 k3 h3, rowIs_fr x2 hf (hiK_r hk (by decide)) (hiK_t hk (by decide)) (hiK_t hk (by decide)), rowIs_fr x3 hf (hiK_r hk (by decide)) (hiK_t hk (by decide)) (hiK_t hk (by decide)), ordI_fr x4 hf (hiK_r hk (by decide)) (hiK_t hk (by decide)), xG_fr x5 hf k4⟩
/-- the same program, its types told by others that are the same -/
theorem PK_cg {l : List Nat} {ps : List pr_D} {a : Nat} {S T S' T' : Nat → Ty} {C F B : Nat → Nat} (hP : PK h l ps a S' T') (hG : LdG l ps a 0 S T) (hb : bnd ps S T C F B ps.length) (hST : ∀ n, n < ps.length → pC ps n ≠ 11 → S n = S' n ∧ T n = T' n) : PK h l ps a S T := by
  obtain ⟨c1, c2, c3, c4, c5, c6, c7, c8, k, b, c9, c10, cn, tr, K, L, R, c11, c12, c13, c14, C', F', B', c16, c17⟩ := hP
  obtain ⟨g1, g2, g3, g4, g5⟩ := LdG_0 hG
  have hu := bnd_uniq c1 hST (fun n hn z x hx => (nb7 g2 hn (by omega)).1 x hx) hb c16
  refine ⟨c1, c2, c3, hG, c5, c6, c7, c8, k, b, c9, c10, cn, tr, K, L, R, c11, c12, fun m hm => ?_, c14, C, F, B, hb, fun m hm => ?_⟩
  · obtain ⟨a1, a2, a3, a4, a5, a6, a7, a8⟩ := c13 m hm
    refine ⟨a1, a2, a3, a4, ?_, a6, a7, fun e => ?_⟩
    · rw [a5, wsum_congr (T := T') (T' := T) (fun n hn e => ((hST n (by omega) (by omega)).2).symm)]
    · rw [(hST m hm e).1, (hST m hm e).2]
      exact a8 e
  · rw [(hu m hm).1, (hu m hm).2.1, (hu m hm).2.2]
    exact c17 m hm
theorem mPg_kb (hP : mPg h o) : ∃ kb, h.2.2 102 33 = .int kb := by
  cases o with
  | none => exact ⟨_, hP.2⟩
  | some q =>
    obtain ⟨l, ps, a, S, T⟩ := q
    obtain ⟨_, _, _, _, _, _, _, _, k, b, _, c10, _⟩ := hP
    exact ⟨_, c10⟩
end RL
