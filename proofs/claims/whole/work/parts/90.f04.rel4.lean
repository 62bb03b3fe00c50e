/-! ===== the reference's calls, on its state ===== -/
def Fm (h h' : xm_H) : Prop := ∃ SS TT, Fr SS TT h h' ∧ hiK SS TT = true ∧ finK TT = true ∧ 163 ∉ SS
def Fx (h h' : xm_H) : Prop := ∃ SS TT, Fr SS TT h h' ∧ loK SS TT = true
abbrev muR : List Nat := [117, 118, 119, 120, 121, 122, 123, 124, 125, 126, 127, 128, 137, 146, 152]
def muK (SS : List Nat) (TT : List (Nat × Nat)) : Bool := ndS [129, 130, 131, 132, 133, 134, 135] SS && (ndS muR SS && ndT [(102, 19), (102, 32), (102, 33)] TT)
def msQ (SS : List Nat) (TT : List (Nat × Nat)) : Bool := ndS muR SS && ndT [(102, 19), (102, 32)] TT
section RM
variable {sc : xm_Sc} {d : Nat} {SS : List Nat} {TT : List (Nat × Nat)} {h h' : xm_H} {pp qq W : Nat} {t ou t' ou' : List Nat} {o : Option PgD} {le pl rn le' pl' rn' : Int32} {uc uf us uc' uf' us' : Nat} {post : xm_Po}
theorem xI_m (hx : xI h pp qq W t ou o le pl rn uc uf us) (hf : Fm h h') : xI h' pp qq W t ou o le pl rn uc uf us := by
  obtain ⟨SS, TT, f, k, q, _⟩ := hf
  exact xI_hi hx f k q
theorem Fm_o (hf : Fm h h') : h'.2.1 163 = h.2.1 163 := by
  obtain ⟨SS, TT, f, k, q, n⟩ := hf
  exact f.2.1 _ n
theorem mI_x (hm : mI h t ou o le pl rn uc uf us) (hf : Fx h h') : mI h' t ou o le pl rn uc uf us := by
  obtain ⟨SS, TT, f, k⟩ := hf
  exact mI_lo hm f k
theorem mI_ks (hm : mI h t ou o le pl rn uc uf us) (hf : Fr SS TT h h') (hk : msQ SS TT = true) (hkp : kpT h h') (h33 : h'.2.2 102 33 = h.2.2 102 33) (ht : mtp h' t') (ho : mrow h' 104 ou') (h4 : h'.2.2 102 4 = .int (nI ou'.length)) (hg : mG h' le' pl' rn' uc' uf' us') : mI h' t' ou' o le' pl' rn' uc' uf' us' := by
  unfold msQ at hk
  rw [Bool.and_eq_true] at hk
  obtain ⟨k1, k2⟩ := hk
  obtain ⟨m1, m2, m3, m4, m5, ⟨n, n1, n2⟩, m6⟩ := hm
  refine ⟨ht, ho, h4, ?_, fun c hc => by rw [hf.2.1 _ (ndS_m k1 (by simp))]; exact m5 c hc, ⟨n, n1, by rw [hf.2.2 _ _ (ndT_m k2 (by simp))]; exact n2⟩, hg⟩
  cases o with
  | none => exact ⟨by rw [hf.2.2 _ _ (ndT_m k2 (by simp))]; exact m4.1, by rw [h33]; exact m4.2⟩
  | some q =>
    obtain ⟨l, ps, a, S, T⟩ := q
    exact PK_fr m4 hf hkp (fun q q1 q2 => ndS_m k1 (by simp; omega)) (ndS_m k1 (by simp)) (ndS_m k1 (by simp)) (ndT_m k2 (by simp)) (ndT_m k2 (by simp)) h33
theorem mI_up (hm : mI h t ou o le pl rn uc uf us) (hf : Fr SS TT h h') (hk : muK SS TT = true) (ht : mtp h' t') (ho : mrow h' 104 ou') (h4 : h'.2.2 102 4 = .int (nI ou'.length)) (hg : mG h' le' pl' rn' uc' uf' us') : mI h' t' ou' o le' pl' rn' uc' uf' us' := by
  unfold muK at hk
  rw [Bool.and_eq_true, Bool.and_eq_true] at hk
  obtain ⟨k0, k1, k2⟩ := hk
  refine mI_ks hm hf ?_ (kpT_fr hf (fun a q1 q2 => ndS_m k0 (by simp; omega))) (hf.2.2 _ _ (ndT_m k2 (by simp))) ht ho h4 hg
  unfold msQ
  rw [Bool.and_eq_true]
  refine ⟨k1, List.all_eq_true.mpr (fun x hx => ?_)⟩
  exact List.all_eq_true.mp k2 x (by simp at hx ⊢; rcases hx with z | z <;> simp [z])
theorem mG_fr (hx : mG h le pl rn uc uf us) (hf : Fr SS TT h h') (h2 : ndT [(102, 34), (102, 35), (102, 36), (102, 37), (102, 38), (102, 39)] TT = true) : mG h' le pl rn uc uf us := by
  obtain ⟨x1, x2, x3, x4, x5, x6⟩ := hx
  exact ⟨by rw [hf.2.2 _ _ (ndT_m h2 (by simp))]; exact x1, by rw [hf.2.2 _ _ (ndT_m h2 (by simp))]; exact x2, by rw [hf.2.2 _ _ (ndT_m h2 (by simp))]; exact x3, by rw [hf.2.2 _ _ (ndT_m h2 (by simp))]; exact x4, by rw [hf.2.2 _ _ (ndT_m h2 (by simp))]; exact x5, by rw [hf.2.2 _ _ (ndT_m h2 (by simp))]; exact x6⟩
theorem mrow_fr {a : Nat} {l : List Nat} (hr : mrow h a l) (hf : Fr SS TT h h') (q : a ∉ SS) : mrow h' a l := ⟨fun i hi => by rw [hf.1 _ q]; exact hr.1 i hi, hr.2⟩
/-- an outcome of the reference: what was thrown, its state -/
def mO (h h' : xm_H) (th : Nat) (t ou : List Nat) (o : Option PgD) (le pl rn : Int32) (uc uf us : Nat) : Prop := h'.2.2 102 0 = .int (nI th) ∧ mI h' t ou o le pl rn uc uf us ∧ Fm h h'
theorem mO_0 {th : Nat} (hm : mI h t ou o le pl rn uc uf us) : mO h (xm_sf h 102 0 (.int (nI th))) th t ou o le pl rn uc uf us := by
  have f : Fr [] [(102, 0)] h (xm_sf h 102 0 (.int (nI th))) := Fr_sf Fr_rf (by simp)
  exact ⟨by simp only [xf_same], mI_up hm f (by decide) (mtp_f2 hm.1 f (by simp) (by simp)) (mrow_fr hm.2.1 f (by simp)) (by rw [f.2.2 _ _ (by simp)]; exact hm.2.2.1) (mG_fr hm.2.2.2.2.2.2 f (by decide)), _, _, f, by decide, by decide +kernel, by decide⟩
theorem mi_feed {p : Int32} {v : Int64} (hF : XF h) (hm : mI h t ou o le pl rn uc uf us)
    (hA : ¬ (nI 1 ≤ p ∧ p ≤ nI 8) → ∀ h', mO h h' 1 t ou o le pl rn uc uf us → post (some (.int (nI 0))) h') (hB : ∀ m, p = nI m → 1 ≤ m → m ≤ 8 → 8192 < t.length + m → ∀ h', mO h h' 2 t ou o le pl rn uc uf us → post (some (.int (nI 0))) h')
    (hC : ∀ m h', p = nI m → 1 ≤ m → m ≤ 8 → t.length + m ≤ 8192 → mO h h' 0 (t ++ feL v m) ou o le pl rn uc uf us → post (some (.int (nI (t.length + m)))) h') : xm_T (XE sc) (d + 2) 221 [.ref 102, .int p, .long v] h post := by
  refine sp_mfeed hF hm.1.1 hm.1.2.2.2 (fun z => hA z _ (mO_0 hm)) (fun m e1 e2 e3 e4 => hB m e1 e2 e3 e4 _ (mO_0 hm)) (fun m h' e1 e2 e3 e4 ha => ?_)
  obtain ⟨a1, a2, a3, a4, a5, a6, a7⟩ := ha
  have f : Fr [103] [(102, 0), (102, 2)] h h' := ⟨fun c hc => a5 c (by simpa using hc), fun c _ => by rw [a1], fun c j hc => a2 c j (fun z => hc (by rcases z with ⟨z1, z2 | z2⟩ <;> simp [z1, z2]))⟩
  refine hC m h' e1 e2 e3 e4 ⟨a4, mI_up hm f (by decide) ⟨by rw [List.length_append, feL_len]; exact a3, fun i hi => ?_, fun i hi => ?_, by rw [List.length_append, feL_len]; exact e4⟩ (mrow_fr hm.2.1 f (by simp)) (by rw [f.2.2 _ _ (by simp)]; exact hm.2.2.1) (mG_fr hm.2.2.2.2.2.2 f (by decide)), _, _, f, by decide, by decide +kernel, by decide⟩
  · by_cases e : i < t.length
    · rw [gN_l e, a6 i e]; exact hm.1.2.1 i e
    · obtain ⟨k, rfl⟩ : ∃ k, i = t.length + k := ⟨i - t.length, by omega⟩
      rw [List.length_append, feL_len] at hi
      rw [gN_r, feL_get (by omega)]; exact a7 k (by omega)
  · by_cases e : i < t.length
    · rw [gN_l e]; exact hm.1.2.2.1 i e
    · obtain ⟨k, rfl⟩ : ∃ k, i = t.length + k := ⟨i - t.length, by omega⟩
      rw [List.length_append, feL_len] at hi
      rw [gN_r, feL_get (by omega)]; exact xb_lt _ _
theorem mtp_nil (e : h.2.2 102 2 = .int (nI 0)) : mtp h [] := ⟨e, fun i hi => absurd hi (Nat.not_lt_zero _), fun i hi => absurd hi (Nat.not_lt_zero _), Nat.zero_le _⟩
theorem mi_wipe (hm : mI h t ou o le pl rn uc uf us) (hC : ∀ h', mI h' [] ou o le pl rn uc uf us → Fm h h' → post (some (.int (nI t.length))) h') : xm_T (XE sc) (d + 1) 318 [.ref 102] h post := by
  refine sp_mwipe hm.1.1 ?_
  have f : Fr [] [(102, 0), (102, 2)] h (xm_sf (xm_sf h 102 0 (.int (nI 0))) 102 2 (.int (nI 0))) := Fr_sf (Fr_sf Fr_rf (by simp)) (by simp)
  exact hC _ (mI_up hm f (by decide) (mtp_nil (by simp only [xf_same])) (mrow_fr hm.2.1 f (by simp)) (by rw [f.2.2 _ _ (by simp)]; exact hm.2.2.1) (mG_fr hm.2.2.2.2.2.2 f (by decide))) ⟨_, _, f, by decide, by decide +kernel, by decide⟩
theorem mi_load (hF : XF h) (hm : mI h t ou o le pl rn uc uf us)
    (hp1 : ∀ h' f ps a S T, f ≠ 0 → f ≤ 12 → LdF t f ps a S T → mI h' [] ou o (nI f) pl rn uc uf us → Fm h h' → post (some (.int (nI f))) h')
    (hp0 : ∀ h' ps a S T, LdF t 0 ps a S T → mI h' [] ou (some (t, ps, a, S, T)) (nI 0) pl rn uc uf us → Fm h h' → post (some (.int (nI 0))) h') :
    xm_T (XE sc) (d + 8) 251 [.ref 102] h post := by
  obtain ⟨kb, hkb⟩ := mPg_kb hm.2.2.2.1
  obtain ⟨g1, g2, g3, g4, g5, g6⟩ := hm.2.2.2.2.2.2
  refine sp_mload hF hm.1.2 hm.1.1 hkb (fun h' f ps a S T e1 e2 f1 kp hL e33 e34 e0 e02 => ?_) (fun h' ps a S T f1 hL hP e34 e0 e02 => ?_)
  · refine hp1 h' f ps a S T e1 e2 hL (mI_ks hm f1 (by decide) kp e33 (mtp_nil e02) (mrow_fr hm.2.1 f1 (by decide)) (by rw [f1.2.2 _ _ (by decide)]; exact hm.2.2.1) ⟨e34, ?_, ?_, ?_, ?_, ?_⟩) ⟨_, _, f1, by decide, by decide +kernel, by decide⟩
    · rw [f1.2.2 _ _ (by decide)]; exact g2
    · rw [f1.2.2 _ _ (by decide)]; exact g3
    · rw [f1.2.2 _ _ (by decide)]; exact g4
    · rw [f1.2.2 _ _ (by decide)]; exact g5
    · rw [f1.2.2 _ _ (by decide)]; exact g6
  · refine hp0 h' ps a S T hL ⟨mtp_nil e02, mrow_fr hm.2.1 f1 (by decide), by rw [f1.2.2 _ _ (by decide)]; exact hm.2.2.1, hP, fun c hc => by rw [f1.2.1 _ (by decide)]; exact hm.2.2.2.2.1 c hc, ⟨t.length, hm.1.2.2.2, hP.2.2.2.2.2.2.1⟩, e34, ?_, ?_, ?_, ?_, ?_⟩ ⟨_, _, f1, by decide, by decide +kernel, by decide⟩
    · rw [f1.2.2 _ _ (by decide)]; exact g2
    · rw [f1.2.2 _ _ (by decide)]; exact g3
    · rw [f1.2.2 _ _ (by decide)]; exact g4
    · rw [f1.2.2 _ _ (by decide)]; exact g5
    · rw [f1.2.2 _ _ (by decide)]; exact g6
theorem mi_node {i w : Int32} (hF : XF h) (hm : mI h t ou o le pl rn uc uf us)
    (hA : (∀ n k, ¬ ndW o i w n k) → ∀ h', mO h h' 1 t ou o le pl rn uc uf us → post (some (.int (nI 0))) h')
    (hC : ∀ n k q C F G, o = some q → ndW o i w n k → bnd q.2.1 q.2.2.2.1 q.2.2.2.2 C F G q.2.1.length → ∀ h', mO h h' 0 t ou o le pl rn uc uf us → post (some (.int (ndV q C F G n k))) h') :
    xm_T (XE sc) (d + 2) 268 [.ref 102, .int i, .int w] h post :=
  sp_mnode hF hm.2.2.2.1 (fun z => hA z _ (mO_0 hm)) (fun n k q C F G e1 e2 e3 => hC n k q C F G e1 e2 e3 _ (mO_0 hm))
theorem mi_root {i w : Int32} (hF : XF h) (hm : mI h t ou o le pl rn uc uf us)
    (hA : (∀ n k, ¬ ndW o i w n k) → ∀ h', mO h h' 1 t ou o le pl rn uc uf us → post (some (.long (lN 0))) h')
    (hC : ∀ n k l ps a S T Q, o = some (l, ps, a, S, T) → ndW o i w n k → rtA ps Q ps.length → ∀ h', mO h h' 0 t ou o le pl rn uc uf us → post (some (.long (lwd (Q n k)))) h') :
    xm_T (XE sc) (d + 2) 287 [.ref 102, .int i, .int w] h post :=
  sp_mroot hF hm.2.2.2.1 (fun z => hA z _ (mO_0 hm)) (fun n k l ps a S T Q e1 e2 e3 => hC n k l ps a S T Q e1 e2 e3 _ (mO_0 hm))
theorem mi_typeRoot {i w : Int32} {tb : Nat} (hF : XF h) (hm : mI h t ou o le pl rn uc uf us) (htb : tb < 2)
    (hA : (∀ n k, ¬ ndW o i w n k) → ∀ h', mO h h' 1 t ou o le pl rn uc uf us → post (some (.long (lN 0))) h')
    (hH : ∀ n k q, o = some q → ndW o i w n k → pC q.2.1 n = 11 → ∀ h', mO h h' 0 t ou o le pl rn uc uf us → post (some (.long (lN 0))) h')
    (hC : ∀ n k q, o = some q → ndW o i w n k → pC q.2.1 n ≠ 11 → ∀ h', mO h h' 0 t ou o le pl rn uc uf us → post (some (.long (lwd (tyRt (tyOf q tb n) k)))) h') :
    xm_T (XE sc) (d + 2) 315 [.ref 102, .int i, .int (nI tb), .int w] h post :=
  sp_mtypeRoot hF hm.2.2.2.1 htb (fun z => hA z _ (mO_0 hm)) (fun n k q e1 e2 e3 => hH n k q e1 e2 e3 _ (mO_0 hm)) (fun n k q e1 e2 e3 => hC n k q e1 e2 e3 _ (mO_0 hm))
theorem mi_type {i : Int32} {tb : Nat} (hF : XF h) (hm : mI h t ou o le pl rn uc uf us) (htb : tb < 2)
    (hA : (∀ n, ¬ ndA o i n) → ∀ h', mO h h' 1 t ou o le pl rn uc uf us → post (some (.int (nI 0))) h')
    (hH : ∀ n q, o = some q → ndA o i n → pC q.2.1 n = 11 → ∀ h', mO h h' 0 t ou o le pl rn uc uf us → post (some (.int (-2))) h')
    (hL : ∀ n q, o = some q → ndA o i n → pC q.2.1 n ≠ 11 → 300 < ty_tl (tyOf q tb n) → ∀ h', mO h h' 0 t ou o le pl rn uc uf us → post (some (.int (-1))) h')
    (hC : ∀ n q, o = some q → ndA o i n → pC q.2.1 n ≠ 11 → ty_tl (tyOf q tb n) ≤ 300 → ∀ h', mO h h' 0 t (ttx (tyOf q tb n)) o le pl rn uc uf us → post (some (.int (nI (ty_tl (tyOf q tb n))))) h') :
    xm_T (XE sc) (d + 3) 312 [.ref 102, .int i, .int (nI tb)] h post :=
  sp_mtype hF hm.2.2.2.1 htb (fun z => hA z _ (mO_0 hm)) (fun n q e1 e2 e3 => hH n q e1 e2 e3 _ (mO_0 hm)) (fun n q e1 e2 e3 e4 => hL n q e1 e2 e3 e4 _ (mO_0 hm)) (fun n q h' e1 e2 e3 e4 f e5 e6 e7 => hC n q e1 e2 e3 e4 h' ⟨e5, mI_up hm f (by decide) (mtp_f2 hm.1 f (by decide) (by decide)) e6 (by rw [ttx_len]; exact e7) (mG_fr hm.2.2.2.2.2.2 f (by decide)), _, _, f, by decide, by decide +kernel, by decide⟩)
theorem mi_value {i : Int32} {tb : Nat} (hF : XF h) (hm : mI h t ou o le pl rn uc uf us) (htb : tb < 2)
    (hA : (∀ n, ¬ ndA o i n) → ∀ h', mO h h' 1 t ou o le pl rn uc uf us → post (some (.int (nI 0))) h')
    (hH : ∀ n q, o = some q → ndA o i n → pC q.2.1 n = 11 → ∀ h', mO h h' 0 [] ou o le pl rn uc uf us → post (some (.int (-2))) h')
    (hB : ∀ n q, o = some q → ndA o i n → pC q.2.1 n ≠ 11 → ¬ vOK t (tyOf q tb n) → ∀ h', mO h h' 0 [] ou o le pl rn uc uf us → post (some (.int (-4))) h')
    (hL : ∀ n q, o = some q → ndA o i n → pC q.2.1 n ≠ 11 → vOK t (tyOf q tb n) → 8192 < (vtx (by_bit t) (tyOf q tb n) 0).length → ∀ h', mO h h' 0 [] ou o le pl rn uc uf us → post (some (.int (-1))) h')
    (hC : ∀ n q, o = some q → ndA o i n → pC q.2.1 n ≠ 11 → vOK t (tyOf q tb n) → (vtx (by_bit t) (tyOf q tb n) 0).length ≤ 8192 → ∀ h', mO h h' 0 [] (vtx (by_bit t) (tyOf q tb n) 0) o le pl rn uc uf us → post (some (.int (nI (vtx (by_bit t) (tyOf q tb n) 0).length))) h') :
    xm_T (XE sc) (d + 4) 317 [.ref 102, .int i, .int (nI tb)] h post := by
  have up : ∀ h', Fr [115, 116, 145, 147] mvT h h' → h'.2.2 102 0 = .int (nI 0) → h'.2.2 102 2 = .int (nI 0) → mO h h' 0 [] ou o le pl rn uc uf us := fun h' f e5 e6 => ⟨e5, mI_up hm f (by decide) (mtp_nil e6) (mrow_fr hm.2.1 f (by decide)) (by rw [f.2.2 _ _ (by decide)]; exact hm.2.2.1) (mG_fr hm.2.2.2.2.2.2 f (by decide)), _, _, f, by decide, by decide +kernel, by decide⟩
  exact sp_mvalue hF hm.2.2.2.1 htb hm.1.2 hm.1.1 (fun z => hA z _ (mO_0 hm)) (fun n q h' e1 e2 e3 f e5 e6 => hH n q e1 e2 e3 h' (up h' f e5 e6)) (fun n q h' e1 e2 e3 e4 f e5 e6 => hB n q e1 e2 e3 e4 h' (up h' f e5 e6)) (fun n q h' e1 e2 e3 e4 e7 f e5 e6 => hL n q e1 e2 e3 e4 e7 h' (up h' f e5 e6)) (fun n q h' e1 e2 e3 e4 e7 f e5 e6 e8 e9 => hC n q e1 e2 e3 e4 e7 h' ⟨e5, mI_up hm f (by decide) (mtp_nil e6) e8 e9 (mG_fr hm.2.2.2.2.2.2 f (by decide)), _, _, f, by decide, by decide +kernel, by decide⟩)
theorem mi_worth {i : Int32} {tb : Nat} (hF : XF h) (hm : mI h t ou o le pl rn uc uf us) (htb : tb < 2)
    (hA : (∀ n, ¬ ndA o i n) → ∀ h', mO h h' 1 t ou o le pl rn uc uf us → post (some (.int (nI 0))) h')
    (hH : ∀ n q, o = some q → ndA o i n → pC q.2.1 n = 11 → ∀ h', mO h h' 0 [] ou o le pl rn uc uf us → post (some (.int (-2))) h')
    (hB : ∀ n q, o = some q → ndA o i n → pC q.2.1 n ≠ 11 → rdS t 8194 [.inr (tyOf q tb n)] 0 [] = none → ∀ h', mO h h' 0 [] ou o le pl rn uc uf us → post (some (.int (-4))) h')
    (hC : ∀ n q bs, o = some q → ndA o i n → pC q.2.1 n ≠ 11 → rdS t 8194 [.inr (tyOf q tb n)] 0 [] = some bs → ∀ h', mO h h' 0 [] (pkL bs) o le pl rn uc uf us → post (some (.int (nI (pkL bs).length))) h') :
    xm_T (XE sc) (d + 5) 321 [.ref 102, .int i, .int (nI tb)] h post := by
  have up : ∀ h', Fr ttR mwoT h h' → h'.2.2 102 0 = .int (nI 0) → h'.2.2 102 2 = .int (nI 0) → mO h h' 0 [] ou o le pl rn uc uf us := fun h' f e5 e6 => ⟨e5, mI_up hm f (by decide) (mtp_nil e6) (mrow_fr hm.2.1 f (by decide)) (by rw [f.2.2 _ _ (by decide)]; exact hm.2.2.1) (mG_fr hm.2.2.2.2.2.2 f (by decide)), _, _, f, by decide, by decide +kernel, by decide⟩
  exact sp_mworth hF hm.2.2.2.1 htb hm.1.2 hm.1.1 (fun z => hA z _ (mO_0 hm)) (fun n q h' e1 e2 e3 f e5 e6 => hH n q e1 e2 e3 h' (up h' f e5 e6)) (fun n q h' e1 e2 e3 e4 f e5 e6 => hB n q e1 e2 e3 e4 h' (up h' f e5 e6)) (fun n q h' bs e1 e2 e3 e4 f e5 e6 e8 e9 => hC n q bs e1 e2 e3 e4 h' ⟨e5, mI_up hm f (by decide) (mtp_nil e6) e8 e9 (mG_fr hm.2.2.2.2.2.2 f (by decide)), _, _, f, by decide, by decide +kernel, by decide⟩)
theorem mi_speak (hF : XF h) (hm : mI h t ou o le pl rn uc uf us)
    (hA : o = none → ∀ h', mO h h' 1 t ou o le pl rn uc uf us → post (some (.int (nI 0))) h')
    (hL : ∀ q, o = some q → 8192 < (spT q).length → ∀ h', mO h h' 0 t ou o le pl rn uc uf us → post (some (.int (-1))) h')
    (hC : ∀ q, o = some q → (spT q).length ≤ 8192 → ∀ h', mO h h' 0 t (spT q) o le pl rn uc uf us → post (some (.int (nI (spT q).length))) h') :
    xm_T (XE sc) (d + 6) 296 [.ref 102] h post :=
  sp_mspeak hF hm.2.2.2.1 (fun z => hA z _ (mO_0 hm)) (fun q h' e1 e2 f e5 => hL q e1 e2 h' ⟨e5, mI_up hm f (by decide) (mtp_f2 hm.1 f (by decide) (by decide)) (mrow_fr hm.2.1 f (by decide)) (by rw [f.2.2 _ _ (by decide)]; exact hm.2.2.1) (mG_fr hm.2.2.2.2.2.2 f (by decide)), _, _, f, by decide, by decide +kernel, by decide⟩) (fun q h' e1 e2 f e5 e6 e7 => hC q e1 e2 h' ⟨e5, mI_up hm f (by decide) (mtp_f2 hm.1 f (by decide) (by decide)) e6 e7 (mG_fr hm.2.2.2.2.2.2 f (by decide)), _, _, f, by decide, by decide +kernel, by decide⟩)
theorem mi_look {w : Int32} (hF : XF h) (hm : mI h t ou o le pl rn uc uf us)
    (hA : (∀ k, k ≤ 14 → w ≠ nI k) → ∀ h', mO h h' 1 t ou o le pl rn uc uf us → post (some (.int (nI 0))) h')
    (hC : ∀ k C F G, w = nI k → k ≤ 14 → bnO o C F G → ∀ h', mO h h' 0 t ou o le pl rn uc uf us → post (some (.int (lkV o C F G t.length ou.length uc uf us le rn pl k))) h') :
    xm_T (XE sc) (d + 3) 252 [.ref 102, .int w] h post := by
  obtain ⟨g1, g2, g3, g4, g5, g6⟩ := hm.2.2.2.2.2.2
  exact sp_mlook hF hm.2.2.2.1 hm.1.1 hm.2.2.1 g1 g3 g4 g5 g6 g2 (fun z => hA z _ (mO_0 hm)) (fun k C F G e1 e2 e3 => hC k C F G e1 e2 e3 _ (mO_0 hm))
theorem mi_out {p : Int32} (hF : XF h) (hm : mI h t ou o le pl rn uc uf us)
    (hA : ¬ (0 ≤ p ∧ p < nI ou.length) → ∀ h', mO h h' 1 t ou o le pl rn uc uf us → post (some (.long (lN 0))) h') (hC : ∀ k, p = nI k → k < ou.length → ∀ h', mO h h' 0 t ou o le pl rn uc uf us → post (some (.long (oq (fun i => nI (ou.getD (k + i) 0)) 8))) h') :
    xm_T (XE sc) (d + 2) 274 [.ref 102, .int p] h post := by
  have hr := hm.2.1
  refine sp_mout hF hm.2.2.1 hr.2.2 (fun z => hA z _ (mO_0 hm)) (fun k e1 e2 => ?_)
  have : oq (fun i => if k + i < ou.length then h.1 104 (k + i) else nI 0) 8 = oq (fun i => nI (ou.getD (k + i) 0)) 8 := oq_congr (fun i hi => by
    by_cases z : k + i < ou.length
    · rw [if_pos z, hr.1 _ z]
    · rw [if_neg z, List.getD_eq_getElem?_getD, List.getElem?_eq_none (by omega)]; rfl) 8 (Nat.le_refl _)
  rw [this]
  exact hC k e1 e2 _ (mO_0 hm)
theorem cp_fr {a b n : Nat} {v : Value} (hc : mt_cp (xm_sf h 102 0 v) h' a b n) {j : Nat} {w : Value} : Fr [a] [(102, 0), (102, j)] h (xm_sf h' 102 j w) := by
  obtain ⟨c1, c2, c3, c4⟩ := hc
  have f : Fr [a] [(102, 0)] h h' := by
    refine ⟨fun c hc => c3 c (by simpa using hc), fun c _ => congrFun c1 c, fun c j hc => ?_⟩
    rw [c2]
    by_cases e : c = 102
    · subst e
      exact xq_ff (fun z => hc (by simp [z]))
    · exact xq_fo e
  exact Fr_sf ⟨f.1, f.2.1, fun c i hc => f.2.2 c i (fun z => hc (by simp at z ⊢; exact Or.inl z))⟩ (by simp)
theorem mi_again (hF : XF h) (hm : mI h t ou o le pl rn uc uf us) (hC : ∀ h', mI h' ou ou o le pl rn uc uf us → Fm h h' → post (some (.int (nI ou.length))) h') : xm_T (XE sc) (d + 1) 200 [.ref 102] h post := by
  have hr := hm.2.1
  refine sp_magain hF hm.2.2.1 hr.2.2 (fun h' hc => ?_)
  have f := cp_fr hc (j := 2) (w := .int (nI ou.length))
  have e : ∀ i, i < ou.length → h'.1 103 i = nI (ou.getD i 0) := fun i hi => by rw [hc.2.2.2 i hi]; exact hr.1 i hi
  exact hC _ (mI_up hm f (by decide) ⟨by simp only [xf_same], e, hr.2⟩ (mrow_fr hr f (by decide)) (by rw [f.2.2 _ _ (by decide)]; exact hm.2.2.1) (mG_fr hm.2.2.2.2.2.2 f (by decide))) ⟨_, _, f, by decide, by decide +kernel, by decide⟩
theorem mi_write (hF : XF h) (hm : mI h t ou o le pl rn uc uf us)
    (hA : o = none → ∀ h', mO h h' 1 t ou o le pl rn uc uf us → post (some (.int (nI 0))) h')
    (hC : ∀ q, o = some q → ∀ h', mO h h' 0 t q.1 o le pl rn uc uf us → post (some (.int (nI q.1.length))) h') :
    xm_T (XE sc) (d + 1) 322 [.ref 102] h post := by
  obtain ⟨n, n1, n2⟩ := hm.2.2.2.2.2.1
  obtain ⟨c1, c2⟩ := mPg_c hm.2.2.2.1
  refine sp_mwrite hF c1 (by omega) n2 n1 (fun z => ?_) (fun z h' hc => ?_)
  · cases o with
    | none => exact hA rfl _ (mO_0 hm)
    | some q =>
      obtain ⟨l, ps, a, S, T⟩ := q
      have h1 : 1 ≤ ps.length := hm.2.2.2.1.2.1
      have h2 : ps.length = 0 := z
      omega
  · cases o with
    | none => exact absurd rfl z
    | some q =>
      obtain ⟨l, ps, a, S, T⟩ := q
      have hP : PK h l ps a S T := hm.2.2.2.1
      have e32 := hP.2.2.2.2.2.2.1
      have hr : mrow h 128 l := hP.2.2.2.2.2.2.2.1
      have el : n = l.length := by
        rw [e32] at n2
        have := hr.2.2
        exact ((nI_eq (by omega) (by omega)).mp (Value.int.inj n2)).symm
      subst el
      have f := cp_fr hc (j := 4) (w := .int (nI l.length))
      have e : ∀ i, i < l.length → h'.1 104 i = nI (l.getD i 0) := fun i hi => by rw [hc.2.2.2 i hi]; exact hr.1 i hi
      refine hC (l, ps, a, S, T) rfl _ ⟨?_, mI_up hm f (by decide) (mtp_f2 hm.1 f (by decide) (by decide)) ⟨e, hr.2⟩ (by simp only [xf_same]) (mG_fr hm.2.2.2.2.2.2 f (by decide)), _, _, f, by decide, by decide +kernel, by decide⟩
      rw [xq_ff (by decide), hc.2.1]
      simp only [xf_same]
end RM
