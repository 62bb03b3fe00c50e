/-! ===== the reference's run, say, on its state ===== -/
section RM
variable {sc : xm_Sc} {d : Nat} {h h' : xm_H} {t ou : List Nat} {o : Option PgD} {le pl rn : Int32} {uc uf us : Nat} {post : xm_Po}
theorem mi_run {st ce : Int32} {df : Nat} (hF : XF h) (hm : mI h t ou o le pl rn uc uf us) (hdf : df < 2)
    (hA : (st < nI 1 ∨ ¬ nI 1 ≤ ce) → ∀ h', mO h h' 1 t ou o le pl rn uc uf us → post (some (.int (nI 0))) h') (hS : ¬ st < nI 1 → nI 1 ≤ ce → o = none → ∀ h', mO h h' 2 t ou o le pl rn uc uf us → post (some (.int (nI 0))) h')
    (p4 : ∀ q s k, o = some q → st = nI s → ce = nI k → 1 ≤ s → s < 2147483648 → 1 ≤ k → k < 2147483648 → ¬ vOK t (qS q) → ∀ h', mO h h' 0 [] ou o le pl rn uc uf us → post (some (.int (-4))) h')
    (p2 : ∀ q s k, o = some q → st = nI s → ce = nI k → 1 ≤ s → s < 2147483648 → 1 ≤ k → k < 2147483648 → vOK t (qS q) → ∀ C F B, bnd q.2.1 q.2.2.2.1 q.2.2.2.2 C F B q.2.1.length → rnX q C B s k → ∀ h', mO h h' 0 [] ou o le pl rn uc uf us → post (some (.int (-2))) h')
    (p1 : ∀ q s k, o = some q → st = nI s → ce = nI k → 1 ≤ s → s < 2147483648 → 1 ≤ k → k < 2147483648 → vOK t (qS q) → ∀ C F B, bnd q.2.1 q.2.2.2.1 q.2.2.2.2 C F B q.2.1.length → ¬ rnX q C B s k → rnE q t = none → ∀ h', mO h h' 0 [] ou o le pl rn uc uf us → post (some (.int (-1))) h')
    (p0 : ∀ q s k, o = some q → st = nI s → ce = nI k → 1 ≤ s → s < 2147483648 → 1 ≤ k → k < 2147483648 → vOK t (qS q) → ∀ C F B, bnd q.2.1 q.2.2.2.1 q.2.2.2.2 C F B q.2.1.length → ¬ rnX q C B s k → ∀ x z m e, rnE q t = some (x, z, m, e) → ∀ h', mO h h' 0 [] (pkL (x.map Bool.toNat)) o le pl (rn + nI 1) (if df = 0 then ty_w (qS q) + ty_w (qT q) + m else uc) (if df = 0 then 2 + e else uf) (if df = 0 then min 2147483647 z else us) → post (some (.int (nI ((ty_w (qT q) + 7) / 8)))) h') :
    xm_T (XE sc) (d + 8) 290 [.ref 102, .int st, .int ce, .int (nI df)] h post := by
  obtain ⟨g1, g2, g3, g4, g5, g6⟩ := hm.2.2.2.2.2.2
  have up : ∀ h', Fr msR msT h h' → h'.2.2 102 0 = .int (nI 0) → h'.2.2 102 2 = .int (nI 0) → mO h h' 0 [] ou o le pl rn uc uf us := fun h' f e5 e6 => ⟨e5, mI_up hm f (by decide) (mtp_nil e6) (mrow_fr hm.2.1 f (by decide)) (by rw [f.2.2 _ _ (by decide)]; exact hm.2.2.1) (mG_fr hm.2.2.2.2.2.2 f (by decide)), _, _, f, by decide, by decide +kernel, by decide⟩
  refine sp_mrun (rn := rn) hF hm.2.2.2.1 hm.1.2 hm.1.1 g3 hdf (fun z => hA z _ (mO_0 hm)) (fun z1 z2 z3 => hS z1 z2 z3 _ (mO_0 hm)) (fun q s k e1 e2 e3 e4 e5 e6 e7 e8 h' F' f' w0 w2 => p4 q s k e1 e2 e3 e4 e5 e6 e7 e8 h' (up h' f' w0 w2)) (fun q s k e1 e2 e3 e4 e5 e6 e7 e8 C F B b1 b2 h' F' f' w0 w2 => p2 q s k e1 e2 e3 e4 e5 e6 e7 e8 C F B b1 b2 h' (up h' f' w0 w2)) (fun q s k e1 e2 e3 e4 e5 e6 e7 e8 C F B b1 b2 b3 h' F' f' w0 w2 => p1 q s k e1 e2 e3 e4 e5 e6 e7 e8 C F B b1 b2 b3 h' (up h' f' w0 w2)) (fun q s k e1 e2 e3 e4 e5 e6 e7 e8 C F B b1 b2 x z m e b3 b4 h' F' f' w0 w2 o' o4 n35 k0 k1 => p0 q s k e1 e2 e3 e4 e5 e6 e7 e8 C F B b1 b2 x z m e b3 h' ?_)
  have el : (pkL (x.map Bool.toNat)).length = (ty_w (qT q) + 7) / 8 := by rw [pkL_len, List.length_map, b4]
  refine ⟨w0, mI_up hm f' (by decide) (mtp_nil w2) o' (by rw [el]; exact o4) ⟨by rw [f'.2.2 _ _ (by decide)]; exact g1, by rw [f'.2.2 _ _ (by decide)]; exact g2, n35, ?_⟩, _, _, f', by decide, by decide +kernel, by decide⟩
  by_cases z0 : df = 0
  · rw [if_pos z0, if_pos z0, if_pos z0]
    exact k0 z0
  · rw [if_neg z0, if_neg z0, if_neg z0]
    obtain ⟨a1, a2, a3⟩ := k1 (by omega)
    exact ⟨by rw [a1]; exact g4, by rw [a2]; exact g5, by rw [a3]; exact g6⟩
theorem mi_say (hF : XF h) (hm : mI h t ou o le pl rn uc uf us)
    (hp1 : ∀ h' a f bl, a ≠ 0 → a < 2000 → SyF t a f bl → mI h' [] ou o le (nI f) rn uc uf us → Fm h h' → post (some (.int (nI a))) h')
    (hp0 : ∀ h' f bl, SyF t 0 f bl → mI h' [] (pkL bl) o le (nI f) rn uc uf us → Fm h h' → post (some (.int (nI 0))) h') :
    xm_T (XE sc) (d + 10) 291 [.ref 102] h post := by
  obtain ⟨g1, g2, g3, g4, g5, g6⟩ := hm.2.2.2.2.2.2
  refine sp_msay hF hm.1 hm.2.2.2.2.1 (fun h' a f bl e1 e2 hS f1 kp e36 e0 e02 => ?_) (fun h' f bl hS f1 kp e36 e0 e02 r1 e4 => ?_)
  · refine hp1 h' a f bl e1 e2 hS (mI_ks hm f1 (by decide) kp (f1.2.2 _ _ (by decide)) (mtp_nil e02) (mrow_fr hm.2.1 f1 (by decide)) (by rw [f1.2.2 _ _ (by decide)]; exact hm.2.2.1) ⟨?_, e36, ?_, ?_, ?_, ?_⟩) ⟨_, _, f1, by decide, by decide +kernel, by decide⟩
    · rw [f1.2.2 _ _ (by decide)]; exact g1
    · rw [f1.2.2 _ _ (by decide)]; exact g3
    · rw [f1.2.2 _ _ (by decide)]; exact g4
    · rw [f1.2.2 _ _ (by decide)]; exact g5
    · rw [f1.2.2 _ _ (by decide)]; exact g6
  · refine hp0 h' f bl hS (mI_ks hm f1 (by decide) kp (f1.2.2 _ _ (by decide)) (mtp_nil e02) r1 e4 ⟨?_, e36, ?_, ?_, ?_, ?_⟩) ⟨_, _, f1, by decide, by decide +kernel, by decide⟩
    · rw [f1.2.2 _ _ (by decide)]; exact g1
    · rw [f1.2.2 _ _ (by decide)]; exact g3
    · rw [f1.2.2 _ _ (by decide)]; exact g4
    · rw [f1.2.2 _ _ (by decide)]; exact g5
    · rw [f1.2.2 _ _ (by decide)]; exact g6
end RM
