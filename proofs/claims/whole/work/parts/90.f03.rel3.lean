/-! ===== the class's run, load, say, on its state ===== -/
theorem dI_ld {SS : List Nat} {TT : List (Nat × Nat)} {h h' : xm_H} {G : Nat → gN} {c : Nat} (hI : dI h G c) (hf : Fr SS TT h h') (hr : ndS [28, 29, 30, 31] SS = true) (ht : (22, 9) ∉ TT) (hc : ∀ x i, 400 ≤ i → x ∈ ciR → h'.1 x i = h.1 x i) : dI h' G c := by
  obtain ⟨⟨⟨g1, g2, g3, g4⟩, c2, c3, c4, c5⟩, d2, d3⟩ := hI
  have e28 : h'.1 28 = h.1 28 := hf.1 _ (ndS_m hr (by simp))
  have e29 : h'.1 29 = h.1 29 := hf.1 _ (ndS_m hr (by simp))
  have e30 : h'.1 30 = h.1 30 := hf.1 _ (ndS_m hr (by simp))
  have e31 : h'.1 31 = h.1 31 := hf.1 _ (ndS_m hr (by simp))
  refine ⟨⟨⟨by rw [hf.2.2 _ _ ht]; exact g1, g2, g3, fun n h1 h2 => ⟨(g4 n h1 h2).1, ?_⟩⟩, by rw [e31]; exact c2, by rw [e31, e28]; exact c3, by omega, by simp⟩, by rw [e28]; exact d2, fun n hn => by rw [e28]; exact d3 n hn⟩
  have := (g4 n h1 h2).2
  unfold gR at this ⊢
  rw [hc 23 n h1 (by simp [ciR]), hc 24 n h1 (by simp [ciR]), hc 25 n h1 (by simp [ciR]), hc 26 n h1 (by simp [ciR]), hc 27 n h1 (by simp [ciR]), e29, e30]
  exact this
def rnK (pp : Nat) (SS : List Nat) (TT : List (Nat × Nat)) : Bool := pgK pp SS TT && (ndS [10, 16, 17, 18, 41, 42, 43] SS && ndT [(7, 9), (0, 9), (0, 10), (40, 4), (40, 5), (40, 6)] TT)
section RX
variable {sc : xm_Sc} {d : Nat} {SS : List Nat} {TT : List (Nat × Nat)} {h h' : xm_H} {pp qq W : Nat} {t ou t' ou' : List Nat} {o : Option PgD} {le pl rn le' pl' rn' : Int32} {uc uf us uc' uf' us' : Nat} {post : xm_Po} {px : String → xm_H → Prop}
theorem xI_rn {G : Nat → gN} {c : Nat} (hx : xI h pp qq W t ou o le pl rn uc uf us) (hF : XF h') (hf : Fr SS TT h h') (hw : wKp h h') (hd : dI h' G c) (hk : rnK pp SS TT = true) (ht : rowIs h' 1 2 t') (ho : rowIs h' 3 4 ou') (hg : xG h' le' pl' rn' uc' uf' us') : xI h' pp qq W t' ou' o le' pl' rn' uc' uf' us' := by
  unfold rnK at hk
  rw [Bool.and_eq_true, Bool.and_eq_true] at hk
  obtain ⟨k1, k2, k3⟩ := hk
  obtain ⟨⟨x1, x2, x3, x4, x5, x6, x7, x8, lp, x9⟩, y2, y3, y4, y5⟩ := hx
  exact ⟨⟨hF, x2, by rw [hf.2.2 _ _ (ndT_m k3 (by simp))]; exact x3, by rw [hf.2.2 _ _ (ndT_m k3 (by simp))]; exact x4, xPg_fk x5 hf k1 hw (ndS_m k2 (by simp)) (ndS_m k2 (by simp)) (ndT_m k3 (by simp)) (ndT_m k3 (by simp)), fxA_fr x6 hf (ndS_m k2 (by simp)) (ndS_m k2 (by simp)) (ndS_m k2 (by simp)), lvI_fr x7 hf (ndS_m k2 (by simp)) (ndT_m k3 (by simp)), ⟨G, c, hd⟩, lp, rowIs_fr x9 hf (pgK_r k1 (by simp [pgR])) (pgK_t k1 (by simp [pgT])) (pgK_t k1 (by simp [pgT]))⟩, ht, ho, ordI_fr y4 hf (ndS_m k2 (by simp)) (ndT_m k3 (by simp)), hg⟩
theorem xi_run {st ce : Int32} {df : Nat} (hx : xI h pp qq W t ou o le pl rn uc uf us) (hdf : df < 2)
    (hA : (st < nI 1 ∨ ¬ nI 1 ≤ ce) → px "java/lang/IllegalArgumentException" h) (hS : ¬ st < nI 1 → nI 1 ≤ ce → o = none → px "java/lang/IllegalStateException" h)
    (p4 : ∀ q s k, o = some q → st = nI s → ce = nI k → 1 ≤ s → s < 2147483648 → 1 ≤ k → k < 2147483648 → ¬ vOK t (qS q) → ∀ h', xI h' pp qq W [] ou o le pl rn uc uf us → Fr (wsR pp) (tpT ++ wsT pp) h h' → post (some (.int (-4))) h')
    (p2 : ∀ q s k, o = some q → st = nI s → ce = nI k → 1 ≤ s → s < 2147483648 → 1 ≤ k → k < 2147483648 → vOK t (qS q) → ∀ C F B, bnd q.2.1 q.2.2.2.1 q.2.2.2.2 C F B q.2.1.length → rnX q C B s k → ∀ h', xI h' pp qq W [] ou o le pl rn uc uf us → Fr (wsR pp) (tpT ++ wsT pp) h h' → post (some (.int (-2))) h')
    (p1 : ∀ q s k, o = some q → st = nI s → ce = nI k → 1 ≤ s → s < 2147483648 → 1 ≤ k → k < 2147483648 → vOK t (qS q) → ∀ C F B, bnd q.2.1 q.2.2.2.1 q.2.2.2.2 C F B q.2.1.length → ¬ rnX q C B s k → rnE q t = none → ∀ h', xI h' pp qq W [] ou o le pl rn uc uf us → Fr (wsR pp) (tpT ++ wsT pp) h h' → post (some (.int (-1))) h')
    (p0 : ∀ q s k, o = some q → st = nI s → ce = nI k → 1 ≤ s → s < 2147483648 → 1 ≤ k → k < 2147483648 → vOK t (qS q) → ∀ C F B, bnd q.2.1 q.2.2.2.1 q.2.2.2.2 C F B q.2.1.length → ¬ rnX q C B s k → ∀ x z m e, rnE q t = some (x, z, m, e) → ∀ h', xI h' pp qq W [] (pkL (x.map Bool.toNat)) o le pl (rn + nI 1) (if df = 0 then ty_w (qS q) + ty_w (qT q) + m else uc) (if df = 0 then 2 + e else uf) (if df = 0 then min 2147483647 z else us) → Fr (weR pp) (tpT ++ weT pp) h h' → post (some (.int (nI ((ty_w (qT q) + 7) / 8)))) h') :
    xm_goX (XE sc) (xm_T (XE sc) (d + 53)) 188 post tw_X11_run px 0 [(0, .ref 0), (1, .int st), (2, .int ce), (3, .int (nI df))] [] h := by
  have hpp := xI_pp hx
  obtain ⟨g1, g2, g3, g4, g5, g6⟩ := hx.2.2.2.2
  obtain ⟨G, c, hd⟩ := hx.1.2.2.2.2.2.2.2.1
  have up : ∀ h' G' c', XF h' → Fr (wsR pp) (tpT ++ wsT pp) h h' → wKp h h' → dI h' G' c' → rowIs h' 1 2 [] → xI h' pp qq W [] ou o le pl rn uc uf us := fun h' G' c' F' f' w' d' r' => xI_rn hx F' f' w' d' (by rcases hpp with rfl | rfl <;> decide +kernel) r' (rowIs_fr hx.2.2.1 f' (by rcases hpp with rfl | rfl <;> decide) (by rcases hpp with rfl | rfl <;> decide) (by rcases hpp with rfl | rfl <;> decide)) (xG_fr hx.2.2.2.2 f' (by rcases hpp with rfl | rfl <;> decide))
  refine sp_xrun (rn := rn) hx.1.1 hpp hx.1.2.2.1 g3 hx.1.2.2.2.2.1 hx.2.1 hd hdf hA hS (fun q s k e1 e2 e3 e4 e5 e6 e7 e8 h' F' f' w' d' r' => p4 q s k e1 e2 e3 e4 e5 e6 e7 e8 h' (up h' G c F' f' w' d' r') f') (fun q s k e1 e2 e3 e4 e5 e6 e7 e8 C F B b1 b2 h' F' f' w' d' r' => p2 q s k e1 e2 e3 e4 e5 e6 e7 e8 C F B b1 b2 h' (up h' G c F' f' w' d' r') f') (fun q s k e1 e2 e3 e4 e5 e6 e7 e8 C F B b1 b2 b3 h' G' c' F' f' w' d' r' => p1 q s k e1 e2 e3 e4 e5 e6 e7 e8 C F B b1 b2 b3 h' (up h' G' c' F' f' w' d' r') f') (fun q s k e1 e2 e3 e4 e5 e6 e7 e8 C F B b1 b2 x z m e b3 b4 b5 h' G' c' F' f' w' d' r' o' n12 k0 k1 => p0 q s k e1 e2 e3 e4 e5 e6 e7 e8 C F B b1 b2 x z m e b3 h' ?_ f')
  have q11 : (0, 11) ∉ tpT ++ weT pp ∧ (0, 16) ∉ tpT ++ weT pp := by rcases hpp with rfl | rfl <;> decide
  refine xI_rn hx F' f' w' d' (by rcases hpp with rfl | rfl <;> decide +kernel) r' o' ⟨by rw [f'.2.2 _ _ q11.1]; exact g1, by rw [f'.2.2 _ _ q11.2]; exact g2, n12, ?_⟩
  by_cases z0 : df = 0
  · rw [if_pos z0, if_pos z0, if_pos z0]
    exact k0 z0
  · rw [if_neg z0, if_neg z0, if_neg z0]
    obtain ⟨a1, a2, a3⟩ := k1 (by omega)
    exact ⟨by rw [a1]; exact g4, by rw [a2]; exact g5, by rw [a3]; exact g6⟩
theorem xi_load (hx : xI h pp qq W t ou o le pl rn uc uf us) (hW : W < 1000000)
    (hp1 : ∀ h' f ps a S T W', f ≠ 0 → f ≤ 12 → LdF t f ps a S T → W' ≤ W + 1 → xI h' pp qq W' [] ou o (nI f) pl rn uc uf us → Fr (xlR qq) (xlT qq) h h' → post (some (.int (nI f))) h')
    (hp0 : ∀ h' ps a S T W', LdF t 0 ps a S T → W' ≤ W + 1 → PG h' qq t ps a S T → xI h' qq pp W' [] ou (some (t, ps, a, S, T)) (nI 0) pl rn uc uf us → Fr (xlR qq) (xlT qq) h h' → post (some (.int (nI 0))) h') :
    xm_T (XE sc) (d + 8) 181 [.ref 0] h post := by
  have hpp := xI_pp hx
  have hqq : qq = 52 ∨ qq = 77 := by rcases hx.1.2.1 with z | z <;> omega
  obtain ⟨⟨x1, x2, x3, x4, x5, x6, x7, ⟨G, c, x8⟩, lp, x9⟩, y2, y3, y4, ⟨g1, g2, g3, g4, g5, g6⟩⟩ := hx
  have sub : ∀ q ∈ lgT qq ++ [(0, 11), (1, 1), (1, 2), (1, 3)], q ∈ xlT qq := by intro q hq; simp [xlT] at hq ⊢; rcases hq with z | z | z | z | z <;> simp [z]
  refine sp_xload x1 hqq hpp y2 x6 y4 hW x3 x4 (fun h' f ps a S T W' e1 e2 f1 hL A1 O1 w1 e11 r1 => ?_) (fun h' ps a S T W' f1 hL A1 O1 w1 e11 r1 hP hci e9 e10 e45 e46 => ?_)
  · have kk : pgK pp (lgR qq) (lgT qq ++ [(0, 11), (1, 1), (1, 2), (1, 3)]) = true := by rcases x2 with ⟨rfl, rfl⟩ | ⟨rfl, rfl⟩ <;> decide
    have n1 : ndS [4, 23, 24, 25, 26, 27, 28, 29, 30, 31, 41, 42, 43] (lgR qq) = true := by rcases hqq with rfl | rfl <;> decide
    have n2 : ndT [(0, 9), (0, 10), (0, 12), (0, 13), (0, 14), (0, 15), (0, 16), (3, 0), (3, 1), (22, 9), (40, 4), (40, 5), (40, 6)] (lgT qq ++ [(0, 11), (1, 1), (1, 2), (1, 3)]) = true := by rcases hqq with rfl | rfl <;> decide
    have n3 : xt_fin.all (fun q => !((lgT qq ++ [(0, 11), (1, 1), (1, 2), (1, 3)]).contains (q.1, q.2.1))) = true := by rcases hqq with rfl | rfl <;> decide +kernel
    have F' := Fr_XF x1 f1 n3
    refine hp1 h' f ps a S T W' e1 e2 hL w1 ⟨⟨F', x2, by rw [f1.2.2 _ _ (ndT_m n2 (by simp))]; exact x3, by rw [f1.2.2 _ _ (ndT_m n2 (by simp))]; exact x4, xPg_fk x5 f1 kk (fun r j _ hr => by rw [f1.1 r (ndS_m n1 (by simp [gRw] at hr; simp; omega))]) (ndS_m n1 (by simp)) (ndS_m n1 (by simp)) (ndT_m n2 (by simp)) (ndT_m n2 (by simp)), A1, lvI_fr x7 f1 (ndS_m n1 (by simp)) (ndT_m n2 (by simp)), ⟨G, c, dI_fr x8 f1 (fun r hr => ndS_m n1 (by simp at hr; simp; omega)) (ndT_m n2 (by simp))⟩, lp, rowIs_fr x9 f1 (pgK_r kk (by simp [pgR])) (pgK_t kk (by simp [pgT])) (pgK_t kk (by simp [pgT]))⟩, r1, rowIs_fr y3 f1 (ndS_m n1 (by simp)) (ndT_m n2 (by simp)) (ndT_m n2 (by simp)), O1, e11, ?_, ?_, ?_, ?_, ?_⟩ (Fr_mo f1 (fun c hc => by unfold xlR; exact List.mem_append_left _ hc) sub)
    · rw [f1.2.2 _ _ (ndT_m n2 (by simp))]; exact g2
    · rw [f1.2.2 _ _ (ndT_m n2 (by simp))]; exact g3
    · rw [f1.2.2 _ _ (ndT_m n2 (by simp))]; exact g4
    · rw [f1.2.2 _ _ (ndT_m n2 (by simp))]; exact g5
    · rw [f1.2.2 _ _ (ndT_m n2 (by simp))]; exact g6
  · have n1 : ndS [4, 28, 29, 30, 31, 43] (xlR qq) = true := by rcases hqq with rfl | rfl <;> decide
    have n2 : ndT [(0, 12), (0, 13), (0, 14), (0, 15), (0, 16), (3, 0), (3, 1), (22, 9), (40, 4)] (xlT qq) = true := by rcases hqq with rfl | rfl <;> decide
    have F' := Fr_XF x1 f1 (xl_fin hqq)
    have hN := hP.1.2.2.1
    refine hp0 h' ps a S T W' hL w1 hP ⟨⟨F', by rcases x2 with z | z; exact Or.inr ⟨z.2, z.1⟩; exact Or.inl ⟨z.2, z.1⟩, e9, e10, ⟨hP, Or.inl e45, Or.inl e46⟩, A1, lvI_fr x7 f1 (ndS_m n1 (by simp)) (ndT_m n2 (by simp)), ⟨G, c, dI_ld x8 f1 (by rcases hqq with rfl | rfl <;> decide) (ndT_m n2 (by simp)) (fun x i hi hx => hci x i (by omega) hx)⟩, t, hP.1.2.2.2.2.1⟩, r1, rowIs_fr y3 f1 (ndS_m n1 (by simp)) (ndT_m n2 (by simp)) (ndT_m n2 (by simp)), O1, e11, ?_, ?_, ?_, ?_, ?_⟩ f1
    · rw [f1.2.2 _ _ (ndT_m n2 (by simp))]; exact g2
    · rw [f1.2.2 _ _ (ndT_m n2 (by simp))]; exact g3
    · rw [f1.2.2 _ _ (ndT_m n2 (by simp))]; exact g4
    · rw [f1.2.2 _ _ (ndT_m n2 (by simp))]; exact g5
    · rw [f1.2.2 _ _ (ndT_m n2 (by simp))]; exact g6
theorem xi_say (hx : xI h pp qq W t ou o le pl rn uc uf us) (hW : W + 4000 < 1000000)
    (hp1 : ∀ h' a f bl W', a ≠ 0 → a < 2000 → SyF t a f bl → 5 * W' ≤ 5 * W + t.length + 10 → xI h' pp qq W' [] ou o le (nI f) rn uc uf us → Fr (4 :: saR qq) ((3, 1) :: (3, 2) :: (3, 3) :: saT qq) h h' → post (some (.int (nI a))) h')
    (hp0 : ∀ h' f bl W', SyF t 0 f bl → 5 * W' ≤ 5 * W + t.length + 10 → xI h' pp qq W' [] (pkL bl) o le (nI f) rn uc uf us → Fr (4 :: saR qq) ((3, 1) :: (3, 2) :: (3, 3) :: saT qq) h h' → post (some (.int (nI 0))) h') :
    xm_T (XE sc) (d + 9) 189 [.ref 0] h post := by
  have hpp := xI_pp hx
  have hqq : qq = 52 ∨ qq = 77 := by rcases hx.1.2.1 with z | z <;> omega
  obtain ⟨⟨x1, x2, x3, x4, x5, x6, x7, ⟨G, c, x8⟩, lp, x9⟩, y2, y3, y4, ⟨g1, g2, g3, g4, g5, g6⟩⟩ := hx
  have kk : pgK pp (4 :: saR qq) ((3, 1) :: (3, 2) :: (3, 3) :: saT qq) = true := by rcases x2 with ⟨rfl, rfl⟩ | ⟨rfl, rfl⟩ <;> decide
  have n1 : ndS [23, 24, 25, 26, 27, 28, 29, 30, 31, 41, 42, 43] (4 :: saR qq) = true := by rcases hqq with rfl | rfl <;> decide
  have n2 : ndT [(0, 9), (0, 10), (0, 11), (0, 12), (0, 13), (0, 14), (0, 15), (22, 9), (40, 4), (40, 5), (40, 6)] ((3, 1) :: (3, 2) :: (3, 3) :: saT qq) = true := by rcases hqq with rfl | rfl <;> decide
  have n3 : xt_fin.all (fun q => !(((3, 1) :: (3, 2) :: (3, 3) :: saT qq).contains (q.1, q.2.1))) = true := by rcases hqq with rfl | rfl <;> decide +kernel
  have up : ∀ h' f ou' W', Fr (4 :: saR qq) ((3, 1) :: (3, 2) :: (3, 3) :: saT qq) h h' → fxA h' → ordI h' W' → h'.2.2 0 16 = .int (nI f) → rowIs h' 1 2 [] → rowIs h' 3 4 ou' → xI h' pp qq W' [] ou' o le (nI f) rn uc uf us := fun h' f ou' W' f1 A1 O1 e16 r1 r2 => by
    refine ⟨⟨Fr_XF x1 f1 n3, x2, by rw [f1.2.2 _ _ (ndT_m n2 (by simp))]; exact x3, by rw [f1.2.2 _ _ (ndT_m n2 (by simp))]; exact x4, xPg_fk x5 f1 kk (fun r j _ hr => by rw [f1.1 r (ndS_m n1 (by simp [gRw] at hr; simp; omega))]) (ndS_m n1 (by simp)) (ndS_m n1 (by simp)) (ndT_m n2 (by simp)) (ndT_m n2 (by simp)), A1, lvI_fr x7 f1 (ndS_m n1 (by simp)) (ndT_m n2 (by simp)), ⟨G, c, dI_fr x8 f1 (fun r hr => ndS_m n1 (by simp at hr; simp; omega)) (ndT_m n2 (by simp))⟩, lp, rowIs_fr x9 f1 (pgK_r kk (by simp [pgR])) (pgK_t kk (by simp [pgT])) (pgK_t kk (by simp [pgT]))⟩, r1, r2, O1, ?_, e16, ?_, ?_, ?_, ?_⟩
    · rw [f1.2.2 _ _ (ndT_m n2 (by simp))]; exact g1
    · rw [f1.2.2 _ _ (ndT_m n2 (by simp))]; exact g3
    · rw [f1.2.2 _ _ (ndT_m n2 (by simp))]; exact g4
    · rw [f1.2.2 _ _ (ndT_m n2 (by simp))]; exact g5
    · rw [f1.2.2 _ _ (ndT_m n2 (by simp))]; exact g6
  have q4 : 4 ∉ saR qq ∧ (3, 0) ∉ saT qq ∧ (3, 1) ∉ saT qq := by rcases hqq with rfl | rfl <;> decide
  refine sp_xsay hqq x1 x4 y2 x6 y4 hW (fun h' a f bl W' e1 e2 hS f1 A1 O1 w1 e16 r1 => ?_) (fun h' f bl W' hS f1 A1 O1 w1 e16 r1 r2 => hp0 h' f bl W' hS w1 (up h' f _ W' f1 A1 O1 e16 r1 r2) f1)
  have f2 : Fr (4 :: saR qq) ((3, 1) :: (3, 2) :: (3, 3) :: saT qq) h h' := Fr_mo f1 (fun _ z => List.mem_cons_of_mem _ z) (fun _ z => List.mem_cons_of_mem _ (List.mem_cons_of_mem _ (List.mem_cons_of_mem _ z)))
  exact hp1 h' a f bl W' e1 e2 hS w1 (up h' f ou W' f2 A1 O1 e16 r1 (rowIs_fr y3 f1 q4.1 q4.2.1 q4.2.2)) f2
end RX
