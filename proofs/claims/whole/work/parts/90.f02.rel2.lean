/-! ===== the class's calls, on its state ===== -/
def feL (v : Int64) (m : Nat) : List Nat := (List.range m).map (xb v)
theorem feL_len (v : Int64) (m : Nat) : (feL v m).length = m := by simp [feL]
theorem feL_get {v : Int64} {m i : Nat} (h : i < m) : (feL v m).getD i 0 = xb v i := by
  simp [feL, List.getD_eq_getElem?_getD, List.getElem?_map, List.getElem?_range h]
theorem gN_r {a b : List Nat} {i : Nat} : (a ++ b).getD (a.length + i) 0 = b.getD i 0 := bg_r
def upK (pp : Nat) (SS : List Nat) (TT : List (Nat × Nat)) : Bool := pgK pp SS TT && (ndS (10 :: xcR) SS && (ndT ((7, 9) :: xcT) TT && finK TT))
section RX
variable {sc : xm_Sc} {d : Nat} {SS : List Nat} {TT : List (Nat × Nat)} {h h' : xm_H} {pp qq W : Nat} {t ou t' ou' : List Nat} {o : Option PgD} {le pl rn le' pl' rn' : Int32} {uc uf us uc' uf' us' : Nat} {post : xm_Po} {px : String → xm_H → Prop}
theorem xI_pp (hx : xI h pp qq W t ou o le pl rn uc uf us) : pp = 52 ∨ pp = 77 := by rcases hx.1.2.1 with z | z <;> omega
theorem ndS_tl {c : Nat} {A S : List Nat} (h : ndS (c :: A) S = true) : c ∉ S ∧ ndS A S = true := by
  refine ⟨ndS_m h List.mem_cons_self, List.all_eq_true.mpr (fun x hx => ?_)⟩
  exact List.all_eq_true.mp h x (List.mem_cons_of_mem _ hx)
theorem ndT_tl {c : Nat × Nat} {A S : List (Nat × Nat)} (h : ndT (c :: A) S = true) : c ∉ S ∧ ndT A S = true := by
  refine ⟨ndT_m h List.mem_cons_self, List.all_eq_true.mpr (fun x hx => ?_)⟩
  exact List.all_eq_true.mp h x (List.mem_cons_of_mem _ hx)
theorem xI_up (hx : xI h pp qq W t ou o le pl rn uc uf us) (hf : Fr SS TT h h') (hk : upK pp SS TT = true) (ht : rowIs h' 1 2 t') (ho : rowIs h' 3 4 ou') (hg : xG h' le' pl' rn' uc' uf' us') : xI h' pp qq W t' ou' o le' pl' rn' uc' uf' us' := by
  unfold upK at hk
  rw [Bool.and_eq_true, Bool.and_eq_true, Bool.and_eq_true] at hk
  obtain ⟨k1, k2, k3, k4⟩ := hk
  exact ⟨xC_fr hx.1 hf k1 (ndS_tl k2).2 (ndT_tl k3).2 k4, ht, ho, ordI_fr hx.2.2.2.1 hf (ndS_tl k2).1 (ndT_tl k3).1, hg⟩
theorem rw_app {v : Int64} {m : Nat} (hr : rowIs h 1 2 t) (ha : tp_app h h' 1 2 t.length m (xb v)) (hl : t.length + m ≤ 8192) : rowIs h' 1 2 (t ++ feL v m) ∧ Fr [2] [(1, 1)] h h' := by
  obtain ⟨r1, r2, r3, r4, r5⟩ := hr
  obtain ⟨a1, a2, a3, a4, a5, a6, a7⟩ := ha
  refine ⟨⟨by rw [a2 1 0 (by omega)]; exact r1, by rw [List.length_append, feL_len]; exact a3, by rw [List.length_append, feL_len]; exact hl, fun i hi => ?_, fun i hi => ?_⟩, fun c hc => a4 c (by simpa using hc), fun c _ => by rw [a1], fun c j hc => a2 c j (fun z => hc (by simp [z.1, z.2]))⟩
  · by_cases e : i < t.length
    · rw [gN_l e, a5 i e]; exact r4 i e
    · obtain ⟨k, rfl⟩ : ∃ k, i = t.length + k := ⟨i - t.length, by omega⟩
      rw [List.length_append, feL_len] at hi
      rw [gN_r, feL_get (by omega)]; exact a6 k (by omega)
  · by_cases e : i < t.length
    · rw [a5 i e]; exact r5 i e
    · obtain ⟨k, rfl⟩ : ∃ k, i = t.length + k := ⟨i - t.length, by omega⟩
      rw [List.length_append, feL_len] at hi
      exact a7 k (by omega)
theorem xi_feed {p : Int32} {v : Int64} (hx : xI h pp qq W t ou o le pl rn uc uf us)
    (hA : (p < nI 1 ∨ ¬ p ≤ nI 8) → px "java/lang/IllegalArgumentException" h) (hB : ∀ m, p = nI m → 1 ≤ m → m ≤ 8 → 8192 < t.length + m → px "java/lang/IllegalStateException" h)
    (hC : ∀ m h', p = nI m → 1 ≤ m → m ≤ 8 → t.length + m ≤ 8192 → xI h' pp qq W (t ++ feL v m) ou o le pl rn uc uf us → Fr [2] [(1, 1)] h h' → post (some (.int (nI (t.length + m)))) h') :
    xm_goX (XE sc) (xm_T (XE sc) (d + 1)) 179 post tw_X11_feed px 0 [(0, .ref 0), (1, .int p), (2, .long v)] [] h := by
  have hr := hx.2.1
  refine sp_xfeed hx.1.1 hr.2.1 hr.2.2.1 hA hB (fun m h' e m1 m2 m3 ha => ?_)
  obtain ⟨r1, f1⟩ := rw_app hr ha m3
  exact hC m h' e m1 m2 m3 (xI_up hx f1 (by rcases xI_pp hx with rfl | rfl <;> decide +kernel) r1 (rowIs_fr hx.2.2.1 f1 (by simp) (by simp) (by simp)) (xG_fr hx.2.2.2.2 f1 (by decide))) f1
theorem rw_nil {f : xm_H} (hF : XF f) : rowIs (xm_sf (xm_sf (xm_sf f 1 1 (.int (nI 0))) 1 3 (.int (nI 0))) 1 2 (.int (nI 0))) 1 2 [] ∧ Fr [] [(1, 1), (1, 2), (1, 3)] f (xm_sf (xm_sf (xm_sf f 1 1 (.int (nI 0))) 1 3 (.int (nI 0))) 1 2 (.int (nI 0))) := by
  have f2 : Fr [] [(1, 1), (1, 2), (1, 3)] f (xm_sf (xm_sf (xm_sf f 1 1 (.int (nI 0))) 1 3 (.int (nI 0))) 1 2 (.int (nI 0))) := Fr_sf (Fr_sf (Fr_sf Fr_rf (by simp)) (by simp)) (by simp)
  refine ⟨⟨by rw [f2.2.2 _ _ (by simp)]; exact xf_1_0 hF, ?_, by simp, fun i hi => absurd hi (by simp), fun i hi => absurd hi (by simp)⟩, f2⟩
  rw [xq_ff (by omega), xq_ff (by omega)]; simp only [xf_same]; rfl
theorem xi_wipe (hx : xI h pp qq W t ou o le pl rn uc uf us) (hC : ∀ h', xI h' pp qq W [] ou o le pl rn uc uf us → Fr [] [(1, 1), (1, 2), (1, 3)] h h' → post (some (.int (nI t.length))) h') : xm_T (XE sc) (d + 2) 196 [.ref 0] h post := by
  refine sp_xwipe hx.1.1 hx.2.1.2.1 ?_
  obtain ⟨r1, f1⟩ := rw_nil hx.1.1
  exact hC _ (xI_up hx f1 (by rcases xI_pp hx with rfl | rfl <;> decide +kernel) r1 (rowIs_fr hx.2.2.1 f1 (by simp) (by simp) (by simp)) (xG_fr hx.2.2.2.2 f1 (by decide))) f1
theorem xi_node {i w : Int32} (hx : xI h pp qq W t ou o le pl rn uc uf us)
    (hA : (∀ n k, ¬ ndW o i w n k) → px "java/util/NoSuchElementException" h)
    (hC : ∀ n k q C F G, o = some q → ndW o i w n k → bnd q.2.1 q.2.2.2.1 q.2.2.2.2 C F G q.2.1.length → post (some (.int (ndV q C F G n k))) h) :
    xm_goX (XE sc) (xm_T (XE sc) (d + 2)) 184 post tw_X11_node px 0 [(0, .ref 0), (1, .int i), (2, .int w)] [] h := sp_xnode hx.1.1 (xI_pp hx) hx.1.2.2.1 hx.1.2.2.2.2.1 hA hC
theorem xi_root {i w : Int32} (hx : xI h pp qq W t ou o le pl rn uc uf us)
    (hA : (∀ n k, ¬ ndW o i w n k) → px "java/util/NoSuchElementException" h)
    (hC : ∀ n k l ps a S T h' Q, o = some (l, ps, a, S, T) → ndW o i w n k → rtA ps Q ps.length → xI h' pp qq W t ou o le pl rn uc uf us → Fr [41, 43, 44] [(40, 4), (40, 5)] h h' → post (some (.long (lwd (Q n k)))) h') :
    xm_goX (XE sc) (xm_T (XE sc) (d + 5)) 187 post tw_X11_root px 0 [(0, .ref 0), (1, .int i), (2, .int w)] [] h := by
  have hpp := xI_pp hx
  have hx0 := hx
  obtain ⟨⟨x1, x2, x3, x4, x5, x6, x7, ⟨G, c, x8⟩, lp, x9⟩, y2, y3, y4, y5⟩ := hx
  refine sp_xroot x1 hpp x3 x7 x5 hA (fun n k l ps a S T h' Q e1 e2 f1 l1 n1 r1 => ?_)
  have kk : pgK pp [41, 43, 44] [(40, 4), (40, 5)] = true := by rcases hpp with rfl | rfl <;> decide
  refine hC n k l ps a S T h' Q e1 e2 r1 ⟨⟨Fr_XF x1 f1 (by decide +kernel), x2, by rw [f1.2.2 _ _ (by simp)]; exact x3, by rw [f1.2.2 _ _ (by simp)]; exact x4, ?_, fxA_fr x6 f1 (by simp) (by simp) (by simp), l1, ⟨G, c, dI_fr x8 f1 (by decide) (by simp)⟩, lp, rowIs_fr x9 f1 (pgK_r kk (by simp [pgR])) (pgK_t kk (by simp [pgT])) (pgK_t kk (by simp [pgT]))⟩, rowIs_fr y2 f1 (by simp) (by simp) (by simp), rowIs_fr y3 f1 (by simp) (by simp) (by simp), ordI_fr y4 f1 (by simp) (by simp), xG_fr y5 f1 (by decide)⟩ f1
  rw [e1] at x5 ⊢
  obtain ⟨z1, z2, z3⟩ := x5
  exact ⟨PG_fk z1 f1 kk (fun r j _ hr => by rw [f1.1 r (by simp [gRw] at hr; simp; omega)]), n1, twA_fr z3 f1 (by simp) (by simp) (pgK_t kk (by simp [pgT])) (fun q hq => pgK_r kk (by simp [taR] at hq; simp [pgR]; omega))⟩
theorem xi_typeRoot {i w : Int32} {tb : Nat} (hx : xI h pp qq W t ou o le pl rn uc uf us) (htb : tb < 2)
    (hA : (∀ n k, ¬ ndW o i w n k) → px "java/util/NoSuchElementException" h)
    (hH : ∀ n k q, o = some q → ndW o i w n k → pC q.2.1 n = 11 → post (some (.long (lN 0))) h)
    (hC : ∀ n k q h', o = some q → ndW o i w n k → pC q.2.1 n ≠ 11 → xI h' pp qq W t ou o le pl rn uc uf us → Fr [42, 43, 44] [(40, 4), (40, 6)] h h' → post (some (.long (lwd (tyRt (tyOf q tb n) k)))) h') :
    xm_goX (XE sc) (xm_T (XE sc) (d + 5)) 194 post tw_X11_typeRoot px 0 [(0, .ref 0), (1, .int i), (2, .int (nI tb)), (3, .int w)] [] h := by
  have hpp := xI_pp hx
  obtain ⟨⟨x1, x2, x3, x4, x5, x6, x7, ⟨G, c, x8⟩, lp, x9⟩, y2, y3, y4, y5⟩ := hx
  refine sp_xtypeRoot x1 hpp x3 x7 x5 htb hA hH (fun n k q h' e1 e2 e3 f1 l1 n1 => ?_)
  have kk : pgK pp [42, 43, 44] [(40, 4), (40, 6)] = true := by rcases hpp with rfl | rfl <;> decide
  refine hC n k q h' e1 e2 e3 ⟨⟨Fr_XF x1 f1 (by decide +kernel), x2, by rw [f1.2.2 _ _ (by simp)]; exact x3, by rw [f1.2.2 _ _ (by simp)]; exact x4, ?_, fxA_fr x6 f1 (by simp) (by simp) (by simp), l1, ⟨G, c, dI_fr x8 f1 (by decide) (by simp)⟩, lp, rowIs_fr x9 f1 (pgK_r kk (by simp [pgR])) (pgK_t kk (by simp [pgT])) (pgK_t kk (by simp [pgT]))⟩, rowIs_fr y2 f1 (by simp) (by simp) (by simp), rowIs_fr y3 f1 (by simp) (by simp) (by simp), ordI_fr y4 f1 (by simp) (by simp), xG_fr y5 f1 (by decide)⟩ f1
  rw [e1] at x5 ⊢
  obtain ⟨l, ps, a, S, T⟩ := q
  obtain ⟨z1, z2, z3⟩ := x5
  exact ⟨PG_fk z1 f1 kk (fun r j _ hr => by rw [f1.1 r (by simp [gRw] at hr; simp; omega)]), nwI_fr z2 f1 (by simp) (by simp), n1⟩
theorem xi_type {i : Int32} {tb : Nat} (hx : xI h pp qq W t ou o le pl rn uc uf us) (htb : tb < 2)
    (hA : (∀ n, ¬ ndA o i n) → px "java/util/NoSuchElementException" h)
    (hH : ∀ n q, o = some q → ndA o i n → pC q.2.1 n = 11 → post (some (.int (-2))) h)
    (hL : ∀ n q, o = some q → ndA o i n → pC q.2.1 n ≠ 11 → 300 < ty_tl (tyOf q tb n) → post (some (.int (-1))) h)
    (hC : ∀ n q h', o = some q → ndA o i n → pC q.2.1 n ≠ 11 → ty_tl (tyOf q tb n) ≤ 300 → xI h' pp qq W t (ttx (tyOf q tb n)) o le pl rn uc uf us → Fr [4, 6, pp + 24] (tyFT pp) h h' → post (some (.int (nI (ty_tl (tyOf q tb n))))) h') :
    xm_goX (XE sc) (xm_T (XE sc) (d + 3)) 193 post tw_X11_type px 0 [(0, .ref 0), (1, .int i), (2, .int (nI tb))] [] h := by
  have hpp := xI_pp hx
  refine sp_xtype hx.1.1 hpp hx.1.2.2.1 hx.1.2.2.2.2.1 htb hA hH hL (fun n q h' e1 e2 e3 e4 f1 r1 => hC n q h' e1 e2 e3 e4 (xI_up hx f1 (by rcases hpp with rfl | rfl <;> decide +kernel) (rowIs_fr hx.2.1 f1 (by rcases hpp with rfl | rfl <;> decide) (by rcases hpp with rfl | rfl <;> decide) (by rcases hpp with rfl | rfl <;> decide)) r1 (xG_fr hx.2.2.2.2 f1 (by rcases hpp with rfl | rfl <;> decide))) f1)
theorem xi_value {i : Int32} {tb : Nat} (hx : xI h pp qq W t ou o le pl rn uc uf us) (htb : tb < 2)
    (hA : (∀ n, ¬ ndA o i n) → px "java/util/NoSuchElementException" h)
    (hH : ∀ n q h', o = some q → ndA o i n → pC q.2.1 n = 11 → xI h' pp qq W [] ou o le pl rn uc uf us → Fr [6, pp + 24] (vbT pp) h h' → post (some (.int (-2))) h')
    (hB : ∀ n q h', o = some q → ndA o i n → pC q.2.1 n ≠ 11 → ¬ vOK t (tyOf q tb n) → xI h' pp qq W [] ou o le pl rn uc uf us → Fr [6, pp + 24] (vbT pp) h h' → post (some (.int (-4))) h')
    (hL : ∀ n q h', o = some q → ndA o i n → pC q.2.1 n ≠ 11 → vOK t (tyOf q tb n) → 8192 < (vtx (by_bit t) (tyOf q tb n) 0).length → xI h' pp qq W [] ou o le pl rn uc uf us → Fr [6, pp + 24] (vbT pp) h h' → post (some (.int (-1))) h')
    (hC : ∀ n q h', o = some q → ndA o i n → pC q.2.1 n ≠ 11 → vOK t (tyOf q tb n) → (vtx (by_bit t) (tyOf q tb n) 0).length ≤ 8192 → xI h' pp qq W [] (vtx (by_bit t) (tyOf q tb n) 0) o le pl rn uc uf us → Fr [4, 6, pp + 24] (vaT pp) h h' → post (some (.int (nI (vtx (by_bit t) (tyOf q tb n) 0).length))) h') :
    xm_goX (XE sc) (xm_T (XE sc) (d + 7)) 195 post tw_X11_value px 0 [(0, .ref 0), (1, .int i), (2, .int (nI tb))] [] h := by
  have hpp := xI_pp hx
  have up : ∀ h', Fr [6, pp + 24] (vbT pp) h h' → rowIs h' 1 2 [] → xI h' pp qq W [] ou o le pl rn uc uf us := fun h' f1 r1 => xI_up hx f1 (by rcases hpp with rfl | rfl <;> decide +kernel) r1 (rowIs_fr hx.2.2.1 f1 (by rcases hpp with rfl | rfl <;> decide) (by rcases hpp with rfl | rfl <;> decide) (by rcases hpp with rfl | rfl <;> decide)) (xG_fr hx.2.2.2.2 f1 (by rcases hpp with rfl | rfl <;> decide))
  refine sp_xvalue hx.1.1 hpp hx.1.2.2.1 hx.1.2.2.2.2.1 htb hx.2.1 hA (fun n q h' e1 e2 e3 f1 r1 => hH n q h' e1 e2 e3 (up h' f1 r1) f1) (fun n q h' e1 e2 e3 e4 f1 r1 => hB n q h' e1 e2 e3 e4 (up h' f1 r1) f1) (fun n q h' e1 e2 e3 e4 e5 f1 r1 => hL n q h' e1 e2 e3 e4 e5 (up h' f1 r1) f1) (fun n q h' e1 e2 e3 e4 e5 f1 r2 r1 => hC n q h' e1 e2 e3 e4 e5 (xI_up hx f1 (by rcases hpp with rfl | rfl <;> decide +kernel) r1 r2 (xG_fr hx.2.2.2.2 f1 (by rcases hpp with rfl | rfl <;> decide))) f1)
theorem xi_worth {i : Int32} {tb : Nat} (hx : xI h pp qq W t ou o le pl rn uc uf us) (htb : tb < 2)
    (hA : (∀ n, ¬ ndA o i n) → px "java/util/NoSuchElementException" h)
    (hH : ∀ n q h', o = some q → ndA o i n → pC q.2.1 n = 11 → xI h' pp qq W [] ou o le pl rn uc uf us → Fr [6, pp + 24] (vbT pp) h h' → post (some (.int (-2))) h')
    (hB : ∀ n q h', o = some q → ndA o i n → pC q.2.1 n ≠ 11 → rdS t 8194 [.inr (tyOf q tb n)] 0 [] = none → xI h' pp qq W [] ou o le pl rn uc uf us → Fr [6, pp + 24] (vbT pp) h h' → post (some (.int (-4))) h')
    (hC : ∀ n q h' bs, o = some q → ndA o i n → pC q.2.1 n ≠ 11 → rdS t 8194 [.inr (tyOf q tb n)] 0 [] = some bs → xI h' pp qq W [] (pkL bs) o le pl rn uc uf us → Fr [4, 6, pp + 24] (vaT pp) h h' → post (some (.int (nI (pkL bs).length))) h') :
    xm_goX (XE sc) (xm_T (XE sc) (d + 7)) 198 post tw_X11_worth px 0 [(0, .ref 0), (1, .int i), (2, .int (nI tb))] [] h := by
  have hpp := xI_pp hx
  have up : ∀ h', Fr [6, pp + 24] (vbT pp) h h' → rowIs h' 1 2 [] → xI h' pp qq W [] ou o le pl rn uc uf us := fun h' f1 r1 => xI_up hx f1 (by rcases hpp with rfl | rfl <;> decide +kernel) r1 (rowIs_fr hx.2.2.1 f1 (by rcases hpp with rfl | rfl <;> decide) (by rcases hpp with rfl | rfl <;> decide) (by rcases hpp with rfl | rfl <;> decide)) (xG_fr hx.2.2.2.2 f1 (by rcases hpp with rfl | rfl <;> decide))
  refine sp_xworth hx.1.1 hpp hx.1.2.2.1 hx.1.2.2.2.2.1 htb hx.2.1 hA (fun n q h' e1 e2 e3 f1 r1 => hH n q h' e1 e2 e3 (up h' f1 r1) f1) (fun n q h' e1 e2 e3 e4 f1 r1 => hB n q h' e1 e2 e3 e4 (up h' f1 r1) f1) (fun n q h' bs e1 e2 e3 e4 f1 r2 r1 => hC n q h' bs e1 e2 e3 e4 (xI_up hx f1 (by rcases hpp with rfl | rfl <;> decide +kernel) r1 r2 (xG_fr hx.2.2.2.2 f1 (by rcases hpp with rfl | rfl <;> decide))) f1)
theorem xi_speak (hx : xI h pp qq W t ou o le pl rn uc uf us)
    (hA : o = none → px "java/lang/IllegalStateException" h)
    (hL : ∀ q h', o = some q → 8192 < (spT q).length → xI h' pp qq W t ou o le pl rn uc uf us → Fr [6] [(5, 1), (5, 2), (5, 3)] h h' → post (some (.int (-1))) h')
    (hC : ∀ q h', o = some q → (spT q).length ≤ 8192 → xI h' pp qq W t (spT q) o le pl rn uc uf us → Fr [4, 6] [(3, 1), (3, 2), (3, 3), (5, 1), (5, 2), (5, 3)] h h' → post (some (.int (nI (spT q).length))) h') :
    xm_goY (XE sc) (d + 3) 190 post tw_X11_speak px (ex190 sc (d + 3)) 0 [(0, .ref 0)] [] h := by
  have hpp := xI_pp hx
  refine sp_xspeak hx.1.1 hpp hx.1.2.2.1 hx.1.2.2.2.2.1 hA (fun q h' e1 e2 f1 => hL q h' e1 e2 (xI_up hx f1 (by rcases hpp with rfl | rfl <;> decide +kernel) (rowIs_fr hx.2.1 f1 (by simp) (by simp) (by simp)) (rowIs_fr hx.2.2.1 f1 (by simp) (by simp) (by simp)) (xG_fr hx.2.2.2.2 f1 (by decide))) f1) (fun q h' e1 e2 f1 r1 => hC q h' e1 e2 (xI_up hx f1 (by rcases hpp with rfl | rfl <;> decide +kernel) (rowIs_fr hx.2.1 f1 (by simp) (by simp) (by simp)) r1 (xG_fr hx.2.2.2.2 f1 (by decide))) f1)
theorem xi_look {w : Int32} (hx : xI h pp qq W t ou o le pl rn uc uf us)
    (hA : (∀ k, k ≤ 14 → w ≠ nI k) → px "java/lang/IllegalArgumentException" h)
    (hC : ∀ k C F G, w = nI k → k ≤ 14 → bnO o C F G → post (some (.int (lkV o C F G t.length ou.length uc uf us le rn pl k))) h) :
    xm_goX (XE sc) (xm_T (XE sc) (d + 3)) 182 post tw_X11_look px 0 [(0, .ref 0), (1, .int w)] [] h := by
  obtain ⟨g1, g2, g3, g4, g5, g6⟩ := hx.2.2.2.2
  exact sp_xlook hx.1.1 (xI_pp hx) hx.1.2.2.1 hx.1.2.2.2.2.1 hx.2.1.2.1 hx.2.2.1.2.1 g1 g3 g4 g5 g6 g2 hA hC
theorem xi_out {p : Int32} (hx : xI h pp qq W t ou o le pl rn uc uf us)
    (hA : ¬ (0 ≤ p ∧ p < nI ou.length) → px "java/util/NoSuchElementException" h) (hC : ∀ k, p = nI k → k < ou.length → post (some (.long (oq (fun i => nI (ou.getD (k + i) 0)) 8))) h) :
    xm_goX (XE sc) (xm_T (XE sc) (d + 1)) 185 post tw_X11_out px 0 [(0, .ref 0), (1, .int p)] [] h := by
  have hr := hx.2.2.1
  refine sp_xout hx.1.1 hr.2.1 hr.2.2.1 hA (fun k e1 e2 => ?_)
  have : oq (fun i => nI (rw_at (h.1 4) ou.length (k + i))) 8 = oq (fun i => nI (ou.getD (k + i) 0)) 8 := oq_congr (fun i hi => by
    unfold rw_at
    by_cases z : k + i < ou.length
    · rw [if_pos z, hr.2.2.2.1 _ z]
    · rw [if_neg z, List.getD_eq_getElem?_getD, List.getElem?_eq_none (by omega)]; rfl) 8 (Nat.le_refl _)
  rw [this]
  exact hC k e1 e2
theorem xi_again (hx : xI h pp qq W t ou o le pl rn uc uf us) (hC : ∀ h', xI h' pp qq W ou ou o le pl rn uc uf us → Fr [2] [(1, 1), (1, 2), (1, 3)] h h' → post (some (.int (nI ou.length))) h') : xm_T (XE sc) (d + 3) 178 [.ref 0] h post := by
  have hr := hx.2.2.1
  refine sp_xagain hx.1.1 hr.2.1 hr.2.2.1 hr.2.2.2.2 ?_
  have f1 : Fr [2] [(1, 1), (1, 2), (1, 3)] h (xm_sa (xm_sf (xm_sf (xm_sf (xm_sf h 1 1 (.int (nI 0))) 1 3 (.int (nI 0))) 1 2 (.int (nI 0))) 1 1 (.int (nI ou.length))) 2 (va_cpy (h.1 4) (h.1 2) 0 0 ou.length)) := by
    have q : Fr [2] [(1, 1), (1, 2), (1, 3)] h (xm_sf (xm_sf (xm_sf (xm_sf h 1 1 (.int (nI 0))) 1 3 (.int (nI 0))) 1 2 (.int (nI 0))) 1 1 (.int (nI ou.length))) := Fr_sf (Fr_sf (Fr_sf (Fr_sf Fr_rf (by simp)) (by simp)) (by simp)) (by simp)
    refine ⟨fun c hc => ?_, q.2.1, q.2.2⟩
    have hc2 : c ≠ 2 := by simpa using hc
    rw [← q.1 c hc]
    exact if_neg hc2
  have e1 : (xm_sa (xm_sf (xm_sf (xm_sf (xm_sf h 1 1 (.int (nI 0))) 1 3 (.int (nI 0))) 1 2 (.int (nI 0))) 1 1 (.int (nI ou.length))) 2 (va_cpy (h.1 4) (h.1 2) 0 0 ou.length)).2.2 1 1 = .int (nI ou.length) := by
    show (xm_sf (xm_sf (xm_sf (xm_sf h 1 1 (.int (nI 0))) 1 3 (.int (nI 0))) 1 2 (.int (nI 0))) 1 1 (.int (nI ou.length))).2.2 1 1 = _
    simp only [xf_same]
  have e2 : (xm_sa (xm_sf (xm_sf (xm_sf (xm_sf h 1 1 (.int (nI 0))) 1 3 (.int (nI 0))) 1 2 (.int (nI 0))) 1 1 (.int (nI ou.length))) 2 (va_cpy (h.1 4) (h.1 2) 0 0 ou.length)).1 2 = va_cpy (h.1 4) (h.1 2) 0 0 ou.length := by simp [xm_sa]
  generalize xm_sa (xm_sf (xm_sf (xm_sf (xm_sf h 1 1 (.int (nI 0))) 1 3 (.int (nI 0))) 1 2 (.int (nI 0))) 1 1 (.int (nI ou.length))) 2 (va_cpy (h.1 4) (h.1 2) 0 0 ou.length) = h' at *
  refine hC h' (xI_up hx f1 (by rcases xI_pp hx with rfl | rfl <;> decide +kernel) ⟨by rw [f1.2.2 _ _ (by simp)]; exact hx.2.1.1, e1, hr.2.2.1, fun i hi => by rw [e2, cpy_lt hi]; exact hr.2.2.2.1 i hi, fun i hi => by rw [e2, cpy_lt hi]; exact hr.2.2.2.2 i hi⟩ (rowIs_fr hr f1 (by simp) (by simp) (by simp)) (xG_fr hx.2.2.2.2 f1 (by decide))) f1
theorem xi_write (hx : xI h pp qq W t ou o le pl rn uc uf us)
    (hA : o = none → px "java/lang/IllegalStateException" h)
    (hC : ∀ q h', o = some q → xI h' pp qq W t q.1 o le pl rn uc uf us → Fr [4] [(3, 1), (3, 2), (3, 3)] h h' → post (some (.int (nI q.1.length))) h') :
    xm_goX (XE sc) (xm_T (XE sc) (d + 2)) 199 post tw_X11_write px 0 [(0, .ref 0)] [] h := by
  have hpp := xI_pp hx
  obtain ⟨⟨x1, x2, x3, x4, x5, x6, x7, x8, lp, x9⟩, y2, y3, y4, y5⟩ := id hx
  obtain ⟨c1, c2⟩ := xPg_c x5
  refine sp_xwrite x1 hpp x3 c1 (by omega) x9.2.1 x9.2.2.1 x9.2.2.2.2 (fun z => ?_) (fun z => ?_)
  · cases o with
    | none => exact hA rfl
    | some q =>
      obtain ⟨l, ps, a, S, T⟩ := q
      have : 1 ≤ ps.length := x5.1.1.2.1
      have : ps.length = 0 := z
      omega
  · cases o with
    | none => exact absurd rfl z
    | some q =>
      obtain ⟨l, ps, a, S, T⟩ := q
      have hr : rowIs h (pp + 12) (pp + 13) l := x5.1.1.2.2.2.2.1
      have el : lp.length = l.length := by
        have := x9.2.1
        rw [hr.2.1] at this
        have := hr.2.2.1
        have := x9.2.2.1
        exact ((nI_eq (by omega) (by omega)).mp (Value.int.inj (by assumption))).symm
      have f1 : Fr [4] [(3, 1), (3, 2), (3, 3)] h (xm_sa (xm_sf (xm_sf (xm_sf (xm_sf h 3 1 (.int (nI 0))) 3 3 (.int (nI 0))) 3 2 (.int (nI 0))) 3 1 (.int (nI lp.length))) 4 (va_cpy (h.1 (pp + 13)) (h.1 4) 0 0 lp.length)) := by
        have q : Fr [4] [(3, 1), (3, 2), (3, 3)] h (xm_sf (xm_sf (xm_sf (xm_sf h 3 1 (.int (nI 0))) 3 3 (.int (nI 0))) 3 2 (.int (nI 0))) 3 1 (.int (nI lp.length))) := Fr_sf (Fr_sf (Fr_sf (Fr_sf Fr_rf (by simp)) (by simp)) (by simp)) (by simp)
        refine ⟨fun c hc => ?_, q.2.1, q.2.2⟩
        have hc2 : c ≠ 4 := by simpa using hc
        rw [← q.1 c hc]
        exact if_neg hc2
      have e1 : (xm_sa (xm_sf (xm_sf (xm_sf (xm_sf h 3 1 (.int (nI 0))) 3 3 (.int (nI 0))) 3 2 (.int (nI 0))) 3 1 (.int (nI lp.length))) 4 (va_cpy (h.1 (pp + 13)) (h.1 4) 0 0 lp.length)).2.2 3 1 = .int (nI lp.length) := by
        show (xm_sf (xm_sf (xm_sf (xm_sf h 3 1 (.int (nI 0))) 3 3 (.int (nI 0))) 3 2 (.int (nI 0))) 3 1 (.int (nI lp.length))).2.2 3 1 = _
        simp only [xf_same]
      have e2 : (xm_sa (xm_sf (xm_sf (xm_sf (xm_sf h 3 1 (.int (nI 0))) 3 3 (.int (nI 0))) 3 2 (.int (nI 0))) 3 1 (.int (nI lp.length))) 4 (va_cpy (h.1 (pp + 13)) (h.1 4) 0 0 lp.length)).1 4 = va_cpy (h.1 (pp + 13)) (h.1 4) 0 0 lp.length := by simp [xm_sa]
      generalize xm_sa (xm_sf (xm_sf (xm_sf (xm_sf h 3 1 (.int (nI 0))) 3 3 (.int (nI 0))) 3 2 (.int (nI 0))) 3 1 (.int (nI lp.length))) 4 (va_cpy (h.1 (pp + 13)) (h.1 4) 0 0 lp.length) = h' at *
      rw [el] at e1 e2 ⊢
      exact hC (l, ps, a, S, T) h' rfl (xI_up hx f1 (by rcases hpp with rfl | rfl <;> decide +kernel) (rowIs_fr y2 f1 (by simp) (by simp) (by simp)) ⟨by rw [f1.2.2 _ _ (by simp)]; exact y3.1, e1, hr.2.2.1, fun i hi => by rw [e2, cpy_lt hi]; exact hr.2.2.2.1 i hi, fun i hi => by rw [e2, cpy_lt hi]; exact hr.2.2.2.2 i hi⟩ (xG_fr y5 f1 (by decide))) f1
end RX
