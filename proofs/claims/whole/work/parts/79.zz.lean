/-! ===== the law's helpers: a call that may throw, and its catches ===== -/
section XMH
variable {p : Program} {l : Launch} {e : Env} {R : Room} {s : State} {m : MethodId} {args : Array Value} {below : List Frame} {meth : Method} {c : Code} {cells slots : Nat} {Q : State → Prop}
theorem vx_backX {H : Heap} {locs : List Loc} {pc mc ms : Nat} {ls : Array Slot} {st0 rest : List Value} {Qa : State → Outcome → State → Prop} {XC : String → State → State → Prop} {free : Addr → Prop} {A0 A1 : Nat → Prop} {H0 : Heap} {B : Option Value → State → Prop} {BX : String → State → Prop}
    (hr : vx_Run p l e R s m args below meth c H locs cells slots mc ms (F0 m pc ls st0) rest Qa XC free) (hQ : ∀ st v t, Qa st (.returned v) t → B v t ∧ va_F A1 st t) (hX : ∀ E st t, XC E st t → BX E t ∧ va_F A1 st t) (hS : va_S A0 H0 H locs) (hA : ∀ q, A1 q → A0 q) (hf : ∀ q, free q → A0 q)
    (kx : ∀ (E : String) (ce : Cell) (q9 : Addr) (t : State) (H1 : Heap) (locs1 : List Loc), t.heap = H1 → s.vm.Alike t.vm → BX E t → va_S A0 H0 H1 locs1 → H1[q9]? = some ce → ce.vm = .none → s.vm.findClass E = some ce.cls → vx_W p l e R s m args below meth c H1 locs1 (cells + mc) (slots + ms) Q (F0 m pc ls rest) q9)
    (kk : ∀ (v : Option Value) (t : State) (H1 : Heap) (locs1 : List Loc), t.heap = H1 → s.vm.Alike t.vm → B v t → va_S A0 H0 H1 locs1 → W p l e R s m args below meth c H1 locs1 (cells + mc) (slots + ms) Q (F0 m (pc + 3) ls (v.toList ++ rest))) : W p l e R s m args below meth c H locs cells slots Q (F0 m pc ls st0) := by
  intro T hT X
  rcases hr T hT X with ⟨v, st₀, t, T', L, h0, X', hL, e1, e2, hq, st⟩ | ⟨q, st₀, t, T', L, E, ce, h0, X', hL, e1, e2, hq, hce, hcv, hcl, st⟩
  · obtain ⟨hb, hF⟩ := hQ _ _ _ hq
    obtain ⟨k1, k2, k3⟩ := vx_keep h0 e1 hS (fun q _ h => hA q h) hf hL hF
    obtain ⟨t2, a1, b1⟩ := kk v t T'.heap (locs ++ L) e1.symm (by rw [← e2]; exact X'.warmed.alike) hb k3 T' rfl X'
    exact ⟨t2, st t2 a1, b1⟩
  · obtain ⟨hb, hF⟩ := hX _ _ _ hq
    obtain ⟨k1, k2, k3⟩ := vx_keep h0 e1 hS (fun q _ h => hA q h) hf hL hF
    obtain ⟨t2, a1, b1⟩ := kx E ce q t T'.heap (locs ++ L) e1.symm (by rw [← e2]; exact X'.warmed.alike) hb k3 (by rw [e1]; exact hce) hcv hcl T' rfl X'
    exact ⟨t2, st.trans a1, b1⟩
end XMH
def xm_drop (lv : xm_L) (k : Nat) : xm_L := lv.filter (fun q => !(q.1 == k) && !(q.1 + 1 == k && q.2.category == 2))
/-- up to the call -/
def xm_goH (E : xm_E) (d y z pcC : Nat) (tw : Nat → Option String) (hp : String → Option (Nat × Nat)) (post : xm_Po) (pc : Nat) (lv : xm_L) (st : List Value) (h : xm_H) : Prop :=
  ∀ P : Nat → xm_L → List Value → xm_H → Prop, (∀ pc lv st h, xm_one E (xm_T E d) y post pc lv st h P → P pc lv st h) → xm_wk P →
    (∀ lv as b rest h, as.length = xe_np E z → (∃ q, (xe_sh E)[b]? = some (.inr q) ∧ q.1 = xe_cn E z) → (rest.map fun v => v.category).sum ≤ 8 → (lg_sl (.ref b :: as)).length ≤ xe_ml E z →
      xm_goX E (xm_T E d) z (fun r h' => xm_go E (xm_T E d) y post (pcC + 3) lv (r.toList ++ rest) h') tw (fun X h' => ∃ q k, hp X = some (q, k) ∧ xm_go E (xm_T E d) y post q (xm_drop lv k) [] h') 0 (lv_args 0 (.ref b :: as)) [] h → P pcC lv (as.reverse ++ .ref b :: rest) h) → P pc lv st h
def xm_rmH (d : Nat) : Room := { frames := d + 7, cells := 1, slots := 6, locals := 100 * (d + 3) }
/-- the catches of a helper: what a row of its own must show -/
def xm_ctc (E : xm_E) (l : Launch) (WS : List Cond) (TF : (Nat → Prop) → State → Prop) (hh : List (Nat × Nat × Nat × Nat)) (y pcC : Nat) (hp : String → Option (Nat × Nat)) : Prop :=
  ∀ (p : Program) (e : Env) (R : Room) (s : State) (m : MethodId) (args : Array Value) (below : List Frame) (meth : Method) (c : Code) (A : Nat → Prop) (H : Heap) (locs : List Loc) (cells slots : Nat) (Q : State → Prop) (ls : Array Slot) (rest : List Value) (lvc : List (Nat × Value)) (X : String) (q k : Nat) (ce : Cell) (q9 : Addr),
    p.tables.exec = Jvm.exec → c.code = xe_cy E y → s.vm.findClass (xe_yn E y).cls = some m.cls → (∀ w ∈ WS, w.before args s = true) → TF A s → c.exceptionTable.toList = tableOf hh → hp X = some (q, k) → lv_has ls (xe_ml E y) lvc → H[q9]? = some ce → ce.vm = .none → s.vm.findClass X = some ce.cls →
    (∀ ls', lv_has ls' (xe_ml E y) (xm_drop lvc k) → W p l e R s m args below meth c H locs cells slots Q (F0 m q ls' [])) → vx_W p l e R s m args below meth c H locs cells slots Q (F0 m pcC ls rest) q9
theorem xm_drop_l (ad : Nat → Nat) (lv : xm_L) (k : Nat) : xm_drop (xm_l ad lv) k = xm_l ad (xm_drop lv k) := by
  simp only [xm_drop, xm_l, List.filter_map]
  congr 1
  apply List.filter_congr
  intro q _
  simp [Function.comp, xm_cat]
def xm_wsH (E : xm_E) (V VH : List Cond) (hh : List (Nat × Nat × Nat × Nat)) (y z idx : Nat) : List Cond := Cond.codeWith (xe_yn E y) (xe_cy E y) (xe_ml E y) (xe_ry E y) hh :: (VH ++ (xe_U E ++ V))
theorem xm_metH {E : xm_E} {l : Launch} {V VH : List Cond} {TF : (Nat → Prop) → State → Prop} {d y z pcC idx : Nat} {tw : Nat → Option String} {hp : String → Option (Nat × Nat)} {hh : List (Nat × Nat × Nat × Nat)} {as : List Value} {h : xm_H} {post : xm_Po}
    (hOK : xm_OK E) (hYT : xm_YT E y) (hz : z < xe_n E) (hpl : plainName (xe_yn E y).cls = true) (hgV : ∀ w ∈ V, goodWord w = true) (hthr : xm_thr E l V TF d z tw) (hcat : xm_ctc E l (xm_wsH E V VH hh y z idx) TF hh y pcC hp)
    (hTFb : ∀ A U g mk a, TF A U → TF A (State.calling U g mk a)) (hTFw : ∀ A B (u U : State), u.WarmedH U.vm → (∀ a : Nat, a < u.heap.size → ¬ A a → U.heap[a]? = u.heap[a]?) → (∀ q, B q → A q) → TF A u → TF B U)
    (hdg : decode (xe_cy E y) pcC = .ok (.invokevirtual idx, 3)) (hlk : xe_lk E (xe_cn E y) idx = some z) (his : xe_is E z = false)
    (hlen : (lg_sl as).length ≤ xe_ml E y) (hrun : xm_goH E d y z pcC tw hp post 0 (lv_args 0 as) [] h) (D : va_G) (ad : Nat → Nat) (ks : Nat → ClassId) (sz : Nat) :
    Met l (xe_yn E y) (xm_wsH E V VH hh y z idx) (xm_rmH d) (va_Pc (as.map (xm_v ad)) (fun U => xm_B E D ad ks h sz U ∧ TF (xm_A ad (xe_sh E).length sz) U)) (xm_Q E D ad ks post sz) 1 6 (xm_A ad (xe_sh E).length sz) := by
  refine va_MetW (cc := xe_cy E y) (maxL := xe_ml E y) (ret := xe_ry E y) (hh := hh) hpl rfl ?_
  intro p e s m args below meth c s₁ B hml hv
  obtain ⟨rfl, ⟨hsz, hP, hK, hD, hSF⟩, hTF⟩ := hv
  subst hsz
  have hall : ∀ w ∈ xm_wsH E V VH hh y z idx, w.before ((as.map (xm_v ad)).toArray) s = true := fun w hw => atoms_spec (ws := xm_wsH E V VH hh y z idx) B.pre w hw
  have hUV : ∀ w ∈ xe_U E ++ V, w.before ((as.map (xm_v ad)).toArray) s = true := fun w hw => hall w (List.mem_cons_of_mem _ (List.mem_append_right _ hw))
  have hts : ∀ w ∈ xe_U E, w.before ((as.map (xm_v ad)).toArray) s = true := fun w hw => hUV w (List.mem_append_left _ hw)
  have htab := vx_table (x := xe_yn E y) B (hall _ List.mem_cons_self)
  have hl := lv_entry (as.map (xm_v ad)) (n := xe_ml E y) (by rw [xm_sl_len]; exact hlen)
  rw [xm_args_l] at hl
  rw [lg_entry_eq]
  have hown := findClass_of_methodNamed B.named
  have hT : ∀ z as h post, z < xe_n E → xm_T E d z as h post → xm_Met E l d z as h post := fun z as h post hz hq => xm_sound hOK d z as h post hz hq
  have hafter : ∀ pc lv st h, xm_go E (xm_T E d) y post pc lv st h → xm_W p l e (xm_rmH d) s m _ below meth c 1 6 (MQ below (xm_Q E D ad ks post s.heap.size) ((as.map (xm_v ad)).toArray) s 1 6 (xm_A ad (xe_sh E).length s.heap.size)) D (xe_cl E) (xm_A ad (xe_sh E).length s.heap.size) ad ks (xe_sh E) (xe_ml E y) pc lv st h := fun pc lv st h hg =>
    hg _ (xm_one_okQ (d := d) (T := xm_T E d) hOK hYT B.exec B.bytes hml hown hts hK hSF (by show d + 1 ≤ d + 7; omega) (by show 100 * (d + 1) ≤ 100 * (d + 3); omega) hT ⟨Nat.le_refl 1, Nat.le_refl 6⟩ (fun pc lv st h i hdg hi hs => xm_ret_ok B.exec B.bytes hK B.returns B.notSynchronized pc lv st h i hdg hi hs)) xm_W_wk
  refine hrun (fun pc lv st h => xm_W p l e (xm_rmH d) s m _ below meth c 0 0 (MQ below (xm_Q E D ad ks post s.heap.size) ((as.map (xm_v ad)).toArray) s 1 6 (xm_A ad (xe_sh E).length s.heap.size)) D (xe_cl E) (xm_A ad (xe_sh E).length s.heap.size) ad ks (xe_sh E) (xe_ml E y) pc lv st h) ?_ xm_W_wk ?_ s.heap [] _ ⟨hl, hP, xm_D_of hD, va_S.rf⟩
  · refine xm_one_okQ (d := d) (T := xm_T E d) hOK hYT B.exec B.bytes hml hown hts hK hSF (by show d + 1 ≤ d + 7; omega) (by show 100 * (d + 1) ≤ 100 * (d + 3); omega) hT ⟨Nat.zero_le _, Nat.zero_le _⟩ (fun pc lv st h i hdg hi hs => ?_)
    intro H locs ls hR
    refine W.widen (k := 1) (n := 6) (Nat.zero_le _) (Nat.zero_le _) ?_
    exact xm_ret_ok B.exec B.bytes hK B.returns B.notSynchronized pc lv st h i hdg hi hs H locs ls hR
  · intro lv as2 b rest h2 ha hbq hcats hlen2 hgo H locs ls hR
    obtain ⟨hyF, hyK, hyG, hyC, hyL⟩ := hYT
    obtain ⟨hz2, hz3, hz4⟩ := hyL idx z hlk hz
    obtain ⟨w1, w2, qz, hq1, hq2⟩ := hz4 his
    obtain ⟨⟨v1, v2, v3, v4, v5⟩, -⟩ := hOK.2.2 z hz
    obtain ⟨bq, hb1, hb2⟩ := hbq
    have hM := xm_metX (V := V) (TF := TF) hOK hz hthr hlen2 hgo D ad ks H.size
    have hgood : GoodIn (xe_U E ++ V) (xm_wsX E V z) := by
      intro w hw
      rcases List.mem_cons.mp hw with h9 | h9
      · subst h9
        exact ⟨List.mem_append_left _ v2, good_of_word (hOK.1 _ v2)⟩
      · refine ⟨h9, good_of_word ?_⟩
        rcases List.mem_append.mp h9 with h8 | h8
        · exact hOK.1 w h8
        · exact hgV w h8
    have hst : (as2.reverse ++ .ref b :: rest).map (xm_v ad) = ((as2.map (xm_v ad)).reverse) ++ .ref (ad b) :: rest.map (xm_v ad) := by simp [xm_v]
    have hrunX := vx_runV (p := p) (l := l) (e := e) (R := xm_rmH d) (below := below) (meth := meth) (H := H) (locs := locs) (cells := 0) (slots := 0) (b := ad b) (As := as2.map (xm_v ad)) (rest := rest.map (xm_v ad)) (g := F0 m pcC ls ((as2.reverse ++ .ref b :: rest).map (xm_v ad))) (C := (xe_yn E z).cls) (Ts := xe_U E ++ V) (own := (xe_yn E y).cls) (n := xe_np E z) (index := idx) ⟨B.exec, B.bytes, hml, hown, hUV⟩ hM
      ⟨callB_of (xe_np E z) hUV hgood rfl rfl rfl (hts _ v3) (hts _ hz2) v5 ⟨by show d + 6 + 1 ≤ d + 7; omega, by show 8 + (xe_ml E z + 11) + 100 * (d + 2) ≤ 100 * (d + 3); omega⟩, hts _ w1, hts _ w2⟩
      ⟨fun a U g mk q => ⟨(xm_blind (E := E) (D := D) (ad := ad) (ks := ks) (h := h2) (sz := H.size) (av := (.ref b :: as2).map (xm_v ad)) a U g mk ⟨q.1, q.2.1⟩).1, (xm_blind (E := E) (D := D) (ad := ad) (ks := ks) (h := h2) (sz := H.size) (av := (.ref b :: as2).map (xm_v ad)) a U g mk ⟨q.1, q.2.1⟩).2, hTFb _ _ _ _ _ q.2.2⟩,
        by have := va_recv hK hR.2.1 hq1 (q0 := b) (by rw [xm_w_at hb1, ← hb2]; rfl); rw [← hq2]; exact this,
        fun U hU hW => ⟨rfl, xm_preB hK hSF hR U hU hW, hTFw _ _ s U hW (by rw [hU]; exact hR.2.2.2.2.1) (xm_A_mono hR.2.2.2.1) hTF⟩⟩
      rfl (by simpa using ha) hR.1.1 hst (lv_room (by rw [xm_cats]; exact hcats)) hdg ⟨Nat.le_refl 1, Nat.le_refl 6⟩
    refine vx_backX hrunX (B := fun v t => ∃ (r : Option Value) (h' : xm_H), v = r.map (xm_v ad) ∧ xm_go E (xm_T E d) y post (pcC + 3) lv (r.toList ++ rest) h' ∧ va_P D (xe_cl E) (xm_w ad ks (xe_sh E) h') t.heap) (BX := fun X t => ∃ h', (∃ q k, hp X = some (q, k) ∧ xm_go E (xm_T E d) y post q (xm_drop lv k) [] h') ∧ va_P D (xe_cl E) (xm_w ad ks (xe_sh E) h') t.heap) (A1 := xm_A ad (xe_sh E).length H.size) (fun st v t hq => ?_) (fun X st t hq => ?_) hR.2.2.2 (xm_A_mono hR.2.2.2.1) (xm_A_mono hR.2.2.2.1) (fun X ce q9 t H1 locs1 ht hvm hB hS1 hce hcv hcl => ?_) (fun v t H1 locs1 ht hvm hB hS1 => ?_)
    · obtain ⟨⟨r, h', e1, e2, e3, e4⟩, hF⟩ := hq
      exact ⟨⟨r, h', by cases e1; rfl, e2, e3⟩, hF⟩
    · obtain ⟨⟨h', e1, e2, e3⟩, hF⟩ := hq
      exact ⟨⟨h', e1, e2⟩, hF⟩
    · obtain ⟨h', ⟨q, k, hq, hgo2⟩, hP1⟩ := hB
      refine hcat p e (xm_rmH d) s m _ below meth c (xm_A ad (xe_sh E).length s.heap.size) H1 locs1 _ _ _ ls _ (xm_l ad lv) X q k ce q9 B.exec B.bytes hown hall hTF htab hq hR.1 hce hcv hcl (fun ls' hl' => ?_)
      rw [xm_drop_l] at hl'
      exact hafter _ _ _ _ hgo2 H1 locs1 ls' ⟨hl', by rw [← ht]; exact hP1, xm_D_to hR.2.2.1, hS1⟩
    · obtain ⟨r, h', rfl, e2, e3⟩ := hB
      have h5 := hafter _ _ _ _ e2 H1 locs1 ls ⟨hR.1, by rw [← ht]; exact e3, xm_D_to hR.2.2.1, hS1⟩
      cases r <;> exact h5
