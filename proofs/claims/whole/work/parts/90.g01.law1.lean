/-! ===== the law: a helper whose call has rules of its own; the law with the names of cells fixed ===== -/
def xm_goHY (E : xm_E) (d y z pcC : Nat) (tw : Nat → Option String) (hp : String → Option (Nat × Nat)) (ex : xm_Q1 → xm_Q1) (post : xm_Po) (pc : Nat) (lv : xm_L) (st : List Value) (h : xm_H) : Prop :=
  ∀ P : Nat → xm_L → List Value → xm_H → Prop, (∀ pc lv st h, xm_one E (xm_T E (d + 3)) y post pc lv st h P → P pc lv st h) → xm_wk P →
    (∀ lv as b rest h, as.length = xe_np E z → (∃ q, (xe_sh E)[b]? = some (.inr q) ∧ q.1 = xe_cn E z) → (rest.map fun v => v.category).sum ≤ 8 → (lg_sl (.ref b :: as)).length ≤ xe_ml E z →
      xm_goY E d z (fun r h' => xm_go E (xm_T E (d + 3)) y post (pcC + 3) lv (r.toList ++ rest) h') tw (fun X h' => ∃ q k, hp X = some (q, k) ∧ xm_go E (xm_T E (d + 3)) y post q (xm_drop lv k) [] h') ex 0 (lv_args 0 (.ref b :: as)) [] h → P pcC lv (as.reverse ++ .ref b :: rest) h) → P pc lv st h
theorem xm_metHY {E : xm_E} {l : Launch} {V VH : List Cond} {TF : (Nat → Nat) → (Nat → Prop) → State → Prop} {d y z pcC idx : Nat} {tw : Nat → Option String} {hp : String → Option (Nat × Nat)} {hh : List (Nat × Nat × Nat × Nat)} {as : List Value} {h : xm_H} {post : xm_Po} {ex : xm_Q1 → xm_Q1} {ad : Nat → Nat}
    (hOK : xm_OK E) (hYT : xm_YT E y) (hz : z < xe_n E) (hpl : plainName (xe_yn E y).cls = true) (hgV : ∀ w ∈ V, goodWord w = true) (hthr : xm_thr E l V (TF ad) (d + 3) z tw) (hex : xm_exs E l V TF d 3 z ex) (hcat : xm_ctc E l (xm_wsH E V VH hh y z idx) (TF ad) hh y pcC hp)
    (hTFb : ∀ A U g mk a, TF ad A U → TF ad A (State.calling U g mk a)) (hTFw : ∀ A B (u U : State), u.WarmedH U.vm → (∀ a : Nat, a < u.heap.size → ¬ A a → U.heap[a]? = u.heap[a]?) → (∀ q, B q → A q) → TF ad A u → TF ad B U)
    (hdg : decode (xe_cy E y) pcC = .ok (.invokevirtual idx, 3)) (hlk : xe_lk E (xe_cn E y) idx = some z) (his : xe_is E z = false)
    (hlen : (lg_sl as).length ≤ xe_ml E y) (hrun : xm_goHY E d y z pcC tw hp ex post 0 (lv_args 0 as) [] h) (D : va_G) (ks : Nat → ClassId) (sz : Nat) :
    Met l (xe_yn E y) (xm_wsH E V VH hh y z idx) (xm_rmH (d + 3)) (va_Pc (as.map (xm_v ad)) (fun U => xm_B E D ad ks h sz U ∧ TF ad (xm_A ad (xe_sh E).length sz) U)) (xm_Q E D ad ks post sz) 1 6 (xm_A ad (xe_sh E).length sz) := by
  refine va_MetW (cc := xe_cy E y) (maxL := xe_ml E y) (ret := xe_ry E y) (hh := hh) hpl rfl ?_
  intro p e s m args below meth c s₁ B hml hv
  obtain ⟨rfl, ⟨hsz, hP, hK, hD, hSF⟩, hTF⟩ := hv
  subst hsz
  have hall : ∀ w ∈ xm_wsH E V VH hh y z idx, w.before ((as.map (xm_v ad)).toArray) s = true := fun w hw => atoms_spec (ws := xm_wsH E V VH hh y z idx) B.pre w hw
  have hUV : ∀ w ∈ xe_U E ++ V, w.before ((as.map (xm_v ad)).toArray) s = true := fun w hw => hall w (List.mem_cons_of_mem _ (List.mem_append_right _ hw))
  have hts : ∀ w ∈ xe_U E, w.before ((as.map (xm_v ad)).toArray) s = true := fun w hw => hUV w (List.mem_append_left _ hw)
  have htab := vx_table (x := xe_yn E y) B (hall _ List.mem_cons_self)
  have hl := lv_entry (as.map (xm_v ad)) (n := xe_ml E y) (by rw [xm_sl_len]; exact hlen)
  rw [xm_args_l] at hl
  rw [lg_entry_eq]
  have hown := findClass_of_methodNamed B.named
  have hT : ∀ z as h post, z < xe_n E → xm_T E (d + 3) z as h post → xm_Met E l (d + 3) z as h post := fun z as h post hz hq => xm_sound hOK (d + 3) z as h post hz hq
  have hafter : ∀ pc lv st h, xm_go E (xm_T E (d + 3)) y post pc lv st h → xm_W p l e (xm_rmH (d + 3)) s m _ below meth c 1 6 (MQ below (xm_Q E D ad ks post s.heap.size) ((as.map (xm_v ad)).toArray) s 1 6 (xm_A ad (xe_sh E).length s.heap.size)) D (xe_cl E) (xm_A ad (xe_sh E).length s.heap.size) ad ks (xe_sh E) (xe_ml E y) pc lv st h := fun pc lv st h hg =>
    hg _ (xm_one_okQ (d := d + 3) (T := xm_T E (d + 3)) hOK hYT B.exec B.bytes hml hown hts hK hSF (by show d + 3 + 1 ≤ d + 3 + 7; omega) (by show 100 * (d + 3 + 1) ≤ 100 * (d + 3 + 3); omega) hT ⟨Nat.le_refl 1, Nat.le_refl 6⟩ (fun pc lv st h i hdg hi hs => xm_ret_ok B.exec B.bytes hK B.returns B.notSynchronized pc lv st h i hdg hi hs)) xm_W_wk
  refine hrun (fun pc lv st h => xm_W p l e (xm_rmH (d + 3)) s m _ below meth c 0 0 (MQ below (xm_Q E D ad ks post s.heap.size) ((as.map (xm_v ad)).toArray) s 1 6 (xm_A ad (xe_sh E).length s.heap.size)) D (xe_cl E) (xm_A ad (xe_sh E).length s.heap.size) ad ks (xe_sh E) (xe_ml E y) pc lv st h) ?_ xm_W_wk ?_ s.heap [] _ ⟨hl, hP, xm_D_of hD, va_S.rf⟩
  · refine xm_one_okQ (d := d + 3) (T := xm_T E (d + 3)) hOK hYT B.exec B.bytes hml hown hts hK hSF (by show d + 3 + 1 ≤ d + 3 + 7; omega) (by show 100 * (d + 3 + 1) ≤ 100 * (d + 3 + 3); omega) hT ⟨Nat.zero_le _, Nat.zero_le _⟩ (fun pc lv st h i hdg hi hs => ?_)
    intro H locs ls hR
    refine W.widen (k := 1) (n := 6) (Nat.zero_le _) (Nat.zero_le _) ?_
    exact xm_ret_ok B.exec B.bytes hK B.returns B.notSynchronized pc lv st h i hdg hi hs H locs ls hR
  · intro lv as2 b rest h2 ha hbq hcats hlen2 hgo H locs ls hR
    obtain ⟨hyF, hyK, hyG, hyC, hyL⟩ := hYT
    obtain ⟨hz2, hz3, hz4⟩ := hyL idx z hlk hz
    obtain ⟨w1, w2, qz, hq1, hq2⟩ := hz4 his
    obtain ⟨⟨v1, v2, v3, v4, v5⟩, -⟩ := hOK.2.2 z hz
    obtain ⟨bq, hb1, hb2⟩ := hbq
    have hM := xm_metY (V := V) (TF := TF) (ad := ad) hOK hz hthr hex hlen2 hgo D ks H.size
    have hgood : GoodIn (xe_U E ++ V) (xm_wsX E V z) := by
      intro w hw
      rcases List.mem_cons.mp hw with h9 | h9
      · subst h9
        exact ⟨List.mem_append_left _ v2, good_of_word (hOK.1 _ v2)⟩
      · refine ⟨h9, good_of_word ?_⟩
        rcases List.mem_append.mp h9 with h8 | h8
        · exact hOK.1 w h8
        · exact hgV w h8
    have hst : (as2.reverse ++ .ref b :: rest).map (xm_v ad) = ((as2.map (xm_v ad)).reverse) ++ .ref (ad b) :: rest.map (xm_v ad) := by simp [xm_v]
    have hrunX := vx_runV (p := p) (l := l) (e := e) (R := xm_rmH (d + 3)) (below := below) (meth := meth) (H := H) (locs := locs) (cells := 0) (slots := 0) (b := ad b) (As := as2.map (xm_v ad)) (rest := rest.map (xm_v ad)) (g := F0 m pcC ls ((as2.reverse ++ .ref b :: rest).map (xm_v ad))) (C := (xe_yn E z).cls) (Ts := xe_U E ++ V) (own := (xe_yn E y).cls) (n := xe_np E z) (index := idx) ⟨B.exec, B.bytes, hml, hown, hUV⟩ hM
      ⟨callB_of (xe_np E z) hUV hgood rfl rfl rfl (hts _ v3) (hts _ hz2) v5 ⟨by show d + 3 + 6 + 1 ≤ d + 3 + 7; omega, by show 8 + (xe_ml E z + 11) + 100 * (d + 3 + 2) ≤ 100 * (d + 3 + 3); omega⟩, hts _ w1, hts _ w2⟩
      ⟨fun a U g mk q => ⟨(xm_blind (E := E) (D := D) (ad := ad) (ks := ks) (h := h2) (sz := H.size) (av := (.ref b :: as2).map (xm_v ad)) a U g mk ⟨q.1, q.2.1⟩).1, (xm_blind (E := E) (D := D) (ad := ad) (ks := ks) (h := h2) (sz := H.size) (av := (.ref b :: as2).map (xm_v ad)) a U g mk ⟨q.1, q.2.1⟩).2, hTFb _ _ _ _ _ q.2.2⟩,
        by have := va_recv hK hR.2.1 hq1 (q0 := b) (by rw [xm_w_at hb1, ← hb2]; rfl); rw [← hq2]; exact this,
        fun U hU hW => ⟨rfl, xm_preB hK hSF hR U hU hW, hTFw _ _ s U hW (by rw [hU]; exact hR.2.2.2.2.1) (xm_A_mono hR.2.2.2.1) hTF⟩⟩
      rfl (by simpa using ha) hR.1.1 hst (lv_room (by rw [xm_cats]; exact hcats)) hdg ⟨Nat.le_refl 1, Nat.le_refl 6⟩
    refine vx_backX hrunX (B := fun v t => ∃ (r : Option Value) (h' : xm_H), v = r.map (xm_v ad) ∧ xm_go E (xm_T E (d + 3)) y post (pcC + 3) lv (r.toList ++ rest) h' ∧ va_P D (xe_cl E) (xm_w ad ks (xe_sh E) h') t.heap) (BX := fun X t => ∃ h', (∃ q k, hp X = some (q, k) ∧ xm_go E (xm_T E (d + 3)) y post q (xm_drop lv k) [] h') ∧ va_P D (xe_cl E) (xm_w ad ks (xe_sh E) h') t.heap) (A1 := xm_A ad (xe_sh E).length H.size) (fun st v t hq => ?_) (fun X st t hq => ?_) hR.2.2.2 (xm_A_mono hR.2.2.2.1) (xm_A_mono hR.2.2.2.1) (fun X ce q9 t H1 locs1 ht hvm hB hS1 hce hcv hcl => ?_) (fun v t H1 locs1 ht hvm hB hS1 => ?_)
    · obtain ⟨⟨r, h', e1, e2, e3, e4⟩, hF⟩ := hq
      exact ⟨⟨r, h', by cases e1; rfl, e2, e3⟩, hF⟩
    · obtain ⟨⟨h', e1, e2, e3⟩, hF⟩ := hq
      exact ⟨⟨h', e1, e2⟩, hF⟩
    · obtain ⟨h', ⟨q, k, hq, hgo2⟩, hP1⟩ := hB
      refine hcat p e (xm_rmH (d + 3)) s m _ below meth c (xm_A ad (xe_sh E).length s.heap.size) H1 locs1 _ _ _ ls _ (xm_l ad lv) X q k ce q9 B.exec B.bytes hown hall hTF htab hq hR.1 hce hcv hcl (fun ls' hl' => ?_)
      rw [xm_drop_l] at hl'
      exact hafter _ _ _ _ hgo2 H1 locs1 ls' ⟨hl', by rw [← ht]; exact hP1, xm_D_to hR.2.2.1, hS1⟩
    · obtain ⟨r, h', rfl, e2, e3⟩ := hB
      have h5 := hafter _ _ _ _ e2 H1 locs1 ls ⟨hR.1, by rw [← ht]; exact e3, xm_D_to hR.2.2.1, hS1⟩
      cases r <;> exact h5

section XHY
variable {E : xm_E} {d y z pcC : Nat} {tw : Nat → Option String} {hp : String → Option (Nat × Nat)} {ex : xm_Q1 → xm_Q1} {post post' : xm_Po} {pc : Nat} {lv : xm_L} {st : List Value} {h0 : xm_H}
theorem xhy_one (h : xm_one E (xm_T E (d + 3)) y post pc lv st h0 (xm_goHY E d y z pcC tw hp ex post)) : xm_goHY E d y z pcC tw hp ex post pc lv st h0 :=
  fun P hP hw hc => hP _ _ _ _ (xm_one_mono (xm_T_mono (d + 3) (d + 3) (Nat.le_refl _)) (fun _ _ q => q) (fun _ _ _ _ q => q P hP hw hc) h)
theorem xhy_blk : ∀ (b : List (Nat × Jvm.ClassFile.Instr × Nat)) {pc : Nat} {lv : xm_L} {st : List Value} {h0 : xm_H}, xm_bok (xe_cy E y) b → xm_blk E (xm_T E (d + 3)) y post b pc lv st h0 (xm_goHY E d y z pcC tw hp ex post) → xm_goHY E d y z pcC tw hp ex post pc lv st h0
  | [], _, _, _, _, _, h => h
  | q :: r, _, _, _, _, hb, h => by
    obtain ⟨rfl, h⟩ := h
    obtain ⟨h1, h2⟩ := hb q List.mem_cons_self
    refine xhy_one ?_
    unfold xm_one
    rw [h1]
    refine ⟨h2, xm_step_mono (xm_T_mono (d + 3) (d + 3) (Nat.le_refl _)) (fun _ _ z => z) (fun _ _ _ _ z => ?_) h⟩
    exact xhy_blk r (fun w hw => hb w (List.mem_cons_of_mem _ hw)) z
theorem xhy_call {as : List Value} {b : Nat} {rest : List Value} (a1 : as.length = xe_np E z) (a2 : ∃ q, (xe_sh E)[b]? = some (.inr q) ∧ q.1 = xe_cn E z) (a3 : (rest.map fun v => v.category).sum ≤ 8) (a4 : (lg_sl (.ref b :: as)).length ≤ xe_ml E z)
    (h : xm_goY E d z (fun r h' => xm_go E (xm_T E (d + 3)) y post (pcC + 3) lv (r.toList ++ rest) h') tw (fun X h' => ∃ q k, hp X = some (q, k) ∧ xm_go E (xm_T E (d + 3)) y post q (xm_drop lv k) [] h') ex 0 (lv_args 0 (.ref b :: as)) [] h0) : xm_goHY E d y z pcC tw hp ex post pcC lv (as.reverse ++ .ref b :: rest) h0 :=
  fun _ _ _ hc => hc lv as b rest h0 a1 a2 a3 a4 h
end XHY
section XML
variable {p : Program} {l : Launch} {e : Env} {R : Room} {s : State} {m : MethodId} {args : Array Value} {below : List Frame} {meth : Method} {c : Code} {cells slots : Nat} {Q : State → Prop}
variable {E : xm_E} {D : va_G} {ad : Nat → Nat} {ks : Nat → ClassId} {d y K c0 s0 : Nat} {post : xm_Po} {Hp : Nat → List Value → xm_H → xm_Po → Prop} {Ts : List Cond} {TF : (Nat → Prop) → State → Prop} {wsz : Nat → List Cond} {hhz : Nat → List (Nat × Nat × Nat × Nat)}
set_option maxRecDepth 20000 in
theorem xm_lawA (hOK : xm_OK E) (hYT : xm_YT E y) (hx : p.tables.exec = Jvm.exec) (hb : c.code = xe_cy E y) (hml : c.maxLocals = xe_ml E y) (hown : s.vm.findClass (xe_yn E y).cls = some m.cls) (htT : ∀ w ∈ Ts, w.before args s = true) (hUT : ∀ w ∈ xe_U E, w ∈ Ts) (hK : va_K D (xe_cl E) (xm_t ks (xe_sh E)) s)
    (hSF : xm_SF E (xm_A ad (xe_sh E).length s.heap.size) ad s) (hTF : TF (xm_A ad (xe_sh E).length s.heap.size) s) (hTFb : ∀ A U g mk a, TF A U → TF A (State.calling U g mk a)) (hTFw : ∀ A B (u U : State), u.WarmedH U.vm → (∀ a : Nat, a < u.heap.size → ¬ A a → U.heap[a]? = u.heap[a]?) → (∀ q, B q → A q) → TF A u → TF B U)
    (hRf : d + 8 ≤ R.frames) (hRl : 100 * (d + 4) ≤ R.locals) (hcs : c0 + K ≤ R.cells ∧ s0 + 6 * K ≤ R.slots)
    (hHp : ∀ z as h post, Hp z as h post → ∀ (D : va_G) (ks : Nat → ClassId) (sz : Nat), Met l (xe_yn E z) (wsz z) (xm_rmH d) (va_Pc (as.map (xm_v ad)) (fun U => xm_B E D ad ks h sz U ∧ TF (xm_A ad (xe_sh E).length sz) U)) (xm_Q E D ad ks post sz) 1 6 (xm_A ad (xe_sh E).length sz))
    (hHw : ∀ idx z as h post, xe_lk E (xe_cn E y) idx = some z → Hp z as h post → GoodIn Ts (va_wsS (xe_yn E y).cls idx (xe_yn E z) (wsz z)) ∧ (∃ ws', wsz z = Cond.codeWith (xe_yn E z) (xe_cy E z) (xe_ml E z) (xe_ry E z) (hhz z) :: ws') ∧ xe_ml E z ≤ 80 ∧ ((xe_yn E z).cls ≠ "java/lang/invoke/MethodHandle" ∧ (xe_yn E z).cls ≠ "java/lang/invoke/VarHandle" ∧ (parseMethodDescriptor (xe_yn E z).desc).map (fun d => d.parameters.length) = some (xe_np E z)))
    (hret : ∀ (k pc : Nat) (lv : xm_L) (st : List Value) (h : xm_H) (i : Jvm.ClassFile.Instr), k ≤ K → decode (xe_cy E y) pc = .ok (i, xm_len i) → (i = .ireturn ∨ i = .lreturn ∨ i = .return_) → xm_step E (xm_T E d) y i pc lv st h post (fun _ _ _ _ => False) → xm_W p l e R s m args below meth c (c0 + k) (s0 + 6 * k) Q D (xe_cl E) (xm_A ad (xe_sh E).length s.heap.size) ad ks (xe_sh E) (xe_ml E y) pc lv st h)
    {k pc : Nat} {lv : xm_L} {st : List Value} {h : xm_H} (hk : k ≤ K) (hgo : xm_goL E d y K Hp post k pc lv st h) : xm_W p l e R s m args below meth c (c0 + k) (s0 + 6 * k) Q D (xe_cl E) (xm_A ad (xe_sh E).length s.heap.size) ad ks (xe_sh E) (xe_ml E y) pc lv st h := by
  have hts : ∀ w ∈ xe_U E, w.before args s = true := fun w hw => htT w (hUT w hw)
  refine hgo (fun k pc lv st h => k ≤ K → xm_W p l e R s m args below meth c (c0 + k) (s0 + 6 * k) Q D (xe_cl E) (xm_A ad (xe_sh E).length s.heap.size) ad ks (xe_sh E) (xe_ml E y) pc lv st h) ?_ (fun k pc lv lv' st h hs hw hk => xm_W_wk pc lv lv' st h hs (hw hk)) ?_ hk
  · intro k pc lv st h hone hk
    exact xm_one_okQ (d := d) (T := xm_T E d) hOK hYT hx hb hml hown hts hK hSF (by omega) (by omega) (fun z as h post hz hq => xm_sound hOK d z as h post hz hq) ⟨by omega, by omega⟩ (fun pc lv st h i hdg hi hs => hret k pc lv st h i hk hdg hi hs) pc lv st h (xm_one_mono (xm_T_mono d d (Nat.le_refl _)) (fun _ _ z => z) (fun _ _ _ _ z => z hk) hone)
  · intro k pc idx z lv as rest h hkK hdg hlk ha hcats hH hk H locs ls hR
    have hM := hHp z as h _ hH D ks H.size
    obtain ⟨hg, ⟨ws', hws⟩, hm80, hd⟩ := hHw idx z as h _ hlk hH
    have hst : (as.reverse ++ rest).map (xm_v ad) = ((as.map (xm_v ad)).reverse) ++ rest.map (xm_v ad) := by simp
    have hrun := vx_runSW (p := p) (l := l) (e := e) (R := R) (below := below) (meth := meth) (H := H) (locs := locs) (cells := c0 + k) (slots := s0 + 6 * k) (hh := hhz z) (As := as.map (xm_v ad)) (rest := rest.map (xm_v ad)) (g := F0 m pc ls ((as.reverse ++ rest).map (xm_v ad))) (Ts := Ts) (own := (xe_yn E y).cls) (n := xe_np E z) (index := idx) ⟨hx, hb, hml, hown, htT⟩ hM
      (vx_cwSW (xe_np E z) htT hg hws rfl rfl hd ⟨by show d + 7 + 1 ≤ R.frames; omega, Nat.le_trans (show 8 + (xe_ml E z + 11) + 100 * (d + 3) ≤ 100 * (d + 4) by omega) hRl⟩)
      ⟨fun a U g mk q => ⟨(xm_blind (E := E) (D := D) (ad := ad) (ks := ks) (h := h) (sz := H.size) (av := as.map (xm_v ad)) a U g mk ⟨q.1, q.2.1⟩).1, (xm_blind (E := E) (D := D) (ad := ad) (ks := ks) (h := h) (sz := H.size) (av := as.map (xm_v ad)) a U g mk ⟨q.1, q.2.1⟩).2, hTFb _ _ _ _ _ q.2.2⟩,
        fun U hU hW => ⟨rfl, xm_preB hK hSF hR U hU hW, hTFw _ _ s U hW (by rw [hU]; exact hR.2.2.2.2.1) (xm_A_mono hR.2.2.2.1) hTF⟩⟩
      rfl (by simpa using ha) hR.1.1 hst (lv_room (by rw [xm_cats]; exact hcats)) hdg ⟨by omega, by omega⟩
    refine xm_backM hrun (B := fun v t => ∃ (r : Option Value) (h' : xm_H), v = r.map (xm_v ad) ∧ (k + 1 ≤ K → xm_W p l e R s m args below meth c (c0 + (k + 1)) (s0 + 6 * (k + 1)) Q D (xe_cl E) (xm_A ad (xe_sh E).length s.heap.size) ad ks (xe_sh E) (xe_ml E y) (pc + 3) lv (r.toList ++ rest) h') ∧ va_P D (xe_cl E) (xm_w ad ks (xe_sh E) h') t.heap) (A1 := xm_A ad (xe_sh E).length H.size) (fun st v t hq => ?_) hR.2.2.2 (xm_A_mono hR.2.2.2.1) (xm_A_mono hR.2.2.2.1) (fun v t H1 locs1 ht hvm hB hS1 => ?_)
    · obtain ⟨⟨r, h', e1, e2, e3, e4⟩, hF⟩ := hq
      exact ⟨⟨r, h', by cases e1; rfl, e2, e3⟩, hF⟩
    · obtain ⟨r, h', rfl, e2, e3⟩ := hB
      have h5 := e2 hkK H1 locs1 ls ⟨hR.1, by rw [← ht]; exact e3, xm_D_to hR.2.2.1, hS1⟩
      refine W.cs (cells' := c0 + (k + 1)) (slots' := s0 + 6 * (k + 1)) (by omega) (by omega) ?_
      cases r <;> exact h5
end XML

