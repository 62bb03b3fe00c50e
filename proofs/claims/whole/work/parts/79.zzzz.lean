/-! ===== the law's own frame: its loop, its calls of helpers (each may make a cell of six slots) ===== -/
def xm_goL (E : xm_E) (d y K : Nat) (Hp : Nat → List Value → xm_H → xm_Po → Prop) (post : xm_Po) (k pc : Nat) (lv : xm_L) (st : List Value) (h : xm_H) : Prop :=
  ∀ P : Nat → Nat → xm_L → List Value → xm_H → Prop, (∀ k pc lv st h, xm_one E (xm_T E d) y post pc lv st h (P k) → P k pc lv st h) → (∀ k, xm_wk (P k)) →
    (∀ k pc idx z lv as rest h, k < K → decode (xe_cy E y) pc = .ok (.invokestatic idx, 3) → xe_lk E (xe_cn E y) idx = some z → as.length = xe_np E z → (rest.map fun v => v.category).sum ≤ 8 → Hp z as h (fun r h' => P (k + 1) (pc + 3) lv (r.toList ++ rest) h') → P k pc lv (as.reverse ++ rest) h) → P k pc lv st h
section XML
variable {p : Program} {l : Launch} {e : Env} {R : Room} {s : State} {m : MethodId} {args : Array Value} {below : List Frame} {meth : Method} {c : Code} {cells slots : Nat} {Q : State → Prop}
theorem xm_backM {H : Heap} {locs : List Loc} {pc mc ms : Nat} {ls : Array Slot} {st0 rest : List Value} {Qa : State → Outcome → State → Prop} {free : Addr → Prop} {A0 A1 : Nat → Prop} {H0 : Heap} {B : Option Value → State → Prop}
    (hr : va_Run p l e R s m args below meth c H locs cells slots mc ms (F0 m pc ls st0) rest Qa free) (hQ : ∀ st v t, Qa st (.returned v) t → B v t ∧ va_F A1 st t) (hS : va_S A0 H0 H locs) (hA : ∀ q, A1 q → A0 q) (hf : ∀ q, free q → A0 q)
    (kk : ∀ (v : Option Value) (t : State) (H1 : Heap) (locs1 : List Loc), t.heap = H1 → s.vm.Alike t.vm → B v t → va_S A0 H0 H1 locs1 → W p l e R s m args below meth c H1 locs1 (cells + mc) (slots + ms) Q (F0 m (pc + 3) ls (v.toList ++ rest))) : W p l e R s m args below meth c H locs cells slots Q (F0 m pc ls st0) := by
  intro T hT X
  obtain ⟨v, st₀, t, T', L, h0, X', hL, e1, e2, hq, st⟩ := hr T hT X
  obtain ⟨hb, hz, hk⟩ := hQ _ _ _ hq
  rw [h0] at hz hk
  obtain ⟨t2, a1, b1⟩ := kk v t T'.heap (locs ++ L) e1.symm (by rw [← e2]; exact X'.warmed.alike) hb
    ⟨Nat.le_trans hS.1 (by rw [e1]; exact hz), fun q h1 h2 => by rw [e1, hk q (Nat.lt_of_lt_of_le h1 hS.1) (fun z => h2 (hA q z))]; exact hS.2.1 q h1 h2, fun q hq => by
      rcases List.mem_append.mp hq with h | h
      · exact hS.2.2 q h
      · exact hf _ (hL q h)⟩ T' rfl X'
  exact ⟨t2, st t2 a1, b1⟩
variable {E : xm_E} {D : va_G} {ad : Nat → Nat} {ks : Nat → ClassId} {d y K c0 s0 : Nat} {post : xm_Po} {Hp : Nat → List Value → xm_H → xm_Po → Prop} {Ts : List Cond} {TF : (Nat → Prop) → State → Prop} {wsz : Nat → List Cond} {hhz : Nat → List (Nat × Nat × Nat × Nat)}
set_option maxRecDepth 20000 in
theorem xm_law (hOK : xm_OK E) (hYT : xm_YT E y) (hx : p.tables.exec = Jvm.exec) (hb : c.code = xe_cy E y) (hml : c.maxLocals = xe_ml E y) (hown : s.vm.findClass (xe_yn E y).cls = some m.cls) (htT : ∀ w ∈ Ts, w.before args s = true) (hUT : ∀ w ∈ xe_U E, w ∈ Ts) (hK : va_K D (xe_cl E) (xm_t ks (xe_sh E)) s)
    (hSF : xm_SF E (xm_A ad (xe_sh E).length s.heap.size) ad s) (hTF : TF (xm_A ad (xe_sh E).length s.heap.size) s) (hTFb : ∀ A U g mk a, TF A U → TF A (State.calling U g mk a)) (hTFw : ∀ A B (u U : State), u.WarmedH U.vm → (∀ a : Nat, a < u.heap.size → ¬ A a → U.heap[a]? = u.heap[a]?) → (∀ q, B q → A q) → TF A u → TF B U)
    (hRf : d + 8 ≤ R.frames) (hRl : 100 * (d + 4) ≤ R.locals) (hcs : c0 + K ≤ R.cells ∧ s0 + 6 * K ≤ R.slots)
    (hHp : ∀ z as h post, Hp z as h post → ∀ (D : va_G) (ad : Nat → Nat) (ks : Nat → ClassId) (sz : Nat), Met l (xe_yn E z) (wsz z) (xm_rmH d) (va_Pc (as.map (xm_v ad)) (fun U => xm_B E D ad ks h sz U ∧ TF (xm_A ad (xe_sh E).length sz) U)) (xm_Q E D ad ks post sz) 1 6 (xm_A ad (xe_sh E).length sz))
    (hHw : ∀ idx z as h post, xe_lk E (xe_cn E y) idx = some z → Hp z as h post → GoodIn Ts (va_wsS (xe_yn E y).cls idx (xe_yn E z) (wsz z)) ∧ (∃ ws', wsz z = Cond.codeWith (xe_yn E z) (xe_cy E z) (xe_ml E z) (xe_ry E z) (hhz z) :: ws') ∧ xe_ml E z ≤ 80 ∧ ((xe_yn E z).cls ≠ "java/lang/invoke/MethodHandle" ∧ (xe_yn E z).cls ≠ "java/lang/invoke/VarHandle" ∧ (parseMethodDescriptor (xe_yn E z).desc).map (fun d => d.parameters.length) = some (xe_np E z)))
    (hret : ∀ (k pc : Nat) (lv : xm_L) (st : List Value) (h : xm_H) (i : Jvm.ClassFile.Instr), k ≤ K → decode (xe_cy E y) pc = .ok (i, xm_len i) → (i = .ireturn ∨ i = .lreturn ∨ i = .return_) → xm_step E (xm_T E d) y i pc lv st h post (fun _ _ _ _ => False) → xm_W p l e R s m args below meth c (c0 + k) (s0 + 6 * k) Q D (xe_cl E) (xm_A ad (xe_sh E).length s.heap.size) ad ks (xe_sh E) (xe_ml E y) pc lv st h)
    {k pc : Nat} {lv : xm_L} {st : List Value} {h : xm_H} (hk : k ≤ K) (hgo : xm_goL E d y K Hp post k pc lv st h) : xm_W p l e R s m args below meth c (c0 + k) (s0 + 6 * k) Q D (xe_cl E) (xm_A ad (xe_sh E).length s.heap.size) ad ks (xe_sh E) (xe_ml E y) pc lv st h := by
  have hts : ∀ w ∈ xe_U E, w.before args s = true := fun w hw => htT w (hUT w hw)
  refine hgo (fun k pc lv st h => k ≤ K → xm_W p l e R s m args below meth c (c0 + k) (s0 + 6 * k) Q D (xe_cl E) (xm_A ad (xe_sh E).length s.heap.size) ad ks (xe_sh E) (xe_ml E y) pc lv st h) ?_ (fun k pc lv lv' st h hs hw hk => xm_W_wk pc lv lv' st h hs (hw hk)) ?_ hk
  · intro k pc lv st h hone hk
    exact xm_one_okQ (d := d) (T := xm_T E d) hOK hYT hx hb hml hown hts hK hSF (by omega) (by omega) (fun z as h post hz hq => xm_sound hOK d z as h post hz hq) ⟨by omega, by omega⟩ (fun pc lv st h i hdg hi hs => hret k pc lv st h i hk hdg hi hs) pc lv st h (xm_one_mono (xm_T_mono d d (Nat.le_refl _)) (fun _ _ z => z) (fun _ _ _ _ z => z hk) hone)
  · intro k pc idx z lv as rest h hkK hdg hlk ha hcats hH hk H locs ls hR
    have hM := hHp z as h _ hH D ad ks H.size
    obtain ⟨hg, ⟨ws', hws⟩, hm80, hd⟩ := hHw idx z as h _ hlk hH
    have hst : (as.reverse ++ rest).map (xm_v ad) = ((as.map (xm_v ad)).reverse) ++ rest.map (xm_v ad) := by simp
    have hrun := vx_runSW (p := p) (l := l) (e := e) (R := R) (below := below) (meth := meth) (H := H) (locs := locs) (cells := c0 + k) (slots := s0 + 6 * k) (hh := hhz z) (As := as.map (xm_v ad)) (rest := rest.map (xm_v ad)) (g := F0 m pc ls ((as.reverse ++ rest).map (xm_v ad))) (Ts := Ts) (own := (xe_yn E y).cls) (n := xe_np E z) (index := idx) ⟨hx, hb, hml, hown, htT⟩ hM
      (vx_cwSW (xe_np E z) htT hg hws rfl rfl hd ⟨by show d + 7 + 1 ≤ R.frames; omega, Nat.le_trans (show 8 + (xe_ml E z + 11) + 100 * (d + 3) ≤ 100 * (d + 4) by omega) hRl⟩)
      ⟨fun a U g mk q => ⟨(xm_blind (E := E) (D := D) (ad := ad) (ks := ks) (h := h) (sz := H.size) (av := as.map (xm_v ad)) a U g mk ⟨q.1, q.2.1⟩).1, (xm_blind (E := E) (D := D) (ad := ad) (ks := ks) (h := h) (sz := H.size) (av := as.map (xm_v ad)) a U g mk ⟨q.1, q.2.1⟩).2, hTFb _ _ _ _ _ q.2.2⟩,
        fun U hU hW => ⟨rfl, xm_preB hK hSF hR U hU hW, hTFw _ _ s U hW (by rw [hU]; exact hR.2.2.2.2.1) (xm_A_mono hR.2.2.2.1) hTF⟩⟩
      rfl (by simpa using ha) hR.1.1 hst (lv_room (by rw [xm_cats]; exact hcats)) hdg ⟨by omega, by omega⟩
    refine xm_backM hrun (B := fun v t => ∃ (r : Option Value) (h' : xm_H), v = r.map (xm_v ad) ∧ (k + 1 ≤ K → xm_W p l e R s m args below meth c (c0 + (k + 1)) (s0 + 6 * (k + 1)) Q D (xe_cl E) (xm_A ad (xe_sh E).length s.heap.size) ad ks (xe_sh E) (xe_ml E y) (pc + 3) lv (r.toList ++ rest) h') ∧ va_P D (xe_cl E) (xm_w ad ks (xe_sh E) h') t.heap) (A1 := xm_A ad (xe_sh E).length H.size) (fun st v t hq => ?_) hR.2.2.2 (xm_A_mono hR.2.2.2.1) (xm_A_mono hR.2.2.2.1) (fun v t H1 locs1 ht hvm hB hS1 => ?_)
    · obtain ⟨⟨r, h', e1, e2, e3, e4⟩, hF⟩ := hq
      exact ⟨⟨r, h', by cases e1; rfl, e2, e3⟩, hF⟩
    · obtain ⟨r, h', rfl, e2, e3⟩ := hB
      have h5 := e2 hkK H1 locs1 ls ⟨hR.1, by rw [← ht]; exact e3, xm_D_to hR.2.2.1, hS1⟩
      refine W.cs (cells' := c0 + (k + 1)) (slots' := s0 + 6 * (k + 1)) (by omega) (by omega) ?_
      cases r <;> exact h5
end XML
