/-! ===== methods that throw ===== -/
def xm_goX (E : xm_E) (T : xm_TT) (y : Nat) (post : xm_Po) (tw : Nat → Option String) (px : String → xm_H → Prop) (pc : Nat) (lv : xm_L) (st : List Value) (h : xm_H) : Prop :=
  ∀ P : Nat → xm_L → List Value → xm_H → Prop, (∀ pc lv st h, xm_one E T y post pc lv st h P → P pc lv st h) → xm_wk P → (∀ pc lv h X, tw pc = some X → px X h → P pc lv [] h) → P pc lv st h
def xm_rmX (d : Nat) : Room := { frames := d + 6, cells := 1, slots := 6, locals := 100 * (d + 2) }
def xm_wsX (E : xm_E) (V : List Cond) (y : Nat) : List Cond := Cond.code (xe_yn E y) (xe_cy E y) (xe_ml E y) (xe_ry E y) :: (xe_U E ++ V)
def xm_XC (E : xm_E) (D : va_G) (ad : Nat → Nat) (ks : Nat → ClassId) (px : String → xm_H → Prop) (sz : Nat) : String → State → State → Prop := fun X st t =>
  (∃ h', px X h' ∧ va_P D (xe_cl E) (xm_w ad ks (xe_sh E) h') t.heap ∧ va_K D (xe_cl E) (xm_t ks (xe_sh E)) t) ∧ va_F (xm_A ad (xe_sh E).length sz) st t
/-- a throw out of a method: what a row of its own must show -/
def xm_thr (E : xm_E) (l : Launch) (V : List Cond) (TF : (Nat → Prop) → State → Prop) (d y : Nat) (tw : Nat → Option String) : Prop :=
  ∀ (p : Program) (e : Env) (s : State) (m : MethodId) (args : Array Value) (below : List Frame) (meth : Method) (c : Code) (Qc : Array Value → State → Outcome → State → Prop) (XC : String → State → State → Prop) (A : Nat → Prop) (H : Heap) (locs : List Loc) (ls : Array Slot) (pc : Nat) (X : String),
    p.tables.exec = Jvm.exec → c.code = xe_cy E y → ls.size = c.maxLocals → s.vm.findClass (xe_yn E y).cls = some m.cls → (∀ w ∈ xm_wsX E V y, w.before args s = true) → TF A s → meth.locks = false → (∀ x ∈ c.exceptionTable.toList, False) → va_S A s.heap H locs → tw pc = some X →
    (∀ t : State, s.vm.Alike t.vm → H.size ≤ t.heap.size → (∀ q : Nat, q < H.size → t.heap[q]? = H[q]?) → XC X s t) → W p l e (xm_rmX d) s m args below meth c H locs 0 0 (vx_MQ below Qc XC args s 1 6 A) (F0 m pc ls [])
theorem xm_metX {E : xm_E} {l : Launch} {V : List Cond} {TF : (Nat → Prop) → State → Prop} {d y : Nat} {tw : Nat → Option String} {as : List Value} {h : xm_H} {post : xm_Po} {px : String → xm_H → Prop} (hOK : xm_OK E) (hy : y < xe_n E) (hthr : xm_thr E l V TF d y tw) (hlen : (lg_sl as).length ≤ xe_ml E y) (hrun : xm_goX E (xm_T E d) y post tw px 0 (lv_args 0 as) [] h) (D : va_G) (ad : Nat → Nat) (ks : Nat → ClassId) (sz : Nat) :
    vx_Met l (xe_yn E y) (xm_wsX E V y) (xm_rmX d) (va_Pc (as.map (xm_v ad)) (fun U => xm_B E D ad ks h sz U ∧ TF (xm_A ad (xe_sh E).length sz) U)) (xm_Q E D ad ks post sz) (xm_XC E D ad ks px sz) 1 6 (xm_A ad (xe_sh E).length sz) := by
  obtain ⟨⟨hy1, hy2, hy3, hy4, hy5⟩, -⟩ := hOK.2.2 y hy
  refine vx_ofW (cc := xe_cy E y) (maxL := xe_ml E y) (ret := xe_ry E y) hy1 rfl ?_
  intro p e s m args below meth c s₁ B hml hno hv
  obtain ⟨rfl, ⟨hsz, hP, hK, hD, hSF⟩, hTF⟩ := hv
  subst hsz
  have hall : ∀ w ∈ xm_wsX E V y, w.before ((as.map (xm_v ad)).toArray) s = true := fun w hw => atoms_spec (ws := xm_wsX E V y) B.pre w hw
  have hts : ∀ w ∈ xe_U E, w.before ((as.map (xm_v ad)).toArray) s = true := fun w hw => hall w (List.mem_cons_of_mem _ (List.mem_append_left _ hw))
  have hl := lv_entry (as.map (xm_v ad)) (n := xe_ml E y) (by rw [xm_sl_len]; exact hlen)
  rw [xm_args_l] at hl
  rw [lg_entry_eq]
  have hown := findClass_of_methodNamed B.named
  refine hrun (fun pc lv st h => xm_W p l e (xm_rmX d) s m _ below meth c 0 0 (vx_MQ below (xm_Q E D ad ks post s.heap.size) (xm_XC E D ad ks px s.heap.size) _ s 1 6 (xm_A ad (xe_sh E).length s.heap.size)) D (xe_cl E) (xm_A ad (xe_sh E).length s.heap.size) ad ks (xe_sh E) (xe_ml E y) pc lv st h) ?_ xm_W_wk ?_ s.heap [] _ ⟨hl, hP, xm_D_of hD, va_S.rf⟩
  · refine xm_one_okQ (d := d) (T := xm_T E d) hOK (hOK.2.2 y hy).2 B.exec B.bytes hml hown hts hK hSF (by show d + 1 ≤ d + 6; omega) (by show 100 * (d + 1) ≤ 100 * (d + 2); omega) (fun z as h post hz hq => xm_sound hOK d z as h post hz hq) ⟨Nat.zero_le _, Nat.zero_le _⟩ (fun pc lv st h i hdg hi hs => ?_)
    intro H locs ls hR
    refine vx_ret ?_
    refine W.widen (k := 1) (n := 6) (Nat.zero_le _) (Nat.zero_le _) ?_
    exact xm_ret_ok B.exec B.bytes hK B.returns B.notSynchronized pc lv st h i hdg hi hs H locs ls hR
  · intro pc lv h' X htw hpx H locs ls hR
    refine hthr p e s m _ below meth c _ _ _ H locs ls pc X B.exec B.bytes (hR.1.1.trans hml.symm) hown hall hTF B.notSynchronized hno hR.2.2.2 htw (fun t ha h1 h2 => ⟨⟨h', hpx, hR.2.1.kept (fun k q hk => h2 q.1 (hR.2.1 k q hk).lt), va_K.moved ha hK⟩, Nat.le_trans hR.2.2.2.1 h1, fun q g1 g2 => (h2 q (Nat.lt_of_lt_of_le g1 hR.2.2.2.1)).trans (hR.2.2.2.2.1 q g1 g2)⟩)
