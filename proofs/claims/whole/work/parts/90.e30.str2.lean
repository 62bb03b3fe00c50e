/-! ===== frames with texts: what xm doesn't know comes in by 'ex' ===== -/
abbrev xm_Q1 : Type := Nat → xm_L → List Value → xm_H → Prop
def xm_goY (E : xm_E) (d y : Nat) (post : xm_Po) (tw : Nat → Option String) (px : String → xm_H → Prop) (ex : xm_Q1 → xm_Q1) (pc : Nat) (lv : xm_L) (st : List Value) (h : xm_H) : Prop :=
  ∀ P : xm_Q1, (∀ pc lv st h, xm_one E (xm_T E d) y post pc lv st h P → P pc lv st h) → xm_wk P → (∀ pc lv h X, tw pc = some X → px X h → P pc lv [] h) → (∀ pc lv st h, ex P pc lv st h → P pc lv st h) → P pc lv st h
def xm_mX (ex : xm_Q1 → xm_Q1) : Prop := ∀ P Q : xm_Q1, (∀ pc lv st h, P pc lv st h → Q pc lv st h) → ∀ pc lv st h, ex P pc lv st h → ex Q pc lv st h
section XMY
variable {E : xm_E} {d y z pc : Nat} {lv lv' : xm_L} {st : List Value} {h0 : xm_H} {post post' : xm_Po} {tw : Nat → Option String} {px : String → xm_H → Prop} {ex : xm_Q1 → xm_Q1}
theorem xy_mono (hp : ∀ r h', post r h' → post' r h') (h : xm_goY E d y post tw px ex pc lv st h0) : xm_goY E d y post' tw px ex pc lv st h0 :=
  fun P hP hw ht he => h P (fun _ _ _ _ q => hP _ _ _ _ (xm_one_mono (xm_T_mono d d (Nat.le_refl _)) hp (fun _ _ _ _ z => z) q)) hw ht he
theorem xy_one (h : xm_one E (xm_T E d) y post pc lv st h0 (xm_goY E d y post tw px ex)) : xm_goY E d y post tw px ex pc lv st h0 :=
  fun P hP hw ht he => hP _ _ _ _ (xm_one_mono (xm_T_mono d d (Nat.le_refl _)) (fun _ _ q => q) (fun _ _ _ _ q => q P hP hw ht he) h)
theorem xy_wk (hs : ∀ q ∈ lv, q ∈ lv') (h : xm_goY E d y post tw px ex pc lv st h0) : xm_goY E d y post tw px ex pc lv' st h0 := fun P hP hw ht he => hw _ _ _ _ _ hs (h P hP hw ht he)
theorem xy_thr {X : String} (ht : tw pc = some X) (h : px X h0) : xm_goY E d y post tw px ex pc lv [] h0 := fun _ _ _ hq _ => hq pc lv h0 X ht h
theorem xy_go (h : xm_go E (xm_T E d) y post pc lv st h0) : xm_goY E d y post tw px ex pc lv st h0 := fun P hP hw _ _ => h P hP hw
theorem xy_ex (hm : xm_mX ex) (h : ex (xm_goY E d y post tw px ex) pc lv st h0) : xm_goY E d y post tw px ex pc lv st h0 :=
  fun P hP hw ht he => he _ _ _ _ (hm _ _ (fun _ _ _ _ q => q P hP hw ht he) _ _ _ _ h)
theorem xy_blk : ∀ (b : List (Nat × Jvm.ClassFile.Instr × Nat)) {pc : Nat} {lv : xm_L} {st : List Value} {h0 : xm_H}, xm_bok (xe_cy E y) b → xm_blk E (xm_T E d) y post b pc lv st h0 (xm_goY E d y post tw px ex) → xm_goY E d y post tw px ex pc lv st h0
  | [], _, _, _, _, _, h => h
  | q :: r, _, _, _, _, hb, h => by
    obtain ⟨rfl, h⟩ := h
    obtain ⟨h1, h2⟩ := hb q List.mem_cons_self
    refine xy_one ?_
    unfold xm_one
    rw [h1]
    refine ⟨h2, xm_step_mono (xm_T_mono d d (Nat.le_refl _)) (fun _ _ z => z) (fun _ _ _ _ z => ?_) h⟩
    exact xy_blk r (fun w hw => hb w (List.mem_cons_of_mem _ hw)) z
end XMY
def xm_rmY (d k : Nat) : Room := { frames := d + 6 + k, cells := 0, slots := 0, locals := 100 * (d + 2 + k) }
/-- what 'ex' says, the machine does: what a row of its own must show -/
def xm_exs (E : xm_E) (l : Launch) (V : List Cond) (TF : (Nat → Nat) → (Nat → Prop) → State → Prop) (d k y : Nat) (ex : xm_Q1 → xm_Q1) : Prop :=
  ∀ (p : Program) (e : Env) (R : Room) (s : State) (m : MethodId) (args : Array Value) (below : List Frame) (meth : Method) (c : Code) (cells slots : Nat) (Q : State → Prop) (D : va_G) (ad : Nat → Nat) (ks : Nat → ClassId),
    p.tables.exec = Jvm.exec → c.code = xe_cy E y → c.maxLocals = xe_ml E y → s.vm.findClass (xe_yn E y).cls = some m.cls → (∀ w ∈ xe_U E ++ V, w.before args s = true) → va_K D (xe_cl E) (xm_t ks (xe_sh E)) s → xm_SF E (xm_A ad (xe_sh E).length s.heap.size) ad s → TF ad (xm_A ad (xe_sh E).length s.heap.size) s →
    d + 6 + k ≤ R.frames → 100 * (d + 2 + k) ≤ R.locals → cells ≤ R.cells ∧ slots ≤ R.slots →
    ∀ pc lv st h, ex (xm_W p l e R s m args below meth c cells slots Q D (xe_cl E) (xm_A ad (xe_sh E).length s.heap.size) ad ks (xe_sh E) (xe_ml E y)) pc lv st h → xm_W p l e R s m args below meth c cells slots Q D (xe_cl E) (xm_A ad (xe_sh E).length s.heap.size) ad ks (xe_sh E) (xe_ml E y) pc lv st h
theorem xm_metN {E : xm_E} {l : Launch} {V : List Cond} {TF : (Nat → Nat) → (Nat → Prop) → State → Prop} {d k y : Nat} {ex : xm_Q1 → xm_Q1} {as : List Value} {h : xm_H} {post : xm_Po} (hOK : xm_OK E) (hy : y < xe_n E) (hex : xm_exs E l V TF d k y ex) (hlen : (lg_sl as).length ≤ xe_ml E y) (hrun : xm_goY E d y post (fun _ => none) (fun _ _ => False) ex 0 (lv_args 0 as) [] h) (D : va_G) (ad : Nat → Nat) (ks : Nat → ClassId) (sz : Nat) :
    Met l (xe_yn E y) (xm_wsX E V y) (xm_rmY d k) (va_Pc (as.map (xm_v ad)) (fun U => xm_B E D ad ks h sz U ∧ TF ad (xm_A ad (xe_sh E).length sz) U)) (xm_Q E D ad ks post sz) 0 0 (xm_A ad (xe_sh E).length sz) := by
  obtain ⟨⟨hy1, hy2, hy3, hy4, hy5⟩, -⟩ := hOK.2.2 y hy
  refine Met.ofW (cc := xe_cy E y) (maxL := xe_ml E y) (ret := xe_ry E y) hy1 rfl ?_
  intro p e s m args below meth c s₁ B hml hv
  obtain ⟨rfl, ⟨hsz, hP, hK, hD, hSF⟩, hTF⟩ := hv
  subst hsz
  have hall : ∀ w ∈ xm_wsX E V y, w.before ((as.map (xm_v ad)).toArray) s = true := fun w hw => atoms_spec (ws := xm_wsX E V y) B.pre w hw
  have hUV : ∀ w ∈ xe_U E ++ V, w.before ((as.map (xm_v ad)).toArray) s = true := fun w hw => hall w (List.mem_cons_of_mem _ hw)
  have hts : ∀ w ∈ xe_U E, w.before ((as.map (xm_v ad)).toArray) s = true := fun w hw => hUV w (List.mem_append_left _ hw)
  have hl := lv_entry (as.map (xm_v ad)) (n := xe_ml E y) (by rw [xm_sl_len]; exact hlen)
  rw [xm_args_l] at hl
  rw [lg_entry_eq]
  have hown := findClass_of_methodNamed B.named
  refine hrun (fun pc lv st h => xm_W p l e (xm_rmY d k) s m _ below meth c 0 0 (MQ below (xm_Q E D ad ks post s.heap.size) ((as.map (xm_v ad)).toArray) s 0 0 (xm_A ad (xe_sh E).length s.heap.size)) D (xe_cl E) (xm_A ad (xe_sh E).length s.heap.size) ad ks (xe_sh E) (xe_ml E y) pc lv st h) ?_ xm_W_wk (fun _ _ _ _ q => by cases q) ?_ s.heap [] _ ⟨hl, hP, xm_D_of hD, va_S.rf⟩
  · exact xm_one_ok (d := d) (T := xm_T E d) hOK hy B.exec B.bytes hml hown hts hK hSF B.returns B.notSynchronized (by show d + 1 ≤ d + 6 + k; omega) (by show 100 * (d + 1) ≤ 100 * (d + 2 + k); omega) (fun z as h post hz hq => xm_sound hOK d z as h post hz hq) ⟨Nat.zero_le _, Nat.zero_le _⟩
  · exact fun pc lv st h q => hex p e (xm_rmY d k) s m _ below meth c 0 0 _ D ad ks B.exec B.bytes hml hown hUV hK hSF hTF (Nat.le_refl _) (Nat.le_refl _) ⟨Nat.le_refl _, Nat.le_refl _⟩ pc lv st h q
theorem xm_metY {E : xm_E} {l : Launch} {V : List Cond} {TF : (Nat → Nat) → (Nat → Prop) → State → Prop} {d y : Nat} {tw : Nat → Option String} {ex : xm_Q1 → xm_Q1} {as : List Value} {h : xm_H} {post : xm_Po} {px : String → xm_H → Prop} {ad : Nat → Nat} (hOK : xm_OK E) (hy : y < xe_n E) (hthr : xm_thr E l V (TF ad) (d + 3) y tw) (hex : xm_exs E l V TF d 3 y ex) (hlen : (lg_sl as).length ≤ xe_ml E y) (hrun : xm_goY E d y post tw px ex 0 (lv_args 0 as) [] h) (D : va_G) (ks : Nat → ClassId) (sz : Nat) :
    vx_Met l (xe_yn E y) (xm_wsX E V y) (xm_rmX (d + 3)) (va_Pc (as.map (xm_v ad)) (fun U => xm_B E D ad ks h sz U ∧ TF ad (xm_A ad (xe_sh E).length sz) U)) (xm_Q E D ad ks post sz) (xm_XC E D ad ks px sz) 1 6 (xm_A ad (xe_sh E).length sz) := by
  obtain ⟨⟨hy1, hy2, hy3, hy4, hy5⟩, -⟩ := hOK.2.2 y hy
  refine vx_ofW (cc := xe_cy E y) (maxL := xe_ml E y) (ret := xe_ry E y) hy1 rfl ?_
  intro p e s m args below meth c s₁ B hml hno hv
  obtain ⟨rfl, ⟨hsz, hP, hK, hD, hSF⟩, hTF⟩ := hv
  subst hsz
  have hall : ∀ w ∈ xm_wsX E V y, w.before ((as.map (xm_v ad)).toArray) s = true := fun w hw => atoms_spec (ws := xm_wsX E V y) B.pre w hw
  have hUV : ∀ w ∈ xe_U E ++ V, w.before ((as.map (xm_v ad)).toArray) s = true := fun w hw => hall w (List.mem_cons_of_mem _ hw)
  have hts : ∀ w ∈ xe_U E, w.before ((as.map (xm_v ad)).toArray) s = true := fun w hw => hUV w (List.mem_append_left _ hw)
  have hl := lv_entry (as.map (xm_v ad)) (n := xe_ml E y) (by rw [xm_sl_len]; exact hlen)
  rw [xm_args_l] at hl
  rw [lg_entry_eq]
  have hown := findClass_of_methodNamed B.named
  refine hrun (fun pc lv st h => xm_W p l e (xm_rmX (d + 3)) s m _ below meth c 0 0 (vx_MQ below (xm_Q E D ad ks post s.heap.size) (xm_XC E D ad ks px s.heap.size) _ s 1 6 (xm_A ad (xe_sh E).length s.heap.size)) D (xe_cl E) (xm_A ad (xe_sh E).length s.heap.size) ad ks (xe_sh E) (xe_ml E y) pc lv st h) ?_ xm_W_wk ?_ ?_ s.heap [] _ ⟨hl, hP, xm_D_of hD, va_S.rf⟩
  · refine xm_one_okQ (d := d) (T := xm_T E d) hOK (hOK.2.2 y hy).2 B.exec B.bytes hml hown hts hK hSF (by show d + 1 ≤ d + 3 + 6; omega) (by show 100 * (d + 1) ≤ 100 * (d + 3 + 2); omega) (fun z as h post hz hq => xm_sound hOK d z as h post hz hq) ⟨Nat.zero_le _, Nat.zero_le _⟩ (fun pc lv st h i hdg hi hs => ?_)
    intro H locs ls hR
    refine vx_ret ?_
    refine W.widen (k := 1) (n := 6) (Nat.zero_le _) (Nat.zero_le _) ?_
    exact xm_ret_ok B.exec B.bytes hK B.returns B.notSynchronized pc lv st h i hdg hi hs H locs ls hR
  · intro pc lv h' X htw hpx H locs ls hR
    refine hthr p e s m _ below meth c _ _ _ H locs ls pc X B.exec B.bytes (hR.1.1.trans hml.symm) hown hall hTF B.notSynchronized hno hR.2.2.2 htw (fun t ha h1 h2 => ⟨⟨h', hpx, hR.2.1.kept (fun k q hk => h2 q.1 (hR.2.1 k q hk).lt), va_K.moved ha hK⟩, Nat.le_trans hR.2.2.2.1 h1, fun q g1 g2 => (h2 q (Nat.lt_of_lt_of_le g1 hR.2.2.2.1)).trans (hR.2.2.2.2.1 q g1 g2)⟩)
  · exact fun pc lv st h q => hex p e (xm_rmX (d + 3)) s m _ below meth c 0 0 _ D ad ks B.exec B.bytes hml hown hUV hK hSF hTF (by show d + 6 + 3 ≤ d + 3 + 6; omega) (by show 100 * (d + 2 + 3) ≤ 100 * (d + 3 + 2); omega) ⟨Nat.zero_le _, Nat.zero_le _⟩ pc lv st h q
/-- a text's constant -/
def xs_ldc (tx : Nat → Option Nat) : xm_Q1 → xm_Q1 := fun P pc lv st h => ∃ i, tx pc = some i ∧ P (pc + 2) lv (.ref (300 + i) :: st) h
/-- a call of a method that is told apart -/
def xs_cV (E : xm_E) (y z : Nat) (SP : List Value → xm_H → xm_Po → Prop) : xm_Q1 → xm_Q1 := fun P pc lv st h =>
  ∃ idx as b rest, decode (xe_cy E y) pc = .ok (.invokevirtual idx, 3) ∧ xe_lk E (xe_cn E y) idx = some z ∧ xe_is E z = false ∧ as.length = xe_np E z ∧ (∃ q, (xe_sh E)[b]? = some (.inr q) ∧ q.1 = xe_cn E z) ∧ (rest.map fun v => v.category).sum ≤ 8 ∧ st = as.reverse ++ .ref b :: rest ∧ SP (.ref b :: as) h (fun r h' => P (pc + 3) lv (r.toList ++ rest) h')
def xs_cS (E : xm_E) (y z : Nat) (SP : List Value → xm_H → xm_Po → Prop) : xm_Q1 → xm_Q1 := fun P pc lv st h =>
  ∃ idx as rest, decode (xe_cy E y) pc = .ok (.invokestatic idx, 3) ∧ xe_lk E (xe_cn E y) idx = some z ∧ xe_is E z = true ∧ as.length = xe_np E z ∧ (rest.map fun v => v.category).sum ≤ 8 ∧ st = as.reverse ++ rest ∧ SP as h (fun r h' => P (pc + 3) lv (r.toList ++ rest) h')
def xm_mS (SP : List Value → xm_H → xm_Po → Prop) : Prop := ∀ as h p q, (∀ r h', p r h' → q r h') → SP as h p → SP as h q
theorem xs_ldc_m {tx : Nat → Option Nat} : xm_mX (xs_ldc tx) := fun P Q hq pc lv st h q => by obtain ⟨i, h1, h2⟩ := q; exact ⟨i, h1, hq _ _ _ _ h2⟩
theorem xs_cV_m {E : xm_E} {y z : Nat} {SP : List Value → xm_H → xm_Po → Prop} (hm : xm_mS SP) : xm_mX (xs_cV E y z SP) := fun P Q hq pc lv st h q => by
  obtain ⟨idx, as, b, rest, h1, h2, h3, h4, h5, h6, h7, h8⟩ := q
  exact ⟨idx, as, b, rest, h1, h2, h3, h4, h5, h6, h7, hm _ _ _ _ (fun _ _ z => hq _ _ _ _ z) h8⟩
theorem xs_cS_m {E : xm_E} {y z : Nat} {SP : List Value → xm_H → xm_Po → Prop} (hm : xm_mS SP) : xm_mX (xs_cS E y z SP) := fun P Q hq pc lv st h q => by
  obtain ⟨idx, as, rest, h1, h2, h3, h4, h5, h6, h7⟩ := q
  exact ⟨idx, as, rest, h1, h2, h3, h4, h5, h6, hm _ _ _ _ (fun _ _ z => hq _ _ _ _ z) h7⟩
theorem xs_or_m {e1 e2 : xm_Q1 → xm_Q1} (h1 : xm_mX e1) (h2 : xm_mX e2) : xm_mX (fun P pc lv st h => e1 P pc lv st h ∨ e2 P pc lv st h) := fun P Q hq pc lv st h q => q.elim (fun z => Or.inl (h1 P Q hq _ _ _ _ z)) (fun z => Or.inr (h2 P Q hq _ _ _ _ z))
theorem xm_exs_or {E : xm_E} {l : Launch} {V : List Cond} {TF : (Nat → Nat) → (Nat → Prop) → State → Prop} {d k y : Nat} {e1 e2 : xm_Q1 → xm_Q1} (h1 : xm_exs E l V TF d k y e1) (h2 : xm_exs E l V TF d k y e2) : xm_exs E l V TF d k y (fun P pc lv st h => e1 P pc lv st h ∨ e2 P pc lv st h) :=
  fun p e R s m args below meth c cells slots Q D ad ks a1 a2 a3 a4 a5 a6 a7 a8 a9 b1 b2 pc lv st h q => q.elim (h1 p e R s m args below meth c cells slots Q D ad ks a1 a2 a3 a4 a5 a6 a7 a8 a9 b1 b2 pc lv st h) (h2 p e R s m args below meth c cells slots Q D ad ks a1 a2 a3 a4 a5 a6 a7 a8 a9 b1 b2 pc lv st h)
theorem xm_exs_up {E : xm_E} {l : Launch} {V : List Cond} {TF : (Nat → Nat) → (Nat → Prop) → State → Prop} {d k k' y : Nat} {ex : xm_Q1 → xm_Q1} (hk : k ≤ k') (h1 : xm_exs E l V TF d k y ex) : xm_exs E l V TF d k' y ex :=
  fun p e R s m args below meth c cells slots Q D ad ks a1 a2 a3 a4 a5 a6 a7 a8 a9 b1 b2 pc lv st h q => h1 p e R s m args below meth c cells slots Q D ad ks a1 a2 a3 a4 a5 a6 a7 a8 (by omega) (by omega) b2 pc lv st h q
theorem xs_ldc_ok {E : xm_E} {l : Launch} {V : List Cond} {TF : (Nat → Nat) → (Nat → Prop) → State → Prop} {d k y : Nat} {tx : Nat → Option Nat} (htx : ∀ pc i, tx pc = some i → ∃ idx text, decode (xe_cy E y) pc = .ok (.ldc idx, 2) ∧ ∀ ad A s, TF ad A s → vk_R (xe_yn E y).cls idx text (ad (300 + i)) s) : xm_exs E l V TF d k y (xs_ldc tx) := by
  intro p e R s m args below meth c cells slots Q D ad ks hx hb hml hown hUV hK hSF hTF hRf hRl hcs pc lv st h q
  obtain ⟨i, h1, h2⟩ := q
  obtain ⟨idx, text, hdg, hv⟩ := htx pc i h1
  intro H locs ls hR
  exact va_ldcS hx hb hown (hv ad _ s hTF) hdg (h2 H locs ls hR)
/-- the contract of a method that is told apart -/
def xm_spM (E : xm_E) (l : Launch) (V : List Cond) (TF : (Nat → Nat) → (Nat → Prop) → State → Prop) (d k z : Nat) (SP : List Value → xm_H → xm_Po → Prop) : Prop :=
  ∀ as h post, SP as h post → ∀ (D : va_G) (ad : Nat → Nat) (ks : Nat → ClassId) (sz : Nat), Met l (xe_yn E z) (xm_wsX E V z) (xm_rmY d k) (va_Pc (as.map (xm_v ad)) (fun U => xm_B E D ad ks h sz U ∧ TF ad (xm_A ad (xe_sh E).length sz) U)) (xm_Q E D ad ks post sz) 0 0 (xm_A ad (xe_sh E).length sz)
theorem xm_goodX {E : xm_E} {V : List Cond} {z : Nat} (hOK : xm_OK E) (hz : z < xe_n E) (hgV : ∀ w ∈ V, goodWord w = true) : GoodIn (xe_U E ++ V) (xm_wsX E V z) := by
  obtain ⟨⟨v1, v2, v3, v4, v5⟩, -⟩ := hOK.2.2 z hz
  intro w hw
  rcases List.mem_cons.mp hw with h9 | h9
  · subst h9
    exact ⟨List.mem_append_left _ v2, good_of_word (hOK.1 _ v2)⟩
  · refine ⟨h9, good_of_word ?_⟩
    rcases List.mem_append.mp h9 with h8 | h8
    · exact hOK.1 w h8
    · exact hgV w h8
section XSC
variable {E : xm_E} {l : Launch} {V : List Cond} {TF : (Nat → Nat) → (Nat → Prop) → State → Prop} {d k y z : Nat} {SP : List Value → xm_H → xm_Po → Prop}
theorem xs_cV_ok (hOK : xm_OK E) (hy : y < xe_n E) (hz : z < xe_n E) (hgV : ∀ w ∈ V, goodWord w = true) (hTFb : ∀ ad A U g mk a, TF ad A U → TF ad A (State.calling U g mk a)) (hTFw : ∀ ad A B (u U : State), u.WarmedH U.vm → (∀ a : Nat, a < u.heap.size → ¬ A a → U.heap[a]? = u.heap[a]?) → (∀ q, B q → A q) → TF ad A u → TF ad B U) (hSP : xm_spM E l V TF d k z SP) : xm_exs E l V TF d (k + 1) y (xs_cV E y z SP) := by
  intro p e R s m args below meth c cells slots Q D ad ks hx hb hml hown hUV hK hSF hTF hRf hRl hcs pc lv st h q
  obtain ⟨idx, as, b, rest, hdg, hlk, his, ha, hbq, hcats, rfl, hgo⟩ := q
  intro H locs ls hR
  have hts : ∀ w ∈ xe_U E, w.before args s = true := fun w hw => hUV w (List.mem_append_left _ hw)
  obtain ⟨hyF, hyK, hyG, hyC, hyL⟩ := (hOK.2.2 y hy).2
  obtain ⟨hz2, hz3, hz4⟩ := hyL idx z hlk hz
  obtain ⟨w1, w2, qz, hq1, hq2⟩ := hz4 his
  obtain ⟨⟨v1, v2, v3, v4, v5⟩, -⟩ := hOK.2.2 z hz
  obtain ⟨bq, hb1, hb2⟩ := hbq
  have hM := hSP _ _ _ hgo D ad ks H.size
  have hst : (as.reverse ++ .ref b :: rest).map (xm_v ad) = ((as.map (xm_v ad)).reverse) ++ .ref (ad b) :: rest.map (xm_v ad) := by simp [xm_v]
  have hrun := va_runV (p := p) (l := l) (e := e) (R := R) (below := below) (meth := meth) (H := H) (locs := locs) (cells := cells) (slots := slots) (b := ad b) (As := as.map (xm_v ad)) (rest := rest.map (xm_v ad)) (g := F0 m pc ls ((as.reverse ++ .ref b :: rest).map (xm_v ad))) (C := (xe_yn E z).cls) (Ts := xe_U E ++ V) (own := (xe_yn E y).cls) (n := xe_np E z) (index := idx) ⟨hx, hb, hml, hown, hUV⟩ hM
    ⟨callB_of (xe_np E z) hUV (xm_goodX hOK hz hgV) rfl rfl rfl (hts _ v3) (hts _ hz2) v5 ⟨by show d + 6 + k + 1 ≤ R.frames; omega, by show 8 + (xe_ml E z + 11) + 100 * (d + 2 + k) ≤ R.locals; omega⟩, hts _ w1, hts _ w2⟩
    ⟨fun a U g mk q => ⟨(xm_blind (E := E) (D := D) (ad := ad) (ks := ks) (h := h) (sz := H.size) (av := (.ref b :: as).map (xm_v ad)) a U g mk ⟨q.1, q.2.1⟩).1, (xm_blind (E := E) (D := D) (ad := ad) (ks := ks) (h := h) (sz := H.size) (av := (.ref b :: as).map (xm_v ad)) a U g mk ⟨q.1, q.2.1⟩).2, hTFb _ _ _ _ _ _ q.2.2⟩,
      by have := va_recv hK hR.2.1 hq1 (q0 := b) (by rw [xm_w_at hb1, ← hb2]; rfl); rw [← hq2]; exact this,
      fun U hU hW => ⟨rfl, xm_preB hK hSF hR U hU hW, hTFw _ _ _ s U hW (by rw [hU]; exact hR.2.2.2.2.1) (xm_A_mono hR.2.2.2.1) hTF⟩⟩
    rfl (by simpa using ha) hR.1.1 hst (lv_room (by rw [xm_cats]; exact hcats)) hdg hcs
  refine xm_back hrun (B := fun v t => ∃ (r : Option Value) (h' : xm_H), v = r.map (xm_v ad) ∧ xm_W p l e R s m args below meth c cells slots Q D (xe_cl E) (xm_A ad (xe_sh E).length s.heap.size) ad ks (xe_sh E) (xe_ml E y) (pc + 3) lv (r.toList ++ rest) h' ∧ va_P D (xe_cl E) (xm_w ad ks (xe_sh E) h') t.heap) (A1 := xm_A ad (xe_sh E).length H.size) (fun st v t hq => ?_) hR.2.2.2 (xm_A_mono hR.2.2.2.1) (xm_A_mono hR.2.2.2.1) (fun v t H1 locs1 ht hvm hB hS1 => ?_)
  · obtain ⟨⟨r, h', e1, e2, e3, e4⟩, hF⟩ := hq
    exact ⟨⟨r, h', by cases e1; rfl, e2, e3⟩, hF⟩
  · obtain ⟨r, h', rfl, e2, e3⟩ := hB
    have h5 := e2 H1 locs1 ls ⟨hR.1, by rw [← ht]; exact e3, xm_D_to hR.2.2.1, hS1⟩
    cases r <;> exact h5
theorem xs_cS_ok (hOK : xm_OK E) (hy : y < xe_n E) (hz : z < xe_n E) (hgV : ∀ w ∈ V, goodWord w = true) (hTFb : ∀ ad A U g mk a, TF ad A U → TF ad A (State.calling U g mk a)) (hTFw : ∀ ad A B (u U : State), u.WarmedH U.vm → (∀ a : Nat, a < u.heap.size → ¬ A a → U.heap[a]? = u.heap[a]?) → (∀ q, B q → A q) → TF ad A u → TF ad B U) (hSP : xm_spM E l V TF d k z SP) : xm_exs E l V TF d (k + 1) y (xs_cS E y z SP) := by
  intro p e R s m args below meth c cells slots Q D ad ks hx hb hml hown hUV hK hSF hTF hRf hRl hcs pc lv st h q
  obtain ⟨idx, as, rest, hdg, hlk, his, ha, hcats, rfl, hgo⟩ := q
  intro H locs ls hR
  have hts : ∀ w ∈ xe_U E, w.before args s = true := fun w hw => hUV w (List.mem_append_left _ hw)
  obtain ⟨hyF, hyK, hyG, hyC, hyL⟩ := (hOK.2.2 y hy).2
  obtain ⟨hz2, hz3, hz4⟩ := hyL idx z hlk hz
  obtain ⟨⟨v1, v2, v3, v4, v5⟩, -⟩ := hOK.2.2 z hz
  have hM := hSP _ _ _ hgo D ad ks H.size
  have hst : (as.reverse ++ rest).map (xm_v ad) = ((as.map (xm_v ad)).reverse) ++ rest.map (xm_v ad) := by simp
  have hrun := va_runS (p := p) (l := l) (e := e) (R := R) (below := below) (meth := meth) (H := H) (locs := locs) (cells := cells) (slots := slots) (As := as.map (xm_v ad)) (rest := rest.map (xm_v ad)) (g := F0 m pc ls ((as.reverse ++ rest).map (xm_v ad))) (Ts := xe_U E ++ V) (own := (xe_yn E y).cls) (n := xe_np E z) (index := idx) ⟨hx, hb, hml, hown, hUV⟩ hM
    ⟨callB_of (xe_np E z) hUV (xm_goodX hOK hz hgV) rfl rfl rfl (hts _ v3) (hts _ hz2) v5 ⟨by show d + 6 + k + 1 ≤ R.frames; omega, by show 8 + (xe_ml E z + 11) + 100 * (d + 2 + k) ≤ R.locals; omega⟩, hts _ (hz3 his)⟩
    ⟨fun a U g mk q => ⟨(xm_blind (E := E) (D := D) (ad := ad) (ks := ks) (h := h) (sz := H.size) (av := as.map (xm_v ad)) a U g mk ⟨q.1, q.2.1⟩).1, (xm_blind (E := E) (D := D) (ad := ad) (ks := ks) (h := h) (sz := H.size) (av := as.map (xm_v ad)) a U g mk ⟨q.1, q.2.1⟩).2, hTFb _ _ _ _ _ _ q.2.2⟩,
      fun U hU hW => ⟨rfl, xm_preB hK hSF hR U hU hW, hTFw _ _ _ s U hW (by rw [hU]; exact hR.2.2.2.2.1) (xm_A_mono hR.2.2.2.1) hTF⟩⟩
    rfl (by simpa using ha) hR.1.1 hst (lv_room (by rw [xm_cats]; exact hcats)) hdg hcs
  refine xm_back hrun (B := fun v t => ∃ (r : Option Value) (h' : xm_H), v = r.map (xm_v ad) ∧ xm_W p l e R s m args below meth c cells slots Q D (xe_cl E) (xm_A ad (xe_sh E).length s.heap.size) ad ks (xe_sh E) (xe_ml E y) (pc + 3) lv (r.toList ++ rest) h' ∧ va_P D (xe_cl E) (xm_w ad ks (xe_sh E) h') t.heap) (A1 := xm_A ad (xe_sh E).length H.size) (fun st v t hq => ?_) hR.2.2.2 (xm_A_mono hR.2.2.2.1) (xm_A_mono hR.2.2.2.1) (fun v t H1 locs1 ht hvm hB hS1 => ?_)
  · obtain ⟨⟨r, h', e1, e2, e3, e4⟩, hF⟩ := hq
    exact ⟨⟨r, h', by cases e1; rfl, e2, e3⟩, hF⟩
  · obtain ⟨r, h', rfl, e2, e3⟩ := hB
    have h5 := e2 H1 locs1 ls ⟨hR.1, by rw [← ht]; exact e3, xm_D_to hR.2.2.1, hS1⟩
    cases r <;> exact h5
end XSC
