/-! ===== methods by number: tables, what a method does, and that it does so ===== -/
abbrev xm_E : Type := (Nat → MethodName) × (Nat → ByteArray) × (Nat → Nat × Nat × Nat × Bool) × (Nat → Option FieldType) × ((Nat → Nat → Option (Nat × Nat)) × (Nat → Nat → Option Int32) × (Nat → Nat → Option Int64) × (Nat → Nat → Option Nat) × (Nat → Nat → Option Nat)) × (List vw_C × (Nat → Nat → FieldType) × List xm_K × (Nat → Option (Nat × (Nat → Int32))) × (Nat → Option (Nat × (Nat → Int64))) × (Nat → Option (String × String × String)) × List Cond × Nat)
abbrev xe_yn (E : xm_E) : Nat → MethodName := E.1
abbrev xe_cy (E : xm_E) : Nat → ByteArray := E.2.1
abbrev xe_ml (E : xm_E) (y : Nat) : Nat := (E.2.2.1 y).1
abbrev xe_np (E : xm_E) (y : Nat) : Nat := (E.2.2.1 y).2.1
abbrev xe_cn (E : xm_E) (y : Nat) : Nat := (E.2.2.1 y).2.2.1
abbrev xe_is (E : xm_E) (y : Nat) : Bool := (E.2.2.1 y).2.2.2
abbrev xe_ry (E : xm_E) : Nat → Option FieldType := E.2.2.2.1
abbrev xe_fl (E : xm_E) : Nat → Nat → Option (Nat × Nat) := E.2.2.2.2.1.1
abbrev xe_kI (E : xm_E) : Nat → Nat → Option Int32 := E.2.2.2.2.1.2.1
abbrev xe_kL (E : xm_E) : Nat → Nat → Option Int64 := E.2.2.2.2.1.2.2.1
abbrev xe_gs (E : xm_E) : Nat → Nat → Option Nat := E.2.2.2.2.1.2.2.2.1
abbrev xe_lk (E : xm_E) : Nat → Nat → Option Nat := E.2.2.2.2.1.2.2.2.2
abbrev xe_cl (E : xm_E) : List vw_C := E.2.2.2.2.2.1
abbrev xe_ft (E : xm_E) : Nat → Nat → FieldType := E.2.2.2.2.2.2.1
abbrev xe_sh (E : xm_E) : List xm_K := E.2.2.2.2.2.2.2.1
abbrev xe_tI (E : xm_E) : Nat → Option (Nat × (Nat → Int32)) := E.2.2.2.2.2.2.2.2.1
abbrev xe_tL (E : xm_E) : Nat → Option (Nat × (Nat → Int64)) := E.2.2.2.2.2.2.2.2.2.1
abbrev xe_zs (E : xm_E) : Nat → Option (String × String × String) := E.2.2.2.2.2.2.2.2.2.2.1
abbrev xe_U (E : xm_E) : List Cond := E.2.2.2.2.2.2.2.2.2.2.2.1
abbrev xe_n (E : xm_E) : Nat := E.2.2.2.2.2.2.2.2.2.2.2.2
abbrev xm_Po : Type := Option Value → xm_H → Prop
abbrev xm_TT : Type := Nat → List Value → xm_H → xm_Po → Prop
def xm_cv (E : xm_E) (T : xm_TT) (z pc : Nat) (lv : xm_L) (st : List Value) (h : xm_H) (k : Nat → xm_L → List Value → xm_H → Prop) : Prop :=
  xe_is E z = false ∧ xe_np E z ≤ st.length ∧ match st.drop (xe_np E z) with
    | .ref b :: rest => (match (xe_sh E)[b]? with
        | some (.inr q) => q.1 = xe_cn E z
        | _ => False) ∧ (rest.map fun v => v.category).sum ≤ 9 ∧ T z (.ref b :: (st.take (xe_np E z)).reverse) h (fun r h' => k (pc + 3) lv (r.toList ++ rest) h')
    | _ => False
def xm_cs (E : xm_E) (T : xm_TT) (z pc : Nat) (lv : xm_L) (st : List Value) (h : xm_H) (k : Nat → xm_L → List Value → xm_H → Prop) : Prop :=
  xe_is E z = true ∧ xe_np E z ≤ st.length ∧ ((st.drop (xe_np E z)).map fun v => v.category).sum ≤ 8 ∧ T z (st.take (xe_np E z)).reverse h (fun r h' => k (pc + 3) lv (r.toList ++ st.drop (xe_np E z)) h')
def xm_sa (h : xm_H) (a : Nat) (f : Nat → Int32) : xm_H := (fun x => if x = a then f else h.1 x, h.2)
/-- System.arraycopy of rows of ints, bytes, booleans -/
def xm_acp (sh : List xm_K) (pc : Nat) (lv : xm_L) (st : List Value) (h : xm_H) (k : Nat → xm_L → List Value → xm_H → Prop) : Prop := match st with
  | .int n :: .int dp :: .ref a :: .int sp :: .ref b :: rest => (match sh[b]?, sh[a]? with
      | some (.inl q), some (.inl z) => (q.1 = z.1 ∧ q.1 ≠ .long ∧ refKind q.1 = false ∧ ¬ sp < 0 ∧ ¬ dp < 0 ∧ ¬ n < 0 ∧ sp.toNatClampNeg + n.toNatClampNeg ≤ q.2 ∧ dp.toNatClampNeg + n.toNatClampNeg ≤ z.2 ∧ (∀ i, i < n.toNatClampNeg → fits q.1 (.int (h.1 b (sp.toNatClampNeg + i))) = true) ∧ (rest.map fun v => v.category).sum ≤ 8) ∧ k (pc + 3) lv rest (xm_sa h a (va_cpy (h.1 b) (h.1 a) sp.toNatClampNeg dp.toNatClampNeg n.toNatClampNeg))
      | _, _ => False)
  | _ => False
def xm_ext (sh : List xm_K) (j pc : Nat) (lv : xm_L) (st : List Value) (h : xm_H) (k : Nat → xm_L → List Value → xm_H → Prop) : Prop := match j with
  | 0 => xm_acp sh pc lv st h k
  | 1 => xm_i2 st fun x y r => (r.map fun v => v.category).sum ≤ 8 ∧ k (pc + 3) lv (.int (if x < y then y else x) :: r) h
  | 2 => xm_i2 st fun x y r => (r.map fun v => v.category).sum ≤ 8 ∧ k (pc + 3) lv (.int (if y < x then y else x) :: r) h
  | _ => False
/-- the words of these -/
def xm_ew (own : String) (idx j : Nat) : List Cond := match j with
  | 0 => [.methodLink own idx arraycopyName, .native arraycopyName, .static arraycopyName, .initialized "java/lang/System"]
  | 1 => [.methodLink own idx Lib.Math.max.name, .static Lib.Math.max.name, .initialized "java/lang/Math", .code Lib.Math.max.name Lib.Math.max.code 2 (some .int)]
  | 2 => [.methodLink own idx Lib.Math.min.name, .static Lib.Math.min.name, .initialized "java/lang/Math", .code Lib.Math.min.name Lib.Math.min.code 2 (some .int)]
  | _ => []
def xm_step (E : xm_E) (T : xm_TT) (y : Nat) (i : Jvm.ClassFile.Instr) (pc : Nat) (lv : xm_L) (st : List Value) (h : xm_H) (post : xm_Po) (k : Nat → xm_L → List Value → xm_H → Prop) : Prop := match i with
  | .ireturn => (match st with
      | [.int v] => (match xe_ry E y with
          | some ty => narrow ty (.int v) = .int v
          | none => False) ∧ post (some (.int v)) h
      | _ => False)
  | .lreturn => (match st with
      | [.long v] => xe_ry E y = some .long ∧ post (some (.long v)) h
      | _ => False)
  | .return_ => st = [] ∧ xe_ry E y = none ∧ post none h
  | .invokevirtual idx => (match xe_lk E (xe_cn E y) idx with
      | some z => z < xe_n E ∧ xm_cv E T z pc lv st h k
      | none => False)
  | .invokestatic idx => (match xe_lk E (xe_cn E y) idx with
      | some z => if z < xe_n E then xm_cs E T z pc lv st h k else xm_ext (xe_sh E) (z - xe_n E) pc lv st h k
      | none => False)
  | i => xm_st (xe_cl E) (xe_ft E) (xe_sh E) (xe_tI E) (xe_tL E) (xe_fl E (xe_cn E y)) (xe_kI E (xe_cn E y)) (xe_kL E (xe_cn E y)) (xe_gs E (xe_cn E y)) (xe_ml E y) i pc lv st h k
def xm_one (E : xm_E) (T : xm_TT) (y : Nat) (post : xm_Po) (pc : Nat) (lv : xm_L) (st : List Value) (h : xm_H) (k : Nat → xm_L → List Value → xm_H → Prop) : Prop := match decode (xe_cy E y) pc with
  | .ok (i, len) => (xm_tsw i = true ∨ len = xm_len i) ∧ xm_step E T y i pc lv st h post k
  | .error _ => False
/-- fewer locals known -/
def xm_wk (P : Nat → xm_L → List Value → xm_H → Prop) : Prop := ∀ pc (lv lv' : xm_L) st h, (∀ q ∈ lv, q ∈ lv') → P pc lv st h → P pc lv' st h
/-- from there on the method comes to its end with post: the least such -/
def xm_go (E : xm_E) (T : xm_TT) (y : Nat) (post : xm_Po) (pc : Nat) (lv : xm_L) (st : List Value) (h : xm_H) : Prop :=
  ∀ P : Nat → xm_L → List Value → xm_H → Prop, (∀ pc lv st h, xm_one E T y post pc lv st h P → P pc lv st h) → xm_wk P → P pc lv st h
def xm_T (E : xm_E) : Nat → xm_TT
  | 0 => fun _ _ _ _ => False
  | d + 1 => fun y as h post => ((lg_sl as).length ≤ xe_ml E y) ∧ xm_go E (xm_T E d) y post 0 (lv_args 0 as) [] h
/-- the tables are right: once for all -/
def xm_YT (E : xm_E) (y : Nat) : Prop :=
    xm_FT (xe_cl E) (xe_U E) (xe_yn E y).cls (xe_fl E (xe_cn E y)) ∧ xm_KT (xe_U E) (xe_yn E y).cls (xe_kI E (xe_cn E y)) (xe_kL E (xe_cn E y)) ∧
    (∀ idx a, xe_gs E (xe_cn E y) idx = some a → ∃ q, xe_zs E a = some q ∧ Cond.fieldLink (xe_yn E y).cls idx q.1 q.2.1 q.2.2 ∈ xe_U E) ∧
    (∀ idx z, xe_lk E (xe_cn E y) idx = some z → ¬ z < xe_n E → ∀ w ∈ xm_ew (xe_yn E y).cls idx (z - xe_n E), w ∈ xe_U E) ∧
    ∀ idx z, xe_lk E (xe_cn E y) idx = some z → z < xe_n E → Cond.methodLink (xe_yn E y).cls idx (xe_yn E z) ∈ xe_U E ∧
      (xe_is E z = true → Cond.static (xe_yn E z) ∈ xe_U E) ∧ (xe_is E z = false → Cond.instanceMethod (xe_yn E z) ∈ xe_U E ∧ Cond.selects (xe_yn E z).cls (xe_yn E z) (xe_yn E z) ∈ xe_U E ∧ ∃ q, (xe_cl E)[xe_cn E z]? = some q ∧ q.1 = (xe_yn E z).cls)
def xm_OK (E : xm_E) : Prop := (∀ w ∈ xe_U E, goodWord w = true) ∧ xm_CT (xe_cl E) (xe_ft E) (xe_U E) ∧ (∀ y, y < xe_n E →
    (plainName (xe_yn E y).cls = true ∧ Cond.code (xe_yn E y) (xe_cy E y) (xe_ml E y) (xe_ry E y) ∈ xe_U E ∧ Cond.initialized (xe_yn E y).cls ∈ xe_U E ∧ xe_ml E y ≤ 80 ∧
      ((xe_yn E y).cls ≠ "java/lang/invoke/MethodHandle" ∧ (xe_yn E y).cls ≠ "java/lang/invoke/VarHandle" ∧ (parseMethodDescriptor (xe_yn E y).desc).map (fun d => d.parameters.length) = some (xe_np E y))) ∧ xm_YT E y)
def xm_A (ad : Nat → Nat) (n sz : Nat) : Nat → Prop := fun q => (∃ k, k < n ∧ q = ad k) ∨ sz ≤ q
def xm_SF (E : xm_E) (A : Nat → Prop) (ad : Nat → Nat) (s : State) : Prop :=
  (∀ a q, xe_tI E a = some q → va_T .int (ad a) q.1 (fun j => .int (q.2 j)) A s s.heap) ∧ (∀ a q, xe_tL E a = some q → va_T .long (ad a) q.1 (fun j => .long (q.2 j)) A s s.heap) ∧ ∀ a q, xe_zs E a = some q → va_Z q.1 q.2.1 q.2.2 (.ref (ad a)) A s s.heap
def xm_B (E : xm_E) (D : va_G) (ad : Nat → Nat) (ks : Nat → ClassId) (h : xm_H) (sz : Nat) (U : State) : Prop :=
  U.heap.size = sz ∧ va_P D (xe_cl E) (xm_w ad ks (xe_sh E) h) U.heap ∧ va_K D (xe_cl E) (xm_t ks (xe_sh E)) U ∧ va_D (fun _ => True) (xm_w ad ks (xe_sh E) h) ∧ xm_SF E (xm_A ad (xe_sh E).length sz) ad U
def xm_ws (E : xm_E) (y : Nat) : List Cond := Cond.code (xe_yn E y) (xe_cy E y) (xe_ml E y) (xe_ry E y) :: xe_U E
def xm_rm (d : Nat) : Room := { frames := d, cells := 0, slots := 0, locals := 100 * d }
def xm_Q (E : xm_E) (D : va_G) (ad : Nat → Nat) (ks : Nat → ClassId) (post : xm_Po) (sz : Nat) : Array Value → State → Outcome → State → Prop := fun _ st oc t =>
  (∃ r h', oc = .returned (r.map (xm_v ad)) ∧ post r h' ∧ va_P D (xe_cl E) (xm_w ad ks (xe_sh E) h') t.heap ∧ va_K D (xe_cl E) (xm_t ks (xe_sh E)) t) ∧ va_F (xm_A ad (xe_sh E).length sz) st t
abbrev xm_Met (E : xm_E) (l : Launch) (d y : Nat) (as : List Value) (h : xm_H) (post : xm_Po) : Prop :=
  ∀ (D : va_G) (ad : Nat → Nat) (ks : Nat → ClassId) (sz : Nat), Met l (xe_yn E y) (xm_ws E y) (xm_rm d) (va_Pc (as.map (xm_v ad)) (xm_B E D ad ks h sz)) (xm_Q E D ad ks post sz) 0 0 (xm_A ad (xe_sh E).length sz)
theorem xm_SF.moved {E : xm_E} {A B : Nat → Prop} {ad : Nat → Nat} {u U : State} (h : xm_SF E A ad u) (hvm : u.vm.Alike U.vm) (hq : ∀ a : Nat, a < u.heap.size → ¬ A a → U.heap[a]? = u.heap[a]?) (hAB : ∀ q, B q → A q) : xm_SF E B ad U :=
  ⟨fun a q hq1 => ((va_T.moved hvm (h.1 a q hq1)).kept hq).narrow hAB, fun a q hq1 => ((va_T.moved hvm (h.2.1 a q hq1)).kept hq).narrow hAB, fun a q hq1 => ((va_Z.moved hvm (h.2.2 a q hq1)).kept hq).narrow hAB⟩
theorem xm_D_of {E : xm_E} {ad : Nat → Nat} {ks : Nat → ClassId} {h : xm_H} {sz : Nat} {A : Nat → Prop} (hD : va_D A (xm_w ad ks (xe_sh E) h)) : va_D (xm_A ad (xe_sh E).length sz) (xm_w ad ks (xe_sh E) h) := by
  refine ⟨hD.1, fun k q hk => Or.inl ⟨k, ?_, ?_⟩⟩
  · have := (List.getElem?_eq_some_iff.mp hk).1
    simpa [xm_w] using this
  · simp only [xm_w, List.getElem?_mapIdx] at hk
    cases hs : (xe_sh E)[k]? with
    | none => rw [hs] at hk; cases hk
    | some K => rw [hs] at hk; cases hk; rfl
theorem xm_D_to {E : xm_E} {ad : Nat → Nat} {ks : Nat → ClassId} {h h' : xm_H} {A : Nat → Prop} (hD : va_D A (xm_w ad ks (xe_sh E) h)) : va_D A (xm_w ad ks (xe_sh E) h') := by
  have key : ∀ (k : Nat) (q : Nat × va_E), (xm_w ad ks (xe_sh E) h')[k]? = some q → ∃ q', (xm_w ad ks (xe_sh E) h)[k]? = some q' ∧ q'.1 = q.1 := by
    intro k q hk
    simp only [xm_w, List.getElem?_mapIdx] at hk ⊢
    cases hs : (xe_sh E)[k]? with
    | none => rw [hs] at hk; cases hk
    | some K => rw [hs] at hk; cases hk; exact ⟨_, rfl, rfl⟩
  refine ⟨fun i j p q hi hj hpq => ?_, fun k q hk => ?_⟩
  · obtain ⟨p', hp1, hp2⟩ := key i p hi
    obtain ⟨q', hq1, hq2⟩ := key j q hj
    exact hD.1 i j p' q' hp1 hq1 (by rw [hp2, hq2, hpq])
  · obtain ⟨q', hq1, hq2⟩ := key k q hk
    rw [← hq2]; exact hD.2 k q' hq1
section XM4
variable {p : Program} {l : Launch} {e : Env} {R : Room} {s : State} {m : MethodId} {args : Array Value} {below : List Frame} {meth : Method} {c : Code} {cells slots : Nat} {Q : State → Prop}
variable {E : xm_E} {D : va_G} {ad : Nat → Nat} {ks : Nat → ClassId}
/-- behind a call -/
theorem xm_back {H : Heap} {locs : List Loc} {pc : Nat} {ls : Array Slot} {st0 rest : List Value} {Qa : State → Outcome → State → Prop} {free : Addr → Prop} {A0 A1 : Nat → Prop} {H0 : Heap} {B : Option Value → State → Prop}
    (hr : va_Run p l e R s m args below meth c H locs cells slots 0 0 (F0 m pc ls st0) rest Qa free) (hQ : ∀ st v t, Qa st (.returned v) t → B v t ∧ va_F A1 st t) (hS : va_S A0 H0 H locs) (hA : ∀ q, A1 q → A0 q) (hf : ∀ q, free q → A0 q)
    (kk : ∀ (v : Option Value) (t : State) (H1 : Heap) (locs1 : List Loc), t.heap = H1 → s.vm.Alike t.vm → B v t → va_S A0 H0 H1 locs1 → W p l e R s m args below meth c H1 locs1 cells slots Q (F0 m (pc + 3) ls (v.toList ++ rest))) : W p l e R s m args below meth c H locs cells slots Q (F0 m pc ls st0) := by
  intro T hT X
  obtain ⟨v, st₀, t, T', L, h0, X', hL, e1, e2, hq, st⟩ := hr T hT X
  obtain ⟨hb, hz, hk⟩ := hQ _ _ _ hq
  rw [h0] at hz hk
  obtain ⟨t2, a1, b1⟩ := kk v t T'.heap (locs ++ L) e1.symm (by rw [← e2]; exact X'.warmed.alike) hb
    ⟨Nat.le_trans hS.1 (by rw [e1]; exact hz), fun q h1 h2 => by rw [e1, hk q (Nat.lt_of_lt_of_le h1 hS.1) (fun z => h2 (hA q z))]; exact hS.2.1 q h1 h2, fun q hq => by
      rcases List.mem_append.mp hq with h | h
      · exact hS.2.2 q h
      · exact hf _ (hL q h)⟩ T' rfl X'
  exact ⟨t2, st t2 a1, b1⟩
end XM4
