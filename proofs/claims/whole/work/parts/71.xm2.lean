def xm_i1 (st : List Value) (f : Int32 → List Value → Prop) : Prop := match st with
  | .int x :: r => f x r
  | _ => False
theorem xm_i1_of {st : List Value} {f : Int32 → List Value → Prop} (h : xm_i1 st f) : ∃ x r, st = .int x :: r ∧ f x r := by
  unfold xm_i1 at h
  split at h
  · exact ⟨_, _, rfl, h⟩
  · exact h.elim
def xm_i2 (st : List Value) (f : Int32 → Int32 → List Value → Prop) : Prop := match st with
  | .int y :: .int x :: r => f x y r
  | _ => False
theorem xm_i2_of {st : List Value} {f : Int32 → Int32 → List Value → Prop} (h : xm_i2 st f) : ∃ x y r, st = .int y :: .int x :: r ∧ f x y r := by
  unfold xm_i2 at h
  split at h
  · exact ⟨_, _, _, rfl, h⟩
  · exact h.elim
def xm_l1 (st : List Value) (f : Int64 → List Value → Prop) : Prop := match st with
  | .long x :: r => f x r
  | _ => False
theorem xm_l1_of {st : List Value} {f : Int64 → List Value → Prop} (h : xm_l1 st f) : ∃ x r, st = .long x :: r ∧ f x r := by
  unfold xm_l1 at h
  split at h
  · exact ⟨_, _, rfl, h⟩
  · exact h.elim
def xm_l2 (st : List Value) (f : Int64 → Int64 → List Value → Prop) : Prop := match st with
  | .long y :: .long x :: r => f x y r
  | _ => False
theorem xm_l2_of {st : List Value} {f : Int64 → Int64 → List Value → Prop} (h : xm_l2 st f) : ∃ x y r, st = .long y :: .long x :: r ∧ f x y r := by
  unfold xm_l2 at h
  split at h
  · exact ⟨_, _, _, rfl, h⟩
  · exact h.elim
def xm_li (st : List Value) (f : Int64 → Int32 → List Value → Prop) : Prop := match st with
  | .int y :: .long x :: r => f x y r
  | _ => False
theorem xm_li_of {st : List Value} {f : Int64 → Int32 → List Value → Prop} (h : xm_li st f) : ∃ x y r, st = .int y :: .long x :: r ∧ f x y r := by
  unfold xm_li at h
  split at h
  · exact ⟨_, _, _, rfl, h⟩
  · exact h.elim
def xm_r1 (st : List Value) (f : Nat → List Value → Prop) : Prop := match st with
  | .ref a :: r => f a r
  | _ => False
theorem xm_r1_of {st : List Value} {f : Nat → List Value → Prop} (h : xm_r1 st f) : ∃ a r, st = .ref a :: r ∧ f a r := by
  unfold xm_r1 at h
  split at h
  · exact ⟨_, _, rfl, h⟩
  · exact h.elim
def xm_ri (st : List Value) (f : Nat → Int32 → List Value → Prop) : Prop := match st with
  | .int i :: .ref a :: r => f a i r
  | _ => False
theorem xm_ri_of {st : List Value} {f : Nat → Int32 → List Value → Prop} (h : xm_ri st f) : ∃ a i r, st = .int i :: .ref a :: r ∧ f a i r := by
  unfold xm_ri at h
  split at h
  · exact ⟨_, _, _, rfl, h⟩
  · exact h.elim
def xm_rii (st : List Value) (f : Nat → Int32 → Int32 → List Value → Prop) : Prop := match st with
  | .int x :: .int i :: .ref a :: r => f a i x r
  | _ => False
theorem xm_rii_of {st : List Value} {f : Nat → Int32 → Int32 → List Value → Prop} (h : xm_rii st f) : ∃ a i x r, st = .int x :: .int i :: .ref a :: r ∧ f a i x r := by
  unfold xm_rii at h
  split at h
  · exact ⟨_, _, _, _, rfl, h⟩
  · exact h.elim
def xm_ril (st : List Value) (f : Nat → Int32 → Int64 → List Value → Prop) : Prop := match st with
  | .long x :: .int i :: .ref a :: r => f a i x r
  | _ => False
theorem xm_ril_of {st : List Value} {f : Nat → Int32 → Int64 → List Value → Prop} (h : xm_ril st f) : ∃ a i x r, st = .long x :: .int i :: .ref a :: r ∧ f a i x r := by
  unfold xm_ril at h
  split at h
  · exact ⟨_, _, _, _, rfl, h⟩
  · exact h.elim
def xm_v1 (st : List Value) (f : Value → List Value → Prop) : Prop := match st with
  | v :: r => f v r
  | _ => False
theorem xm_v1_of {st : List Value} {f : Value → List Value → Prop} (h : xm_v1 st f) : ∃ v r, st = v :: r ∧ f v r := by
  unfold xm_v1 at h
  split at h
  · exact ⟨_, _, rfl, h⟩
  · exact h.elim
def xm_v2 (st : List Value) (f : Value → Value → List Value → Prop) : Prop := match st with
  | v :: w :: r => f v w r
  | _ => False
theorem xm_v2_of {st : List Value} {f : Value → Value → List Value → Prop} (h : xm_v2 st f) : ∃ v w r, st = v :: w :: r ∧ f v w r := by
  unfold xm_v2 at h
  split at h
  · exact ⟨_, _, _, rfl, h⟩
  · exact h.elim
def xm_vr (st : List Value) (f : Value → Nat → List Value → Prop) : Prop := match st with
  | v :: .ref a :: r => f v a r
  | _ => False
theorem xm_vr_of {st : List Value} {f : Value → Nat → List Value → Prop} (h : xm_vr st f) : ∃ v a r, st = v :: .ref a :: r ∧ f v a r := by
  unfold xm_vr at h
  split at h
  · exact ⟨_, _, _, rfl, h⟩
  · exact h.elim
def xm_get (lv : xm_L) (i : Nat) (f : Value → Prop) : Prop := match lv.find? (fun q => q.1 == i) with
  | some q => f q.2
  | none => False
theorem xm_get_of {ad : Nat → Nat} {lv : xm_L} {i : Nat} {f : Value → Prop} {ls : Array Slot} {nL : Nat} (hl : lv_has ls nL (xm_l ad lv)) (h : xm_get lv i f) : ∃ v, ls[i]? = some (.val (xm_v ad v)) ∧ f v := by
  unfold xm_get at h
  split at h
  · rename_i q hq
    refine ⟨q.2, ?_, h⟩
    have h1 := List.find?_some hq
    have h2 := List.mem_of_find?_eq_some hq
    have h3 := hl.2.2 (q.1, xm_v ad q.2) (List.mem_map.mpr ⟨q, h2, rfl⟩)
    have h4 : q.1 = i := by simpa using h1
    rw [← h4]; exact h3
  · exact h.elim
def xm_isI (v : Value) (f : Int32 → Prop) : Prop := match v with
  | .int x => f x
  | _ => False
theorem xm_isI_of {v : Value} {f : Int32 → Prop} (h : xm_isI v f) : ∃ x, v = .int x ∧ f x := by
  unfold xm_isI at h
  split at h
  · exact ⟨_, rfl, h⟩
  · exact h.elim
def xm_isJ (v : Value) (f : Int64 → Prop) : Prop := match v with
  | .long x => f x
  | _ => False
theorem xm_isJ_of {v : Value} {f : Int64 → Prop} (h : xm_isJ v f) : ∃ x, v = .long x ∧ f x := by
  unfold xm_isJ at h
  split at h
  · exact ⟨_, rfl, h⟩
  · exact h.elim
def xm_isR (v : Value) (f : Nat → Prop) : Prop := match v with
  | .ref x => f x
  | _ => False
theorem xm_isR_of {v : Value} {f : Nat → Prop} (h : xm_isR v f) : ∃ x, v = .ref x ∧ f x := by
  unfold xm_isR at h
  split at h
  · exact ⟨_, rfl, h⟩
  · exact h.elim
def xm_p1 (lv : xm_L) (i : Nat) (v : Value) : xm_L := (i, v) :: lv.filter (fun q => !(q.1 == i) && !(q.1 + 1 == i && q.2.category == 2))
def xm_p2 (lv : xm_L) (i : Nat) (v : Value) : xm_L := (i, v) :: lv.filter (fun q => !(q.1 == i) && (!(q.1 == i + 1) && !(q.1 + 1 == i && q.2.category == 2)))
theorem xm_p1_eq (ad : Nat → Nat) (lv : xm_L) (i : Nat) (v : Value) : (i, xm_v ad v) :: (xm_l ad lv).filter (fun q => !(q.1 == i) && !(q.1 + 1 == i && q.2.category == 2)) = xm_l ad (xm_p1 lv i v) := by
  simp only [xm_p1, xm_l, List.map_cons, List.filter_map]
  congr 2
  apply List.filter_congr
  intro q _
  simp [Function.comp, xm_cat]
theorem xm_p2_eq (ad : Nat → Nat) (lv : xm_L) (i : Nat) (v : Value) : (i, xm_v ad v) :: (xm_l ad lv).filter (fun q => !(q.1 == i) && (!(q.1 == i + 1) && !(q.1 + 1 == i && q.2.category == 2))) = xm_l ad (xm_p2 lv i v) := by
  simp only [xm_p2, xm_l, List.map_cons, List.filter_map]
  congr 2
  apply List.filter_congr
  intro q _
  simp [Function.comp, xm_cat]
/-- a place that a branch goes to -/
def xm_to (pc : Nat) (off : Int) (f : Nat → Prop) : Prop := 0 ≤ (pc : Int) + off ∧ f ((pc : Int) + off).toNat
theorem xm_to_of {pc : Nat} {off : Int} {f : Nat → Prop} (h : xm_to pc off f) : ∃ t : Nat, (pc : Int) + off = (t : Int) ∧ f t := ⟨_, (Int.toNat_of_nonneg h.1).symm, h.2⟩
def xm_c1 (c : Jvm.ClassFile.Cond) (x : Int32) : Prop := match c with
  | .eq => x = 0
  | .ne => ¬ x = 0
  | .lt => x < 0
  | .ge => 0 ≤ x
  | .gt => 0 < x
  | .le => x ≤ 0
def xm_c2 (c : Jvm.ClassFile.Cond) (x y : Int32) : Prop := match c with
  | .eq => x = y
  | .ne => ¬ x = y
  | .lt => x < y
  | .ge => y ≤ x
  | .gt => y < x
  | .le => x ≤ y
theorem xm_gk_of {lv : xm_L} {i : Nat} {f : Value → Prop} (h : xm_get lv i f) : ∃ (q : Nat) (v : Value), lv[q]? = some (i, v) ∧ f v := by
  unfold xm_get at h
  split at h
  · rename_i q hq
    have h1 := List.find?_some hq
    have h4 : q.1 = i := by simpa using h1
    obtain ⟨j, hj⟩ := List.getElem?_of_mem (List.mem_of_find?_eq_some hq)
    exact ⟨j, q.2, by rw [hj, ← h4], h⟩
  · exact h.elim
def xm_st0 (nL : Nat) (i : Jvm.ClassFile.Instr) (pc : Nat) (lv : xm_L) (st : List Value) (h : xm_H) (k : Nat → xm_L → List Value → xm_H → Prop) : Prop := match i with
  | .iconst n => k (pc + 1) lv (.int (Int32.ofInt n) :: st) h
  | .bipush n => k (pc + 2) lv (.int (Int8.ofInt n).toInt32 :: st) h
  | .sipush n => k (pc + 3) lv (.int (Int16.ofInt n).toInt32 :: st) h
  | .lconst n => k (pc + 1) lv (.long (Int64.ofNat (n : Nat)) :: st) h
  | .iload n => xm_get lv n fun v => xm_isI v fun x => k (pc + 2) lv (.int x :: st) h
  | .istore n => xm_i1 st fun x r => n < nL ∧ k (pc + 2) (xm_p1 lv n (.int x)) r h
  | .iload_n n => xm_get lv (n : Nat) fun v => xm_isI v fun x => k (pc + 1) lv (.int x :: st) h
  | .istore_n n => xm_i1 st fun x r => (n : Nat) < nL ∧ k (pc + 1) (xm_p1 lv (n : Nat) (.int x)) r h
  | .lload n => xm_get lv n fun v => xm_isJ v fun x => k (pc + 2) lv (.long x :: st) h
  | .lstore n => xm_l1 st fun x r => n + 1 < nL ∧ k (pc + 2) (xm_p2 lv n (.long x)) r h
  | .lload_n n => xm_get lv (n : Nat) fun v => xm_isJ v fun x => k (pc + 1) lv (.long x :: st) h
  | .lstore_n n => xm_l1 st fun x r => (n : Nat) + 1 < nL ∧ k (pc + 1) (xm_p2 lv (n : Nat) (.long x)) r h
  | .aload n => xm_get lv n fun v => xm_isR v fun x => k (pc + 2) lv (.ref x :: st) h
  | .astore n => xm_r1 st fun a r => n < nL ∧ k (pc + 2) (xm_p1 lv n (.ref a)) r h
  | .aload_n n => xm_get lv (n : Nat) fun v => xm_isR v fun x => k (pc + 1) lv (.ref x :: st) h
  | .astore_n n => xm_r1 st fun a r => (n : Nat) < nL ∧ k (pc + 1) (xm_p1 lv (n : Nat) (.ref a)) r h
  | .iinc n d => n < nL ∧ xm_get lv n fun v => xm_isI v fun x => k (pc + 3) (xm_p1 lv n (.int (x + Int32.ofInt d))) st h
  | .iadd => xm_i2 st fun x y r => k (pc + 1) lv (.int (x + y) :: r) h
  | .isub => xm_i2 st fun x y r => k (pc + 1) lv (.int (x - y) :: r) h
  | .imul => xm_i2 st fun x y r => k (pc + 1) lv (.int (x * y) :: r) h
  | .iand => xm_i2 st fun x y r => k (pc + 1) lv (.int (x &&& y) :: r) h
  | .ior => xm_i2 st fun x y r => k (pc + 1) lv (.int (x ||| y) :: r) h
  | .ixor => xm_i2 st fun x y r => k (pc + 1) lv (.int (x ^^^ y) :: r) h
  | .ishl => xm_i2 st fun x y r => k (pc + 1) lv (.int (x <<< (y &&& 31)) :: r) h
  | .ishr => xm_i2 st fun x y r => k (pc + 1) lv (.int (x >>> (y &&& 31)) :: r) h
  | .iushr => xm_i2 st fun x y r => k (pc + 1) lv (.int ((x.toUInt32 >>> (y.toUInt32 &&& Int32.toUInt32 31)).toInt32) :: r) h
  | .idiv => xm_i2 st fun x y r => ¬ y = 0 ∧ k (pc + 1) lv (.int (x / y) :: r) h
  | .irem => xm_i2 st fun x y r => ¬ y = 0 ∧ k (pc + 1) lv (.int (x - x / y * y) :: r) h
  | .ladd => xm_l2 st fun x y r => k (pc + 1) lv (.long (x + y) :: r) h
  | .lsub => xm_l2 st fun x y r => k (pc + 1) lv (.long (x - y) :: r) h
  | .lmul => xm_l2 st fun x y r => k (pc + 1) lv (.long (x * y) :: r) h
  | .land => xm_l2 st fun x y r => k (pc + 1) lv (.long (x &&& y) :: r) h
  | .lor => xm_l2 st fun x y r => k (pc + 1) lv (.long (x ||| y) :: r) h
  | .lxor => xm_l2 st fun x y r => k (pc + 1) lv (.long (x ^^^ y) :: r) h
  | .ldiv => xm_l2 st fun x y r => ¬ y = 0 ∧ k (pc + 1) lv (.long (x / y) :: r) h
  | .lrem => xm_l2 st fun x y r => ¬ y = 0 ∧ k (pc + 1) lv (.long (x - x / y * y) :: r) h
  | .lshl => xm_li st fun x y r => k (pc + 1) lv (.long (x <<< (y.toInt64 &&& 63)) :: r) h
  | .lshr => xm_li st fun x y r => k (pc + 1) lv (.long (x >>> (y.toInt64 &&& 63)) :: r) h
  | .lushr => xm_li st fun x y r => k (pc + 1) lv (.long ((x.toUInt64 >>> (y.toInt64.toUInt64 &&& Int64.toUInt64 63)).toInt64) :: r) h
  | .lcmp => xm_l2 st fun x y r => k (pc + 1) lv (.int (lg_cmp x y) :: r) h
  | .ineg => xm_i1 st fun x r => k (pc + 1) lv (.int (-x) :: r) h
  | .lneg => xm_l1 st fun x r => k (pc + 1) lv (.long (-x) :: r) h
  | .i2l => xm_i1 st fun x r => k (pc + 1) lv (.long x.toInt64 :: r) h
  | .l2i => xm_l1 st fun x r => k (pc + 1) lv (.int x.toInt32 :: r) h
  | .i2b => xm_i1 st fun x r => k (pc + 1) lv (.int x.toInt8.toInt32 :: r) h
  | .dup => xm_v1 st fun v r => v.category = 1 ∧ k (pc + 1) lv (v :: v :: r) h
  | .pop => xm_v1 st fun v r => v.category = 1 ∧ k (pc + 1) lv r h
  | .dup2 => xm_v2 st fun v w r => v.category = 1 ∧ w.category = 1 ∧ k (pc + 1) lv (v :: w :: v :: w :: r) h
  | .goto off => xm_to pc off fun t => k t lv st h
  | .ifCond cd off => xm_i1 st fun x r => xm_to pc off fun t => (xm_c1 cd x → k t lv r h) ∧ (¬ xm_c1 cd x → k (pc + 3) lv r h)
  | .if_icmp cd off => xm_i2 st fun x y r => xm_to pc off fun t => (xm_c2 cd x y → k t lv r h) ∧ (¬ xm_c2 cd x y → k (pc + 3) lv r h)
  | _ => False
def xm_len (i : Jvm.ClassFile.Instr) : Nat := match i with
  | .bipush _ => 2
  | .sipush _ => 3
  | .iload _ => 2
  | .istore _ => 2
  | .lload _ => 2
  | .lstore _ => 2
  | .aload _ => 2
  | .astore _ => 2
  | .iinc _ _ => 3
  | .goto _ => 3
  | .ifCond _ _ => 3
  | .if_icmp _ _ => 3
  | .getfield _ => 3
  | .putfield _ => 3
  | .getstatic _ => 3
  | .ldc _ => 2
  | .ldc_w _ => 3
  | .ldc2_w _ => 3
  | .invokevirtual _ => 3
  | .invokestatic _ => 3
  | .invokespecial _ => 3
  | _ => 1
section XM2
variable {p : Program} {l : Launch} {e : Env} {R : Room} {s : State} {m : MethodId} {args : Array Value} {below : List Frame} {meth : Method} {c : Code} {cells slots : Nat} {Q : State → Prop}
variable {cc : ByteArray} {nL : Nat} {ad : Nat → Nat} {ks : Nat → ClassId} {sh : List xm_K} {D : va_G} {cl : List vw_C} {A : Nat → Prop}
/-- what a frame has: locals, cells, what may be written -/
def xm_R (D : va_G) (cl : List vw_C) (A : Nat → Prop) (ad : Nat → Nat) (ks : Nat → ClassId) (sh : List xm_K) (nL : Nat) (H0 : Heap) (lv : xm_L) (h : xm_H) (H : Heap) (locs : List Loc) (ls : Array Slot) : Prop :=
  lv_has ls nL (xm_l ad lv) ∧ va_P D cl (xm_w ad ks sh h) H ∧ va_D A (xm_w ad ks sh h) ∧ va_S A H0 H locs
def xm_W (p : Program) (l : Launch) (e : Env) (R : Room) (s : State) (m : MethodId) (args : Array Value) (below : List Frame) (meth : Method) (c : Code) (cells slots : Nat) (Q : State → Prop) (D : va_G) (cl : List vw_C) (A : Nat → Prop) (ad : Nat → Nat) (ks : Nat → ClassId) (sh : List xm_K) (nL : Nat) (pc : Nat) (lv : xm_L) (st : List Value) (h : xm_H) : Prop :=
  ∀ (H : Heap) (locs : List Loc) (ls : Array Slot), xm_R D cl A ad ks sh nL s.heap lv h H locs ls → W p l e R s m args below meth c H locs cells slots Q (F0 m pc ls (st.map (xm_v ad)))
theorem xm_st0_ok (C : p.tables.exec = Jvm.exec ∧ c.code = cc ∧ True) {i : Jvm.ClassFile.Instr} {len pc : Nat} {lv : xm_L} {st : List Value} {h0 : xm_H} {k : Nat → xm_L → List Value → xm_H → Prop} (hdg : decode cc pc = .ok (i, len)) (hlen : len = xm_len i)
    (hk : ∀ pc' lv' st' h', k pc' lv' st' h' → xm_W p l e R s m args below meth c cells slots Q D cl A ad ks sh nL pc' lv' st' h') (h : xm_st0 nL i pc lv st h0 k) : xm_W p l e R s m args below meth c cells slots Q D cl A ad ks sh nL pc lv st h0 := by
  intro H locs ls hR
  subst hlen
  cases i with
  | iconst n =>
    simp only [xm_st0] at h
    exact lv_iconst C.1 C.2.1 hdg rfl (hk _ _ _ _ h H locs ls hR)
  | bipush n =>
    simp only [xm_st0] at h
    exact lv_bipush C.1 C.2.1 hdg rfl (hk _ _ _ _ h H locs ls hR)
  | sipush n =>
    simp only [xm_st0] at h
    exact lv_sipush C.1 C.2.1 hdg rfl (hk _ _ _ _ h H locs ls hR)
  | lconst n =>
    simp only [xm_st0] at h
    exact lv_lconst C.1 C.2.1 hdg rfl (hk _ _ _ _ h H locs ls hR)
  | iload n =>
    simp only [xm_st0] at h
    obtain ⟨v, hv, h⟩ := xm_get_of hR.1 h
    obtain ⟨x, rfl, h⟩ := xm_isI_of h
    exact lv_iload C.1 C.2.1 hdg hv (hk _ _ _ _ h H locs ls hR)
  | istore n =>
    simp only [xm_st0] at h
    obtain ⟨x, r, rfl, hn, h⟩ := xm_i1_of h
    exact lv_istore C.1 C.2.1 hdg hR.1 hn (xm_p1_eq ad lv _ (.int x)) (fun ls' hl' => hk _ _ _ _ h H locs ls' ⟨hl', hR.2⟩)
  | iload_n n =>
    simp only [xm_st0] at h
    obtain ⟨v, hv, h⟩ := xm_get_of hR.1 h
    obtain ⟨x, rfl, h⟩ := xm_isI_of h
    exact lv_iload_n C.1 C.2.1 hdg rfl hv (hk _ _ _ _ h H locs ls hR)
  | istore_n n =>
    simp only [xm_st0] at h
    obtain ⟨x, r, rfl, hn, h⟩ := xm_i1_of h
    exact lv_istore_n C.1 C.2.1 hdg rfl hR.1 hn (xm_p1_eq ad lv _ (.int x)) (fun ls' hl' => hk _ _ _ _ h H locs ls' ⟨hl', hR.2⟩)
  | lload n =>
    simp only [xm_st0] at h
    obtain ⟨v, hv, h⟩ := xm_get_of hR.1 h
    obtain ⟨x, rfl, h⟩ := xm_isJ_of h
    exact lv_lload C.1 C.2.1 hdg hv (hk _ _ _ _ h H locs ls hR)
  | lstore n =>
    simp only [xm_st0] at h
    obtain ⟨x, r, rfl, hn, h⟩ := xm_l1_of h
    exact lv_lstore C.1 C.2.1 hdg hR.1 hn (xm_p2_eq ad lv _ (.long x)) (fun ls' hl' => hk _ _ _ _ h H locs ls' ⟨hl', hR.2⟩)
  | lload_n n =>
    simp only [xm_st0] at h
    obtain ⟨v, hv, h⟩ := xm_get_of hR.1 h
    obtain ⟨x, rfl, h⟩ := xm_isJ_of h
    exact lv_lload_n C.1 C.2.1 hdg rfl hv (hk _ _ _ _ h H locs ls hR)
  | lstore_n n =>
    simp only [xm_st0] at h
    obtain ⟨x, r, rfl, hn, h⟩ := xm_l1_of h
    exact lv_lstore_n C.1 C.2.1 hdg rfl hR.1 hn (xm_p2_eq ad lv _ (.long x)) (fun ls' hl' => hk _ _ _ _ h H locs ls' ⟨hl', hR.2⟩)
  | aload n =>
    simp only [xm_st0] at h
    obtain ⟨v, hv, h⟩ := xm_get_of hR.1 h
    obtain ⟨x, rfl, h⟩ := xm_isR_of h
    exact lv_aload C.1 C.2.1 hdg hv (hk _ _ _ _ h H locs ls hR)
  | astore n =>
    simp only [xm_st0] at h
    obtain ⟨a, r, rfl, hn, h⟩ := xm_r1_of h
    exact lv_astore C.1 C.2.1 hdg hR.1 hn (xm_p1_eq ad lv _ (.ref a)) (fun ls' hl' => hk _ _ _ _ h H locs ls' ⟨hl', hR.2⟩)
  | aload_n n =>
    simp only [xm_st0] at h
    obtain ⟨v, hv, h⟩ := xm_get_of hR.1 h
    obtain ⟨x, rfl, h⟩ := xm_isR_of h
    exact lv_aload_n C.1 C.2.1 hdg rfl hv (hk _ _ _ _ h H locs ls hR)
  | astore_n n =>
    simp only [xm_st0] at h
    obtain ⟨a, r, rfl, hn, h⟩ := xm_r1_of h
    exact lv_astore_n C.1 C.2.1 hdg rfl hR.1 hn (xm_p1_eq ad lv _ (.ref a)) (fun ls' hl' => hk _ _ _ _ h H locs ls' ⟨hl', hR.2⟩)
  | iinc n d =>
    simp only [xm_st0] at h
    obtain ⟨hn, h⟩ := h
    obtain ⟨q, v, hq, h⟩ := xm_gk_of h
    obtain ⟨x, rfl, h⟩ := xm_isI_of h
    have hq2 : (xm_l ad lv)[q]? = some (n, .int x) := by rw [xm_l, List.getElem?_map, hq]; rfl
    exact lv_iinc C.1 C.2.1 hdg hR.1 hq2 rfl hn (xm_p1_eq ad lv _ (.int _)) (fun ls' hl' => hk _ _ _ _ h H locs ls' ⟨hl', hR.2⟩)
  | iadd =>
    simp only [xm_st0] at h
    obtain ⟨x, y, r, rfl, h⟩ := xm_i2_of h
    exact lv_iadd C.1 C.2.1 hdg (hk _ _ _ _ h H locs ls hR)
  | isub =>
    simp only [xm_st0] at h
    obtain ⟨x, y, r, rfl, h⟩ := xm_i2_of h
    exact lv_isub C.1 C.2.1 hdg (hk _ _ _ _ h H locs ls hR)
  | imul =>
    simp only [xm_st0] at h
    obtain ⟨x, y, r, rfl, h⟩ := xm_i2_of h
    exact lv_imul C.1 C.2.1 hdg (hk _ _ _ _ h H locs ls hR)
  | iand =>
    simp only [xm_st0] at h
    obtain ⟨x, y, r, rfl, h⟩ := xm_i2_of h
    exact lv_iand C.1 C.2.1 hdg (hk _ _ _ _ h H locs ls hR)
  | ior =>
    simp only [xm_st0] at h
    obtain ⟨x, y, r, rfl, h⟩ := xm_i2_of h
    exact lv_ior C.1 C.2.1 hdg (hk _ _ _ _ h H locs ls hR)
  | ixor =>
    simp only [xm_st0] at h
    obtain ⟨x, y, r, rfl, h⟩ := xm_i2_of h
    exact lv_ixor C.1 C.2.1 hdg (hk _ _ _ _ h H locs ls hR)
  | ishl =>
    simp only [xm_st0] at h
    obtain ⟨x, y, r, rfl, h⟩ := xm_i2_of h
    exact lv_ishl C.1 C.2.1 hdg (hk _ _ _ _ h H locs ls hR)
  | ishr =>
    simp only [xm_st0] at h
    obtain ⟨x, y, r, rfl, h⟩ := xm_i2_of h
    exact lv_ishr C.1 C.2.1 hdg (hk _ _ _ _ h H locs ls hR)
  | iushr =>
    simp only [xm_st0] at h
    obtain ⟨x, y, r, rfl, h⟩ := xm_i2_of h
    exact lv_iushr C.1 C.2.1 hdg rfl (hk _ _ _ _ h H locs ls hR)
  | idiv =>
    simp only [xm_st0] at h
    obtain ⟨x, y, r, rfl, hy, h⟩ := xm_i2_of h
    exact lv_idiv C.1 C.2.1 hdg hy (hk _ _ _ _ h H locs ls hR)
  | irem =>
    simp only [xm_st0] at h
    obtain ⟨x, y, r, rfl, hy, h⟩ := xm_i2_of h
    exact lv_irem C.1 C.2.1 hdg hy (hk _ _ _ _ h H locs ls hR)
  | ladd =>
    simp only [xm_st0] at h
    obtain ⟨x, y, r, rfl, h⟩ := xm_l2_of h
    exact lv_ladd C.1 C.2.1 hdg (hk _ _ _ _ h H locs ls hR)
  | lsub =>
    simp only [xm_st0] at h
    obtain ⟨x, y, r, rfl, h⟩ := xm_l2_of h
    exact lv_lsub C.1 C.2.1 hdg (hk _ _ _ _ h H locs ls hR)
  | lmul =>
    simp only [xm_st0] at h
    obtain ⟨x, y, r, rfl, h⟩ := xm_l2_of h
    exact lv_lmul C.1 C.2.1 hdg (hk _ _ _ _ h H locs ls hR)
  | land =>
    simp only [xm_st0] at h
    obtain ⟨x, y, r, rfl, h⟩ := xm_l2_of h
    exact lv_land C.1 C.2.1 hdg (hk _ _ _ _ h H locs ls hR)
  | lor =>
    simp only [xm_st0] at h
    obtain ⟨x, y, r, rfl, h⟩ := xm_l2_of h
    exact lv_lor C.1 C.2.1 hdg (hk _ _ _ _ h H locs ls hR)
  | lxor =>
    simp only [xm_st0] at h
    obtain ⟨x, y, r, rfl, h⟩ := xm_l2_of h
    exact lv_lxor C.1 C.2.1 hdg (hk _ _ _ _ h H locs ls hR)
  | ldiv =>
    simp only [xm_st0] at h
    obtain ⟨x, y, r, rfl, hy, h⟩ := xm_l2_of h
    exact lv_ldiv C.1 C.2.1 hdg hy (hk _ _ _ _ h H locs ls hR)
  | lrem =>
    simp only [xm_st0] at h
    obtain ⟨x, y, r, rfl, hy, h⟩ := xm_l2_of h
    exact lv_lrem C.1 C.2.1 hdg hy (hk _ _ _ _ h H locs ls hR)
  | lshl =>
    simp only [xm_st0] at h
    obtain ⟨x, y, r, rfl, h⟩ := xm_li_of h
    exact lv_lshl C.1 C.2.1 hdg rfl (hk _ _ _ _ h H locs ls hR)
  | lshr =>
    simp only [xm_st0] at h
    obtain ⟨x, y, r, rfl, h⟩ := xm_li_of h
    exact lv_lshr C.1 C.2.1 hdg rfl (hk _ _ _ _ h H locs ls hR)
  | lushr =>
    simp only [xm_st0] at h
    obtain ⟨x, y, r, rfl, h⟩ := xm_li_of h
    exact lv_lushr C.1 C.2.1 hdg rfl (hk _ _ _ _ h H locs ls hR)
  | lcmp =>
    simp only [xm_st0] at h
    obtain ⟨x, y, r, rfl, h⟩ := xm_l2_of h
    exact W.lcmp C.1 C.2.1 hdg (hk _ _ _ _ h H locs ls hR)
  | ineg =>
    simp only [xm_st0] at h
    obtain ⟨x, r, rfl, h⟩ := xm_i1_of h
    exact lv_ineg C.1 C.2.1 hdg (hk _ _ _ _ h H locs ls hR)
  | lneg =>
    simp only [xm_st0] at h
    obtain ⟨x, r, rfl, h⟩ := xm_l1_of h
    exact lv_lneg C.1 C.2.1 hdg (hk _ _ _ _ h H locs ls hR)
  | i2l =>
    simp only [xm_st0] at h
    obtain ⟨x, r, rfl, h⟩ := xm_i1_of h
    exact lv_i2l C.1 C.2.1 hdg rfl (hk _ _ _ _ h H locs ls hR)
  | l2i =>
    simp only [xm_st0] at h
    obtain ⟨x, r, rfl, h⟩ := xm_l1_of h
    exact lv_l2i C.1 C.2.1 hdg rfl (hk _ _ _ _ h H locs ls hR)
  | i2b =>
    simp only [xm_st0] at h
    obtain ⟨x, r, rfl, h⟩ := xm_i1_of h
    exact lv_i2b C.1 C.2.1 hdg rfl (hk _ _ _ _ h H locs ls hR)
  | dup =>
    simp only [xm_st0] at h
    obtain ⟨v, r, rfl, hc, h⟩ := xm_v1_of h
    exact lv_dup C.1 C.2.1 hdg ((xm_cat ad v).trans hc) (hk _ _ _ _ h H locs ls hR)
  | pop =>
    simp only [xm_st0] at h
    obtain ⟨v, r, rfl, hc, h⟩ := xm_v1_of h
    exact lv_pop C.1 C.2.1 hdg ((xm_cat ad v).trans hc) (hk _ _ _ _ h H locs ls hR)
  | dup2 =>
    simp only [xm_st0] at h
    obtain ⟨v, w, r, rfl, hc, hd, h⟩ := xm_v2_of h
    exact lv_dup2_11 C.1 C.2.1 hdg ((xm_cat ad v).trans hc) ((xm_cat ad w).trans hd) (hk _ _ _ _ h H locs ls hR)
  | goto off =>
    simp only [xm_st0] at h
    obtain ⟨t, ht, h⟩ := xm_to_of h
    exact lv_goto C.1 C.2.1 hdg ht (hk _ _ _ _ h H locs ls hR)
  | ifCond cd off =>
    simp only [xm_st0] at h
    obtain ⟨x, r, rfl, g⟩ := xm_i1_of h
    obtain ⟨t, ht, h1, h2⟩ := xm_to_of g
    cases cd with
    | eq => exact lv_if_eq C.1 C.2.1 hdg ht (fun z => hk _ _ _ _ (h1 z) H locs ls hR) (fun z => hk _ _ _ _ (h2 z) H locs ls hR)
    | ne => exact lv_if_ne C.1 C.2.1 hdg ht (fun z => hk _ _ _ _ (h1 z) H locs ls hR) (fun z => hk _ _ _ _ (h2 (fun q => q z)) H locs ls hR)
    | lt => exact lv_if_lt C.1 C.2.1 hdg ht (fun z => hk _ _ _ _ (h1 z) H locs ls hR) (fun z => hk _ _ _ _ (h2 z) H locs ls hR)
    | ge => exact lv_if_ge C.1 C.2.1 hdg ht (fun z => hk _ _ _ _ (h1 z) H locs ls hR) (fun z => hk _ _ _ _ (h2 z) H locs ls hR)
    | gt => exact lv_if_gt C.1 C.2.1 hdg ht (fun z => hk _ _ _ _ (h1 z) H locs ls hR) (fun z => hk _ _ _ _ (h2 z) H locs ls hR)
    | le => exact lv_if_le C.1 C.2.1 hdg ht (fun z => hk _ _ _ _ (h1 z) H locs ls hR) (fun z => hk _ _ _ _ (h2 z) H locs ls hR)
  | if_icmp cd off =>
    simp only [xm_st0] at h
    obtain ⟨x, y, r, rfl, g⟩ := xm_i2_of h
    obtain ⟨t, ht, h1, h2⟩ := xm_to_of g
    cases cd with
    | eq => exact lv_icmp_eq C.1 C.2.1 hdg ht (fun z => hk _ _ _ _ (h1 z) H locs ls hR) (fun z => hk _ _ _ _ (h2 z) H locs ls hR)
    | ne => exact lv_icmp_ne C.1 C.2.1 hdg ht (fun z => hk _ _ _ _ (h1 z) H locs ls hR) (fun z => hk _ _ _ _ (h2 (fun q => q z)) H locs ls hR)
    | lt => exact lv_icmp_lt C.1 C.2.1 hdg ht (fun z => hk _ _ _ _ (h1 z) H locs ls hR) (fun z => hk _ _ _ _ (h2 z) H locs ls hR)
    | ge => exact lv_icmp_ge C.1 C.2.1 hdg ht (fun z => hk _ _ _ _ (h1 z) H locs ls hR) (fun z => hk _ _ _ _ (h2 z) H locs ls hR)
    | gt => exact lv_icmp_gt C.1 C.2.1 hdg ht (fun z => hk _ _ _ _ (h1 z) H locs ls hR) (fun z => hk _ _ _ _ (h2 z) H locs ls hR)
    | le => exact lv_icmp_le C.1 C.2.1 hdg ht (fun z => hk _ _ _ _ (h1 z) H locs ls hR) (fun z => hk _ _ _ _ (h2 z) H locs ls hR)
  | _ => exact False.elim h
end XM2
