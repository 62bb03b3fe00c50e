def xm_tsw (i : Jvm.ClassFile.Instr) : Bool := match i with
  | .tableswitch _ _ _ _ => true
  | .lookupswitch _ _ => true
  | _ => false
theorem xm_nar {ty : FieldType} {v : Value} (ad : Nat → Nat) (h : narrow ty v = v) : narrow ty (xm_v ad v) = xm_v ad v := by
  cases v <;> first | exact h | (cases ty <;> rfl)
theorem xm_fit {ty : FieldType} {v : Value} (ad : Nat → Nat) (h : fits ty v = true) : fits ty (xm_v ad v) = true := by
  cases v <;> first | exact h | (cases ty <;> first | exact h | rfl)
/-- the classes' tables: types and names of fields; all words of their layouts among U -/
def xm_CT (cl : List vw_C) (ft : Nat → Nat → FieldType) (U : List Cond) : Prop := ∀ (ci : Nat) (q : vw_C), cl[ci]? = some q → (∀ k, k < q.2.2 → parseFieldDescriptor (q.2.1 k).2.2.1 = some (ft ci k)) ∧ (∀ a, a < q.2.2 → ∀ b, b < q.2.2 → a ≠ b → (q.2.1 a).2.1 ≠ (q.2.1 b).2.1) ∧ (∀ k, k < q.2.2 → (q.2.1 k).1 = q.1) ∧ ∀ w ∈ u_ws q.1 q.2.1 q.2.2, w ∈ U
/-- a class's links to fields and constants -/
def xm_FT (cl : List vw_C) (U : List Cond) (own : String) (fl : Nat → Option (Nat × Nat)) : Prop := ∀ (idx ci j : Nat), fl idx = some (ci, j) → ∃ q, cl[ci]? = some q ∧ j < q.2.2 ∧ Cond.fieldLink own idx q.1 (q.2.1 j).2.1 (q.2.1 j).2.2.1 ∈ U
def xm_KT (U : List Cond) (own : String) (kI : Nat → Option Int32) (kL : Nat → Option Int64) : Prop := (∀ idx v, kI idx = some v → Cond.constant own idx v ∈ U) ∧ ∀ idx v, kL idx = some v → Cond.constantLong own idx v ∈ U
def xm_nf (cl : List vw_C) (ci j : Nat) : Prop := match cl[ci]? with
  | some q => (q.2.1 j).2.2.2 = false
  | none => False
def xm_sw (pc : Nat) (lo hi dflt : Int) (offs : Array Int) (x : Int32) (k : Nat → Prop) : Prop :=
  ((x.toInt < lo ∨ hi < x.toInt) → xm_to pc dflt k) ∧ (¬ (x.toInt < lo ∨ hi < x.toInt) → match offs[(x.toInt - lo).toNat]? with
    | some off => xm_to pc off k
    | none => False)
def xm_st (cl : List vw_C) (ft : Nat → Nat → FieldType) (sh : List xm_K) (tI : Nat → Option (Nat × (Nat → Int32))) (tL : Nat → Option (Nat × (Nat → Int64))) (fl : Nat → Option (Nat × Nat)) (kI : Nat → Option Int32) (kL : Nat → Option Int64) (gs : Nat → Option Nat) (nL : Nat) (i : Jvm.ClassFile.Instr) (pc : Nat) (lv : xm_L) (st : List Value) (h : xm_H) (k : Nat → xm_L → List Value → xm_H → Prop) : Prop := match i with
  | .getfield idx => xm_r1 st fun a r => match fl idx, sh[a]? with
      | some q, some (.inr z) => q.1 = z.1 ∧ q.2 < z.2 ∧ k (pc + 3) lv (h.2.2 a q.2 :: r) h
      | _, _ => False
  | .putfield idx => xm_vr st fun v a r => match fl idx, sh[a]? with
      | some q, some (.inr z) => q.1 = z.1 ∧ q.2 < z.2 ∧ xm_nf cl q.1 q.2 ∧ narrow (ft q.1 q.2) v = v ∧ fits (ft q.1 q.2) v = true ∧ k (pc + 3) lv r (xm_sf h a q.2 v)
      | _, _ => False
  | .iaload => xm_ri st fun a i r => match sh[a]? with
      | some (.inl (.int, n)) => vp_in i n ∧ k (pc + 1) lv (.int (h.1 a i.toNatClampNeg) :: r) h
      | none => (match tI a with
        | some q => vp_in i q.1 ∧ k (pc + 1) lv (.int (q.2 i.toNatClampNeg) :: r) h
        | none => False)
      | _ => False
  | .baload => xm_ri st fun a i r => match sh[a]? with
      | some (.inl (.byte, n)) => vp_in i n ∧ k (pc + 1) lv (.int (h.1 a i.toNatClampNeg) :: r) h
      | some (.inl (.boolean, n)) => vp_in i n ∧ k (pc + 1) lv (.int (h.1 a i.toNatClampNeg) :: r) h
      | _ => False
  | .laload => xm_ri st fun a i r => match sh[a]? with
      | some (.inl (.long, n)) => vp_in i n ∧ k (pc + 1) lv (.long (h.2.1 a i.toNatClampNeg) :: r) h
      | none => (match tL a with
        | some q => vp_in i q.1 ∧ k (pc + 1) lv (.long (q.2 i.toNatClampNeg) :: r) h
        | none => False)
      | _ => False
  | .iastore => xm_rii st fun a i x r => match sh[a]? with
      | some (.inl (.int, n)) => vp_in i n ∧ k (pc + 1) lv r (xm_si h a i.toNatClampNeg x)
      | _ => False
  | .bastore => xm_rii st fun a i x r => match sh[a]? with
      | some (.inl (.byte, n)) => vp_in i n ∧ k (pc + 1) lv r (xm_si h a i.toNatClampNeg (vp_nar .byte x))
      | some (.inl (.boolean, n)) => vp_in i n ∧ k (pc + 1) lv r (xm_si h a i.toNatClampNeg (vp_nar .boolean x))
      | _ => False
  | .lastore => xm_ril st fun a i x r => match sh[a]? with
      | some (.inl (.long, n)) => vp_in i n ∧ k (pc + 1) lv r (xm_sl h a i.toNatClampNeg x)
      | _ => False
  | .ldc idx => (match kI idx with
      | some v => k (pc + 2) lv (.int v :: st) h
      | none => False)
  | .ldc2_w idx => (match kL idx with
      | some v => k (pc + 3) lv (.long v :: st) h
      | none => False)
  | .getstatic idx => (match gs idx with
      | some a => k (pc + 3) lv (.ref a :: st) h
      | none => False)
  | .arraylength => xm_r1 st fun a r => (match tI a with
      | some q => k (pc + 1) lv (.int (nI q.1) :: r) h
      | none => False)
  | .ldc_w idx => (match kI idx with
      | some v => k (pc + 3) lv (.int v :: st) h
      | none => False)
  | .lookupswitch dflt ps => xm_i1 st fun x r => (ps.toList.zip (ps.toList.drop 1)).all (fun (a, next) => a.1 < next.1) = true ∧ xm_to pc (Op.lookupswitch.offset ps.toList dflt x.toInt) fun t => k t lv r h
  | .tableswitch dflt lo hi offs => xm_i1 st fun x r => xm_sw pc lo hi dflt offs x fun t => k t lv r h
  | i => xm_st0 nL i pc lv st h k
section XM3
variable {p : Program} {l : Launch} {e : Env} {R : Room} {s : State} {m : MethodId} {args : Array Value} {below : List Frame} {meth : Method} {c : Code} {cells slots : Nat} {Q : State → Prop}
variable {cc : ByteArray} {nL : Nat} {ad : Nat → Nat} {ks : Nat → ClassId} {sh : List xm_K} {D : va_G} {cl : List vw_C} {A : Nat → Prop} {ft : Nat → Nat → FieldType} {U : List Cond} {own : String}
variable {tI : Nat → Option (Nat × (Nat → Int32))} {tL : Nat → Option (Nat × (Nat → Int64))} {fl : Nat → Option (Nat × Nat)} {kI : Nat → Option Int32} {kL : Nat → Option Int64} {gs : Nat → Option Nat}
/-- static tables, as a state has them -/
def xm_ST (own : String) (A : Nat → Prop) (ad : Nat → Nat) (tI : Nat → Option (Nat × (Nat → Int32))) (tL : Nat → Option (Nat × (Nat → Int64))) (gs : Nat → Option Nat) (args : Array Value) (s : State) : Prop :=
  (∀ a q, tI a = some q → va_T .int (ad a) q.1 (fun j => .int (q.2 j)) A s s.heap) ∧ (∀ a q, tL a = some q → va_T .long (ad a) q.1 (fun j => .long (q.2 j)) A s s.heap) ∧
  ∀ idx a, gs idx = some a → ∃ C n d ref : String, va_Z C n d (.ref (ad a)) A s s.heap ∧ (Cond.fieldLink own idx ref n d).before args s = true ∧ ∀ x, s.fieldFound? C n d = some x → s.fieldFound? ref n d = some x
def xm_X (p : Program) (s : State) (m : MethodId) (args : Array Value) (c : Code) (cc : ByteArray) (U : List Cond) (own : String) (D : va_G) (cl : List vw_C) (A : Nat → Prop) (ad : Nat → Nat) (ks : Nat → ClassId) (sh : List xm_K) (tI : Nat → Option (Nat × (Nat → Int32))) (tL : Nat → Option (Nat × (Nat → Int64))) (gs : Nat → Option Nat) : Prop :=
  p.tables.exec = Jvm.exec ∧ c.code = cc ∧ s.vm.findClass own = some m.cls ∧ (∀ w ∈ U, w.before args s = true) ∧ va_K D cl (xm_t ks sh) s ∧ xm_ST own A ad tI tL gs args s
theorem xm_st_ok (C : xm_X p s m args c cc U own D cl A ad ks sh tI tL gs) (hCT : xm_CT cl ft U) (hFT : xm_FT cl U own fl) (hKT : xm_KT U own kI kL) {i : Jvm.ClassFile.Instr} {len pc : Nat} {lv : xm_L} {st : List Value} {h0 : xm_H} {k : Nat → xm_L → List Value → xm_H → Prop} (hdg : decode cc pc = .ok (i, len)) (hlen : xm_tsw i = true ∨ len = xm_len i)
    (hk : ∀ pc' lv' st' h', k pc' lv' st' h' → xm_W p l e R s m args below meth c cells slots Q D cl A ad ks sh nL pc' lv' st' h') (h : xm_st cl ft sh tI tL fl kI kL gs nL i pc lv st h0 k) : xm_W p l e R s m args below meth c cells slots Q D cl A ad ks sh nL pc lv st h0 := by
  obtain ⟨hx, hb, hown, hts, hK, hS1, hS2, hS3⟩ := C
  cases i with
  | getfield idx =>
    simp only [xm_st] at h
    obtain hlen | hlen := hlen
    · cases hlen
    subst hlen
    intro H locs ls hR
    obtain ⟨a, r, rfl, g⟩ := xm_r1_of h
    split at g
    · rename_i q z hq hz
      obtain ⟨h1, h2, g⟩ := g
      obtain ⟨Z, hc, hj, hm⟩ := hFT idx q.1 q.2 hq
      obtain ⟨t1, t2, t3, t4⟩ := hCT q.1 Z hc
      have he := xm_w_at (ad := ad) (ks := ks) (h := h0) hz
      refine va_get (ref := Z.1) hx hb hts t4 hown hK hR.2.1 a (fs := (List.range z.2).map fun j => xm_v ad (h0.2.2 a j)) (ci := q.1) (by rw [he, h1]; rfl) hc q.2 hj (hts _ hm) (by rw [t3 _ hj]; exact fun _ w => w) (xm_fs_at ad _ h2) hdg (hk _ _ _ _ g H locs ls hR)
    · exact g.elim
  | putfield idx =>
    simp only [xm_st] at h
    obtain hlen | hlen := hlen
    · cases hlen
    subst hlen
    intro H locs ls hR
    obtain ⟨v, a, r, rfl, g⟩ := xm_vr_of h
    split at g
    · rename_i q z hq hz
      obtain ⟨h1, h2, h3, h4, h5, g⟩ := g
      obtain ⟨Z, hc, hj, hm⟩ := hFT idx q.1 q.2 hq
      obtain ⟨t1, t2, t3, t4⟩ := hCT q.1 Z hc
      have he := xm_w_at (ad := ad) (ks := ks) (h := h0) hz
      have hf : (Z.2.1 q.2).2.2.2 = false := by simpa [xm_nf, hc] using h3
      refine va_put (ref := Z.1) hx hb hts t4 (ft q.1) t1 t2 hown hK hR.2.1 hR.2.2.1 hR.2.2.2 a (fs := (List.range z.2).map fun j => xm_v ad (h0.2.2 a j)) (ci := q.1) (by rw [he, h1]; rfl) hc q.2 hj (hts _ hm) (by rw [t3 _ hj]; exact fun _ w => w) hf (t1 _ hj) (xm_nar ad h4) (xm_fit ad h5) (by simpa using h2) hdg (fun H1 locs1 p1 p2 p3 => ?_)
      have hw : (xm_w ad ks sh h0).set a (ad a, .inr (q.1, ((List.range z.2).map fun j => xm_v ad (h0.2.2 a j)).set q.2 (xm_v ad v))) = xm_w ad ks sh (xm_sf h0 a q.2 v) := by
        rw [xm_fs_set, ← xm_set hz (h := h0) (h' := xm_sf h0 a q.2 v) (fun b hb => ⟨rfl, rfl, by simp [xm_sf, hb]⟩), h1]
        simp [xm_e, xm_sf]
      rw [hw] at p1 p2
      exact hk _ _ _ _ g H1 locs1 ls ⟨hR.1, p1, p2, p3⟩
    · exact g.elim
  | iaload =>
    simp only [xm_st] at h
    obtain hlen | hlen := hlen
    · cases hlen
    subst hlen
    intro H locs ls hR
    obtain ⟨a, i, r, rfl, g⟩ := xm_ri_of h
    split at g
    · rename_i n hz
      obtain ⟨hin, g⟩ := g
      obtain ⟨t0, ht⟩ := xm_t_at (ks := ks) hz
      exact va_iald hx hb hK hR.2.1 a t0 (xm_w_at (ad := ad) (ks := ks) (h := h0) hz) ht hin hdg (hk _ _ _ _ g H locs ls hR)
    · split at g
      · rename_i q hq
        exact va_ti hx hb (hS1 a q hq) hR.2.2.2 g.1 rfl hdg (hk _ _ _ _ g.2 H locs ls hR)
      · exact g.elim
    · exact g.elim
  | baload =>
    simp only [xm_st] at h
    obtain hlen | hlen := hlen
    · cases hlen
    subst hlen
    intro H locs ls hR
    obtain ⟨a, i, r, rfl, g⟩ := xm_ri_of h
    split at g
    · rename_i n hz
      obtain ⟨hin, g⟩ := g
      obtain ⟨t0, ht⟩ := xm_t_at (ks := ks) hz
      exact va_bald hx hb hK hR.2.1 a t0 (xm_w_at (ad := ad) (ks := ks) (h := h0) hz) ht hin hdg (hk _ _ _ _ g H locs ls hR)
    · rename_i n hz
      obtain ⟨hin, g⟩ := g
      obtain ⟨t0, ht⟩ := xm_t_at (ks := ks) hz
      exact va_zald hx hb hK hR.2.1 a t0 (xm_w_at (ad := ad) (ks := ks) (h := h0) hz) ht hin hdg (hk _ _ _ _ g H locs ls hR)
    · exact g.elim
  | laload =>
    simp only [xm_st] at h
    obtain hlen | hlen := hlen
    · cases hlen
    subst hlen
    intro H locs ls hR
    obtain ⟨a, i, r, rfl, g⟩ := xm_ri_of h
    split at g
    · rename_i n hz
      obtain ⟨hin, g⟩ := g
      obtain ⟨t0, ht⟩ := xm_t_at (ks := ks) hz
      exact va_lald hx hb hK hR.2.1 a t0 (xm_w_at (ad := ad) (ks := ks) (h := h0) hz) ht hin hdg (hk _ _ _ _ g H locs ls hR)
    · split at g
      · rename_i q hq
        exact va_tl hx hb (hS2 a q hq) hR.2.2.2 g.1 rfl hdg (hk _ _ _ _ g.2 H locs ls hR)
      · exact g.elim
    · exact g.elim
  | iastore =>
    simp only [xm_st] at h
    obtain hlen | hlen := hlen
    · cases hlen
    subst hlen
    intro H locs ls hR
    obtain ⟨a, i, x, r, rfl, g⟩ := xm_rii_of h
    split at g
    · rename_i n hz
      obtain ⟨hin, g⟩ := g
      obtain ⟨t0, ht⟩ := xm_t_at (ks := ks) hz
      refine va_iast hx hb hK hR.2.1 hR.2.2.1 hR.2.2.2 a t0 (xm_w_at (ad := ad) (ks := ks) (h := h0) hz) ht hin hdg (fun H1 locs1 p1 p2 p3 => ?_)
      have hw := xm_set (ad := ad) (ks := ks) hz (h := h0) (h' := xm_si h0 a i.toNatClampNeg x) (fun b hb => ⟨by simp [xm_si, xm_sl, hb], by simp [xm_si, xm_sl, hb], rfl⟩)
      simp only [xm_e, xm_si, if_pos] at hw
      rw [hw] at p1 p2
      exact hk _ _ _ _ g H1 locs1 ls ⟨hR.1, p1, p2, p3⟩
    · exact g.elim
  | bastore =>
    simp only [xm_st] at h
    obtain hlen | hlen := hlen
    · cases hlen
    subst hlen
    intro H locs ls hR
    obtain ⟨a, i, x, r, rfl, g⟩ := xm_rii_of h
    split at g
    · rename_i n hz
      obtain ⟨hin, g⟩ := g
      obtain ⟨t0, ht⟩ := xm_t_at (ks := ks) hz
      refine va_bast hx hb hK hR.2.1 hR.2.2.1 hR.2.2.2 a t0 (xm_w_at (ad := ad) (ks := ks) (h := h0) hz) ht hin hdg (fun H1 locs1 p1 p2 p3 => ?_)
      have hw := xm_set (ad := ad) (ks := ks) hz (h := h0) (h' := xm_si h0 a i.toNatClampNeg (vp_nar .byte x)) (fun b hb => ⟨by simp [xm_si, xm_sl, hb], by simp [xm_si, xm_sl, hb], rfl⟩)
      simp only [xm_e, xm_si, if_pos] at hw
      rw [hw] at p1 p2
      exact hk _ _ _ _ g H1 locs1 ls ⟨hR.1, p1, p2, p3⟩
    · rename_i n hz
      obtain ⟨hin, g⟩ := g
      obtain ⟨t0, ht⟩ := xm_t_at (ks := ks) hz
      refine va_zast hx hb hK hR.2.1 hR.2.2.1 hR.2.2.2 a t0 (xm_w_at (ad := ad) (ks := ks) (h := h0) hz) ht hin hdg (fun H1 locs1 p1 p2 p3 => ?_)
      have hw := xm_set (ad := ad) (ks := ks) hz (h := h0) (h' := xm_si h0 a i.toNatClampNeg (vp_nar .boolean x)) (fun b hb => ⟨by simp [xm_si, xm_sl, hb], by simp [xm_si, xm_sl, hb], rfl⟩)
      simp only [xm_e, xm_si, if_pos] at hw
      rw [hw] at p1 p2
      exact hk _ _ _ _ g H1 locs1 ls ⟨hR.1, p1, p2, p3⟩
    · exact g.elim
  | lastore =>
    simp only [xm_st] at h
    obtain hlen | hlen := hlen
    · cases hlen
    subst hlen
    intro H locs ls hR
    obtain ⟨a, i, x, r, rfl, g⟩ := xm_ril_of h
    split at g
    · rename_i n hz
      obtain ⟨hin, g⟩ := g
      obtain ⟨t0, ht⟩ := xm_t_at (ks := ks) hz
      refine va_last hx hb hK hR.2.1 hR.2.2.1 hR.2.2.2 a t0 (xm_w_at (ad := ad) (ks := ks) (h := h0) hz) ht hin hdg (fun H1 locs1 p1 p2 p3 => ?_)
      have hw := xm_set (ad := ad) (ks := ks) hz (h := h0) (h' := xm_sl h0 a i.toNatClampNeg x) (fun b hb => ⟨by simp [xm_si, xm_sl, hb], by simp [xm_si, xm_sl, hb], rfl⟩)
      simp only [xm_e, xm_sl, if_pos] at hw
      rw [hw] at p1 p2
      exact hk _ _ _ _ g H1 locs1 ls ⟨hR.1, p1, p2, p3⟩
    · exact g.elim
  | ldc idx =>
    simp only [xm_st] at h
    obtain hlen | hlen := hlen
    · cases hlen
    subst hlen
    intro H locs ls hR
    split at h
    · rename_i v hv
      exact lv_ldc hx hb hown (hts _ (hKT.1 _ _ hv)) hdg (hk _ _ _ _ h H locs ls hR)
    · exact h.elim
  | arraylength =>
    simp only [xm_st] at h
    obtain hlen | hlen := hlen
    · cases hlen
    subst hlen
    intro H locs ls hR
    obtain ⟨a, r, rfl, g⟩ := xm_r1_of h
    split at g
    · rename_i q hq
      exact va_tlen hx hb (hS1 a q hq) hR.2.2.2 (by rfl) hdg (hk _ _ _ _ g H locs ls hR)
    · exact g.elim
  | ldc_w idx =>
    simp only [xm_st] at h
    obtain hlen | hlen := hlen
    · cases hlen
    subst hlen
    intro H locs ls hR
    split at h
    · rename_i v hv
      exact lv_ldcw hx hb hown (hts _ (hKT.1 _ _ hv)) hdg (hk _ _ _ _ h H locs ls hR)
    · exact h.elim
  | ldc2_w idx =>
    simp only [xm_st] at h
    obtain hlen | hlen := hlen
    · cases hlen
    subst hlen
    intro H locs ls hR
    split at h
    · rename_i v hv
      exact lv_ldc2 hx hb hown (hts _ (hKT.2 _ _ hv)) hdg (hk _ _ _ _ h H locs ls hR)
    · exact h.elim
  | getstatic idx =>
    simp only [xm_st] at h
    obtain hlen | hlen := hlen
    · cases hlen
    subst hlen
    intro H locs ls hR
    split at h
    · rename_i a ha
      obtain ⟨C, n, d, ref, z1, z2, z3⟩ := hS3 idx a ha
      exact va_gets hx hb z1 hR.2.2.2 hown z2 z3 hdg (hk _ _ _ _ h H locs ls hR)
    · exact h.elim
  | lookupswitch dflt ps =>
    simp only [xm_st] at h
    intro H locs ls hR
    obtain ⟨x, r, rfl, g0, g⟩ := xm_i1_of h
    obtain ⟨t, ht, g⟩ := xm_to_of g
    exact lv_lookup hx hb hdg g0 rfl ht (hk _ _ _ _ g H locs ls hR)
  | tableswitch dflt lo hi offs =>
    simp only [xm_st] at h
    intro H locs ls hR
    obtain ⟨x, r, rfl, g⟩ := xm_i1_of h
    by_cases hx0 : x.toInt < lo ∨ hi < x.toInt
    · obtain ⟨t, ht, g⟩ := xm_to_of (g.1 hx0)
      exact lv_tableOut hx hb hdg hx0 ht (hk _ _ _ _ g H locs ls hR)
    · have g2 := g.2 hx0
      split at g2
      · rename_i off ho
        obtain ⟨t, ht, g2⟩ := xm_to_of g2
        exact lv_tableIn hx hb hdg (fun z => hx0 (Or.inl z)) (fun z => hx0 (Or.inr z)) ho ht (hk _ _ _ _ g2 H locs ls hR)
      · exact g2.elim
  | _ =>
    obtain hlen | hlen := hlen
    · cases hlen
    · exact xm_st0_ok ⟨hx, hb, trivial⟩ hdg hlen hk h
end XM3
