theorem xm_args_l (ad : Nat → Nat) : ∀ (as : List Value) (i : Nat), lv_args i (as.map (xm_v ad)) = xm_l ad (lv_args i as)
  | [], _ => rfl
  | v :: vs, i => by
    show (i, xm_v ad v) :: lv_args (if (xm_v ad v).category = 2 then i + 2 else i + 1) (vs.map (xm_v ad)) = (i, xm_v ad v) :: xm_l ad (lv_args (if v.category = 2 then i + 2 else i + 1) vs)
    rw [xm_cat, xm_args_l ad vs]
theorem xm_sl_len (ad : Nat → Nat) : ∀ (as : List Value), (lg_sl (as.map (xm_v ad))).length = (lg_sl as).length
  | [] => rfl
  | v :: vs => by
    have h := xm_sl_len ad vs
    simp only [lg_sl, List.map_cons, List.flatMap_cons, List.length_append] at h ⊢
    rw [h, xm_cat]
    by_cases hc : v.category = 2
    · simp [hc]
    · simp [hc]
theorem xm_cats (ad : Nat → Nat) (st : List Value) : ((st.map (xm_v ad)).map fun v => v.category).sum = (st.map fun v => v.category).sum := by
  rw [List.map_map]
  congr 1
  apply List.map_congr_left
  intro v _
  exact xm_cat ad v
theorem xm_good {E : xm_E} (hOK : xm_OK E) {z : Nat} (hz : z < xe_n E) : GoodIn (xe_U E) (xm_ws E z) := by
  intro w hw
  rcases List.mem_cons.mp hw with h | h
  · subst h
    exact ⟨(hOK.2.2 z hz).1.2.1, good_of_word (hOK.1 _ (hOK.2.2 z hz).1.2.1)⟩
  · exact ⟨h, good_of_word (hOK.1 w h)⟩
theorem xm_e_arr {ad : Nat → Nat} {ks : Nat → ClassId} {h : xm_H} {k : Nat} {q : FieldType × Nat} (hq : q.1 ≠ .long) : xm_e ad ks h k (.inl q) = .inl (ks k, q.2, .inl (h.1 k)) := by
  obtain ⟨ty, n⟩ := q
  cases ty <;> first | rfl | exact absurd rfl hq
theorem xm_blind {E : xm_E} {D : va_G} {ad : Nat → Nat} {ks : Nat → ClassId} {h : xm_H} {sz : Nat} {av : List Value} : FrameBlind (va_Pc av (xm_B E D ad ks h sz)) := by
  intro a U g mk q
  obtain ⟨q0, q1, qP, qK, qD, q2, q3, q4⟩ := q
  exact ⟨q0, q1, qP, va_K.moved (u := U) (U := U.calling g mk a) (Vm.Alike.refl U.vm) qK, qD, fun a q hq => va_T.moved (u := U) (U := U.calling g mk _) (Vm.Alike.refl U.vm) (q2 a q hq), fun a q hq => va_T.moved (u := U) (U := U.calling g mk _) (Vm.Alike.refl U.vm) (q3 a q hq), fun a q hq => va_Z.moved (u := U) (U := U.calling g mk _) (Vm.Alike.refl U.vm) (q4 a q hq)⟩
theorem xm_A_mono {ad : Nat → Nat} {n a b : Nat} (h : a ≤ b) : ∀ q, xm_A ad n b q → xm_A ad n a q := fun _ hq => hq.elim Or.inl (fun z => Or.inr (Nat.le_trans h z))
/-- a call over nine words of the caller's stack -/
theorem xm_runV9 {p : Program} {l : Launch} {e : Env} {R : Room} {s : State} {m : MethodId} {args : Array Value} {below : List Frame} {meth : Method} {c : Code} {H : Heap} {locs : List Loc} {cells slots : Nat}
    {y : MethodName} {bytes cc : ByteArray} {maxL nL mc ms n index : Nat} {ret : Option FieldType} {ws : List Cond} {rm : Room} {Pc : Array Value → State → Prop} {Qc : Array Value → State → Outcome → State → Prop} {free : Addr → Prop} {Ts : List Cond} {own C : String} {b : Addr} {As rest : List Value} {g : JFrame}
    (S : CallFix p m c cc nL s args Ts own) (hM : Met l y ws rm Pc Qc mc ms free) (w : CallW R s args own C index y bytes maxL ret ws rm mc ms n) (h9 : 9 + (maxL + 11) + rm.locals ≤ R.locals) (hp : PreV s H C b Pc As)
    (hg : g.method = m) (hn : As.length = n) (hsz : g.locals.size = nL) (hst : g.stack = As.reverse ++ .ref b :: rest) (hW : 2 * g.monitorRoom + (rest.map fun v => v.category).sum ≤ 9) (hdg : decode cc g.pc = .ok (.invokevirtual index, 3)) (hf : cells + mc ≤ R.cells ∧ slots + ms ≤ R.slots) :
    va_Run p l e R s m args below meth c H locs cells slots mc ms g rest (Qc (Value.ref b :: As).toArray) free := by
  obtain ⟨⟨k1, k2, k3, _, k5, k6, k7, k8, k9, k10, k11⟩, w1, w2⟩ := w
  have bk : Back l R p e below s args y 3 9 (PreOf R mc ms Pc) (PostOf Qc mc ms free) := back_of (bytes := bytes) (maxL := maxL) (ret := ret) hM hp.1 k1 k2 k3 h9 k5 k6 (fun a' U hU => word_at hU (Or.inl (by first | rfl | simp [Cond.onTables, Cond.keeps, Cond.steady])) k8)
  obtain ⟨x1, x2, x3, x4, _⟩ := S
  obtain ⟨_, ⟨cb, b1, b2, b3⟩, hPre⟩ := hp
  intro T hT X
  have r := callV X x1 (C := C) (bytes := bytes) (maxL := maxL) (ret := ret) x4 k11 w1 w2 k7 k9 bk (by rw [hT]; exact b1) b2 b3 hg (hsz.trans x3.symm) (argsL := As) (rest := rest) (fun sig h => hn.trans (k10 sig h)) hst hW (by rw [x2]; exact hdg) (fun vm hv => ⟨hf.1, hf.2, hPre (T.setVm vm) hT hv⟩)
  obtain ⟨v, vm, ⟨U', l2, c2, s2⟩, _, X', ⟨g', mk, t, L, e1, e2, hq, q1, hL, q2, q3⟩, go⟩ := r
  dsimp only [Pt.U, Pt.locs, Pt.cells, Pt.slots] at X' e1 e2 q1 q2 q3 go
  subst q1; subst q2; subst q3
  exact ⟨v, (T.setVm vm).calling g' mk (Value.ref b :: As).toArray, t, U', L, hT, X', hL, e1, e2, hq, go⟩
theorem xm_room9 {m : MethodId} {pc : Nat} {ls : Array Slot} {rest st : List Value} (h : (st.map fun v => v.category).sum ≤ 9) : 2 * (F0 m pc ls rest).monitorRoom + (st.map fun v => v.category).sum ≤ 9 := by
  show 2 * 0 + _ ≤ 9
  omega
section XM5
variable {p : Program} {l : Launch} {e : Env} {R : Room} {s : State} {m : MethodId} {args : Array Value} {below : List Frame} {meth : Method} {c : Code}
variable {E : xm_E} {D : va_G} {ad : Nat → Nat} {ks : Nat → ClassId} {T : xm_TT} {y d : Nat} {post : xm_Po}
theorem xm_preB {h : xm_H} {H : Heap} {locs : List Loc} {ls : Array Slot} {lv : xm_L} {nL : Nat} (hK : va_K D (xe_cl E) (xm_t ks (xe_sh E)) s) (hSF : xm_SF E (xm_A ad (xe_sh E).length s.heap.size) ad s) (hR : xm_R D (xe_cl E) (xm_A ad (xe_sh E).length s.heap.size) ad ks (xe_sh E) nL s.heap lv h H locs ls) :
    ∀ U : State, U.heap = H → s.WarmedH U.vm → xm_B E D ad ks h H.size U := by
  intro U hU hW
  refine ⟨by rw [hU], by rw [hU]; exact hR.2.1, va_K.moved hW.alike hK, hR.2.2.1.weaken (fun _ _ _ _ => trivial), hSF.moved hW.alike (by rw [hU]; exact hR.2.2.2.2.1) (xm_A_mono hR.2.2.2.1)⟩
theorem xm_W_wk {cells slots : Nat} {Q : State → Prop} {cl : List vw_C} {A : Nat → Prop} {sh : List xm_K} {nL : Nat} : xm_wk (xm_W p l e R s m args below meth c cells slots Q D cl A ad ks sh nL) := by
  intro pc lv lv' st h hs hw H locs ls hR
  exact hw H locs ls ⟨⟨hR.1.1, hR.1.2.1, fun q hq => by obtain ⟨z, hz, rfl⟩ := List.mem_map.mp hq; exact hR.1.2.2 _ (List.mem_map.mpr ⟨z, hs z hz, rfl⟩)⟩, hR.2⟩
/-- what a method's run says, the machine does: whatever its end is to show -/
theorem xm_one_okQ (hOK : xm_OK E) (hYT : xm_YT E y) (hx : p.tables.exec = Jvm.exec) (hb : c.code = xe_cy E y) (hml : c.maxLocals = xe_ml E y) (hown : s.vm.findClass (xe_yn E y).cls = some m.cls) (hts : ∀ w ∈ xe_U E, w.before args s = true) (hK : va_K D (xe_cl E) (xm_t ks (xe_sh E)) s)
    (hSF : xm_SF E (xm_A ad (xe_sh E).length s.heap.size) ad s) (hRf : d + 1 ≤ R.frames) (hRl : 100 * (d + 1) ≤ R.locals) (hT : ∀ z as h post, z < xe_n E → T z as h post → xm_Met E l d z as h post) {cells slots : Nat} {Q : State → Prop} (hcs : cells ≤ R.cells ∧ slots ≤ R.slots)
    (hret : ∀ (pc : Nat) (lv : xm_L) (st : List Value) (h : xm_H) (i : Jvm.ClassFile.Instr), decode (xe_cy E y) pc = .ok (i, xm_len i) → (i = .ireturn ∨ i = .lreturn ∨ i = .return_) → xm_step E T y i pc lv st h post (fun _ _ _ _ => False) → xm_W p l e R s m args below meth c cells slots Q D (xe_cl E) (xm_A ad (xe_sh E).length s.heap.size) ad ks (xe_sh E) (xe_ml E y) pc lv st h) :
    ∀ (pc : Nat) (lv : xm_L) (st : List Value) (h : xm_H), xm_one E T y post pc lv st h (xm_W p l e R s m args below meth c cells slots Q D (xe_cl E) (xm_A ad (xe_sh E).length s.heap.size) ad ks (xe_sh E) (xe_ml E y)) → xm_W p l e R s m args below meth c cells slots Q D (xe_cl E) (xm_A ad (xe_sh E).length s.heap.size) ad ks (xe_sh E) (xe_ml E y) pc lv st h := by
  intro pc lv st h hh
  unfold xm_one at hh
  split at hh
  case h_2 => exact hh.elim
  case h_1 =>
    rename_i i len hdg
    obtain ⟨hlen, hs⟩ := hh
    obtain ⟨hyF, hyK, hyG, hyC, hyL⟩ := hYT
    have hX : xm_X p s m args c (xe_cy E y) (xe_U E) (xe_yn E y).cls D (xe_cl E) (xm_A ad (xe_sh E).length s.heap.size) ad ks (xe_sh E) (xe_tI E) (xe_tL E) (xe_gs E (xe_cn E y)) := by
      refine ⟨hx, hb, hown, hts, hK, hSF.1, hSF.2.1, fun idx a ha => ?_⟩
      obtain ⟨q, hq1, hq2⟩ := hyG idx a ha
      exact ⟨q.1, q.2.1, q.2.2, q.1, hSF.2.2 a q hq1, hts _ hq2, fun _ w => w⟩
    cases i with
    | ireturn =>
      obtain hlen | hlen := hlen
      · cases hlen
      subst hlen
      exact hret pc lv st h _ hdg (Or.inl rfl) hs
    | lreturn =>
      obtain hlen | hlen := hlen
      · cases hlen
      subst hlen
      exact hret pc lv st h _ hdg (Or.inr (Or.inl rfl)) hs
    | return_ =>
      obtain hlen | hlen := hlen
      · cases hlen
      subst hlen
      exact hret pc lv st h _ hdg (Or.inr (Or.inr rfl)) hs
    | invokevirtual idx =>
      simp only [xm_step] at hs
      split at hs
      case h_2 => exact hs.elim
      rename_i z hz
      obtain ⟨hz1, hs⟩ := hs
      obtain ⟨hz2, hz3, hz4⟩ := hyL idx z hz hz1
      obtain ⟨h0, hnp, hs⟩ := hs
      obtain ⟨w1, w2, q, hq1, hq2⟩ := hz4 h0
      split at hs
      case h_2 => exact hs.elim
      rename_i b rest hdrop
      obtain ⟨hsh, hcat, hTz⟩ := hs
      split at hsh
      case h_2 => exact hsh.elim
      rename_i zq hzq
      obtain hlen | hlen := hlen
      · cases hlen
      subst hlen
      intro H locs ls hR
      have hM := hT z _ _ _ hz1 hTz D ad ks H.size
      obtain ⟨⟨v1, v2, v3, v4, v5⟩, -⟩ := hOK.2.2 z hz1
      have hst : st.map (xm_v ad) = (((st.take (xe_np E z)).reverse.map (xm_v ad)).reverse) ++ .ref (ad b) :: rest.map (xm_v ad) := by
        conv => lhs; rw [← List.take_append_drop (xe_np E z) st, hdrop]
        simp [xm_v]
      have hrun := xm_runV9 (p := p) (l := l) (e := e) (R := R) (below := below) (meth := meth) (H := H) (locs := locs) (cells := cells) (slots := slots) (b := ad b) (As := (st.take (xe_np E z)).reverse.map (xm_v ad)) (rest := rest.map (xm_v ad)) (g := F0 m pc ls (st.map (xm_v ad))) (C := (xe_yn E z).cls) (Ts := xe_U E) (own := (xe_yn E y).cls) (n := xe_np E z) (index := idx) ⟨hx, hb, hml, hown, hts⟩ hM
        ⟨callB_of (xe_np E z) hts (xm_good hOK hz1) rfl rfl rfl (hts _ v3) (hts _ hz2) v5 ⟨hRf, by show 8 + (xe_ml E z + 11) + 100 * d ≤ R.locals; omega⟩, hts _ w1, hts _ w2⟩ (by show 9 + (xe_ml E z + 11) + 100 * d ≤ R.locals; omega)
        ⟨xm_blind, by have := va_recv hK hR.2.1 hq1 (q0 := b) (by rw [xm_w_at hzq, ← hsh]; rfl); rw [← hq2]; exact this, fun U hU hW => ⟨rfl, xm_preB hK hSF hR U hU hW⟩⟩
        rfl (by simp; omega) hR.1.1 hst (xm_room9 (by rw [xm_cats]; exact hcat)) hdg hcs
      refine xm_back hrun (B := fun v t => ∃ (r : Option Value) (h' : xm_H), v = r.map (xm_v ad) ∧ xm_W p l e R s m args below meth c cells slots Q D (xe_cl E) (xm_A ad (xe_sh E).length s.heap.size) ad ks (xe_sh E) (xe_ml E y) (pc + 3) lv (r.toList ++ rest) h' ∧ va_P D (xe_cl E) (xm_w ad ks (xe_sh E) h') t.heap) (A1 := xm_A ad (xe_sh E).length H.size) (fun st v t hq => ?_) hR.2.2.2 (xm_A_mono hR.2.2.2.1) (xm_A_mono hR.2.2.2.1) (fun v t H1 locs1 ht hvm hB hS1 => ?_)
      · obtain ⟨⟨r, h', e1, e2, e3, e4⟩, hF⟩ := hq
        exact ⟨⟨r, h', by cases e1; rfl, e2, e3⟩, hF⟩
      · obtain ⟨r, h', rfl, e2, e3⟩ := hB
        have h5 := e2 H1 locs1 ls ⟨hR.1, by rw [← ht]; exact e3, xm_D_to hR.2.2.1, hS1⟩
        cases r <;> exact h5
    | invokestatic idx =>
      simp only [xm_step] at hs
      split at hs
      case h_2 => exact hs.elim
      rename_i z hz
      obtain hlen | hlen := hlen
      · cases hlen
      subst hlen
      intro H locs ls hR
      by_cases hz1 : ¬ z < xe_n E
      · rw [if_neg hz1] at hs
        have hcw := hyC idx z hz hz1
        generalize z - xe_n E = jx at hs hcw
        match jx, hs, hcw with
        | 1, hs, hcw =>
          obtain ⟨x, y', r, rfl, g1, g2⟩ := xm_i2_of hs
          exact va_mmax (rest := r.map (xm_v ad)) hx hb (hml.trans hR.1.1.symm) hown (hts _ (hcw _ (by simp [xm_ew]))) (hts _ (hcw _ (by simp [xm_ew]))) (hts _ (hcw _ (by simp [xm_ew]))) (hts _ (hcw _ (by simp [xm_ew]))) (by omega) (by rw [xm_cats]; omega) hcs.1 hcs.2 hdg (g2 H locs ls hR)
        | 2, hs, hcw =>
          obtain ⟨x, y', r, rfl, g1, g2⟩ := xm_i2_of hs
          exact va_mmin (rest := r.map (xm_v ad)) hx hb (hml.trans hR.1.1.symm) hown (hts _ (hcw _ (by simp [xm_ew]))) (hts _ (hcw _ (by simp [xm_ew]))) (hts _ (hcw _ (by simp [xm_ew]))) (hts _ (hcw _ (by simp [xm_ew]))) (by omega) (by rw [xm_cats]; omega) hcs.1 hcs.2 hdg (g2 H locs ls hR)
        | n + 3, hs, hcw => exact hs.elim
        | 0, hs, hcw =>
        have c1 := hcw (.methodLink (xe_yn E y).cls idx arraycopyName) (by simp [xm_ew])
        have c2 := hcw (.native arraycopyName) (by simp [xm_ew])
        have c3 := hcw (.static arraycopyName) (by simp [xm_ew])
        have c4 := hcw (.initialized "java/lang/System") (by simp [xm_ew])
        simp only [xm_ext] at hs
        unfold xm_acp at hs
        split at hs
        case h_2 => exact hs.elim
        rename_i nn dp a sp b rest hx0
        split at hs
        case h_2 => exact hs.elim
        rename_i q zq hb0 ha0
        obtain ⟨⟨g1, g2, g3, g4, g5, g6, g7, g8, g9, g10⟩, hs⟩ := hs
        obtain ⟨t0, ht0⟩ := xm_t_at (ks := ks) (n := q.2) (ty := q.1) hb0
        obtain ⟨t1, ht1⟩ := xm_t_at (ks := ks) (n := zq.2) (ty := zq.1) ha0
        have e0 : (xm_w ad ks (xe_sh E) h)[b]? = some (ad b, .inl (ks b, q.2, .inl (h.1 b))) := by rw [xm_w_at hb0, xm_e_arr g2]
        have e1 : (xm_w ad ks (xe_sh E) h)[a]? = some (ad a, .inl (ks a, zq.2, .inl (h.1 a))) := by rw [xm_w_at ha0, xm_e_arr (g1 ▸ g2)]
        refine va_copyi (rest := rest.map (xm_v ad)) hx hb (hml.trans hR.1.1.symm) hown (hts _ c1) (hts _ c2) (hts _ c3) (hts _ c4) hK hR.2.1 hR.2.2.1 hR.2.2.2 b a t0 t1 e0 e1 ht0 (g1 ▸ ht1) g3 g4 g5 g6 g7 g8 g9 (by omega) (by rw [xm_cats]; exact Nat.le_trans (Nat.add_le_add g10 (by decide : nativeFrameWords "java/lang/System" "arraycopy" 5 + 11 ≤ 92)) (by omega)) hdg (fun H1 locs1 p1 p2 p3 => ?_)
        have hw := xm_set (ad := ad) (ks := ks) ha0 (h := h) (h' := xm_sa h a (va_cpy (h.1 b) (h.1 a) sp.toNatClampNeg dp.toNatClampNeg nn.toNatClampNeg)) (fun x hx => ⟨by simp [xm_sa, hx], rfl, rfl⟩)
        rw [xm_e_arr (g1 ▸ g2)] at hw
        simp only [xm_sa, if_pos] at hw
        rw [hw] at p1 p2
        exact hs H1 locs1 ls ⟨hR.1, p1, p2, p3⟩
      have hz1 : z < xe_n E := Classical.not_not.mp hz1
      rw [if_pos hz1] at hs
      obtain ⟨hz2, hz3, hz4⟩ := hyL idx z hz hz1
      obtain ⟨h0, hnp, hcat, hTz⟩ := hs
      have hM := hT z _ _ _ hz1 hTz D ad ks H.size
      obtain ⟨⟨v1, v2, v3, v4, v5⟩, -⟩ := hOK.2.2 z hz1
      have hst : st.map (xm_v ad) = (((st.take (xe_np E z)).reverse.map (xm_v ad)).reverse) ++ (st.drop (xe_np E z)).map (xm_v ad) := by
        conv => lhs; rw [← List.take_append_drop (xe_np E z) st]
        simp
      have hrun := va_runS (p := p) (l := l) (e := e) (R := R) (below := below) (meth := meth) (H := H) (locs := locs) (cells := cells) (slots := slots) (As := (st.take (xe_np E z)).reverse.map (xm_v ad)) (rest := (st.drop (xe_np E z)).map (xm_v ad)) (g := F0 m pc ls (st.map (xm_v ad))) (Ts := xe_U E) (own := (xe_yn E y).cls) (n := xe_np E z) (index := idx) ⟨hx, hb, hml, hown, hts⟩ hM
        ⟨callB_of (xe_np E z) hts (xm_good hOK hz1) rfl rfl rfl (hts _ v3) (hts _ hz2) v5 ⟨hRf, by show 8 + (xe_ml E z + 11) + 100 * d ≤ R.locals; omega⟩, hts _ (hz3 h0)⟩
        ⟨xm_blind, fun U hU hW => ⟨rfl, xm_preB hK hSF hR U hU hW⟩⟩
        rfl (by simp; omega) hR.1.1 hst (lv_room (by rw [xm_cats]; exact hcat)) hdg hcs
      refine xm_back hrun (B := fun v t => ∃ (r : Option Value) (h' : xm_H), v = r.map (xm_v ad) ∧ xm_W p l e R s m args below meth c cells slots Q D (xe_cl E) (xm_A ad (xe_sh E).length s.heap.size) ad ks (xe_sh E) (xe_ml E y) (pc + 3) lv (r.toList ++ st.drop (xe_np E z)) h' ∧ va_P D (xe_cl E) (xm_w ad ks (xe_sh E) h') t.heap) (A1 := xm_A ad (xe_sh E).length H.size) (fun st v t hq => ?_) hR.2.2.2 (xm_A_mono hR.2.2.2.1) (xm_A_mono hR.2.2.2.1) (fun v t H1 locs1 ht hvm hB hS1 => ?_)
      · obtain ⟨⟨r, h', e1, e2, e3, e4⟩, hF⟩ := hq
        exact ⟨⟨r, h', by cases e1; rfl, e2, e3⟩, hF⟩
      · obtain ⟨r, h', rfl, e2, e3⟩ := hB
        have h5 := e2 H1 locs1 ls ⟨hR.1, by rw [← ht]; exact e3, xm_D_to hR.2.2.1, hS1⟩
        cases r <;> exact h5
    | _ => exact xm_st_ok hX hOK.2.1 hyF hyK hdg hlen (fun _ _ _ _ q => q) hs
/-- a return -/
theorem xm_ret_ok (hx : p.tables.exec = Jvm.exec) (hb : c.code = xe_cy E y) (hK : va_K D (xe_cl E) (xm_t ks (xe_sh E)) s) (hr : meth.sig.returnType = xe_ry E y) (hlocks : meth.locks = false) {cells slots : Nat} (pc : Nat) (lv : xm_L) (st : List Value) (h : xm_H) (i : Jvm.ClassFile.Instr) (hdg : decode (xe_cy E y) pc = .ok (i, xm_len i)) (hi : i = .ireturn ∨ i = .lreturn ∨ i = .return_) (hs : xm_step E T y i pc lv st h post (fun _ _ _ _ => False)) :
    xm_W p l e R s m args below meth c cells slots (MQ below (xm_Q E D ad ks post s.heap.size) args s cells slots (xm_A ad (xe_sh E).length s.heap.size)) D (xe_cl E) (xm_A ad (xe_sh E).length s.heap.size) ad ks (xe_sh E) (xe_ml E y) pc lv st h := by
  rcases hi with rfl | rfl | rfl
  · simp only [xm_step] at hs
    split at hs
    · rename_i v
      obtain ⟨h1, h2⟩ := hs
      split at h1
      · rename_i ty hty
        intro H locs ls hR
        exact W.zret hx hb (hr.trans hty) h1 (fun t ht hW => ⟨⟨some (.int v), h, rfl, h2, by rw [ht]; exact hR.2.1, va_K.moved hW.alike hK⟩, hR.2.2.2.F ht⟩) (fun q hq => hR.2.2.2.2.2 q hq) hdg hlocks
      · exact h1.elim
    · exact hs.elim
  · simp only [xm_step] at hs
    split at hs
    · rename_i v
      intro H locs ls hR
      exact W.lret hx hb (hr.trans hs.1) (fun t ht hW => ⟨⟨some (.long v), h, rfl, hs.2, by rw [ht]; exact hR.2.1, va_K.moved hW.alike hK⟩, hR.2.2.2.F ht⟩) (fun q hq => hR.2.2.2.2.2 q hq) hdg hlocks
    · exact hs.elim
  · simp only [xm_step] at hs
    obtain ⟨rfl, h1, h2⟩ := hs
    intro H locs ls hR
    exact W.vret hx hb (hr.trans h1) (fun t ht hW => ⟨⟨none, h, rfl, h2, by rw [ht]; exact hR.2.1, va_K.moved hW.alike hK⟩, hR.2.2.2.F ht⟩) (fun q hq => hR.2.2.2.2.2 q hq) hdg hlocks
/-- and with its return -/
theorem xm_one_ok (hOK : xm_OK E) (hy : y < xe_n E) (hx : p.tables.exec = Jvm.exec) (hb : c.code = xe_cy E y) (hml : c.maxLocals = xe_ml E y) (hown : s.vm.findClass (xe_yn E y).cls = some m.cls) (hts : ∀ w ∈ xe_U E, w.before args s = true) (hK : va_K D (xe_cl E) (xm_t ks (xe_sh E)) s)
    (hSF : xm_SF E (xm_A ad (xe_sh E).length s.heap.size) ad s) (hr : meth.sig.returnType = xe_ry E y) (hlocks : meth.locks = false) (hRf : d + 1 ≤ R.frames) (hRl : 100 * (d + 1) ≤ R.locals) (hT : ∀ z as h post, z < xe_n E → T z as h post → xm_Met E l d z as h post) {cells slots : Nat} (hcs : cells ≤ R.cells ∧ slots ≤ R.slots) :
    ∀ (pc : Nat) (lv : xm_L) (st : List Value) (h : xm_H), xm_one E T y post pc lv st h (xm_W p l e R s m args below meth c cells slots (MQ below (xm_Q E D ad ks post s.heap.size) args s cells slots (xm_A ad (xe_sh E).length s.heap.size)) D (xe_cl E) (xm_A ad (xe_sh E).length s.heap.size) ad ks (xe_sh E) (xe_ml E y)) → xm_W p l e R s m args below meth c cells slots (MQ below (xm_Q E D ad ks post s.heap.size) args s cells slots (xm_A ad (xe_sh E).length s.heap.size)) D (xe_cl E) (xm_A ad (xe_sh E).length s.heap.size) ad ks (xe_sh E) (xe_ml E y) pc lv st h := by
  exact xm_one_okQ hOK (hOK.2.2 y hy).2 hx hb hml hown hts hK hSF hRf hRl hT hcs (fun pc lv st h i hdg hi hs => xm_ret_ok hx hb hK hr hlocks pc lv st h i hdg hi hs)
/-- a method that its run tells of meets that contract -/
theorem xm_sound (hOK : xm_OK E) : ∀ (d y : Nat) (as : List Value) (h : xm_H) (post : xm_Po), y < xe_n E → xm_T E d y as h post → xm_Met E l d y as h post := by
  intro d
  induction d with
  | zero => intro y as h post hy hT; exact hT.elim
  | succ d ih =>
    intro y as h post hy hT D ad ks sz
    obtain ⟨hlen, hrun⟩ := hT
    obtain ⟨⟨hy1, hy2, hy3, hy4, hy5⟩, -⟩ := hOK.2.2 y hy
    refine Met.ofW (cc := xe_cy E y) (maxL := xe_ml E y) (ret := xe_ry E y) hy1 rfl ?_
    intro p e s m args below meth c s₁ B hml hv
    obtain ⟨rfl, hsz, hP, hK, hD, hSF⟩ := hv
    subst hsz
    have hts : ∀ w ∈ xe_U E, w.before ((as.map (xm_v ad)).toArray) s = true := fun w hw => atoms_spec (ws := xm_ws E y) B.pre w (List.mem_cons_of_mem _ hw)
    have hl := lv_entry (as.map (xm_v ad)) (n := xe_ml E y) (by rw [xm_sl_len]; exact hlen)
    rw [xm_args_l] at hl
    rw [lg_entry_eq]
    exact hrun _ (xm_one_ok (d := d) (T := xm_T E d) hOK hy B.exec B.bytes hml (findClass_of_methodNamed B.named) hts hK hSF B.returns B.notSynchronized (Nat.le_refl _) (Nat.le_refl _) (fun z as h post hz hq => ih z as h post hz hq) ⟨Nat.zero_le _, Nat.zero_le _⟩) xm_W_wk s.heap [] _ ⟨hl, hP, xm_D_of hD, va_S.rf⟩
end XM5
