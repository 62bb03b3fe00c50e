/-! ===== the start: the law from its loop on ===== -/
set_option maxHeartbeats 8000000 in
set_option maxRecDepth 100000 in
theorem lw_go {p : Program} {e : Env} {s : State} {m : MethodId} {below : List Frame} {meth : Method} {c : Code} (l : Launch) (hlt : l.stackTraces = false) {b L : Nat} {xs : Nat → Int32} (hL : L ≤ 2048) (C0 : lw_At p s m meth c b L xs) (A : Nat → Prop) (hA : ∀ q : Nat, s.heap.size ≤ q → A q) (hAl : ∀ q : Nat, A q → s.heap.size ≤ q) (dC : Nat → ClassId) (dI : Nat → Nat → Nat) (tt sa V : Nat → Nat) (hfac : lw_F (L, xs) A tt sa V s) (h208 : tt 208 = b) (f f' : Nat → Nat) (g g' : Nat → ClassId) (q8 : Nat) (k8 : ClassId) (H : Heap) (locs : List Loc)
    (hK : va_K (dC, dI) vwCl (xm_tr g 0 shA ++ (xm_tr g' 102 shB ++ [(k8, .long)])) s) (hP : va_P (dC, dI) vwCl (xm_wr f g hh0 0 shA ++ (xm_wr f' g' hh0 102 shB ++ [(q8, .inl (k8, 1, .inr (.inl (fun _ => 0))))])) H) (hD : va_D A (xm_wr f g hh0 0 shA ++ (xm_wr f' g' hh0 102 shB ++ [(q8, .inl (k8, 1, .inr (.inl (fun _ => 0))))]))) (hS : va_S A s.heap H locs) (ls : Array Slot) (hl : lv_has ls 8 [(4, .int 0), (3, .ref q8), (2, .ref (f' 102)), (1, .ref (f 0)), (0, .ref b)]) : W p l e room_1 s m #[Value.ref b] below meth c H locs 164 1857593 (lw_Zr below #[Value.ref b] s) (F0 m 23 ls []) := by
  obtain ⟨hx, hb0, hr, hml, hown0, hts0, hX, hbl, hlocks, hgv⟩ := id C0
  have hb : c.code = cL_law := hb0
  have hown : s.vm.findClass RL = some m.cls := hown0
  obtain ⟨ad, ks, adT, ad0, adB, adC, eW, eT⟩ := lw_cells f f' tt g g' q8 k8
  rw [← eW] at hP hD
  rw [← eT] at hK
  have hlen : xt_sh.length = 164 := go_len
  have eA : A = xm_A ad 164 s.heap.size := funext fun x => propext ⟨fun h => Or.inr (hAl x h), fun h => by
    rcases h with ⟨k, hk, rfl⟩ | h
    · have e : xt_sh[k]? = some (xt_sh[k]'(by rw [hlen]; exact hk)) := List.getElem?_eq_getElem _
      exact hD.2 k _ (xm_w_at e)
    · exact hA x h⟩
  subst eA
  have hSF : xm_SF (XE (L, xs)) (xm_A ad 164 s.heap.size) ad s := ⟨fun a q h => by rw [adT a (tS_ge h)]; exact hfac.1.1 a q h, fun a q h => by rw [adT a (tL_ge h)]; exact hfac.1.2.1 a q h, fun a q h => by rw [adT a (zs_ge h)]; exact hfac.1.2.2 a q h⟩
  have eK : (fun i => ad (300 + i)) = fun i => tt (300 + i) := funext fun i => adT _ (by omega)
  have hTF : xs_TF sa V ad (xm_A ad 164 s.heap.size) s := ⟨hfac.2.1, by rw [eK]; exact hfac.2.2.1, by rw [adT 300 (by decide)]; exact hfac.2.2.2.1, by rw [adT 301 (by decide)]; exact hfac.2.2.2.2⟩
  have hl2 : lv_has ls 8 [(4, .int 0), (0, .ref b), (1, .ref (f 0)), (2, .ref (f' 102)), (3, .ref q8)] := lv_sub hl [0, 4, 3, 2, 1] rfl
  have hl3 : lv_has ls 8 (xm_l ad [(4, .int (nI 0)), (0, .ref 208), (1, .ref 0), (2, .ref 102), (3, .ref 163)]) := by
    show lv_has ls 8 [(4, .int 0), (0, .ref (ad 208)), (1, .ref (ad 0)), (2, .ref (ad 102)), (3, .ref (ad 163))]
    rw [adT 208 (by decide), h208, ad0, adB, adC]
    exact hl2
  have hloop := lw_loop (sc := (L, xs)) (d := 0) (post := fun r _ => r = some (.int (nI 1))) hL (fun _ => rfl) (L + 5) 0 0 0 hh0 52 77 [] [] none 0 0 0 0 0 0 (by show L + 4 - 0 < L + 5; omega) (Nat.le_refl _) rfl (Nat.le_refl _) (Nat.zero_le _) st_xI st_mI
  have hb2 : c.code = xe_cy (XE (L, xs)) 330 := by rw [go_cy]; exact hb
  have hml2 : c.maxLocals = xe_ml (XE (L, xs)) 330 := by rw [go_ml]; exact hml
  have hown2 : s.vm.findClass (xe_yn (XE (L, xs)) 330).cls = some m.cls := by rw [go_yn]; exact hown
  have hK2 : va_K (dC, dI) (xe_cl (XE (L, xs))) (xm_t ks (xe_sh (XE (L, xs)))) s := by rw [go_cl, go_sh]; exact hK
  have e4 : (xe_sh (XE (L, xs))).length = 164 := by rw [go_sh]; exact go_len
  have hSF2 : xm_SF (XE (L, xs)) (xm_A ad (xe_sh (XE (L, xs))).length s.heap.size) ad s := by rw [e4]; exact hSF
  have hTF2 : xs_TF sa V ad (xm_A ad (xe_sh (XE (L, xs))).length s.heap.size) s := by rw [e4]; exact hTF
  have hAl2 : ∀ q : Nat, xm_A ad (xe_sh (XE (L, xs))).length s.heap.size q → s.heap.size ≤ q := by rw [e4]; exact hAl
  have hR : xm_R (dC, dI) (xe_cl (XE (L, xs))) (xm_A ad (xe_sh (XE (L, xs))).length s.heap.size) ad ks (xe_sh (XE (L, xs))) (xe_ml (XE (L, xs)) 330) s.heap [(4, .int (nI 0)), (0, .ref 208), (1, .ref 0), (2, .ref 102), (3, .ref 163)] hh0 H locs ls := by
    rw [e4, go_cl, go_sh, go_ml]
    exact ⟨hl3, hP, hD, hS⟩
  exact go_key (k := 0) l hlt C0 hb2 hml2 hown2 hK2 hSF2 hTF2 hAl2 hloop H locs ls hR
