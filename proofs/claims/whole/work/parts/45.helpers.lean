def wo_L_write : List Cond := [.classLink RL 15 "java/lang/IllegalStateException"]
def wf_L_write : List Cond := .codeWith yL_write cL_write 3 (some .int) [(0, 8, 11, 15)] :: (wo_L_write ++ (wsV RL 49 RX11 yX11_write wf_X11_write))
set_option maxRecDepth 100000 in
theorem gf_L_write_0 : GoodIn wf_L_write (wsV RL 49 RX11 yX11_write wf_X11_write) := goodIn_sub (fun _ h => (List.mem_cons_of_mem _ (List.mem_append_right _ h))) (by decide +kernel)
set_option maxHeartbeats 4000000 in
set_option maxRecDepth 100000 in
theorem c_L_write_fresh (l : Launch) (hlt : l.stackTraces = false) (dC : Nat → ClassId) (dI : Nat → Nat → Nat) (h0 x0 x1 x2 x3 x4 x5 x6 x7 x8 x9 x10 : Nat) (g1 g2 g3 g4 g5 g6 g7 g8 g9 g10 g11 g12 g13 : Nat) (sa0 : Nat) (ob : Nat) (kl : ClassId) (fo : Nat → Int64) (sz : Nat) : Met l yL_write wf_L_write ({ frames := 7, cells := 1, slots := 6, locals := 110 }) (va_Pc [.ref h0, .ref ob] (fun U => U.heap.size = sz ∧ va_P (dC, dI) vwCl [(h0, .inr (11, [.ref x0, .ref x1, .ref x2, .ref x3, .ref x4, .ref x5, .ref x6, .ref x7, .ref x8, .ref x9, .ref x10, .int 0, .int 0, .int 0, .int 0, .int 0, .int 0])), (x9, .inr (6, [.int 0, .ref g1, .ref g2, .ref g3, .ref g4, .ref g5, .ref g6, .ref g7, .ref g8, .ref g9, .ref g10, .ref g11, .ref g12, .ref g13, .int 0, .int 0])), (ob, .inl (kl, 1, .inr (.inl fo)))] U.heap ∧ va_K (dC, dI) vwCl [(kl, .long)] U ∧ va_D (fun _ => True) [(h0, .inr (11, [.ref x0, .ref x1, .ref x2, .ref x3, .ref x4, .ref x5, .ref x6, .ref x7, .ref x8, .ref x9, .ref x10, .int 0, .int 0, .int 0, .int 0, .int 0, .int 0])), (x9, .inr (6, [.int 0, .ref g1, .ref g2, .ref g3, .ref g4, .ref g5, .ref g6, .ref g7, .ref g8, .ref g9, .ref g10, .ref g11, .ref g12, .ref g13, .int 0, .int 0])), (ob, .inl (kl, 1, .inr (.inl fo)))] ∧ va_Nw (.castable "java/lang/IllegalStateException" "java/lang/IllegalStateException") U ∧ va_Nw (.declares (Bundle.initS "java/lang/RuntimeException")) U ∧ va_Nw (.declares (Bundle.initS "java/lang/Exception")) U ∧ va_Nw (.declares (Bundle.initS Bundle.tN)) U ∧ vk_R RX11 122 "there is no program" sa0 U ∧ vx_Zq Bundle.tN "UNASSIGNED_STACK" Bundle.steD (va_A [(h0, .inr (11, [.ref x0, .ref x1, .ref x2, .ref x3, .ref x4, .ref x5, .ref x6, .ref x7, .ref x8, .ref x9, .ref x10, .int 0, .int 0, .int 0, .int 0, .int 0, .int 0])), (x9, .inr (6, [.int 0, .ref g1, .ref g2, .ref g3, .ref g4, .ref g5, .ref g6, .ref g7, .ref g8, .ref g9, .ref g10, .ref g11, .ref g12, .ref g13, .int 0, .int 0])), (ob, .inl (kl, 1, .inr (.inl fo)))] sz) U U.heap ∧ vx_Zq Bundle.tN "SUPPRESSED_SENTINEL" Bundle.listD (va_A [(h0, .inr (11, [.ref x0, .ref x1, .ref x2, .ref x3, .ref x4, .ref x5, .ref x6, .ref x7, .ref x8, .ref x9, .ref x10, .int 0, .int 0, .int 0, .int 0, .int 0, .int 0])), (x9, .inr (6, [.int 0, .ref g1, .ref g2, .ref g3, .ref g4, .ref g5, .ref g6, .ref g7, .ref g8, .ref g9, .ref g10, .ref g11, .ref g12, .ref g13, .int 0, .int 0])), (ob, .inl (kl, 1, .inr (.inl fo)))] sz) U U.heap)) (va_Qi (fun (r u : Int32) => u = r) (fun (r : Int32) (t : State) => ∃ (go : Nat → Int64), (r = 1) ∧ va_P (dC, dI) vwCl [(ob, .inl (kl, 1, .inr (.inl go)))] t.heap ∧ va_K (dC, dI) vwCl [(kl, .long)] t ∧ va_D (va_A [(h0, .inr (11, [.ref x0, .ref x1, .ref x2, .ref x3, .ref x4, .ref x5, .ref x6, .ref x7, .ref x8, .ref x9, .ref x10, .int 0, .int 0, .int 0, .int 0, .int 0, .int 0])), (x9, .inr (6, [.int 0, .ref g1, .ref g2, .ref g3, .ref g4, .ref g5, .ref g6, .ref g7, .ref g8, .ref g9, .ref g10, .ref g11, .ref g12, .ref g13, .int 0, .int 0])), (ob, .inl (kl, 1, .inr (.inl fo)))] sz) [(ob, .inl (kl, 1, .inr (.inl go)))]) (va_A [(h0, .inr (11, [.ref x0, .ref x1, .ref x2, .ref x3, .ref x4, .ref x5, .ref x6, .ref x7, .ref x8, .ref x9, .ref x10, .int 0, .int 0, .int 0, .int 0, .int 0, .int 0])), (x9, .inr (6, [.int 0, .ref g1, .ref g2, .ref g3, .ref g4, .ref g5, .ref g6, .ref g7, .ref g8, .ref g9, .ref g10, .ref g11, .ref g12, .ref g13, .int 0, .int 0])), (ob, .inl (kl, 1, .inr (.inl fo)))] sz)) 1 6 (va_A [(h0, .inr (11, [.ref x0, .ref x1, .ref x2, .ref x3, .ref x4, .ref x5, .ref x6, .ref x7, .ref x8, .ref x9, .ref x10, .int 0, .int 0, .int 0, .int 0, .int 0, .int 0])), (x9, .inr (6, [.int 0, .ref g1, .ref g2, .ref g3, .ref g4, .ref g5, .ref g6, .ref g7, .ref g8, .ref g9, .ref g10, .ref g11, .ref g12, .ref g13, .int 0, .int 0])), (ob, .inl (kl, 1, .inr (.inl fo)))] sz) := by
  refine va_MetW (cc := cL_write) (maxL := 3) (ret := (some .int)) (hh := [(0, 8, 11, 15)]) (by decide) rfl ?_
  intro p e s m args below meth c s₁ B hml hv
  obtain ⟨rfl, hsz, hP, hK, hD0, hca0, hde0, hde1, hde2, hst0, hUS, hNS⟩ := hv
  have hx := B.exec
  have hb := B.bytes
  have hr := B.returns
  have hts := atoms_spec (ws := wf_L_write) B.pre
  have hown : s.vm.findClass RL = some m.cls := findClass_of_methodNamed B.named
  have hlocks := B.notSynchronized
  have htab := vx_table (x := yL_write) B (hts _ List.mem_cons_self)
  subst hsz
  have hD := hD0.self (sz := s.heap.size)
  generalize hAe : va_A [(h0, .inr (11, [.ref x0, .ref x1, .ref x2, .ref x3, .ref x4, .ref x5, .ref x6, .ref x7, .ref x8, .ref x9, .ref x10, .int 0, .int 0, .int 0, .int 0, .int 0, .int 0])), (x9, .inr (6, [.int 0, .ref g1, .ref g2, .ref g3, .ref g4, .ref g5, .ref g6, .ref g7, .ref g8, .ref g9, .ref g10, .ref g11, .ref g12, .ref g13, .int 0, .int 0])), (ob, .inl (kl, 1, .inr (.inl fo)))] s.heap.size = A at hD hUS hNS ⊢
  have hA : ∀ q : Nat, s.heap.size ≤ q → A q := fun q h => by rw [← hAe]; exact Or.inr h
  have hS : va_S A s.heap s.heap [] := va_S.rf
  have hP : va_P (dC, dI) vwCl [(h0, .inr (11, [.ref x0, .ref x1, .ref x2, .ref x3, .ref x4, .ref x5, .ref x6, .ref x7, .ref x8, .ref x9, .ref x10, .int 0, .int 0, .int 0, .int 0, .int 0, .int 0])), (x9, .inr (6, [.int 0, .ref g1, .ref g2, .ref g3, .ref g4, .ref g5, .ref g6, .ref g7, .ref g8, .ref g9, .ref g10, .ref g11, .ref g12, .ref g13, .int 0, .int 0])), (ob, .inl (kl, 1, .inr (.inl fo)))] s.heap := hP
  have hD : va_D A [(h0, .inr (11, [.ref x0, .ref x1, .ref x2, .ref x3, .ref x4, .ref x5, .ref x6, .ref x7, .ref x8, .ref x9, .ref x10, .int 0, .int 0, .int 0, .int 0, .int 0, .int 0])), (x9, .inr (6, [.int 0, .ref g1, .ref g2, .ref g3, .ref g4, .ref g5, .ref g6, .ref g7, .ref g8, .ref g9, .ref g10, .ref g11, .ref g12, .ref g13, .int 0, .int 0])), (ob, .inl (kl, 1, .inr (.inl fo)))] := hD
  have hl := lv_entry ([.ref h0, .ref ob]) (n := 3) (Nat.le_of_ble_eq_true rfl)
  rw [lg_entry_eq]
  generalize (lg_sl ([.ref h0, .ref ob]) ++ List.replicate (3 - (lg_sl ([.ref h0, .ref ob])).length) Slot.unset).toArray = ls at hl ⊢
  have hl : lv_has ls 3 [(0, .ref h0), (1, .ref ob)] := hl
  refine lv_aload_n hx hb dL_write_0 rfl (lv_at hl 1 rfl) ?_
  refine lv_iconst (v := 0) hx hb dL_write_1 (by decide) ?_
  refine lv_aload_n hx hb dL_write_2 rfl (lv_at hl 0 rfl) ?_
  have hPc := hP.sub (ws' := [(h0, .inr (11, [.ref x0, .ref x1, .ref x2, .ref x3, .ref x4, .ref x5, .ref x6, .ref x7, .ref x8, .ref x9, .ref x10, .int 0, .int 0, .int 0, .int 0, .int 0, .int 0])), (x9, .inr (6, [.int 0, .ref g1, .ref g2, .ref g3, .ref g4, .ref g5, .ref g6, .ref g7, .ref g8, .ref g9, .ref g10, .ref g11, .ref g12, .ref g13, .int 0, .int 0]))]) [0, 1] rfl
  have hDc := hD.sub (ws' := [(h0, .inr (11, [.ref x0, .ref x1, .ref x2, .ref x3, .ref x4, .ref x5, .ref x6, .ref x7, .ref x8, .ref x9, .ref x10, .int 0, .int 0, .int 0, .int 0, .int 0, .int 0])), (x9, .inr (6, [.int 0, .ref g1, .ref g2, .ref g3, .ref g4, .ref g5, .ref g6, .ref g7, .ref g8, .ref g9, .ref g10, .ref g11, .ref g12, .ref g13, .int 0, .int 0]))]) [0, 1] (by decide) rfl
  have hKc := hK.sub (tys' := []) [] rfl
  have hFc := va_free (wc := [(h0, .inr (11, [.ref x0, .ref x1, .ref x2, .ref x3, .ref x4, .ref x5, .ref x6, .ref x7, .ref x8, .ref x9, .ref x10, .int 0, .int 0, .int 0, .int 0, .int 0, .int 0])), (x9, .inr (6, [.int 0, .ref g1, .ref g2, .ref g3, .ref g4, .ref g5, .ref g6, .ref g7, .ref g8, .ref g9, .ref g10, .ref g11, .ref g12, .ref g13, .int 0, .int 0]))]) hD hS hA [0, 1] rfl
  refine vx_calli (vx_runV (As := []) (rest := [.int 0, .ref ob]) ⟨hx, hb, hml, hown, hts⟩ (c_X11_write_fresh l hlt dC dI h0 x0 x1 x2 x3 x4 x5 x6 x7 x8 x9 x10 g1 g2 g3 g4 g5 g6 g7 g8 g9 g10 g11 g12 g13 sa0 s.heap.size) (cwV 0 hts gf_L_write_0 rfl rfl rfl (by decide +kernel) ⟨Nat.le_of_ble_eq_true rfl, Nat.le_of_ble_eq_true rfl⟩) ⟨fun a U g mk q => by obtain ⟨q0, q1, qP, qK, qD, qC0, qd0, qd1, qd2, qs0, qU, qN⟩ := q; exact ⟨q0, q1, qP, va_K.moved (u := U) (U := U.calling g mk a) (Vm.Alike.refl U.vm) qK, qD, va_Nw.same rfl rfl qC0, va_Nw.same rfl rfl qd0, va_Nw.same rfl rfl qd1, va_Nw.same rfl rfl qd2, vk_R.same rfl qs0, vx_Zq.moved (u := U) (U := U.calling g mk a) (Vm.Alike.refl U.vm) qU, vx_Zq.moved (u := U) (U := U.calling g mk a) (Vm.Alike.refl U.vm) qN⟩, va_recv hKc hPc (ci := 11) (q0 := 0) rfl rfl, fun U hU hW => ⟨rfl, by rw [hU], by rw [hU]; exact hPc, va_K.moved hW.alike hKc, hDc.weaken (fun _ _ _ _ => trivial), va_Nw.warmC hW hca0, va_Nw.warmD hW hde0, va_Nw.warmD hW hde1, va_Nw.warmD hW hde2, vk_R.warm hW hst0, (by rw [hU]; exact ((hUS.moved hW.alike).kept hS.2.1).narrow hFc), (by rw [hU]; exact ((hNS.moved hW.alike).kept hS.2.1).narrow hFc)⟩⟩ rfl rfl hl.1 rfl (lv_room (Nat.le_of_ble_eq_true rfl)) dL_write_3 ⟨Nat.le_of_ble_eq_true rfl, Nat.le_of_ble_eq_true rfl⟩) hS (fun q _ h => hFc q h) hFc (fun q _ h => hFc q h) (fun E ce q9 u t H1 locs ht hvm hw hB hz1 hk1 hS hce hcv hcl => ?_) (fun r_1 u t H1 locs ht hvm hw hB hz1 hk1 hS => ?_)
  · skip
    obtain ⟨hE, hP1, hK1, hD1⟩ := hB
    rw [ht] at hP1
    have hK1 := va_K.moved hvm.symm hK1
    obtain ⟨hP, hD⟩ := va_join (wr := [(ob, .inl (kl, 1, .inr (.inl fo)))]) (w1 := [(h0, .inr (11, [.ref x0, .ref x1, .ref x2, .ref x3, .ref x4, .ref x5, .ref x6, .ref x7, .ref x8, .ref x9, .ref x10, .int 0, .int 0, .int 0, .int 0, .int 0, .int 0])), (x9, .inr (6, [.int 0, .ref g1, .ref g2, .ref g3, .ref g4, .ref g5, .ref g6, .ref g7, .ref g8, .ref g9, .ref g10, .ref g11, .ref g12, .ref g13, .int 0, .int 0]))]) hP hD [0, 1] [2] rfl rfl (by decide) (by decide) hk1 hFc hP1 hD1
    have hK := (hK.sub (tys' := [(kl, .long)]) [0] rfl).app hK1
    subst ht
    generalize t.heap = H at hP hS hce ⊢
    have hP : va_P (dC, dI) vwCl [(ob, .inl (kl, 1, .inr (.inl fo))), (h0, .inr (11, [.ref x0, .ref x1, .ref x2, .ref x3, .ref x4, .ref x5, .ref x6, .ref x7, .ref x8, .ref x9, .ref x10, .int 0, .int 0, .int 0, .int 0, .int 0, .int 0])), (x9, .inr (6, [.int 0, .ref g1, .ref g2, .ref g3, .ref g4, .ref g5, .ref g6, .ref g7, .ref g8, .ref g9, .ref g10, .ref g11, .ref g12, .ref g13, .int 0, .int 0]))] H := hP
    have hD : va_D A [(ob, .inl (kl, 1, .inr (.inl fo))), (h0, .inr (11, [.ref x0, .ref x1, .ref x2, .ref x3, .ref x4, .ref x5, .ref x6, .ref x7, .ref x8, .ref x9, .ref x10, .int 0, .int 0, .int 0, .int 0, .int 0, .int 0])), (x9, .inr (6, [.int 0, .ref g1, .ref g2, .ref g3, .ref g4, .ref g5, .ref g6, .ref g7, .ref g8, .ref g9, .ref g10, .ref g11, .ref g12, .ref g13, .int 0, .int 0]))] := hD
    have hK : va_K (dC, dI) vwCl [(kl, .long)] s := hK
    obtain rfl := hE
    refine vx_catch (own := RL) (name := "java/lang/IllegalStateException") (E := "java/lang/IllegalStateException") hown [] ⟨0, 8, 11, 15⟩ [] (htab.trans rfl) (fun z h => nomatch h) (by decide) (by decide) (hts (.classLink RL 15 "java/lang/IllegalStateException") (by decide +kernel)) (va_Nw.use rfl hca0) hce hcv hcl ?_
    refine W.widen (k := 1) (n := 6) (Nat.le_of_ble_eq_true rfl) (Nat.le_of_ble_eq_true rfl) ?_
    refine lv_astore_n (lv' := [(2, .ref q9), (0, .ref h0), (1, .ref ob)]) hx hb dL_write_11 rfl hl (by decide) rfl (fun ls hl => ?_)
    refine lv_iconst (v := 1) hx hb dL_write_12 (by decide) ?_
    have hP9 : va_P (dC, dI) vwCl [(ob, .inl (kl, 1, .inr (.inl fo)))] H := by have h := hP.sub (ws' := [(ob, .inl (kl, 1, .inr (.inl fo)))]) [0] rfl; exact h
    have hD9 : va_D A [(ob, .inl (kl, 1, .inr (.inl fo)))] := by have h := hD.sub (ws' := [(ob, .inl (kl, 1, .inr (.inl fo)))]) [0] (by decide) rfl; exact h
    have hK9 := hK.sub (tys' := [(kl, .long)]) [0] rfl
    refine W.widen (k := 1) (n := 6) (Nat.le_of_ble_eq_true rfl) (Nat.le_of_ble_eq_true rfl) ?_
    exact W.iret (v := 1) hx hb hr (fun t ht hW => ⟨⟨1, 1, rfl, rfl, fo, rfl, by rw [ht]; exact hP9, va_K.moved hW.alike hK9, hAe ▸ hD9⟩, hAe ▸ hS.F ht⟩) (fun q hq => hAe ▸ hS.2.2 q hq) dL_write_13
  obtain rfl : r_1 = u := hw.symm
  obtain ⟨hf_2, hP1, hK1, hD1⟩ := hB
  exact False.elim hf_2
def wo_L_speak : List Cond := [.classLink RL 15 "java/lang/IllegalStateException"]
def wf_L_speak : List Cond := .codeWith yL_speak cL_speak 3 (some .int) [(0, 8, 11, 15)] :: (wo_L_speak ++ (wsV RL 39 RX11 yX11_speak wf_X11_speak))
set_option maxRecDepth 100000 in
theorem gf_L_speak_0 : GoodIn wf_L_speak (wsV RL 39 RX11 yX11_speak wf_X11_speak) := goodIn_sub (fun _ h => (List.mem_cons_of_mem _ (List.mem_append_right _ h))) (by decide +kernel)
set_option maxHeartbeats 4000000 in
set_option maxRecDepth 100000 in
theorem c_L_speak_fresh (l : Launch) (hlt : l.stackTraces = false) (dC : Nat → ClassId) (dI : Nat → Nat → Nat) (h0 x0 x1 x2 x3 x4 x5 x6 x7 x8 x9 x10 : Nat) (g1 g2 g3 g4 g5 g6 g7 g8 g9 g10 g11 g12 g13 : Nat) (sa0 : Nat) (ob : Nat) (kl : ClassId) (fo : Nat → Int64) (sz : Nat) : Met l yL_speak wf_L_speak ({ frames := 7, cells := 1, slots := 6, locals := 111 }) (va_Pc [.ref h0, .ref ob] (fun U => U.heap.size = sz ∧ va_P (dC, dI) vwCl [(h0, .inr (11, [.ref x0, .ref x1, .ref x2, .ref x3, .ref x4, .ref x5, .ref x6, .ref x7, .ref x8, .ref x9, .ref x10, .int 0, .int 0, .int 0, .int 0, .int 0, .int 0])), (x9, .inr (6, [.int 0, .ref g1, .ref g2, .ref g3, .ref g4, .ref g5, .ref g6, .ref g7, .ref g8, .ref g9, .ref g10, .ref g11, .ref g12, .ref g13, .int 0, .int 0])), (ob, .inl (kl, 1, .inr (.inl fo)))] U.heap ∧ va_K (dC, dI) vwCl [(kl, .long)] U ∧ va_D (fun _ => True) [(h0, .inr (11, [.ref x0, .ref x1, .ref x2, .ref x3, .ref x4, .ref x5, .ref x6, .ref x7, .ref x8, .ref x9, .ref x10, .int 0, .int 0, .int 0, .int 0, .int 0, .int 0])), (x9, .inr (6, [.int 0, .ref g1, .ref g2, .ref g3, .ref g4, .ref g5, .ref g6, .ref g7, .ref g8, .ref g9, .ref g10, .ref g11, .ref g12, .ref g13, .int 0, .int 0])), (ob, .inl (kl, 1, .inr (.inl fo)))] ∧ va_Nw (.castable "java/lang/IllegalStateException" "java/lang/IllegalStateException") U ∧ va_Nw (.declares (Bundle.initS "java/lang/RuntimeException")) U ∧ va_Nw (.declares (Bundle.initS "java/lang/Exception")) U ∧ va_Nw (.declares (Bundle.initS Bundle.tN)) U ∧ vk_R RX11 122 "there is no program" sa0 U ∧ vx_Zq Bundle.tN "UNASSIGNED_STACK" Bundle.steD (va_A [(h0, .inr (11, [.ref x0, .ref x1, .ref x2, .ref x3, .ref x4, .ref x5, .ref x6, .ref x7, .ref x8, .ref x9, .ref x10, .int 0, .int 0, .int 0, .int 0, .int 0, .int 0])), (x9, .inr (6, [.int 0, .ref g1, .ref g2, .ref g3, .ref g4, .ref g5, .ref g6, .ref g7, .ref g8, .ref g9, .ref g10, .ref g11, .ref g12, .ref g13, .int 0, .int 0])), (ob, .inl (kl, 1, .inr (.inl fo)))] sz) U U.heap ∧ vx_Zq Bundle.tN "SUPPRESSED_SENTINEL" Bundle.listD (va_A [(h0, .inr (11, [.ref x0, .ref x1, .ref x2, .ref x3, .ref x4, .ref x5, .ref x6, .ref x7, .ref x8, .ref x9, .ref x10, .int 0, .int 0, .int 0, .int 0, .int 0, .int 0])), (x9, .inr (6, [.int 0, .ref g1, .ref g2, .ref g3, .ref g4, .ref g5, .ref g6, .ref g7, .ref g8, .ref g9, .ref g10, .ref g11, .ref g12, .ref g13, .int 0, .int 0])), (ob, .inl (kl, 1, .inr (.inl fo)))] sz) U U.heap)) (va_Qi (fun (r u : Int32) => u = r) (fun (r : Int32) (t : State) => ∃ (go : Nat → Int64), (r = 1) ∧ va_P (dC, dI) vwCl [(ob, .inl (kl, 1, .inr (.inl go)))] t.heap ∧ va_K (dC, dI) vwCl [(kl, .long)] t ∧ va_D (va_A [(h0, .inr (11, [.ref x0, .ref x1, .ref x2, .ref x3, .ref x4, .ref x5, .ref x6, .ref x7, .ref x8, .ref x9, .ref x10, .int 0, .int 0, .int 0, .int 0, .int 0, .int 0])), (x9, .inr (6, [.int 0, .ref g1, .ref g2, .ref g3, .ref g4, .ref g5, .ref g6, .ref g7, .ref g8, .ref g9, .ref g10, .ref g11, .ref g12, .ref g13, .int 0, .int 0])), (ob, .inl (kl, 1, .inr (.inl fo)))] sz) [(ob, .inl (kl, 1, .inr (.inl go)))]) (va_A [(h0, .inr (11, [.ref x0, .ref x1, .ref x2, .ref x3, .ref x4, .ref x5, .ref x6, .ref x7, .ref x8, .ref x9, .ref x10, .int 0, .int 0, .int 0, .int 0, .int 0, .int 0])), (x9, .inr (6, [.int 0, .ref g1, .ref g2, .ref g3, .ref g4, .ref g5, .ref g6, .ref g7, .ref g8, .ref g9, .ref g10, .ref g11, .ref g12, .ref g13, .int 0, .int 0])), (ob, .inl (kl, 1, .inr (.inl fo)))] sz)) 1 6 (va_A [(h0, .inr (11, [.ref x0, .ref x1, .ref x2, .ref x3, .ref x4, .ref x5, .ref x6, .ref x7, .ref x8, .ref x9, .ref x10, .int 0, .int 0, .int 0, .int 0, .int 0, .int 0])), (x9, .inr (6, [.int 0, .ref g1, .ref g2, .ref g3, .ref g4, .ref g5, .ref g6, .ref g7, .ref g8, .ref g9, .ref g10, .ref g11, .ref g12, .ref g13, .int 0, .int 0])), (ob, .inl (kl, 1, .inr (.inl fo)))] sz) := by
  refine va_MetW (cc := cL_speak) (maxL := 3) (ret := (some .int)) (hh := [(0, 8, 11, 15)]) (by decide) rfl ?_
  intro p e s m args below meth c s₁ B hml hv
  obtain ⟨rfl, hsz, hP, hK, hD0, hca0, hde0, hde1, hde2, hst0, hUS, hNS⟩ := hv
  have hx := B.exec
  have hb := B.bytes
  have hr := B.returns
  have hts := atoms_spec (ws := wf_L_speak) B.pre
  have hown : s.vm.findClass RL = some m.cls := findClass_of_methodNamed B.named
  have hlocks := B.notSynchronized
  have htab := vx_table (x := yL_speak) B (hts _ List.mem_cons_self)
  subst hsz
  have hD := hD0.self (sz := s.heap.size)
  generalize hAe : va_A [(h0, .inr (11, [.ref x0, .ref x1, .ref x2, .ref x3, .ref x4, .ref x5, .ref x6, .ref x7, .ref x8, .ref x9, .ref x10, .int 0, .int 0, .int 0, .int 0, .int 0, .int 0])), (x9, .inr (6, [.int 0, .ref g1, .ref g2, .ref g3, .ref g4, .ref g5, .ref g6, .ref g7, .ref g8, .ref g9, .ref g10, .ref g11, .ref g12, .ref g13, .int 0, .int 0])), (ob, .inl (kl, 1, .inr (.inl fo)))] s.heap.size = A at hD hUS hNS ⊢
  have hA : ∀ q : Nat, s.heap.size ≤ q → A q := fun q h => by rw [← hAe]; exact Or.inr h
  have hS : va_S A s.heap s.heap [] := va_S.rf
  have hP : va_P (dC, dI) vwCl [(h0, .inr (11, [.ref x0, .ref x1, .ref x2, .ref x3, .ref x4, .ref x5, .ref x6, .ref x7, .ref x8, .ref x9, .ref x10, .int 0, .int 0, .int 0, .int 0, .int 0, .int 0])), (x9, .inr (6, [.int 0, .ref g1, .ref g2, .ref g3, .ref g4, .ref g5, .ref g6, .ref g7, .ref g8, .ref g9, .ref g10, .ref g11, .ref g12, .ref g13, .int 0, .int 0])), (ob, .inl (kl, 1, .inr (.inl fo)))] s.heap := hP
  have hD : va_D A [(h0, .inr (11, [.ref x0, .ref x1, .ref x2, .ref x3, .ref x4, .ref x5, .ref x6, .ref x7, .ref x8, .ref x9, .ref x10, .int 0, .int 0, .int 0, .int 0, .int 0, .int 0])), (x9, .inr (6, [.int 0, .ref g1, .ref g2, .ref g3, .ref g4, .ref g5, .ref g6, .ref g7, .ref g8, .ref g9, .ref g10, .ref g11, .ref g12, .ref g13, .int 0, .int 0])), (ob, .inl (kl, 1, .inr (.inl fo)))] := hD
  have hl := lv_entry ([.ref h0, .ref ob]) (n := 3) (Nat.le_of_ble_eq_true rfl)
  rw [lg_entry_eq]
  generalize (lg_sl ([.ref h0, .ref ob]) ++ List.replicate (3 - (lg_sl ([.ref h0, .ref ob])).length) Slot.unset).toArray = ls at hl ⊢
  have hl : lv_has ls 3 [(0, .ref h0), (1, .ref ob)] := hl
  refine lv_aload_n hx hb dL_speak_0 rfl (lv_at hl 1 rfl) ?_
  refine lv_iconst (v := 0) hx hb dL_speak_1 (by decide) ?_
  refine lv_aload_n hx hb dL_speak_2 rfl (lv_at hl 0 rfl) ?_
  have hPc := hP.sub (ws' := [(h0, .inr (11, [.ref x0, .ref x1, .ref x2, .ref x3, .ref x4, .ref x5, .ref x6, .ref x7, .ref x8, .ref x9, .ref x10, .int 0, .int 0, .int 0, .int 0, .int 0, .int 0])), (x9, .inr (6, [.int 0, .ref g1, .ref g2, .ref g3, .ref g4, .ref g5, .ref g6, .ref g7, .ref g8, .ref g9, .ref g10, .ref g11, .ref g12, .ref g13, .int 0, .int 0]))]) [0, 1] rfl
  have hDc := hD.sub (ws' := [(h0, .inr (11, [.ref x0, .ref x1, .ref x2, .ref x3, .ref x4, .ref x5, .ref x6, .ref x7, .ref x8, .ref x9, .ref x10, .int 0, .int 0, .int 0, .int 0, .int 0, .int 0])), (x9, .inr (6, [.int 0, .ref g1, .ref g2, .ref g3, .ref g4, .ref g5, .ref g6, .ref g7, .ref g8, .ref g9, .ref g10, .ref g11, .ref g12, .ref g13, .int 0, .int 0]))]) [0, 1] (by decide) rfl
  have hKc := hK.sub (tys' := []) [] rfl
  have hFc := va_free (wc := [(h0, .inr (11, [.ref x0, .ref x1, .ref x2, .ref x3, .ref x4, .ref x5, .ref x6, .ref x7, .ref x8, .ref x9, .ref x10, .int 0, .int 0, .int 0, .int 0, .int 0, .int 0])), (x9, .inr (6, [.int 0, .ref g1, .ref g2, .ref g3, .ref g4, .ref g5, .ref g6, .ref g7, .ref g8, .ref g9, .ref g10, .ref g11, .ref g12, .ref g13, .int 0, .int 0]))]) hD hS hA [0, 1] rfl
  refine vx_calli (vx_runV (As := []) (rest := [.int 0, .ref ob]) ⟨hx, hb, hml, hown, hts⟩ (c_X11_speak_fresh l hlt dC dI h0 x0 x1 x2 x3 x4 x5 x6 x7 x8 x9 x10 g1 g2 g3 g4 g5 g6 g7 g8 g9 g10 g11 g12 g13 sa0 s.heap.size) (cwV 0 hts gf_L_speak_0 rfl rfl rfl (by decide +kernel) ⟨Nat.le_of_ble_eq_true rfl, Nat.le_of_ble_eq_true rfl⟩) ⟨fun a U g mk q => by obtain ⟨q0, q1, qP, qK, qD, qC0, qd0, qd1, qd2, qs0, qU, qN⟩ := q; exact ⟨q0, q1, qP, va_K.moved (u := U) (U := U.calling g mk a) (Vm.Alike.refl U.vm) qK, qD, va_Nw.same rfl rfl qC0, va_Nw.same rfl rfl qd0, va_Nw.same rfl rfl qd1, va_Nw.same rfl rfl qd2, vk_R.same rfl qs0, vx_Zq.moved (u := U) (U := U.calling g mk a) (Vm.Alike.refl U.vm) qU, vx_Zq.moved (u := U) (U := U.calling g mk a) (Vm.Alike.refl U.vm) qN⟩, va_recv hKc hPc (ci := 11) (q0 := 0) rfl rfl, fun U hU hW => ⟨rfl, by rw [hU], by rw [hU]; exact hPc, va_K.moved hW.alike hKc, hDc.weaken (fun _ _ _ _ => trivial), va_Nw.warmC hW hca0, va_Nw.warmD hW hde0, va_Nw.warmD hW hde1, va_Nw.warmD hW hde2, vk_R.warm hW hst0, (by rw [hU]; exact ((hUS.moved hW.alike).kept hS.2.1).narrow hFc), (by rw [hU]; exact ((hNS.moved hW.alike).kept hS.2.1).narrow hFc)⟩⟩ rfl rfl hl.1 rfl (lv_room (Nat.le_of_ble_eq_true rfl)) dL_speak_3 ⟨Nat.le_of_ble_eq_true rfl, Nat.le_of_ble_eq_true rfl⟩) hS (fun q _ h => hFc q h) hFc (fun q _ h => hFc q h) (fun E ce q9 u t H1 locs ht hvm hw hB hz1 hk1 hS hce hcv hcl => ?_) (fun r_1 u t H1 locs ht hvm hw hB hz1 hk1 hS => ?_)
  · skip
    obtain ⟨hE, hP1, hK1, hD1⟩ := hB
    rw [ht] at hP1
    have hK1 := va_K.moved hvm.symm hK1
    obtain ⟨hP, hD⟩ := va_join (wr := [(ob, .inl (kl, 1, .inr (.inl fo)))]) (w1 := [(h0, .inr (11, [.ref x0, .ref x1, .ref x2, .ref x3, .ref x4, .ref x5, .ref x6, .ref x7, .ref x8, .ref x9, .ref x10, .int 0, .int 0, .int 0, .int 0, .int 0, .int 0])), (x9, .inr (6, [.int 0, .ref g1, .ref g2, .ref g3, .ref g4, .ref g5, .ref g6, .ref g7, .ref g8, .ref g9, .ref g10, .ref g11, .ref g12, .ref g13, .int 0, .int 0]))]) hP hD [0, 1] [2] rfl rfl (by decide) (by decide) hk1 hFc hP1 hD1
    have hK := (hK.sub (tys' := [(kl, .long)]) [0] rfl).app hK1
    subst ht
    generalize t.heap = H at hP hS hce ⊢
    have hP : va_P (dC, dI) vwCl [(ob, .inl (kl, 1, .inr (.inl fo))), (h0, .inr (11, [.ref x0, .ref x1, .ref x2, .ref x3, .ref x4, .ref x5, .ref x6, .ref x7, .ref x8, .ref x9, .ref x10, .int 0, .int 0, .int 0, .int 0, .int 0, .int 0])), (x9, .inr (6, [.int 0, .ref g1, .ref g2, .ref g3, .ref g4, .ref g5, .ref g6, .ref g7, .ref g8, .ref g9, .ref g10, .ref g11, .ref g12, .ref g13, .int 0, .int 0]))] H := hP
    have hD : va_D A [(ob, .inl (kl, 1, .inr (.inl fo))), (h0, .inr (11, [.ref x0, .ref x1, .ref x2, .ref x3, .ref x4, .ref x5, .ref x6, .ref x7, .ref x8, .ref x9, .ref x10, .int 0, .int 0, .int 0, .int 0, .int 0, .int 0])), (x9, .inr (6, [.int 0, .ref g1, .ref g2, .ref g3, .ref g4, .ref g5, .ref g6, .ref g7, .ref g8, .ref g9, .ref g10, .ref g11, .ref g12, .ref g13, .int 0, .int 0]))] := hD
    have hK : va_K (dC, dI) vwCl [(kl, .long)] s := hK
    obtain rfl := hE
    refine vx_catch (own := RL) (name := "java/lang/IllegalStateException") (E := "java/lang/IllegalStateException") hown [] ⟨0, 8, 11, 15⟩ [] (htab.trans rfl) (fun z h => nomatch h) (by decide) (by decide) (hts (.classLink RL 15 "java/lang/IllegalStateException") (by decide +kernel)) (va_Nw.use rfl hca0) hce hcv hcl ?_
    refine W.widen (k := 1) (n := 6) (Nat.le_of_ble_eq_true rfl) (Nat.le_of_ble_eq_true rfl) ?_
    refine lv_astore_n (lv' := [(2, .ref q9), (0, .ref h0), (1, .ref ob)]) hx hb dL_speak_11 rfl hl (by decide) rfl (fun ls hl => ?_)
    refine lv_iconst (v := 1) hx hb dL_speak_12 (by decide) ?_
    have hP9 : va_P (dC, dI) vwCl [(ob, .inl (kl, 1, .inr (.inl fo)))] H := by have h := hP.sub (ws' := [(ob, .inl (kl, 1, .inr (.inl fo)))]) [0] rfl; exact h
    have hD9 : va_D A [(ob, .inl (kl, 1, .inr (.inl fo)))] := by have h := hD.sub (ws' := [(ob, .inl (kl, 1, .inr (.inl fo)))]) [0] (by decide) rfl; exact h
    have hK9 := hK.sub (tys' := [(kl, .long)]) [0] rfl
    refine W.widen (k := 1) (n := 6) (Nat.le_of_ble_eq_true rfl) (Nat.le_of_ble_eq_true rfl) ?_
    exact W.iret (v := 1) hx hb hr (fun t ht hW => ⟨⟨1, 1, rfl, rfl, fo, rfl, by rw [ht]; exact hP9, va_K.moved hW.alike hK9, hAe ▸ hD9⟩, hAe ▸ hS.F ht⟩) (fun q hq => hAe ▸ hS.2.2 q hq) dL_speak_13
  obtain rfl : r_1 = u := hw.symm
  obtain ⟨hf_2, hP1, hK1, hD1⟩ := hB
  exact False.elim hf_2
def wo_L_node : List Cond := [.classLink RL 25 "java/util/NoSuchElementException"]
def wf_L_node : List Cond := .codeWith yL_node cL_node 5 (some .int) [(0, 10, 13, 25)] :: (wo_L_node ++ (wsV RL 21 RX11 yX11_node wf_X11_node))
set_option maxRecDepth 100000 in
theorem gf_L_node_0 : GoodIn wf_L_node (wsV RL 21 RX11 yX11_node wf_X11_node) := goodIn_sub (fun _ h => (List.mem_cons_of_mem _ (List.mem_append_right _ h))) (by decide +kernel)
set_option maxHeartbeats 4000000 in
set_option maxRecDepth 100000 in
theorem c_L_node_fresh (l : Launch) (hlt : l.stackTraces = false) (dC : Nat → ClassId) (dI : Nat → Nat → Nat) (h0 x0 x1 x2 x3 x4 x5 x6 x7 x8 x9 x10 : Nat) (g1 g2 g3 g4 g5 g6 g7 g8 g9 g10 g11 g12 g13 : Nat) (p1 p2 : Int32) (sa0 : Nat) (ob : Nat) (kl : ClassId) (fo : Nat → Int64) (sz : Nat) : Met l yL_node wf_L_node ({ frames := 7, cells := 1, slots := 6, locals := 112 }) (va_Pc [.ref h0, .int p1, .int p2, .ref ob] (fun U => U.heap.size = sz ∧ va_P (dC, dI) vwCl [(h0, .inr (11, [.ref x0, .ref x1, .ref x2, .ref x3, .ref x4, .ref x5, .ref x6, .ref x7, .ref x8, .ref x9, .ref x10, .int 0, .int 0, .int 0, .int 0, .int 0, .int 0])), (x9, .inr (6, [.int 0, .ref g1, .ref g2, .ref g3, .ref g4, .ref g5, .ref g6, .ref g7, .ref g8, .ref g9, .ref g10, .ref g11, .ref g12, .ref g13, .int 0, .int 0])), (ob, .inl (kl, 1, .inr (.inl fo)))] U.heap ∧ va_K (dC, dI) vwCl [(kl, .long)] U ∧ va_D (fun _ => True) [(h0, .inr (11, [.ref x0, .ref x1, .ref x2, .ref x3, .ref x4, .ref x5, .ref x6, .ref x7, .ref x8, .ref x9, .ref x10, .int 0, .int 0, .int 0, .int 0, .int 0, .int 0])), (x9, .inr (6, [.int 0, .ref g1, .ref g2, .ref g3, .ref g4, .ref g5, .ref g6, .ref g7, .ref g8, .ref g9, .ref g10, .ref g11, .ref g12, .ref g13, .int 0, .int 0])), (ob, .inl (kl, 1, .inr (.inl fo)))] ∧ va_Nw (.castable "java/util/NoSuchElementException" "java/util/NoSuchElementException") U ∧ va_Nw (.declares (Bundle.initS "java/lang/RuntimeException")) U ∧ va_Nw (.declares (Bundle.initS "java/lang/Exception")) U ∧ va_Nw (.declares (Bundle.initS Bundle.tN)) U ∧ vk_R RX11 207 "no such node or no such question" sa0 U ∧ vx_Zq Bundle.tN "UNASSIGNED_STACK" Bundle.steD (va_A [(h0, .inr (11, [.ref x0, .ref x1, .ref x2, .ref x3, .ref x4, .ref x5, .ref x6, .ref x7, .ref x8, .ref x9, .ref x10, .int 0, .int 0, .int 0, .int 0, .int 0, .int 0])), (x9, .inr (6, [.int 0, .ref g1, .ref g2, .ref g3, .ref g4, .ref g5, .ref g6, .ref g7, .ref g8, .ref g9, .ref g10, .ref g11, .ref g12, .ref g13, .int 0, .int 0])), (ob, .inl (kl, 1, .inr (.inl fo)))] sz) U U.heap ∧ vx_Zq Bundle.tN "SUPPRESSED_SENTINEL" Bundle.listD (va_A [(h0, .inr (11, [.ref x0, .ref x1, .ref x2, .ref x3, .ref x4, .ref x5, .ref x6, .ref x7, .ref x8, .ref x9, .ref x10, .int 0, .int 0, .int 0, .int 0, .int 0, .int 0])), (x9, .inr (6, [.int 0, .ref g1, .ref g2, .ref g3, .ref g4, .ref g5, .ref g6, .ref g7, .ref g8, .ref g9, .ref g10, .ref g11, .ref g12, .ref g13, .int 0, .int 0])), (ob, .inl (kl, 1, .inr (.inl fo)))] sz) U U.heap)) (va_Qi (fun (r u : Int32) => u = r) (fun (r : Int32) (t : State) => ∃ (go : Nat → Int64), (r = 1) ∧ va_P (dC, dI) vwCl [(ob, .inl (kl, 1, .inr (.inl go)))] t.heap ∧ va_K (dC, dI) vwCl [(kl, .long)] t ∧ va_D (va_A [(h0, .inr (11, [.ref x0, .ref x1, .ref x2, .ref x3, .ref x4, .ref x5, .ref x6, .ref x7, .ref x8, .ref x9, .ref x10, .int 0, .int 0, .int 0, .int 0, .int 0, .int 0])), (x9, .inr (6, [.int 0, .ref g1, .ref g2, .ref g3, .ref g4, .ref g5, .ref g6, .ref g7, .ref g8, .ref g9, .ref g10, .ref g11, .ref g12, .ref g13, .int 0, .int 0])), (ob, .inl (kl, 1, .inr (.inl fo)))] sz) [(ob, .inl (kl, 1, .inr (.inl go)))]) (va_A [(h0, .inr (11, [.ref x0, .ref x1, .ref x2, .ref x3, .ref x4, .ref x5, .ref x6, .ref x7, .ref x8, .ref x9, .ref x10, .int 0, .int 0, .int 0, .int 0, .int 0, .int 0])), (x9, .inr (6, [.int 0, .ref g1, .ref g2, .ref g3, .ref g4, .ref g5, .ref g6, .ref g7, .ref g8, .ref g9, .ref g10, .ref g11, .ref g12, .ref g13, .int 0, .int 0])), (ob, .inl (kl, 1, .inr (.inl fo)))] sz)) 1 6 (va_A [(h0, .inr (11, [.ref x0, .ref x1, .ref x2, .ref x3, .ref x4, .ref x5, .ref x6, .ref x7, .ref x8, .ref x9, .ref x10, .int 0, .int 0, .int 0, .int 0, .int 0, .int 0])), (x9, .inr (6, [.int 0, .ref g1, .ref g2, .ref g3, .ref g4, .ref g5, .ref g6, .ref g7, .ref g8, .ref g9, .ref g10, .ref g11, .ref g12, .ref g13, .int 0, .int 0])), (ob, .inl (kl, 1, .inr (.inl fo)))] sz) := by
  refine va_MetW (cc := cL_node) (maxL := 5) (ret := (some .int)) (hh := [(0, 10, 13, 25)]) (by decide) rfl ?_
  intro p e s m args below meth c s₁ B hml hv
  obtain ⟨rfl, hsz, hP, hK, hD0, hca0, hde0, hde1, hde2, hst0, hUS, hNS⟩ := hv
  have hx := B.exec
  have hb := B.bytes
  have hr := B.returns
  have hts := atoms_spec (ws := wf_L_node) B.pre
  have hown : s.vm.findClass RL = some m.cls := findClass_of_methodNamed B.named
  have hlocks := B.notSynchronized
  have htab := vx_table (x := yL_node) B (hts _ List.mem_cons_self)
  subst hsz
  have hD := hD0.self (sz := s.heap.size)
  generalize hAe : va_A [(h0, .inr (11, [.ref x0, .ref x1, .ref x2, .ref x3, .ref x4, .ref x5, .ref x6, .ref x7, .ref x8, .ref x9, .ref x10, .int 0, .int 0, .int 0, .int 0, .int 0, .int 0])), (x9, .inr (6, [.int 0, .ref g1, .ref g2, .ref g3, .ref g4, .ref g5, .ref g6, .ref g7, .ref g8, .ref g9, .ref g10, .ref g11, .ref g12, .ref g13, .int 0, .int 0])), (ob, .inl (kl, 1, .inr (.inl fo)))] s.heap.size = A at hD hUS hNS ⊢
  have hA : ∀ q : Nat, s.heap.size ≤ q → A q := fun q h => by rw [← hAe]; exact Or.inr h
  have hS : va_S A s.heap s.heap [] := va_S.rf
  have hP : va_P (dC, dI) vwCl [(h0, .inr (11, [.ref x0, .ref x1, .ref x2, .ref x3, .ref x4, .ref x5, .ref x6, .ref x7, .ref x8, .ref x9, .ref x10, .int 0, .int 0, .int 0, .int 0, .int 0, .int 0])), (x9, .inr (6, [.int 0, .ref g1, .ref g2, .ref g3, .ref g4, .ref g5, .ref g6, .ref g7, .ref g8, .ref g9, .ref g10, .ref g11, .ref g12, .ref g13, .int 0, .int 0])), (ob, .inl (kl, 1, .inr (.inl fo)))] s.heap := hP
  have hD : va_D A [(h0, .inr (11, [.ref x0, .ref x1, .ref x2, .ref x3, .ref x4, .ref x5, .ref x6, .ref x7, .ref x8, .ref x9, .ref x10, .int 0, .int 0, .int 0, .int 0, .int 0, .int 0])), (x9, .inr (6, [.int 0, .ref g1, .ref g2, .ref g3, .ref g4, .ref g5, .ref g6, .ref g7, .ref g8, .ref g9, .ref g10, .ref g11, .ref g12, .ref g13, .int 0, .int 0])), (ob, .inl (kl, 1, .inr (.inl fo)))] := hD
  have hl := lv_entry ([.ref h0, .int p1, .int p2, .ref ob]) (n := 5) (Nat.le_of_ble_eq_true rfl)
  rw [lg_entry_eq]
  generalize (lg_sl ([.ref h0, .int p1, .int p2, .ref ob]) ++ List.replicate (5 - (lg_sl ([.ref h0, .int p1, .int p2, .ref ob])).length) Slot.unset).toArray = ls at hl ⊢
  have hl : lv_has ls 5 [(0, .ref h0), (1, .int p1), (2, .int p2), (3, .ref ob)] := hl
  refine lv_aload_n hx hb dL_node_0 rfl (lv_at hl 3 rfl) ?_
  refine lv_iconst (v := 0) hx hb dL_node_1 (by decide) ?_
  refine lv_aload_n hx hb dL_node_2 rfl (lv_at hl 0 rfl) ?_
  refine lv_iload_n hx hb dL_node_3 rfl (lv_at hl 1 rfl) ?_
  refine lv_iload_n hx hb dL_node_4 rfl (lv_at hl 2 rfl) ?_
  have hPc := hP.sub (ws' := [(h0, .inr (11, [.ref x0, .ref x1, .ref x2, .ref x3, .ref x4, .ref x5, .ref x6, .ref x7, .ref x8, .ref x9, .ref x10, .int 0, .int 0, .int 0, .int 0, .int 0, .int 0])), (x9, .inr (6, [.int 0, .ref g1, .ref g2, .ref g3, .ref g4, .ref g5, .ref g6, .ref g7, .ref g8, .ref g9, .ref g10, .ref g11, .ref g12, .ref g13, .int 0, .int 0]))]) [0, 1] rfl
  have hDc := hD.sub (ws' := [(h0, .inr (11, [.ref x0, .ref x1, .ref x2, .ref x3, .ref x4, .ref x5, .ref x6, .ref x7, .ref x8, .ref x9, .ref x10, .int 0, .int 0, .int 0, .int 0, .int 0, .int 0])), (x9, .inr (6, [.int 0, .ref g1, .ref g2, .ref g3, .ref g4, .ref g5, .ref g6, .ref g7, .ref g8, .ref g9, .ref g10, .ref g11, .ref g12, .ref g13, .int 0, .int 0]))]) [0, 1] (by decide) rfl
  have hKc := hK.sub (tys' := []) [] rfl
  have hFc := va_free (wc := [(h0, .inr (11, [.ref x0, .ref x1, .ref x2, .ref x3, .ref x4, .ref x5, .ref x6, .ref x7, .ref x8, .ref x9, .ref x10, .int 0, .int 0, .int 0, .int 0, .int 0, .int 0])), (x9, .inr (6, [.int 0, .ref g1, .ref g2, .ref g3, .ref g4, .ref g5, .ref g6, .ref g7, .ref g8, .ref g9, .ref g10, .ref g11, .ref g12, .ref g13, .int 0, .int 0]))]) hD hS hA [0, 1] rfl
  refine vx_calli (vx_runV (As := [.int p1, .int p2]) (rest := [.int 0, .ref ob]) ⟨hx, hb, hml, hown, hts⟩ (c_X11_node_fresh l hlt dC dI h0 x0 x1 x2 x3 x4 x5 x6 x7 x8 x9 x10 g1 g2 g3 g4 g5 g6 g7 g8 g9 g10 g11 g12 g13 p1 p2 sa0 s.heap.size) (cwV 2 hts gf_L_node_0 rfl rfl rfl (by decide +kernel) ⟨Nat.le_of_ble_eq_true rfl, Nat.le_of_ble_eq_true rfl⟩) ⟨fun a U g mk q => by obtain ⟨q0, q1, qP, qK, qD, qC0, qd0, qd1, qd2, qs0, qU, qN⟩ := q; exact ⟨q0, q1, qP, va_K.moved (u := U) (U := U.calling g mk a) (Vm.Alike.refl U.vm) qK, qD, va_Nw.same rfl rfl qC0, va_Nw.same rfl rfl qd0, va_Nw.same rfl rfl qd1, va_Nw.same rfl rfl qd2, vk_R.same rfl qs0, vx_Zq.moved (u := U) (U := U.calling g mk a) (Vm.Alike.refl U.vm) qU, vx_Zq.moved (u := U) (U := U.calling g mk a) (Vm.Alike.refl U.vm) qN⟩, va_recv hKc hPc (ci := 11) (q0 := 0) rfl rfl, fun U hU hW => ⟨rfl, by rw [hU], by rw [hU]; exact hPc, va_K.moved hW.alike hKc, hDc.weaken (fun _ _ _ _ => trivial), va_Nw.warmC hW hca0, va_Nw.warmD hW hde0, va_Nw.warmD hW hde1, va_Nw.warmD hW hde2, vk_R.warm hW hst0, (by rw [hU]; exact ((hUS.moved hW.alike).kept hS.2.1).narrow hFc), (by rw [hU]; exact ((hNS.moved hW.alike).kept hS.2.1).narrow hFc)⟩⟩ rfl rfl hl.1 rfl (lv_room (Nat.le_of_ble_eq_true rfl)) dL_node_5 ⟨Nat.le_of_ble_eq_true rfl, Nat.le_of_ble_eq_true rfl⟩) hS (fun q _ h => hFc q h) hFc (fun q _ h => hFc q h) (fun E ce q9 u t H1 locs ht hvm hw hB hz1 hk1 hS hce hcv hcl => ?_) (fun r_1 u t H1 locs ht hvm hw hB hz1 hk1 hS => ?_)
  · skip
    obtain ⟨hE, hP1, hK1, hD1⟩ := hB
    rw [ht] at hP1
    have hK1 := va_K.moved hvm.symm hK1
    obtain ⟨hP, hD⟩ := va_join (wr := [(ob, .inl (kl, 1, .inr (.inl fo)))]) (w1 := [(h0, .inr (11, [.ref x0, .ref x1, .ref x2, .ref x3, .ref x4, .ref x5, .ref x6, .ref x7, .ref x8, .ref x9, .ref x10, .int 0, .int 0, .int 0, .int 0, .int 0, .int 0])), (x9, .inr (6, [.int 0, .ref g1, .ref g2, .ref g3, .ref g4, .ref g5, .ref g6, .ref g7, .ref g8, .ref g9, .ref g10, .ref g11, .ref g12, .ref g13, .int 0, .int 0]))]) hP hD [0, 1] [2] rfl rfl (by decide) (by decide) hk1 hFc hP1 hD1
    have hK := (hK.sub (tys' := [(kl, .long)]) [0] rfl).app hK1
    subst ht
    generalize t.heap = H at hP hS hce ⊢
    have hP : va_P (dC, dI) vwCl [(ob, .inl (kl, 1, .inr (.inl fo))), (h0, .inr (11, [.ref x0, .ref x1, .ref x2, .ref x3, .ref x4, .ref x5, .ref x6, .ref x7, .ref x8, .ref x9, .ref x10, .int 0, .int 0, .int 0, .int 0, .int 0, .int 0])), (x9, .inr (6, [.int 0, .ref g1, .ref g2, .ref g3, .ref g4, .ref g5, .ref g6, .ref g7, .ref g8, .ref g9, .ref g10, .ref g11, .ref g12, .ref g13, .int 0, .int 0]))] H := hP
    have hD : va_D A [(ob, .inl (kl, 1, .inr (.inl fo))), (h0, .inr (11, [.ref x0, .ref x1, .ref x2, .ref x3, .ref x4, .ref x5, .ref x6, .ref x7, .ref x8, .ref x9, .ref x10, .int 0, .int 0, .int 0, .int 0, .int 0, .int 0])), (x9, .inr (6, [.int 0, .ref g1, .ref g2, .ref g3, .ref g4, .ref g5, .ref g6, .ref g7, .ref g8, .ref g9, .ref g10, .ref g11, .ref g12, .ref g13, .int 0, .int 0]))] := hD
    have hK : va_K (dC, dI) vwCl [(kl, .long)] s := hK
    obtain rfl := hE
    refine vx_catch (own := RL) (name := "java/util/NoSuchElementException") (E := "java/util/NoSuchElementException") hown [] ⟨0, 10, 13, 25⟩ [] (htab.trans rfl) (fun z h => nomatch h) (by decide) (by decide) (hts (.classLink RL 25 "java/util/NoSuchElementException") (by decide +kernel)) (va_Nw.use rfl hca0) hce hcv hcl ?_
    refine W.widen (k := 1) (n := 6) (Nat.le_of_ble_eq_true rfl) (Nat.le_of_ble_eq_true rfl) ?_
    refine lv_astore (lv' := [(4, .ref q9), (0, .ref h0), (1, .int p1), (2, .int p2), (3, .ref ob)]) hx hb dL_node_13 hl (by decide) rfl (fun ls hl => ?_)
    refine lv_iconst (v := 1) hx hb dL_node_15 (by decide) ?_
    have hP9 : va_P (dC, dI) vwCl [(ob, .inl (kl, 1, .inr (.inl fo)))] H := by have h := hP.sub (ws' := [(ob, .inl (kl, 1, .inr (.inl fo)))]) [0] rfl; exact h
    have hD9 : va_D A [(ob, .inl (kl, 1, .inr (.inl fo)))] := by have h := hD.sub (ws' := [(ob, .inl (kl, 1, .inr (.inl fo)))]) [0] (by decide) rfl; exact h
    have hK9 := hK.sub (tys' := [(kl, .long)]) [0] rfl
    refine W.widen (k := 1) (n := 6) (Nat.le_of_ble_eq_true rfl) (Nat.le_of_ble_eq_true rfl) ?_
    exact W.iret (v := 1) hx hb hr (fun t ht hW => ⟨⟨1, 1, rfl, rfl, fo, rfl, by rw [ht]; exact hP9, va_K.moved hW.alike hK9, hAe ▸ hD9⟩, hAe ▸ hS.F ht⟩) (fun q hq => hAe ▸ hS.2.2 q hq) dL_node_16
  obtain rfl : r_1 = u := hw.symm
  obtain ⟨hf_2, hP1, hK1, hD1⟩ := hB
  exact False.elim hf_2
def wo_L_root : List Cond := [.classLink RL 25 "java/util/NoSuchElementException"]
def wf_L_root : List Cond := .codeWith yL_root cL_root 5 (some .int) [(0, 9, 12, 25)] :: (wo_L_root ++ (wsV RL 27 RX11 yX11_root wf_X11_root))
set_option maxRecDepth 100000 in
theorem gf_L_root_0 : GoodIn wf_L_root (wsV RL 27 RX11 yX11_root wf_X11_root) := goodIn_sub (fun _ h => (List.mem_cons_of_mem _ (List.mem_append_right _ h))) (by decide +kernel)
set_option maxHeartbeats 4000000 in
set_option maxRecDepth 100000 in
theorem c_L_root_fresh (l : Launch) (hlt : l.stackTraces = false) (dC : Nat → ClassId) (dI : Nat → Nat → Nat) (h0 x0 x1 x2 x3 x4 x5 x6 x7 x8 x9 x10 : Nat) (g1 g2 g3 g4 g5 g6 g7 g8 g9 g10 g11 g12 g13 : Nat) (p1 p2 : Int32) (sa0 : Nat) (ob : Nat) (kl : ClassId) (fo : Nat → Int64) (sz : Nat) : Met l yL_root wf_L_root ({ frames := 7, cells := 1, slots := 6, locals := 112 }) (va_Pc [.ref h0, .int p1, .int p2, .ref ob] (fun U => U.heap.size = sz ∧ va_P (dC, dI) vwCl [(h0, .inr (11, [.ref x0, .ref x1, .ref x2, .ref x3, .ref x4, .ref x5, .ref x6, .ref x7, .ref x8, .ref x9, .ref x10, .int 0, .int 0, .int 0, .int 0, .int 0, .int 0])), (x9, .inr (6, [.int 0, .ref g1, .ref g2, .ref g3, .ref g4, .ref g5, .ref g6, .ref g7, .ref g8, .ref g9, .ref g10, .ref g11, .ref g12, .ref g13, .int 0, .int 0])), (ob, .inl (kl, 1, .inr (.inl fo)))] U.heap ∧ va_K (dC, dI) vwCl [(kl, .long)] U ∧ va_D (fun _ => True) [(h0, .inr (11, [.ref x0, .ref x1, .ref x2, .ref x3, .ref x4, .ref x5, .ref x6, .ref x7, .ref x8, .ref x9, .ref x10, .int 0, .int 0, .int 0, .int 0, .int 0, .int 0])), (x9, .inr (6, [.int 0, .ref g1, .ref g2, .ref g3, .ref g4, .ref g5, .ref g6, .ref g7, .ref g8, .ref g9, .ref g10, .ref g11, .ref g12, .ref g13, .int 0, .int 0])), (ob, .inl (kl, 1, .inr (.inl fo)))] ∧ va_Nw (.castable "java/util/NoSuchElementException" "java/util/NoSuchElementException") U ∧ va_Nw (.declares (Bundle.initS "java/lang/RuntimeException")) U ∧ va_Nw (.declares (Bundle.initS "java/lang/Exception")) U ∧ va_Nw (.declares (Bundle.initS Bundle.tN)) U ∧ vk_R RX11 225 "no such node or word" sa0 U ∧ vx_Zq Bundle.tN "UNASSIGNED_STACK" Bundle.steD (va_A [(h0, .inr (11, [.ref x0, .ref x1, .ref x2, .ref x3, .ref x4, .ref x5, .ref x6, .ref x7, .ref x8, .ref x9, .ref x10, .int 0, .int 0, .int 0, .int 0, .int 0, .int 0])), (x9, .inr (6, [.int 0, .ref g1, .ref g2, .ref g3, .ref g4, .ref g5, .ref g6, .ref g7, .ref g8, .ref g9, .ref g10, .ref g11, .ref g12, .ref g13, .int 0, .int 0])), (ob, .inl (kl, 1, .inr (.inl fo)))] sz) U U.heap ∧ vx_Zq Bundle.tN "SUPPRESSED_SENTINEL" Bundle.listD (va_A [(h0, .inr (11, [.ref x0, .ref x1, .ref x2, .ref x3, .ref x4, .ref x5, .ref x6, .ref x7, .ref x8, .ref x9, .ref x10, .int 0, .int 0, .int 0, .int 0, .int 0, .int 0])), (x9, .inr (6, [.int 0, .ref g1, .ref g2, .ref g3, .ref g4, .ref g5, .ref g6, .ref g7, .ref g8, .ref g9, .ref g10, .ref g11, .ref g12, .ref g13, .int 0, .int 0])), (ob, .inl (kl, 1, .inr (.inl fo)))] sz) U U.heap)) (va_Qi (fun (r u : Int32) => u = r) (fun (r : Int32) (t : State) => ∃ (go : Nat → Int64), (r = 1) ∧ va_P (dC, dI) vwCl [(ob, .inl (kl, 1, .inr (.inl go)))] t.heap ∧ va_K (dC, dI) vwCl [(kl, .long)] t ∧ va_D (va_A [(h0, .inr (11, [.ref x0, .ref x1, .ref x2, .ref x3, .ref x4, .ref x5, .ref x6, .ref x7, .ref x8, .ref x9, .ref x10, .int 0, .int 0, .int 0, .int 0, .int 0, .int 0])), (x9, .inr (6, [.int 0, .ref g1, .ref g2, .ref g3, .ref g4, .ref g5, .ref g6, .ref g7, .ref g8, .ref g9, .ref g10, .ref g11, .ref g12, .ref g13, .int 0, .int 0])), (ob, .inl (kl, 1, .inr (.inl fo)))] sz) [(ob, .inl (kl, 1, .inr (.inl go)))]) (va_A [(h0, .inr (11, [.ref x0, .ref x1, .ref x2, .ref x3, .ref x4, .ref x5, .ref x6, .ref x7, .ref x8, .ref x9, .ref x10, .int 0, .int 0, .int 0, .int 0, .int 0, .int 0])), (x9, .inr (6, [.int 0, .ref g1, .ref g2, .ref g3, .ref g4, .ref g5, .ref g6, .ref g7, .ref g8, .ref g9, .ref g10, .ref g11, .ref g12, .ref g13, .int 0, .int 0])), (ob, .inl (kl, 1, .inr (.inl fo)))] sz)) 1 6 (va_A [(h0, .inr (11, [.ref x0, .ref x1, .ref x2, .ref x3, .ref x4, .ref x5, .ref x6, .ref x7, .ref x8, .ref x9, .ref x10, .int 0, .int 0, .int 0, .int 0, .int 0, .int 0])), (x9, .inr (6, [.int 0, .ref g1, .ref g2, .ref g3, .ref g4, .ref g5, .ref g6, .ref g7, .ref g8, .ref g9, .ref g10, .ref g11, .ref g12, .ref g13, .int 0, .int 0])), (ob, .inl (kl, 1, .inr (.inl fo)))] sz) := by
  refine va_MetW (cc := cL_root) (maxL := 5) (ret := (some .int)) (hh := [(0, 9, 12, 25)]) (by decide) rfl ?_
  intro p e s m args below meth c s₁ B hml hv
  obtain ⟨rfl, hsz, hP, hK, hD0, hca0, hde0, hde1, hde2, hst0, hUS, hNS⟩ := hv
  have hx := B.exec
  have hb := B.bytes
  have hr := B.returns
  have hts := atoms_spec (ws := wf_L_root) B.pre
  have hown : s.vm.findClass RL = some m.cls := findClass_of_methodNamed B.named
  have hlocks := B.notSynchronized
  have htab := vx_table (x := yL_root) B (hts _ List.mem_cons_self)
  subst hsz
  have hD := hD0.self (sz := s.heap.size)
  generalize hAe : va_A [(h0, .inr (11, [.ref x0, .ref x1, .ref x2, .ref x3, .ref x4, .ref x5, .ref x6, .ref x7, .ref x8, .ref x9, .ref x10, .int 0, .int 0, .int 0, .int 0, .int 0, .int 0])), (x9, .inr (6, [.int 0, .ref g1, .ref g2, .ref g3, .ref g4, .ref g5, .ref g6, .ref g7, .ref g8, .ref g9, .ref g10, .ref g11, .ref g12, .ref g13, .int 0, .int 0])), (ob, .inl (kl, 1, .inr (.inl fo)))] s.heap.size = A at hD hUS hNS ⊢
  have hA : ∀ q : Nat, s.heap.size ≤ q → A q := fun q h => by rw [← hAe]; exact Or.inr h
  have hS : va_S A s.heap s.heap [] := va_S.rf
  have hP : va_P (dC, dI) vwCl [(h0, .inr (11, [.ref x0, .ref x1, .ref x2, .ref x3, .ref x4, .ref x5, .ref x6, .ref x7, .ref x8, .ref x9, .ref x10, .int 0, .int 0, .int 0, .int 0, .int 0, .int 0])), (x9, .inr (6, [.int 0, .ref g1, .ref g2, .ref g3, .ref g4, .ref g5, .ref g6, .ref g7, .ref g8, .ref g9, .ref g10, .ref g11, .ref g12, .ref g13, .int 0, .int 0])), (ob, .inl (kl, 1, .inr (.inl fo)))] s.heap := hP
  have hD : va_D A [(h0, .inr (11, [.ref x0, .ref x1, .ref x2, .ref x3, .ref x4, .ref x5, .ref x6, .ref x7, .ref x8, .ref x9, .ref x10, .int 0, .int 0, .int 0, .int 0, .int 0, .int 0])), (x9, .inr (6, [.int 0, .ref g1, .ref g2, .ref g3, .ref g4, .ref g5, .ref g6, .ref g7, .ref g8, .ref g9, .ref g10, .ref g11, .ref g12, .ref g13, .int 0, .int 0])), (ob, .inl (kl, 1, .inr (.inl fo)))] := hD
  have hl := lv_entry ([.ref h0, .int p1, .int p2, .ref ob]) (n := 5) (Nat.le_of_ble_eq_true rfl)
  rw [lg_entry_eq]
  generalize (lg_sl ([.ref h0, .int p1, .int p2, .ref ob]) ++ List.replicate (5 - (lg_sl ([.ref h0, .int p1, .int p2, .ref ob])).length) Slot.unset).toArray = ls at hl ⊢
  have hl : lv_has ls 5 [(0, .ref h0), (1, .int p1), (2, .int p2), (3, .ref ob)] := hl
  refine lv_aload_n hx hb dL_root_0 rfl (lv_at hl 3 rfl) ?_
  refine lv_iconst (v := 0) hx hb dL_root_1 (by decide) ?_
  refine lv_aload_n hx hb dL_root_2 rfl (lv_at hl 0 rfl) ?_
  refine lv_iload_n hx hb dL_root_3 rfl (lv_at hl 1 rfl) ?_
  refine lv_iload_n hx hb dL_root_4 rfl (lv_at hl 2 rfl) ?_
  have hPc := hP.sub (ws' := [(h0, .inr (11, [.ref x0, .ref x1, .ref x2, .ref x3, .ref x4, .ref x5, .ref x6, .ref x7, .ref x8, .ref x9, .ref x10, .int 0, .int 0, .int 0, .int 0, .int 0, .int 0])), (x9, .inr (6, [.int 0, .ref g1, .ref g2, .ref g3, .ref g4, .ref g5, .ref g6, .ref g7, .ref g8, .ref g9, .ref g10, .ref g11, .ref g12, .ref g13, .int 0, .int 0]))]) [0, 1] rfl
  have hDc := hD.sub (ws' := [(h0, .inr (11, [.ref x0, .ref x1, .ref x2, .ref x3, .ref x4, .ref x5, .ref x6, .ref x7, .ref x8, .ref x9, .ref x10, .int 0, .int 0, .int 0, .int 0, .int 0, .int 0])), (x9, .inr (6, [.int 0, .ref g1, .ref g2, .ref g3, .ref g4, .ref g5, .ref g6, .ref g7, .ref g8, .ref g9, .ref g10, .ref g11, .ref g12, .ref g13, .int 0, .int 0]))]) [0, 1] (by decide) rfl
  have hKc := hK.sub (tys' := []) [] rfl
  have hFc := va_free (wc := [(h0, .inr (11, [.ref x0, .ref x1, .ref x2, .ref x3, .ref x4, .ref x5, .ref x6, .ref x7, .ref x8, .ref x9, .ref x10, .int 0, .int 0, .int 0, .int 0, .int 0, .int 0])), (x9, .inr (6, [.int 0, .ref g1, .ref g2, .ref g3, .ref g4, .ref g5, .ref g6, .ref g7, .ref g8, .ref g9, .ref g10, .ref g11, .ref g12, .ref g13, .int 0, .int 0]))]) hD hS hA [0, 1] rfl
  refine vx_calll (vx_runV (As := [.int p1, .int p2]) (rest := [.int 0, .ref ob]) ⟨hx, hb, hml, hown, hts⟩ (c_X11_root_fresh l hlt dC dI h0 x0 x1 x2 x3 x4 x5 x6 x7 x8 x9 x10 g1 g2 g3 g4 g5 g6 g7 g8 g9 g10 g11 g12 g13 p1 p2 sa0 s.heap.size) (cwV 2 hts gf_L_root_0 rfl rfl rfl (by decide +kernel) ⟨Nat.le_of_ble_eq_true rfl, Nat.le_of_ble_eq_true rfl⟩) ⟨fun a U g mk q => by obtain ⟨q0, q1, qP, qK, qD, qC0, qd0, qd1, qd2, qs0, qU, qN⟩ := q; exact ⟨q0, q1, qP, va_K.moved (u := U) (U := U.calling g mk a) (Vm.Alike.refl U.vm) qK, qD, va_Nw.same rfl rfl qC0, va_Nw.same rfl rfl qd0, va_Nw.same rfl rfl qd1, va_Nw.same rfl rfl qd2, vk_R.same rfl qs0, vx_Zq.moved (u := U) (U := U.calling g mk a) (Vm.Alike.refl U.vm) qU, vx_Zq.moved (u := U) (U := U.calling g mk a) (Vm.Alike.refl U.vm) qN⟩, va_recv hKc hPc (ci := 11) (q0 := 0) rfl rfl, fun U hU hW => ⟨rfl, by rw [hU], by rw [hU]; exact hPc, va_K.moved hW.alike hKc, hDc.weaken (fun _ _ _ _ => trivial), va_Nw.warmC hW hca0, va_Nw.warmD hW hde0, va_Nw.warmD hW hde1, va_Nw.warmD hW hde2, vk_R.warm hW hst0, (by rw [hU]; exact ((hUS.moved hW.alike).kept hS.2.1).narrow hFc), (by rw [hU]; exact ((hNS.moved hW.alike).kept hS.2.1).narrow hFc)⟩⟩ rfl rfl hl.1 rfl (lv_room (Nat.le_of_ble_eq_true rfl)) dL_root_5 ⟨Nat.le_of_ble_eq_true rfl, Nat.le_of_ble_eq_true rfl⟩) hS (fun q _ h => hFc q h) hFc (fun q _ h => hFc q h) (fun E ce q9 u t H1 locs ht hvm hw hB hz1 hk1 hS hce hcv hcl => ?_) (fun r_1 u t H1 locs ht hvm hw hB hz1 hk1 hS => ?_)
  · skip
    obtain ⟨hE, hP1, hK1, hD1⟩ := hB
    rw [ht] at hP1
    have hK1 := va_K.moved hvm.symm hK1
    obtain ⟨hP, hD⟩ := va_join (wr := [(ob, .inl (kl, 1, .inr (.inl fo)))]) (w1 := [(h0, .inr (11, [.ref x0, .ref x1, .ref x2, .ref x3, .ref x4, .ref x5, .ref x6, .ref x7, .ref x8, .ref x9, .ref x10, .int 0, .int 0, .int 0, .int 0, .int 0, .int 0])), (x9, .inr (6, [.int 0, .ref g1, .ref g2, .ref g3, .ref g4, .ref g5, .ref g6, .ref g7, .ref g8, .ref g9, .ref g10, .ref g11, .ref g12, .ref g13, .int 0, .int 0]))]) hP hD [0, 1] [2] rfl rfl (by decide) (by decide) hk1 hFc hP1 hD1
    have hK := (hK.sub (tys' := [(kl, .long)]) [0] rfl).app hK1
    subst ht
    generalize t.heap = H at hP hS hce ⊢
    have hP : va_P (dC, dI) vwCl [(ob, .inl (kl, 1, .inr (.inl fo))), (h0, .inr (11, [.ref x0, .ref x1, .ref x2, .ref x3, .ref x4, .ref x5, .ref x6, .ref x7, .ref x8, .ref x9, .ref x10, .int 0, .int 0, .int 0, .int 0, .int 0, .int 0])), (x9, .inr (6, [.int 0, .ref g1, .ref g2, .ref g3, .ref g4, .ref g5, .ref g6, .ref g7, .ref g8, .ref g9, .ref g10, .ref g11, .ref g12, .ref g13, .int 0, .int 0]))] H := hP
    have hD : va_D A [(ob, .inl (kl, 1, .inr (.inl fo))), (h0, .inr (11, [.ref x0, .ref x1, .ref x2, .ref x3, .ref x4, .ref x5, .ref x6, .ref x7, .ref x8, .ref x9, .ref x10, .int 0, .int 0, .int 0, .int 0, .int 0, .int 0])), (x9, .inr (6, [.int 0, .ref g1, .ref g2, .ref g3, .ref g4, .ref g5, .ref g6, .ref g7, .ref g8, .ref g9, .ref g10, .ref g11, .ref g12, .ref g13, .int 0, .int 0]))] := hD
    have hK : va_K (dC, dI) vwCl [(kl, .long)] s := hK
    obtain rfl := hE
    refine vx_catch (own := RL) (name := "java/util/NoSuchElementException") (E := "java/util/NoSuchElementException") hown [] ⟨0, 9, 12, 25⟩ [] (htab.trans rfl) (fun z h => nomatch h) (by decide) (by decide) (hts (.classLink RL 25 "java/util/NoSuchElementException") (by decide +kernel)) (va_Nw.use rfl hca0) hce hcv hcl ?_
    refine W.widen (k := 1) (n := 6) (Nat.le_of_ble_eq_true rfl) (Nat.le_of_ble_eq_true rfl) ?_
    refine lv_astore (lv' := [(4, .ref q9), (0, .ref h0), (1, .int p1), (2, .int p2), (3, .ref ob)]) hx hb dL_root_12 hl (by decide) rfl (fun ls hl => ?_)
    refine lv_iconst (v := 1) hx hb dL_root_14 (by decide) ?_
    have hP9 : va_P (dC, dI) vwCl [(ob, .inl (kl, 1, .inr (.inl fo)))] H := by have h := hP.sub (ws' := [(ob, .inl (kl, 1, .inr (.inl fo)))]) [0] rfl; exact h
    have hD9 : va_D A [(ob, .inl (kl, 1, .inr (.inl fo)))] := by have h := hD.sub (ws' := [(ob, .inl (kl, 1, .inr (.inl fo)))]) [0] (by decide) rfl; exact h
    have hK9 := hK.sub (tys' := [(kl, .long)]) [0] rfl
    refine W.widen (k := 1) (n := 6) (Nat.le_of_ble_eq_true rfl) (Nat.le_of_ble_eq_true rfl) ?_
    exact W.iret (v := 1) hx hb hr (fun t ht hW => ⟨⟨1, 1, rfl, rfl, fo, rfl, by rw [ht]; exact hP9, va_K.moved hW.alike hK9, hAe ▸ hD9⟩, hAe ▸ hS.F ht⟩) (fun q hq => hAe ▸ hS.2.2 q hq) dL_root_15
  obtain rfl : r_1 = u := hw.symm
  obtain ⟨hf_2, hP1, hK1, hD1⟩ := hB
  exact False.elim hf_2
def wo_L_typeRoot : List Cond := [.classLink RL 25 "java/util/NoSuchElementException"]
def wf_L_typeRoot : List Cond := .codeWith yL_typeRoot cL_typeRoot 6 (some .int) [(0, 11, 14, 25)] :: (wo_L_typeRoot ++ (wsV RL 31 RX11 yX11_typeRoot wf_X11_typeRoot))
set_option maxRecDepth 100000 in
theorem gf_L_typeRoot_0 : GoodIn wf_L_typeRoot (wsV RL 31 RX11 yX11_typeRoot wf_X11_typeRoot) := goodIn_sub (fun _ h => (List.mem_cons_of_mem _ (List.mem_append_right _ h))) (by decide +kernel)
set_option maxHeartbeats 4000000 in
set_option maxRecDepth 100000 in
theorem c_L_typeRoot_fresh (l : Launch) (hlt : l.stackTraces = false) (dC : Nat → ClassId) (dI : Nat → Nat → Nat) (h0 x0 x1 x2 x3 x4 x5 x6 x7 x8 x9 x10 : Nat) (g1 g2 g3 g4 g5 g6 g7 g8 g9 g10 g11 g12 g13 : Nat) (p1 p2 p3 : Int32) (sa0 : Nat) (ob : Nat) (kl : ClassId) (fo : Nat → Int64) (sz : Nat) : Met l yL_typeRoot wf_L_typeRoot ({ frames := 7, cells := 1, slots := 6, locals := 114 }) (va_Pc [.ref h0, .int p1, .int p2, .int p3, .ref ob] (fun U => U.heap.size = sz ∧ va_P (dC, dI) vwCl [(h0, .inr (11, [.ref x0, .ref x1, .ref x2, .ref x3, .ref x4, .ref x5, .ref x6, .ref x7, .ref x8, .ref x9, .ref x10, .int 0, .int 0, .int 0, .int 0, .int 0, .int 0])), (x9, .inr (6, [.int 0, .ref g1, .ref g2, .ref g3, .ref g4, .ref g5, .ref g6, .ref g7, .ref g8, .ref g9, .ref g10, .ref g11, .ref g12, .ref g13, .int 0, .int 0])), (ob, .inl (kl, 1, .inr (.inl fo)))] U.heap ∧ va_K (dC, dI) vwCl [(kl, .long)] U ∧ va_D (fun _ => True) [(h0, .inr (11, [.ref x0, .ref x1, .ref x2, .ref x3, .ref x4, .ref x5, .ref x6, .ref x7, .ref x8, .ref x9, .ref x10, .int 0, .int 0, .int 0, .int 0, .int 0, .int 0])), (x9, .inr (6, [.int 0, .ref g1, .ref g2, .ref g3, .ref g4, .ref g5, .ref g6, .ref g7, .ref g8, .ref g9, .ref g10, .ref g11, .ref g12, .ref g13, .int 0, .int 0])), (ob, .inl (kl, 1, .inr (.inl fo)))] ∧ va_Nw (.castable "java/util/NoSuchElementException" "java/util/NoSuchElementException") U ∧ va_Nw (.declares (Bundle.initS "java/lang/RuntimeException")) U ∧ va_Nw (.declares (Bundle.initS "java/lang/Exception")) U ∧ va_Nw (.declares (Bundle.initS Bundle.tN)) U ∧ vk_R RX11 225 "no such node or word" sa0 U ∧ vx_Zq Bundle.tN "UNASSIGNED_STACK" Bundle.steD (va_A [(h0, .inr (11, [.ref x0, .ref x1, .ref x2, .ref x3, .ref x4, .ref x5, .ref x6, .ref x7, .ref x8, .ref x9, .ref x10, .int 0, .int 0, .int 0, .int 0, .int 0, .int 0])), (x9, .inr (6, [.int 0, .ref g1, .ref g2, .ref g3, .ref g4, .ref g5, .ref g6, .ref g7, .ref g8, .ref g9, .ref g10, .ref g11, .ref g12, .ref g13, .int 0, .int 0])), (ob, .inl (kl, 1, .inr (.inl fo)))] sz) U U.heap ∧ vx_Zq Bundle.tN "SUPPRESSED_SENTINEL" Bundle.listD (va_A [(h0, .inr (11, [.ref x0, .ref x1, .ref x2, .ref x3, .ref x4, .ref x5, .ref x6, .ref x7, .ref x8, .ref x9, .ref x10, .int 0, .int 0, .int 0, .int 0, .int 0, .int 0])), (x9, .inr (6, [.int 0, .ref g1, .ref g2, .ref g3, .ref g4, .ref g5, .ref g6, .ref g7, .ref g8, .ref g9, .ref g10, .ref g11, .ref g12, .ref g13, .int 0, .int 0])), (ob, .inl (kl, 1, .inr (.inl fo)))] sz) U U.heap)) (va_Qi (fun (r u : Int32) => u = r) (fun (r : Int32) (t : State) => ∃ (go : Nat → Int64), (r = 1) ∧ va_P (dC, dI) vwCl [(ob, .inl (kl, 1, .inr (.inl go)))] t.heap ∧ va_K (dC, dI) vwCl [(kl, .long)] t ∧ va_D (va_A [(h0, .inr (11, [.ref x0, .ref x1, .ref x2, .ref x3, .ref x4, .ref x5, .ref x6, .ref x7, .ref x8, .ref x9, .ref x10, .int 0, .int 0, .int 0, .int 0, .int 0, .int 0])), (x9, .inr (6, [.int 0, .ref g1, .ref g2, .ref g3, .ref g4, .ref g5, .ref g6, .ref g7, .ref g8, .ref g9, .ref g10, .ref g11, .ref g12, .ref g13, .int 0, .int 0])), (ob, .inl (kl, 1, .inr (.inl fo)))] sz) [(ob, .inl (kl, 1, .inr (.inl go)))]) (va_A [(h0, .inr (11, [.ref x0, .ref x1, .ref x2, .ref x3, .ref x4, .ref x5, .ref x6, .ref x7, .ref x8, .ref x9, .ref x10, .int 0, .int 0, .int 0, .int 0, .int 0, .int 0])), (x9, .inr (6, [.int 0, .ref g1, .ref g2, .ref g3, .ref g4, .ref g5, .ref g6, .ref g7, .ref g8, .ref g9, .ref g10, .ref g11, .ref g12, .ref g13, .int 0, .int 0])), (ob, .inl (kl, 1, .inr (.inl fo)))] sz)) 1 6 (va_A [(h0, .inr (11, [.ref x0, .ref x1, .ref x2, .ref x3, .ref x4, .ref x5, .ref x6, .ref x7, .ref x8, .ref x9, .ref x10, .int 0, .int 0, .int 0, .int 0, .int 0, .int 0])), (x9, .inr (6, [.int 0, .ref g1, .ref g2, .ref g3, .ref g4, .ref g5, .ref g6, .ref g7, .ref g8, .ref g9, .ref g10, .ref g11, .ref g12, .ref g13, .int 0, .int 0])), (ob, .inl (kl, 1, .inr (.inl fo)))] sz) := by
  refine va_MetW (cc := cL_typeRoot) (maxL := 6) (ret := (some .int)) (hh := [(0, 11, 14, 25)]) (by decide) rfl ?_
  intro p e s m args below meth c s₁ B hml hv
  obtain ⟨rfl, hsz, hP, hK, hD0, hca0, hde0, hde1, hde2, hst0, hUS, hNS⟩ := hv
  have hx := B.exec
  have hb := B.bytes
  have hr := B.returns
  have hts := atoms_spec (ws := wf_L_typeRoot) B.pre
  have hown : s.vm.findClass RL = some m.cls := findClass_of_methodNamed B.named
  have hlocks := B.notSynchronized
  have htab := vx_table (x := yL_typeRoot) B (hts _ List.mem_cons_self)
  subst hsz
  have hD := hD0.self (sz := s.heap.size)
  generalize hAe : va_A [(h0, .inr (11, [.ref x0, .ref x1, .ref x2, .ref x3, .ref x4, .ref x5, .ref x6, .ref x7, .ref x8, .ref x9, .ref x10, .int 0, .int 0, .int 0, .int 0, .int 0, .int 0])), (x9, .inr (6, [.int 0, .ref g1, .ref g2, .ref g3, .ref g4, .ref g5, .ref g6, .ref g7, .ref g8, .ref g9, .ref g10, .ref g11, .ref g12, .ref g13, .int 0, .int 0])), (ob, .inl (kl, 1, .inr (.inl fo)))] s.heap.size = A at hD hUS hNS ⊢
  have hA : ∀ q : Nat, s.heap.size ≤ q → A q := fun q h => by rw [← hAe]; exact Or.inr h
  have hS : va_S A s.heap s.heap [] := va_S.rf
  have hP : va_P (dC, dI) vwCl [(h0, .inr (11, [.ref x0, .ref x1, .ref x2, .ref x3, .ref x4, .ref x5, .ref x6, .ref x7, .ref x8, .ref x9, .ref x10, .int 0, .int 0, .int 0, .int 0, .int 0, .int 0])), (x9, .inr (6, [.int 0, .ref g1, .ref g2, .ref g3, .ref g4, .ref g5, .ref g6, .ref g7, .ref g8, .ref g9, .ref g10, .ref g11, .ref g12, .ref g13, .int 0, .int 0])), (ob, .inl (kl, 1, .inr (.inl fo)))] s.heap := hP
  have hD : va_D A [(h0, .inr (11, [.ref x0, .ref x1, .ref x2, .ref x3, .ref x4, .ref x5, .ref x6, .ref x7, .ref x8, .ref x9, .ref x10, .int 0, .int 0, .int 0, .int 0, .int 0, .int 0])), (x9, .inr (6, [.int 0, .ref g1, .ref g2, .ref g3, .ref g4, .ref g5, .ref g6, .ref g7, .ref g8, .ref g9, .ref g10, .ref g11, .ref g12, .ref g13, .int 0, .int 0])), (ob, .inl (kl, 1, .inr (.inl fo)))] := hD
  have hl := lv_entry ([.ref h0, .int p1, .int p2, .int p3, .ref ob]) (n := 6) (Nat.le_of_ble_eq_true rfl)
  rw [lg_entry_eq]
  generalize (lg_sl ([.ref h0, .int p1, .int p2, .int p3, .ref ob]) ++ List.replicate (6 - (lg_sl ([.ref h0, .int p1, .int p2, .int p3, .ref ob])).length) Slot.unset).toArray = ls at hl ⊢
  have hl : lv_has ls 6 [(0, .ref h0), (1, .int p1), (2, .int p2), (3, .int p3), (4, .ref ob)] := hl
  refine lv_aload hx hb dL_typeRoot_0 (lv_at hl 4 rfl) ?_
  refine lv_iconst (v := 0) hx hb dL_typeRoot_2 (by decide) ?_
  refine lv_aload_n hx hb dL_typeRoot_3 rfl (lv_at hl 0 rfl) ?_
  refine lv_iload_n hx hb dL_typeRoot_4 rfl (lv_at hl 1 rfl) ?_
  refine lv_iload_n hx hb dL_typeRoot_5 rfl (lv_at hl 2 rfl) ?_
  refine lv_iload_n hx hb dL_typeRoot_6 rfl (lv_at hl 3 rfl) ?_
  have hPc := hP.sub (ws' := [(h0, .inr (11, [.ref x0, .ref x1, .ref x2, .ref x3, .ref x4, .ref x5, .ref x6, .ref x7, .ref x8, .ref x9, .ref x10, .int 0, .int 0, .int 0, .int 0, .int 0, .int 0])), (x9, .inr (6, [.int 0, .ref g1, .ref g2, .ref g3, .ref g4, .ref g5, .ref g6, .ref g7, .ref g8, .ref g9, .ref g10, .ref g11, .ref g12, .ref g13, .int 0, .int 0]))]) [0, 1] rfl
  have hDc := hD.sub (ws' := [(h0, .inr (11, [.ref x0, .ref x1, .ref x2, .ref x3, .ref x4, .ref x5, .ref x6, .ref x7, .ref x8, .ref x9, .ref x10, .int 0, .int 0, .int 0, .int 0, .int 0, .int 0])), (x9, .inr (6, [.int 0, .ref g1, .ref g2, .ref g3, .ref g4, .ref g5, .ref g6, .ref g7, .ref g8, .ref g9, .ref g10, .ref g11, .ref g12, .ref g13, .int 0, .int 0]))]) [0, 1] (by decide) rfl
  have hKc := hK.sub (tys' := []) [] rfl
  have hFc := va_free (wc := [(h0, .inr (11, [.ref x0, .ref x1, .ref x2, .ref x3, .ref x4, .ref x5, .ref x6, .ref x7, .ref x8, .ref x9, .ref x10, .int 0, .int 0, .int 0, .int 0, .int 0, .int 0])), (x9, .inr (6, [.int 0, .ref g1, .ref g2, .ref g3, .ref g4, .ref g5, .ref g6, .ref g7, .ref g8, .ref g9, .ref g10, .ref g11, .ref g12, .ref g13, .int 0, .int 0]))]) hD hS hA [0, 1] rfl
  refine vx_calll (vx_runV (As := [.int p1, .int p2, .int p3]) (rest := [.int 0, .ref ob]) ⟨hx, hb, hml, hown, hts⟩ (c_X11_typeRoot_fresh l hlt dC dI h0 x0 x1 x2 x3 x4 x5 x6 x7 x8 x9 x10 g1 g2 g3 g4 g5 g6 g7 g8 g9 g10 g11 g12 g13 p1 p2 p3 sa0 s.heap.size) (cwV 3 hts gf_L_typeRoot_0 rfl rfl rfl (by decide +kernel) ⟨Nat.le_of_ble_eq_true rfl, Nat.le_of_ble_eq_true rfl⟩) ⟨fun a U g mk q => by obtain ⟨q0, q1, qP, qK, qD, qC0, qd0, qd1, qd2, qs0, qU, qN⟩ := q; exact ⟨q0, q1, qP, va_K.moved (u := U) (U := U.calling g mk a) (Vm.Alike.refl U.vm) qK, qD, va_Nw.same rfl rfl qC0, va_Nw.same rfl rfl qd0, va_Nw.same rfl rfl qd1, va_Nw.same rfl rfl qd2, vk_R.same rfl qs0, vx_Zq.moved (u := U) (U := U.calling g mk a) (Vm.Alike.refl U.vm) qU, vx_Zq.moved (u := U) (U := U.calling g mk a) (Vm.Alike.refl U.vm) qN⟩, va_recv hKc hPc (ci := 11) (q0 := 0) rfl rfl, fun U hU hW => ⟨rfl, by rw [hU], by rw [hU]; exact hPc, va_K.moved hW.alike hKc, hDc.weaken (fun _ _ _ _ => trivial), va_Nw.warmC hW hca0, va_Nw.warmD hW hde0, va_Nw.warmD hW hde1, va_Nw.warmD hW hde2, vk_R.warm hW hst0, (by rw [hU]; exact ((hUS.moved hW.alike).kept hS.2.1).narrow hFc), (by rw [hU]; exact ((hNS.moved hW.alike).kept hS.2.1).narrow hFc)⟩⟩ rfl rfl hl.1 rfl (lv_room (Nat.le_of_ble_eq_true rfl)) dL_typeRoot_7 ⟨Nat.le_of_ble_eq_true rfl, Nat.le_of_ble_eq_true rfl⟩) hS (fun q _ h => hFc q h) hFc (fun q _ h => hFc q h) (fun E ce q9 u t H1 locs ht hvm hw hB hz1 hk1 hS hce hcv hcl => ?_) (fun r_1 u t H1 locs ht hvm hw hB hz1 hk1 hS => ?_)
  · skip
    obtain ⟨hE, hP1, hK1, hD1⟩ := hB
    rw [ht] at hP1
    have hK1 := va_K.moved hvm.symm hK1
    obtain ⟨hP, hD⟩ := va_join (wr := [(ob, .inl (kl, 1, .inr (.inl fo)))]) (w1 := [(h0, .inr (11, [.ref x0, .ref x1, .ref x2, .ref x3, .ref x4, .ref x5, .ref x6, .ref x7, .ref x8, .ref x9, .ref x10, .int 0, .int 0, .int 0, .int 0, .int 0, .int 0])), (x9, .inr (6, [.int 0, .ref g1, .ref g2, .ref g3, .ref g4, .ref g5, .ref g6, .ref g7, .ref g8, .ref g9, .ref g10, .ref g11, .ref g12, .ref g13, .int 0, .int 0]))]) hP hD [0, 1] [2] rfl rfl (by decide) (by decide) hk1 hFc hP1 hD1
    have hK := (hK.sub (tys' := [(kl, .long)]) [0] rfl).app hK1
    subst ht
    generalize t.heap = H at hP hS hce ⊢
    have hP : va_P (dC, dI) vwCl [(ob, .inl (kl, 1, .inr (.inl fo))), (h0, .inr (11, [.ref x0, .ref x1, .ref x2, .ref x3, .ref x4, .ref x5, .ref x6, .ref x7, .ref x8, .ref x9, .ref x10, .int 0, .int 0, .int 0, .int 0, .int 0, .int 0])), (x9, .inr (6, [.int 0, .ref g1, .ref g2, .ref g3, .ref g4, .ref g5, .ref g6, .ref g7, .ref g8, .ref g9, .ref g10, .ref g11, .ref g12, .ref g13, .int 0, .int 0]))] H := hP
    have hD : va_D A [(ob, .inl (kl, 1, .inr (.inl fo))), (h0, .inr (11, [.ref x0, .ref x1, .ref x2, .ref x3, .ref x4, .ref x5, .ref x6, .ref x7, .ref x8, .ref x9, .ref x10, .int 0, .int 0, .int 0, .int 0, .int 0, .int 0])), (x9, .inr (6, [.int 0, .ref g1, .ref g2, .ref g3, .ref g4, .ref g5, .ref g6, .ref g7, .ref g8, .ref g9, .ref g10, .ref g11, .ref g12, .ref g13, .int 0, .int 0]))] := hD
    have hK : va_K (dC, dI) vwCl [(kl, .long)] s := hK
    obtain rfl := hE
    refine vx_catch (own := RL) (name := "java/util/NoSuchElementException") (E := "java/util/NoSuchElementException") hown [] ⟨0, 11, 14, 25⟩ [] (htab.trans rfl) (fun z h => nomatch h) (by decide) (by decide) (hts (.classLink RL 25 "java/util/NoSuchElementException") (by decide +kernel)) (va_Nw.use rfl hca0) hce hcv hcl ?_
    refine W.widen (k := 1) (n := 6) (Nat.le_of_ble_eq_true rfl) (Nat.le_of_ble_eq_true rfl) ?_
    refine lv_astore (lv' := [(5, .ref q9), (0, .ref h0), (1, .int p1), (2, .int p2), (3, .int p3), (4, .ref ob)]) hx hb dL_typeRoot_14 hl (by decide) rfl (fun ls hl => ?_)
    refine lv_iconst (v := 1) hx hb dL_typeRoot_16 (by decide) ?_
    have hP9 : va_P (dC, dI) vwCl [(ob, .inl (kl, 1, .inr (.inl fo)))] H := by have h := hP.sub (ws' := [(ob, .inl (kl, 1, .inr (.inl fo)))]) [0] rfl; exact h
    have hD9 : va_D A [(ob, .inl (kl, 1, .inr (.inl fo)))] := by have h := hD.sub (ws' := [(ob, .inl (kl, 1, .inr (.inl fo)))]) [0] (by decide) rfl; exact h
    have hK9 := hK.sub (tys' := [(kl, .long)]) [0] rfl
    refine W.widen (k := 1) (n := 6) (Nat.le_of_ble_eq_true rfl) (Nat.le_of_ble_eq_true rfl) ?_
    exact W.iret (v := 1) hx hb hr (fun t ht hW => ⟨⟨1, 1, rfl, rfl, fo, rfl, by rw [ht]; exact hP9, va_K.moved hW.alike hK9, hAe ▸ hD9⟩, hAe ▸ hS.F ht⟩) (fun q hq => hAe ▸ hS.2.2 q hq) dL_typeRoot_17
  obtain rfl : r_1 = u := hw.symm
  obtain ⟨hf_2, hP1, hK1, hD1⟩ := hB
  exact False.elim hf_2
def wo_L_type : List Cond := [.classLink RL 25 "java/util/NoSuchElementException"]
def wf_L_type : List Cond := .codeWith yL_type cL_type 5 (some .int) [(0, 10, 13, 25)] :: (wo_L_type ++ (wsV RL 35 RX11 yX11_type wf_X11_type))
set_option maxRecDepth 100000 in
theorem gf_L_type_0 : GoodIn wf_L_type (wsV RL 35 RX11 yX11_type wf_X11_type) := goodIn_sub (fun _ h => (List.mem_cons_of_mem _ (List.mem_append_right _ h))) (by decide +kernel)
set_option maxHeartbeats 4000000 in
set_option maxRecDepth 100000 in
theorem c_L_type_fresh (l : Launch) (hlt : l.stackTraces = false) (dC : Nat → ClassId) (dI : Nat → Nat → Nat) (h0 x0 x1 x2 x3 x4 x5 x6 x7 x8 x9 x10 : Nat) (g1 g2 g3 g4 g5 g6 g7 g8 g9 g10 g11 g12 g13 : Nat) (p1 p2 : Int32) (sa0 : Nat) (ob : Nat) (kl : ClassId) (fo : Nat → Int64) (sz : Nat) : Met l yL_type wf_L_type ({ frames := 7, cells := 1, slots := 6, locals := 113 }) (va_Pc [.ref h0, .int p1, .int p2, .ref ob] (fun U => U.heap.size = sz ∧ va_P (dC, dI) vwCl [(h0, .inr (11, [.ref x0, .ref x1, .ref x2, .ref x3, .ref x4, .ref x5, .ref x6, .ref x7, .ref x8, .ref x9, .ref x10, .int 0, .int 0, .int 0, .int 0, .int 0, .int 0])), (x9, .inr (6, [.int 0, .ref g1, .ref g2, .ref g3, .ref g4, .ref g5, .ref g6, .ref g7, .ref g8, .ref g9, .ref g10, .ref g11, .ref g12, .ref g13, .int 0, .int 0])), (ob, .inl (kl, 1, .inr (.inl fo)))] U.heap ∧ va_K (dC, dI) vwCl [(kl, .long)] U ∧ va_D (fun _ => True) [(h0, .inr (11, [.ref x0, .ref x1, .ref x2, .ref x3, .ref x4, .ref x5, .ref x6, .ref x7, .ref x8, .ref x9, .ref x10, .int 0, .int 0, .int 0, .int 0, .int 0, .int 0])), (x9, .inr (6, [.int 0, .ref g1, .ref g2, .ref g3, .ref g4, .ref g5, .ref g6, .ref g7, .ref g8, .ref g9, .ref g10, .ref g11, .ref g12, .ref g13, .int 0, .int 0])), (ob, .inl (kl, 1, .inr (.inl fo)))] ∧ va_Nw (.castable "java/util/NoSuchElementException" "java/util/NoSuchElementException") U ∧ va_Nw (.declares (Bundle.initS "java/lang/RuntimeException")) U ∧ va_Nw (.declares (Bundle.initS "java/lang/Exception")) U ∧ va_Nw (.declares (Bundle.initS Bundle.tN)) U ∧ vk_R RX11 238 "no such node" sa0 U ∧ vx_Zq Bundle.tN "UNASSIGNED_STACK" Bundle.steD (va_A [(h0, .inr (11, [.ref x0, .ref x1, .ref x2, .ref x3, .ref x4, .ref x5, .ref x6, .ref x7, .ref x8, .ref x9, .ref x10, .int 0, .int 0, .int 0, .int 0, .int 0, .int 0])), (x9, .inr (6, [.int 0, .ref g1, .ref g2, .ref g3, .ref g4, .ref g5, .ref g6, .ref g7, .ref g8, .ref g9, .ref g10, .ref g11, .ref g12, .ref g13, .int 0, .int 0])), (ob, .inl (kl, 1, .inr (.inl fo)))] sz) U U.heap ∧ vx_Zq Bundle.tN "SUPPRESSED_SENTINEL" Bundle.listD (va_A [(h0, .inr (11, [.ref x0, .ref x1, .ref x2, .ref x3, .ref x4, .ref x5, .ref x6, .ref x7, .ref x8, .ref x9, .ref x10, .int 0, .int 0, .int 0, .int 0, .int 0, .int 0])), (x9, .inr (6, [.int 0, .ref g1, .ref g2, .ref g3, .ref g4, .ref g5, .ref g6, .ref g7, .ref g8, .ref g9, .ref g10, .ref g11, .ref g12, .ref g13, .int 0, .int 0])), (ob, .inl (kl, 1, .inr (.inl fo)))] sz) U U.heap)) (va_Qi (fun (r u : Int32) => u = r) (fun (r : Int32) (t : State) => ∃ (go : Nat → Int64), (r = 1) ∧ va_P (dC, dI) vwCl [(ob, .inl (kl, 1, .inr (.inl go)))] t.heap ∧ va_K (dC, dI) vwCl [(kl, .long)] t ∧ va_D (va_A [(h0, .inr (11, [.ref x0, .ref x1, .ref x2, .ref x3, .ref x4, .ref x5, .ref x6, .ref x7, .ref x8, .ref x9, .ref x10, .int 0, .int 0, .int 0, .int 0, .int 0, .int 0])), (x9, .inr (6, [.int 0, .ref g1, .ref g2, .ref g3, .ref g4, .ref g5, .ref g6, .ref g7, .ref g8, .ref g9, .ref g10, .ref g11, .ref g12, .ref g13, .int 0, .int 0])), (ob, .inl (kl, 1, .inr (.inl fo)))] sz) [(ob, .inl (kl, 1, .inr (.inl go)))]) (va_A [(h0, .inr (11, [.ref x0, .ref x1, .ref x2, .ref x3, .ref x4, .ref x5, .ref x6, .ref x7, .ref x8, .ref x9, .ref x10, .int 0, .int 0, .int 0, .int 0, .int 0, .int 0])), (x9, .inr (6, [.int 0, .ref g1, .ref g2, .ref g3, .ref g4, .ref g5, .ref g6, .ref g7, .ref g8, .ref g9, .ref g10, .ref g11, .ref g12, .ref g13, .int 0, .int 0])), (ob, .inl (kl, 1, .inr (.inl fo)))] sz)) 1 6 (va_A [(h0, .inr (11, [.ref x0, .ref x1, .ref x2, .ref x3, .ref x4, .ref x5, .ref x6, .ref x7, .ref x8, .ref x9, .ref x10, .int 0, .int 0, .int 0, .int 0, .int 0, .int 0])), (x9, .inr (6, [.int 0, .ref g1, .ref g2, .ref g3, .ref g4, .ref g5, .ref g6, .ref g7, .ref g8, .ref g9, .ref g10, .ref g11, .ref g12, .ref g13, .int 0, .int 0])), (ob, .inl (kl, 1, .inr (.inl fo)))] sz) := by
  refine va_MetW (cc := cL_type) (maxL := 5) (ret := (some .int)) (hh := [(0, 10, 13, 25)]) (by decide) rfl ?_
  intro p e s m args below meth c s₁ B hml hv
  obtain ⟨rfl, hsz, hP, hK, hD0, hca0, hde0, hde1, hde2, hst0, hUS, hNS⟩ := hv
  have hx := B.exec
  have hb := B.bytes
  have hr := B.returns
  have hts := atoms_spec (ws := wf_L_type) B.pre
  have hown : s.vm.findClass RL = some m.cls := findClass_of_methodNamed B.named
  have hlocks := B.notSynchronized
  have htab := vx_table (x := yL_type) B (hts _ List.mem_cons_self)
  subst hsz
  have hD := hD0.self (sz := s.heap.size)
  generalize hAe : va_A [(h0, .inr (11, [.ref x0, .ref x1, .ref x2, .ref x3, .ref x4, .ref x5, .ref x6, .ref x7, .ref x8, .ref x9, .ref x10, .int 0, .int 0, .int 0, .int 0, .int 0, .int 0])), (x9, .inr (6, [.int 0, .ref g1, .ref g2, .ref g3, .ref g4, .ref g5, .ref g6, .ref g7, .ref g8, .ref g9, .ref g10, .ref g11, .ref g12, .ref g13, .int 0, .int 0])), (ob, .inl (kl, 1, .inr (.inl fo)))] s.heap.size = A at hD hUS hNS ⊢
  have hA : ∀ q : Nat, s.heap.size ≤ q → A q := fun q h => by rw [← hAe]; exact Or.inr h
  have hS : va_S A s.heap s.heap [] := va_S.rf
  have hP : va_P (dC, dI) vwCl [(h0, .inr (11, [.ref x0, .ref x1, .ref x2, .ref x3, .ref x4, .ref x5, .ref x6, .ref x7, .ref x8, .ref x9, .ref x10, .int 0, .int 0, .int 0, .int 0, .int 0, .int 0])), (x9, .inr (6, [.int 0, .ref g1, .ref g2, .ref g3, .ref g4, .ref g5, .ref g6, .ref g7, .ref g8, .ref g9, .ref g10, .ref g11, .ref g12, .ref g13, .int 0, .int 0])), (ob, .inl (kl, 1, .inr (.inl fo)))] s.heap := hP
  have hD : va_D A [(h0, .inr (11, [.ref x0, .ref x1, .ref x2, .ref x3, .ref x4, .ref x5, .ref x6, .ref x7, .ref x8, .ref x9, .ref x10, .int 0, .int 0, .int 0, .int 0, .int 0, .int 0])), (x9, .inr (6, [.int 0, .ref g1, .ref g2, .ref g3, .ref g4, .ref g5, .ref g6, .ref g7, .ref g8, .ref g9, .ref g10, .ref g11, .ref g12, .ref g13, .int 0, .int 0])), (ob, .inl (kl, 1, .inr (.inl fo)))] := hD
  have hl := lv_entry ([.ref h0, .int p1, .int p2, .ref ob]) (n := 5) (Nat.le_of_ble_eq_true rfl)
  rw [lg_entry_eq]
  generalize (lg_sl ([.ref h0, .int p1, .int p2, .ref ob]) ++ List.replicate (5 - (lg_sl ([.ref h0, .int p1, .int p2, .ref ob])).length) Slot.unset).toArray = ls at hl ⊢
  have hl : lv_has ls 5 [(0, .ref h0), (1, .int p1), (2, .int p2), (3, .ref ob)] := hl
  refine lv_aload_n hx hb dL_type_0 rfl (lv_at hl 3 rfl) ?_
  refine lv_iconst (v := 0) hx hb dL_type_1 (by decide) ?_
  refine lv_aload_n hx hb dL_type_2 rfl (lv_at hl 0 rfl) ?_
  refine lv_iload_n hx hb dL_type_3 rfl (lv_at hl 1 rfl) ?_
  refine lv_iload_n hx hb dL_type_4 rfl (lv_at hl 2 rfl) ?_
  have hPc := hP.sub (ws' := [(h0, .inr (11, [.ref x0, .ref x1, .ref x2, .ref x3, .ref x4, .ref x5, .ref x6, .ref x7, .ref x8, .ref x9, .ref x10, .int 0, .int 0, .int 0, .int 0, .int 0, .int 0])), (x9, .inr (6, [.int 0, .ref g1, .ref g2, .ref g3, .ref g4, .ref g5, .ref g6, .ref g7, .ref g8, .ref g9, .ref g10, .ref g11, .ref g12, .ref g13, .int 0, .int 0]))]) [0, 1] rfl
  have hDc := hD.sub (ws' := [(h0, .inr (11, [.ref x0, .ref x1, .ref x2, .ref x3, .ref x4, .ref x5, .ref x6, .ref x7, .ref x8, .ref x9, .ref x10, .int 0, .int 0, .int 0, .int 0, .int 0, .int 0])), (x9, .inr (6, [.int 0, .ref g1, .ref g2, .ref g3, .ref g4, .ref g5, .ref g6, .ref g7, .ref g8, .ref g9, .ref g10, .ref g11, .ref g12, .ref g13, .int 0, .int 0]))]) [0, 1] (by decide) rfl
  have hKc := hK.sub (tys' := []) [] rfl
  have hFc := va_free (wc := [(h0, .inr (11, [.ref x0, .ref x1, .ref x2, .ref x3, .ref x4, .ref x5, .ref x6, .ref x7, .ref x8, .ref x9, .ref x10, .int 0, .int 0, .int 0, .int 0, .int 0, .int 0])), (x9, .inr (6, [.int 0, .ref g1, .ref g2, .ref g3, .ref g4, .ref g5, .ref g6, .ref g7, .ref g8, .ref g9, .ref g10, .ref g11, .ref g12, .ref g13, .int 0, .int 0]))]) hD hS hA [0, 1] rfl
  refine vx_calli (vx_runV (As := [.int p1, .int p2]) (rest := [.int 0, .ref ob]) ⟨hx, hb, hml, hown, hts⟩ (c_X11_type_fresh l hlt dC dI h0 x0 x1 x2 x3 x4 x5 x6 x7 x8 x9 x10 g1 g2 g3 g4 g5 g6 g7 g8 g9 g10 g11 g12 g13 p1 p2 sa0 s.heap.size) (cwV 2 hts gf_L_type_0 rfl rfl rfl (by decide +kernel) ⟨Nat.le_of_ble_eq_true rfl, Nat.le_of_ble_eq_true rfl⟩) ⟨fun a U g mk q => by obtain ⟨q0, q1, qP, qK, qD, qC0, qd0, qd1, qd2, qs0, qU, qN⟩ := q; exact ⟨q0, q1, qP, va_K.moved (u := U) (U := U.calling g mk a) (Vm.Alike.refl U.vm) qK, qD, va_Nw.same rfl rfl qC0, va_Nw.same rfl rfl qd0, va_Nw.same rfl rfl qd1, va_Nw.same rfl rfl qd2, vk_R.same rfl qs0, vx_Zq.moved (u := U) (U := U.calling g mk a) (Vm.Alike.refl U.vm) qU, vx_Zq.moved (u := U) (U := U.calling g mk a) (Vm.Alike.refl U.vm) qN⟩, va_recv hKc hPc (ci := 11) (q0 := 0) rfl rfl, fun U hU hW => ⟨rfl, by rw [hU], by rw [hU]; exact hPc, va_K.moved hW.alike hKc, hDc.weaken (fun _ _ _ _ => trivial), va_Nw.warmC hW hca0, va_Nw.warmD hW hde0, va_Nw.warmD hW hde1, va_Nw.warmD hW hde2, vk_R.warm hW hst0, (by rw [hU]; exact ((hUS.moved hW.alike).kept hS.2.1).narrow hFc), (by rw [hU]; exact ((hNS.moved hW.alike).kept hS.2.1).narrow hFc)⟩⟩ rfl rfl hl.1 rfl (lv_room (Nat.le_of_ble_eq_true rfl)) dL_type_5 ⟨Nat.le_of_ble_eq_true rfl, Nat.le_of_ble_eq_true rfl⟩) hS (fun q _ h => hFc q h) hFc (fun q _ h => hFc q h) (fun E ce q9 u t H1 locs ht hvm hw hB hz1 hk1 hS hce hcv hcl => ?_) (fun r_1 u t H1 locs ht hvm hw hB hz1 hk1 hS => ?_)
  · skip
    obtain ⟨hE, hP1, hK1, hD1⟩ := hB
    rw [ht] at hP1
    have hK1 := va_K.moved hvm.symm hK1
    obtain ⟨hP, hD⟩ := va_join (wr := [(ob, .inl (kl, 1, .inr (.inl fo)))]) (w1 := [(h0, .inr (11, [.ref x0, .ref x1, .ref x2, .ref x3, .ref x4, .ref x5, .ref x6, .ref x7, .ref x8, .ref x9, .ref x10, .int 0, .int 0, .int 0, .int 0, .int 0, .int 0])), (x9, .inr (6, [.int 0, .ref g1, .ref g2, .ref g3, .ref g4, .ref g5, .ref g6, .ref g7, .ref g8, .ref g9, .ref g10, .ref g11, .ref g12, .ref g13, .int 0, .int 0]))]) hP hD [0, 1] [2] rfl rfl (by decide) (by decide) hk1 hFc hP1 hD1
    have hK := (hK.sub (tys' := [(kl, .long)]) [0] rfl).app hK1
    subst ht
    generalize t.heap = H at hP hS hce ⊢
    have hP : va_P (dC, dI) vwCl [(ob, .inl (kl, 1, .inr (.inl fo))), (h0, .inr (11, [.ref x0, .ref x1, .ref x2, .ref x3, .ref x4, .ref x5, .ref x6, .ref x7, .ref x8, .ref x9, .ref x10, .int 0, .int 0, .int 0, .int 0, .int 0, .int 0])), (x9, .inr (6, [.int 0, .ref g1, .ref g2, .ref g3, .ref g4, .ref g5, .ref g6, .ref g7, .ref g8, .ref g9, .ref g10, .ref g11, .ref g12, .ref g13, .int 0, .int 0]))] H := hP
    have hD : va_D A [(ob, .inl (kl, 1, .inr (.inl fo))), (h0, .inr (11, [.ref x0, .ref x1, .ref x2, .ref x3, .ref x4, .ref x5, .ref x6, .ref x7, .ref x8, .ref x9, .ref x10, .int 0, .int 0, .int 0, .int 0, .int 0, .int 0])), (x9, .inr (6, [.int 0, .ref g1, .ref g2, .ref g3, .ref g4, .ref g5, .ref g6, .ref g7, .ref g8, .ref g9, .ref g10, .ref g11, .ref g12, .ref g13, .int 0, .int 0]))] := hD
    have hK : va_K (dC, dI) vwCl [(kl, .long)] s := hK
    obtain rfl := hE
    refine vx_catch (own := RL) (name := "java/util/NoSuchElementException") (E := "java/util/NoSuchElementException") hown [] ⟨0, 10, 13, 25⟩ [] (htab.trans rfl) (fun z h => nomatch h) (by decide) (by decide) (hts (.classLink RL 25 "java/util/NoSuchElementException") (by decide +kernel)) (va_Nw.use rfl hca0) hce hcv hcl ?_
    refine W.widen (k := 1) (n := 6) (Nat.le_of_ble_eq_true rfl) (Nat.le_of_ble_eq_true rfl) ?_
    refine lv_astore (lv' := [(4, .ref q9), (0, .ref h0), (1, .int p1), (2, .int p2), (3, .ref ob)]) hx hb dL_type_13 hl (by decide) rfl (fun ls hl => ?_)
    refine lv_iconst (v := 1) hx hb dL_type_15 (by decide) ?_
    have hP9 : va_P (dC, dI) vwCl [(ob, .inl (kl, 1, .inr (.inl fo)))] H := by have h := hP.sub (ws' := [(ob, .inl (kl, 1, .inr (.inl fo)))]) [0] rfl; exact h
    have hD9 : va_D A [(ob, .inl (kl, 1, .inr (.inl fo)))] := by have h := hD.sub (ws' := [(ob, .inl (kl, 1, .inr (.inl fo)))]) [0] (by decide) rfl; exact h
    have hK9 := hK.sub (tys' := [(kl, .long)]) [0] rfl
    refine W.widen (k := 1) (n := 6) (Nat.le_of_ble_eq_true rfl) (Nat.le_of_ble_eq_true rfl) ?_
    exact W.iret (v := 1) hx hb hr (fun t ht hW => ⟨⟨1, 1, rfl, rfl, fo, rfl, by rw [ht]; exact hP9, va_K.moved hW.alike hK9, hAe ▸ hD9⟩, hAe ▸ hS.F ht⟩) (fun q hq => hAe ▸ hS.2.2 q hq) dL_type_16
  obtain rfl : r_1 = u := hw.symm
  obtain ⟨hf_2, hP1, hK1, hD1⟩ := hB
  exact False.elim hf_2
def wo_L_value : List Cond := [.classLink RL 25 "java/util/NoSuchElementException"]
def wf_L_value : List Cond := .codeWith yL_value cL_value 5 (some .int) [(0, 10, 13, 25)] :: (wo_L_value ++ (wsV RL 43 RX11 yX11_value wf_X11_value))
set_option maxRecDepth 100000 in
theorem gf_L_value_0 : GoodIn wf_L_value (wsV RL 43 RX11 yX11_value wf_X11_value) := goodIn_sub (fun _ h => (List.mem_cons_of_mem _ (List.mem_append_right _ h))) (by decide +kernel)
set_option maxHeartbeats 4000000 in
set_option maxRecDepth 100000 in
theorem c_L_value_fresh (l : Launch) (hlt : l.stackTraces = false) (dC : Nat → ClassId) (dI : Nat → Nat → Nat) (h0 x0 x1 x2 x3 x4 x5 x6 x7 x8 x9 x10 : Nat) (g1 g2 g3 g4 g5 g6 g7 g8 g9 g10 g11 g12 g13 : Nat) (p1 p2 : Int32) (sa0 : Nat) (ob : Nat) (kl : ClassId) (fo : Nat → Int64) (sz : Nat) : Met l yL_value wf_L_value ({ frames := 7, cells := 1, slots := 6, locals := 113 }) (va_Pc [.ref h0, .int p1, .int p2, .ref ob] (fun U => U.heap.size = sz ∧ va_P (dC, dI) vwCl [(h0, .inr (11, [.ref x0, .ref x1, .ref x2, .ref x3, .ref x4, .ref x5, .ref x6, .ref x7, .ref x8, .ref x9, .ref x10, .int 0, .int 0, .int 0, .int 0, .int 0, .int 0])), (x9, .inr (6, [.int 0, .ref g1, .ref g2, .ref g3, .ref g4, .ref g5, .ref g6, .ref g7, .ref g8, .ref g9, .ref g10, .ref g11, .ref g12, .ref g13, .int 0, .int 0])), (ob, .inl (kl, 1, .inr (.inl fo)))] U.heap ∧ va_K (dC, dI) vwCl [(kl, .long)] U ∧ va_D (fun _ => True) [(h0, .inr (11, [.ref x0, .ref x1, .ref x2, .ref x3, .ref x4, .ref x5, .ref x6, .ref x7, .ref x8, .ref x9, .ref x10, .int 0, .int 0, .int 0, .int 0, .int 0, .int 0])), (x9, .inr (6, [.int 0, .ref g1, .ref g2, .ref g3, .ref g4, .ref g5, .ref g6, .ref g7, .ref g8, .ref g9, .ref g10, .ref g11, .ref g12, .ref g13, .int 0, .int 0])), (ob, .inl (kl, 1, .inr (.inl fo)))] ∧ va_Nw (.castable "java/util/NoSuchElementException" "java/util/NoSuchElementException") U ∧ va_Nw (.declares (Bundle.initS "java/lang/RuntimeException")) U ∧ va_Nw (.declares (Bundle.initS "java/lang/Exception")) U ∧ va_Nw (.declares (Bundle.initS Bundle.tN)) U ∧ vk_R RX11 238 "no such node" sa0 U ∧ vx_Zq Bundle.tN "UNASSIGNED_STACK" Bundle.steD (va_A [(h0, .inr (11, [.ref x0, .ref x1, .ref x2, .ref x3, .ref x4, .ref x5, .ref x6, .ref x7, .ref x8, .ref x9, .ref x10, .int 0, .int 0, .int 0, .int 0, .int 0, .int 0])), (x9, .inr (6, [.int 0, .ref g1, .ref g2, .ref g3, .ref g4, .ref g5, .ref g6, .ref g7, .ref g8, .ref g9, .ref g10, .ref g11, .ref g12, .ref g13, .int 0, .int 0])), (ob, .inl (kl, 1, .inr (.inl fo)))] sz) U U.heap ∧ vx_Zq Bundle.tN "SUPPRESSED_SENTINEL" Bundle.listD (va_A [(h0, .inr (11, [.ref x0, .ref x1, .ref x2, .ref x3, .ref x4, .ref x5, .ref x6, .ref x7, .ref x8, .ref x9, .ref x10, .int 0, .int 0, .int 0, .int 0, .int 0, .int 0])), (x9, .inr (6, [.int 0, .ref g1, .ref g2, .ref g3, .ref g4, .ref g5, .ref g6, .ref g7, .ref g8, .ref g9, .ref g10, .ref g11, .ref g12, .ref g13, .int 0, .int 0])), (ob, .inl (kl, 1, .inr (.inl fo)))] sz) U U.heap)) (va_Qi (fun (r u : Int32) => u = r) (fun (r : Int32) (t : State) => ∃ (go : Nat → Int64), (r = 1) ∧ va_P (dC, dI) vwCl [(ob, .inl (kl, 1, .inr (.inl go)))] t.heap ∧ va_K (dC, dI) vwCl [(kl, .long)] t ∧ va_D (va_A [(h0, .inr (11, [.ref x0, .ref x1, .ref x2, .ref x3, .ref x4, .ref x5, .ref x6, .ref x7, .ref x8, .ref x9, .ref x10, .int 0, .int 0, .int 0, .int 0, .int 0, .int 0])), (x9, .inr (6, [.int 0, .ref g1, .ref g2, .ref g3, .ref g4, .ref g5, .ref g6, .ref g7, .ref g8, .ref g9, .ref g10, .ref g11, .ref g12, .ref g13, .int 0, .int 0])), (ob, .inl (kl, 1, .inr (.inl fo)))] sz) [(ob, .inl (kl, 1, .inr (.inl go)))]) (va_A [(h0, .inr (11, [.ref x0, .ref x1, .ref x2, .ref x3, .ref x4, .ref x5, .ref x6, .ref x7, .ref x8, .ref x9, .ref x10, .int 0, .int 0, .int 0, .int 0, .int 0, .int 0])), (x9, .inr (6, [.int 0, .ref g1, .ref g2, .ref g3, .ref g4, .ref g5, .ref g6, .ref g7, .ref g8, .ref g9, .ref g10, .ref g11, .ref g12, .ref g13, .int 0, .int 0])), (ob, .inl (kl, 1, .inr (.inl fo)))] sz)) 1 6 (va_A [(h0, .inr (11, [.ref x0, .ref x1, .ref x2, .ref x3, .ref x4, .ref x5, .ref x6, .ref x7, .ref x8, .ref x9, .ref x10, .int 0, .int 0, .int 0, .int 0, .int 0, .int 0])), (x9, .inr (6, [.int 0, .ref g1, .ref g2, .ref g3, .ref g4, .ref g5, .ref g6, .ref g7, .ref g8, .ref g9, .ref g10, .ref g11, .ref g12, .ref g13, .int 0, .int 0])), (ob, .inl (kl, 1, .inr (.inl fo)))] sz) := by
  refine va_MetW (cc := cL_value) (maxL := 5) (ret := (some .int)) (hh := [(0, 10, 13, 25)]) (by decide) rfl ?_
  intro p e s m args below meth c s₁ B hml hv
  obtain ⟨rfl, hsz, hP, hK, hD0, hca0, hde0, hde1, hde2, hst0, hUS, hNS⟩ := hv
  have hx := B.exec
  have hb := B.bytes
  have hr := B.returns
  have hts := atoms_spec (ws := wf_L_value) B.pre
  have hown : s.vm.findClass RL = some m.cls := findClass_of_methodNamed B.named
  have hlocks := B.notSynchronized
  have htab := vx_table (x := yL_value) B (hts _ List.mem_cons_self)
  subst hsz
  have hD := hD0.self (sz := s.heap.size)
  generalize hAe : va_A [(h0, .inr (11, [.ref x0, .ref x1, .ref x2, .ref x3, .ref x4, .ref x5, .ref x6, .ref x7, .ref x8, .ref x9, .ref x10, .int 0, .int 0, .int 0, .int 0, .int 0, .int 0])), (x9, .inr (6, [.int 0, .ref g1, .ref g2, .ref g3, .ref g4, .ref g5, .ref g6, .ref g7, .ref g8, .ref g9, .ref g10, .ref g11, .ref g12, .ref g13, .int 0, .int 0])), (ob, .inl (kl, 1, .inr (.inl fo)))] s.heap.size = A at hD hUS hNS ⊢
  have hA : ∀ q : Nat, s.heap.size ≤ q → A q := fun q h => by rw [← hAe]; exact Or.inr h
  have hS : va_S A s.heap s.heap [] := va_S.rf
  have hP : va_P (dC, dI) vwCl [(h0, .inr (11, [.ref x0, .ref x1, .ref x2, .ref x3, .ref x4, .ref x5, .ref x6, .ref x7, .ref x8, .ref x9, .ref x10, .int 0, .int 0, .int 0, .int 0, .int 0, .int 0])), (x9, .inr (6, [.int 0, .ref g1, .ref g2, .ref g3, .ref g4, .ref g5, .ref g6, .ref g7, .ref g8, .ref g9, .ref g10, .ref g11, .ref g12, .ref g13, .int 0, .int 0])), (ob, .inl (kl, 1, .inr (.inl fo)))] s.heap := hP
  have hD : va_D A [(h0, .inr (11, [.ref x0, .ref x1, .ref x2, .ref x3, .ref x4, .ref x5, .ref x6, .ref x7, .ref x8, .ref x9, .ref x10, .int 0, .int 0, .int 0, .int 0, .int 0, .int 0])), (x9, .inr (6, [.int 0, .ref g1, .ref g2, .ref g3, .ref g4, .ref g5, .ref g6, .ref g7, .ref g8, .ref g9, .ref g10, .ref g11, .ref g12, .ref g13, .int 0, .int 0])), (ob, .inl (kl, 1, .inr (.inl fo)))] := hD
  have hl := lv_entry ([.ref h0, .int p1, .int p2, .ref ob]) (n := 5) (Nat.le_of_ble_eq_true rfl)
  rw [lg_entry_eq]
  generalize (lg_sl ([.ref h0, .int p1, .int p2, .ref ob]) ++ List.replicate (5 - (lg_sl ([.ref h0, .int p1, .int p2, .ref ob])).length) Slot.unset).toArray = ls at hl ⊢
  have hl : lv_has ls 5 [(0, .ref h0), (1, .int p1), (2, .int p2), (3, .ref ob)] := hl
  refine lv_aload_n hx hb dL_value_0 rfl (lv_at hl 3 rfl) ?_
  refine lv_iconst (v := 0) hx hb dL_value_1 (by decide) ?_
  refine lv_aload_n hx hb dL_value_2 rfl (lv_at hl 0 rfl) ?_
  refine lv_iload_n hx hb dL_value_3 rfl (lv_at hl 1 rfl) ?_
  refine lv_iload_n hx hb dL_value_4 rfl (lv_at hl 2 rfl) ?_
  have hPc := hP.sub (ws' := [(h0, .inr (11, [.ref x0, .ref x1, .ref x2, .ref x3, .ref x4, .ref x5, .ref x6, .ref x7, .ref x8, .ref x9, .ref x10, .int 0, .int 0, .int 0, .int 0, .int 0, .int 0])), (x9, .inr (6, [.int 0, .ref g1, .ref g2, .ref g3, .ref g4, .ref g5, .ref g6, .ref g7, .ref g8, .ref g9, .ref g10, .ref g11, .ref g12, .ref g13, .int 0, .int 0]))]) [0, 1] rfl
  have hDc := hD.sub (ws' := [(h0, .inr (11, [.ref x0, .ref x1, .ref x2, .ref x3, .ref x4, .ref x5, .ref x6, .ref x7, .ref x8, .ref x9, .ref x10, .int 0, .int 0, .int 0, .int 0, .int 0, .int 0])), (x9, .inr (6, [.int 0, .ref g1, .ref g2, .ref g3, .ref g4, .ref g5, .ref g6, .ref g7, .ref g8, .ref g9, .ref g10, .ref g11, .ref g12, .ref g13, .int 0, .int 0]))]) [0, 1] (by decide) rfl
  have hKc := hK.sub (tys' := []) [] rfl
  have hFc := va_free (wc := [(h0, .inr (11, [.ref x0, .ref x1, .ref x2, .ref x3, .ref x4, .ref x5, .ref x6, .ref x7, .ref x8, .ref x9, .ref x10, .int 0, .int 0, .int 0, .int 0, .int 0, .int 0])), (x9, .inr (6, [.int 0, .ref g1, .ref g2, .ref g3, .ref g4, .ref g5, .ref g6, .ref g7, .ref g8, .ref g9, .ref g10, .ref g11, .ref g12, .ref g13, .int 0, .int 0]))]) hD hS hA [0, 1] rfl
  refine vx_calli (vx_runV (As := [.int p1, .int p2]) (rest := [.int 0, .ref ob]) ⟨hx, hb, hml, hown, hts⟩ (c_X11_value_fresh l hlt dC dI h0 x0 x1 x2 x3 x4 x5 x6 x7 x8 x9 x10 g1 g2 g3 g4 g5 g6 g7 g8 g9 g10 g11 g12 g13 p1 p2 sa0 s.heap.size) (cwV 2 hts gf_L_value_0 rfl rfl rfl (by decide +kernel) ⟨Nat.le_of_ble_eq_true rfl, Nat.le_of_ble_eq_true rfl⟩) ⟨fun a U g mk q => by obtain ⟨q0, q1, qP, qK, qD, qC0, qd0, qd1, qd2, qs0, qU, qN⟩ := q; exact ⟨q0, q1, qP, va_K.moved (u := U) (U := U.calling g mk a) (Vm.Alike.refl U.vm) qK, qD, va_Nw.same rfl rfl qC0, va_Nw.same rfl rfl qd0, va_Nw.same rfl rfl qd1, va_Nw.same rfl rfl qd2, vk_R.same rfl qs0, vx_Zq.moved (u := U) (U := U.calling g mk a) (Vm.Alike.refl U.vm) qU, vx_Zq.moved (u := U) (U := U.calling g mk a) (Vm.Alike.refl U.vm) qN⟩, va_recv hKc hPc (ci := 11) (q0 := 0) rfl rfl, fun U hU hW => ⟨rfl, by rw [hU], by rw [hU]; exact hPc, va_K.moved hW.alike hKc, hDc.weaken (fun _ _ _ _ => trivial), va_Nw.warmC hW hca0, va_Nw.warmD hW hde0, va_Nw.warmD hW hde1, va_Nw.warmD hW hde2, vk_R.warm hW hst0, (by rw [hU]; exact ((hUS.moved hW.alike).kept hS.2.1).narrow hFc), (by rw [hU]; exact ((hNS.moved hW.alike).kept hS.2.1).narrow hFc)⟩⟩ rfl rfl hl.1 rfl (lv_room (Nat.le_of_ble_eq_true rfl)) dL_value_5 ⟨Nat.le_of_ble_eq_true rfl, Nat.le_of_ble_eq_true rfl⟩) hS (fun q _ h => hFc q h) hFc (fun q _ h => hFc q h) (fun E ce q9 u t H1 locs ht hvm hw hB hz1 hk1 hS hce hcv hcl => ?_) (fun r_1 u t H1 locs ht hvm hw hB hz1 hk1 hS => ?_)
  · skip
    obtain ⟨hE, hP1, hK1, hD1⟩ := hB
    rw [ht] at hP1
    have hK1 := va_K.moved hvm.symm hK1
    obtain ⟨hP, hD⟩ := va_join (wr := [(ob, .inl (kl, 1, .inr (.inl fo)))]) (w1 := [(h0, .inr (11, [.ref x0, .ref x1, .ref x2, .ref x3, .ref x4, .ref x5, .ref x6, .ref x7, .ref x8, .ref x9, .ref x10, .int 0, .int 0, .int 0, .int 0, .int 0, .int 0])), (x9, .inr (6, [.int 0, .ref g1, .ref g2, .ref g3, .ref g4, .ref g5, .ref g6, .ref g7, .ref g8, .ref g9, .ref g10, .ref g11, .ref g12, .ref g13, .int 0, .int 0]))]) hP hD [0, 1] [2] rfl rfl (by decide) (by decide) hk1 hFc hP1 hD1
    have hK := (hK.sub (tys' := [(kl, .long)]) [0] rfl).app hK1
    subst ht
    generalize t.heap = H at hP hS hce ⊢
    have hP : va_P (dC, dI) vwCl [(ob, .inl (kl, 1, .inr (.inl fo))), (h0, .inr (11, [.ref x0, .ref x1, .ref x2, .ref x3, .ref x4, .ref x5, .ref x6, .ref x7, .ref x8, .ref x9, .ref x10, .int 0, .int 0, .int 0, .int 0, .int 0, .int 0])), (x9, .inr (6, [.int 0, .ref g1, .ref g2, .ref g3, .ref g4, .ref g5, .ref g6, .ref g7, .ref g8, .ref g9, .ref g10, .ref g11, .ref g12, .ref g13, .int 0, .int 0]))] H := hP
    have hD : va_D A [(ob, .inl (kl, 1, .inr (.inl fo))), (h0, .inr (11, [.ref x0, .ref x1, .ref x2, .ref x3, .ref x4, .ref x5, .ref x6, .ref x7, .ref x8, .ref x9, .ref x10, .int 0, .int 0, .int 0, .int 0, .int 0, .int 0])), (x9, .inr (6, [.int 0, .ref g1, .ref g2, .ref g3, .ref g4, .ref g5, .ref g6, .ref g7, .ref g8, .ref g9, .ref g10, .ref g11, .ref g12, .ref g13, .int 0, .int 0]))] := hD
    have hK : va_K (dC, dI) vwCl [(kl, .long)] s := hK
    obtain rfl := hE
    refine vx_catch (own := RL) (name := "java/util/NoSuchElementException") (E := "java/util/NoSuchElementException") hown [] ⟨0, 10, 13, 25⟩ [] (htab.trans rfl) (fun z h => nomatch h) (by decide) (by decide) (hts (.classLink RL 25 "java/util/NoSuchElementException") (by decide +kernel)) (va_Nw.use rfl hca0) hce hcv hcl ?_
    refine W.widen (k := 1) (n := 6) (Nat.le_of_ble_eq_true rfl) (Nat.le_of_ble_eq_true rfl) ?_
    refine lv_astore (lv' := [(4, .ref q9), (0, .ref h0), (1, .int p1), (2, .int p2), (3, .ref ob)]) hx hb dL_value_13 hl (by decide) rfl (fun ls hl => ?_)
    refine lv_iconst (v := 1) hx hb dL_value_15 (by decide) ?_
    have hP9 : va_P (dC, dI) vwCl [(ob, .inl (kl, 1, .inr (.inl fo)))] H := by have h := hP.sub (ws' := [(ob, .inl (kl, 1, .inr (.inl fo)))]) [0] rfl; exact h
    have hD9 : va_D A [(ob, .inl (kl, 1, .inr (.inl fo)))] := by have h := hD.sub (ws' := [(ob, .inl (kl, 1, .inr (.inl fo)))]) [0] (by decide) rfl; exact h
    have hK9 := hK.sub (tys' := [(kl, .long)]) [0] rfl
    refine W.widen (k := 1) (n := 6) (Nat.le_of_ble_eq_true rfl) (Nat.le_of_ble_eq_true rfl) ?_
    exact W.iret (v := 1) hx hb hr (fun t ht hW => ⟨⟨1, 1, rfl, rfl, fo, rfl, by rw [ht]; exact hP9, va_K.moved hW.alike hK9, hAe ▸ hD9⟩, hAe ▸ hS.F ht⟩) (fun q hq => hAe ▸ hS.2.2 q hq) dL_value_16
  obtain rfl : r_1 = u := hw.symm
  obtain ⟨hf_2, hP1, hK1, hD1⟩ := hB
  exact False.elim hf_2
def wo_L_worth : List Cond := [.classLink RL 25 "java/util/NoSuchElementException"]
def wf_L_worth : List Cond := .codeWith yL_worth cL_worth 5 (some .int) [(0, 10, 13, 25)] :: (wo_L_worth ++ (wsV RL 46 RX11 yX11_worth wf_X11_worth))
set_option maxRecDepth 100000 in
theorem gf_L_worth_0 : GoodIn wf_L_worth (wsV RL 46 RX11 yX11_worth wf_X11_worth) := goodIn_sub (fun _ h => (List.mem_cons_of_mem _ (List.mem_append_right _ h))) (by decide +kernel)
set_option maxHeartbeats 4000000 in
set_option maxRecDepth 100000 in
theorem c_L_worth_fresh (l : Launch) (hlt : l.stackTraces = false) (dC : Nat → ClassId) (dI : Nat → Nat → Nat) (h0 x0 x1 x2 x3 x4 x5 x6 x7 x8 x9 x10 : Nat) (g1 g2 g3 g4 g5 g6 g7 g8 g9 g10 g11 g12 g13 : Nat) (p1 p2 : Int32) (sa0 : Nat) (ob : Nat) (kl : ClassId) (fo : Nat → Int64) (sz : Nat) : Met l yL_worth wf_L_worth ({ frames := 7, cells := 1, slots := 6, locals := 113 }) (va_Pc [.ref h0, .int p1, .int p2, .ref ob] (fun U => U.heap.size = sz ∧ va_P (dC, dI) vwCl [(h0, .inr (11, [.ref x0, .ref x1, .ref x2, .ref x3, .ref x4, .ref x5, .ref x6, .ref x7, .ref x8, .ref x9, .ref x10, .int 0, .int 0, .int 0, .int 0, .int 0, .int 0])), (x9, .inr (6, [.int 0, .ref g1, .ref g2, .ref g3, .ref g4, .ref g5, .ref g6, .ref g7, .ref g8, .ref g9, .ref g10, .ref g11, .ref g12, .ref g13, .int 0, .int 0])), (ob, .inl (kl, 1, .inr (.inl fo)))] U.heap ∧ va_K (dC, dI) vwCl [(kl, .long)] U ∧ va_D (fun _ => True) [(h0, .inr (11, [.ref x0, .ref x1, .ref x2, .ref x3, .ref x4, .ref x5, .ref x6, .ref x7, .ref x8, .ref x9, .ref x10, .int 0, .int 0, .int 0, .int 0, .int 0, .int 0])), (x9, .inr (6, [.int 0, .ref g1, .ref g2, .ref g3, .ref g4, .ref g5, .ref g6, .ref g7, .ref g8, .ref g9, .ref g10, .ref g11, .ref g12, .ref g13, .int 0, .int 0])), (ob, .inl (kl, 1, .inr (.inl fo)))] ∧ va_Nw (.castable "java/util/NoSuchElementException" "java/util/NoSuchElementException") U ∧ va_Nw (.declares (Bundle.initS "java/lang/RuntimeException")) U ∧ va_Nw (.declares (Bundle.initS "java/lang/Exception")) U ∧ va_Nw (.declares (Bundle.initS Bundle.tN)) U ∧ vk_R RX11 238 "no such node" sa0 U ∧ vx_Zq Bundle.tN "UNASSIGNED_STACK" Bundle.steD (va_A [(h0, .inr (11, [.ref x0, .ref x1, .ref x2, .ref x3, .ref x4, .ref x5, .ref x6, .ref x7, .ref x8, .ref x9, .ref x10, .int 0, .int 0, .int 0, .int 0, .int 0, .int 0])), (x9, .inr (6, [.int 0, .ref g1, .ref g2, .ref g3, .ref g4, .ref g5, .ref g6, .ref g7, .ref g8, .ref g9, .ref g10, .ref g11, .ref g12, .ref g13, .int 0, .int 0])), (ob, .inl (kl, 1, .inr (.inl fo)))] sz) U U.heap ∧ vx_Zq Bundle.tN "SUPPRESSED_SENTINEL" Bundle.listD (va_A [(h0, .inr (11, [.ref x0, .ref x1, .ref x2, .ref x3, .ref x4, .ref x5, .ref x6, .ref x7, .ref x8, .ref x9, .ref x10, .int 0, .int 0, .int 0, .int 0, .int 0, .int 0])), (x9, .inr (6, [.int 0, .ref g1, .ref g2, .ref g3, .ref g4, .ref g5, .ref g6, .ref g7, .ref g8, .ref g9, .ref g10, .ref g11, .ref g12, .ref g13, .int 0, .int 0])), (ob, .inl (kl, 1, .inr (.inl fo)))] sz) U U.heap)) (va_Qi (fun (r u : Int32) => u = r) (fun (r : Int32) (t : State) => ∃ (go : Nat → Int64), (r = 1) ∧ va_P (dC, dI) vwCl [(ob, .inl (kl, 1, .inr (.inl go)))] t.heap ∧ va_K (dC, dI) vwCl [(kl, .long)] t ∧ va_D (va_A [(h0, .inr (11, [.ref x0, .ref x1, .ref x2, .ref x3, .ref x4, .ref x5, .ref x6, .ref x7, .ref x8, .ref x9, .ref x10, .int 0, .int 0, .int 0, .int 0, .int 0, .int 0])), (x9, .inr (6, [.int 0, .ref g1, .ref g2, .ref g3, .ref g4, .ref g5, .ref g6, .ref g7, .ref g8, .ref g9, .ref g10, .ref g11, .ref g12, .ref g13, .int 0, .int 0])), (ob, .inl (kl, 1, .inr (.inl fo)))] sz) [(ob, .inl (kl, 1, .inr (.inl go)))]) (va_A [(h0, .inr (11, [.ref x0, .ref x1, .ref x2, .ref x3, .ref x4, .ref x5, .ref x6, .ref x7, .ref x8, .ref x9, .ref x10, .int 0, .int 0, .int 0, .int 0, .int 0, .int 0])), (x9, .inr (6, [.int 0, .ref g1, .ref g2, .ref g3, .ref g4, .ref g5, .ref g6, .ref g7, .ref g8, .ref g9, .ref g10, .ref g11, .ref g12, .ref g13, .int 0, .int 0])), (ob, .inl (kl, 1, .inr (.inl fo)))] sz)) 1 6 (va_A [(h0, .inr (11, [.ref x0, .ref x1, .ref x2, .ref x3, .ref x4, .ref x5, .ref x6, .ref x7, .ref x8, .ref x9, .ref x10, .int 0, .int 0, .int 0, .int 0, .int 0, .int 0])), (x9, .inr (6, [.int 0, .ref g1, .ref g2, .ref g3, .ref g4, .ref g5, .ref g6, .ref g7, .ref g8, .ref g9, .ref g10, .ref g11, .ref g12, .ref g13, .int 0, .int 0])), (ob, .inl (kl, 1, .inr (.inl fo)))] sz) := by
  refine va_MetW (cc := cL_worth) (maxL := 5) (ret := (some .int)) (hh := [(0, 10, 13, 25)]) (by decide) rfl ?_
  intro p e s m args below meth c s₁ B hml hv
  obtain ⟨rfl, hsz, hP, hK, hD0, hca0, hde0, hde1, hde2, hst0, hUS, hNS⟩ := hv
  have hx := B.exec
  have hb := B.bytes
  have hr := B.returns
  have hts := atoms_spec (ws := wf_L_worth) B.pre
  have hown : s.vm.findClass RL = some m.cls := findClass_of_methodNamed B.named
  have hlocks := B.notSynchronized
  have htab := vx_table (x := yL_worth) B (hts _ List.mem_cons_self)
  subst hsz
  have hD := hD0.self (sz := s.heap.size)
  generalize hAe : va_A [(h0, .inr (11, [.ref x0, .ref x1, .ref x2, .ref x3, .ref x4, .ref x5, .ref x6, .ref x7, .ref x8, .ref x9, .ref x10, .int 0, .int 0, .int 0, .int 0, .int 0, .int 0])), (x9, .inr (6, [.int 0, .ref g1, .ref g2, .ref g3, .ref g4, .ref g5, .ref g6, .ref g7, .ref g8, .ref g9, .ref g10, .ref g11, .ref g12, .ref g13, .int 0, .int 0])), (ob, .inl (kl, 1, .inr (.inl fo)))] s.heap.size = A at hD hUS hNS ⊢
  have hA : ∀ q : Nat, s.heap.size ≤ q → A q := fun q h => by rw [← hAe]; exact Or.inr h
  have hS : va_S A s.heap s.heap [] := va_S.rf
  have hP : va_P (dC, dI) vwCl [(h0, .inr (11, [.ref x0, .ref x1, .ref x2, .ref x3, .ref x4, .ref x5, .ref x6, .ref x7, .ref x8, .ref x9, .ref x10, .int 0, .int 0, .int 0, .int 0, .int 0, .int 0])), (x9, .inr (6, [.int 0, .ref g1, .ref g2, .ref g3, .ref g4, .ref g5, .ref g6, .ref g7, .ref g8, .ref g9, .ref g10, .ref g11, .ref g12, .ref g13, .int 0, .int 0])), (ob, .inl (kl, 1, .inr (.inl fo)))] s.heap := hP
  have hD : va_D A [(h0, .inr (11, [.ref x0, .ref x1, .ref x2, .ref x3, .ref x4, .ref x5, .ref x6, .ref x7, .ref x8, .ref x9, .ref x10, .int 0, .int 0, .int 0, .int 0, .int 0, .int 0])), (x9, .inr (6, [.int 0, .ref g1, .ref g2, .ref g3, .ref g4, .ref g5, .ref g6, .ref g7, .ref g8, .ref g9, .ref g10, .ref g11, .ref g12, .ref g13, .int 0, .int 0])), (ob, .inl (kl, 1, .inr (.inl fo)))] := hD
  have hl := lv_entry ([.ref h0, .int p1, .int p2, .ref ob]) (n := 5) (Nat.le_of_ble_eq_true rfl)
  rw [lg_entry_eq]
  generalize (lg_sl ([.ref h0, .int p1, .int p2, .ref ob]) ++ List.replicate (5 - (lg_sl ([.ref h0, .int p1, .int p2, .ref ob])).length) Slot.unset).toArray = ls at hl ⊢
  have hl : lv_has ls 5 [(0, .ref h0), (1, .int p1), (2, .int p2), (3, .ref ob)] := hl
  refine lv_aload_n hx hb dL_worth_0 rfl (lv_at hl 3 rfl) ?_
  refine lv_iconst (v := 0) hx hb dL_worth_1 (by decide) ?_
  refine lv_aload_n hx hb dL_worth_2 rfl (lv_at hl 0 rfl) ?_
  refine lv_iload_n hx hb dL_worth_3 rfl (lv_at hl 1 rfl) ?_
  refine lv_iload_n hx hb dL_worth_4 rfl (lv_at hl 2 rfl) ?_
  have hPc := hP.sub (ws' := [(h0, .inr (11, [.ref x0, .ref x1, .ref x2, .ref x3, .ref x4, .ref x5, .ref x6, .ref x7, .ref x8, .ref x9, .ref x10, .int 0, .int 0, .int 0, .int 0, .int 0, .int 0])), (x9, .inr (6, [.int 0, .ref g1, .ref g2, .ref g3, .ref g4, .ref g5, .ref g6, .ref g7, .ref g8, .ref g9, .ref g10, .ref g11, .ref g12, .ref g13, .int 0, .int 0]))]) [0, 1] rfl
  have hDc := hD.sub (ws' := [(h0, .inr (11, [.ref x0, .ref x1, .ref x2, .ref x3, .ref x4, .ref x5, .ref x6, .ref x7, .ref x8, .ref x9, .ref x10, .int 0, .int 0, .int 0, .int 0, .int 0, .int 0])), (x9, .inr (6, [.int 0, .ref g1, .ref g2, .ref g3, .ref g4, .ref g5, .ref g6, .ref g7, .ref g8, .ref g9, .ref g10, .ref g11, .ref g12, .ref g13, .int 0, .int 0]))]) [0, 1] (by decide) rfl
  have hKc := hK.sub (tys' := []) [] rfl
  have hFc := va_free (wc := [(h0, .inr (11, [.ref x0, .ref x1, .ref x2, .ref x3, .ref x4, .ref x5, .ref x6, .ref x7, .ref x8, .ref x9, .ref x10, .int 0, .int 0, .int 0, .int 0, .int 0, .int 0])), (x9, .inr (6, [.int 0, .ref g1, .ref g2, .ref g3, .ref g4, .ref g5, .ref g6, .ref g7, .ref g8, .ref g9, .ref g10, .ref g11, .ref g12, .ref g13, .int 0, .int 0]))]) hD hS hA [0, 1] rfl
  refine vx_calli (vx_runV (As := [.int p1, .int p2]) (rest := [.int 0, .ref ob]) ⟨hx, hb, hml, hown, hts⟩ (c_X11_worth_fresh l hlt dC dI h0 x0 x1 x2 x3 x4 x5 x6 x7 x8 x9 x10 g1 g2 g3 g4 g5 g6 g7 g8 g9 g10 g11 g12 g13 p1 p2 sa0 s.heap.size) (cwV 2 hts gf_L_worth_0 rfl rfl rfl (by decide +kernel) ⟨Nat.le_of_ble_eq_true rfl, Nat.le_of_ble_eq_true rfl⟩) ⟨fun a U g mk q => by obtain ⟨q0, q1, qP, qK, qD, qC0, qd0, qd1, qd2, qs0, qU, qN⟩ := q; exact ⟨q0, q1, qP, va_K.moved (u := U) (U := U.calling g mk a) (Vm.Alike.refl U.vm) qK, qD, va_Nw.same rfl rfl qC0, va_Nw.same rfl rfl qd0, va_Nw.same rfl rfl qd1, va_Nw.same rfl rfl qd2, vk_R.same rfl qs0, vx_Zq.moved (u := U) (U := U.calling g mk a) (Vm.Alike.refl U.vm) qU, vx_Zq.moved (u := U) (U := U.calling g mk a) (Vm.Alike.refl U.vm) qN⟩, va_recv hKc hPc (ci := 11) (q0 := 0) rfl rfl, fun U hU hW => ⟨rfl, by rw [hU], by rw [hU]; exact hPc, va_K.moved hW.alike hKc, hDc.weaken (fun _ _ _ _ => trivial), va_Nw.warmC hW hca0, va_Nw.warmD hW hde0, va_Nw.warmD hW hde1, va_Nw.warmD hW hde2, vk_R.warm hW hst0, (by rw [hU]; exact ((hUS.moved hW.alike).kept hS.2.1).narrow hFc), (by rw [hU]; exact ((hNS.moved hW.alike).kept hS.2.1).narrow hFc)⟩⟩ rfl rfl hl.1 rfl (lv_room (Nat.le_of_ble_eq_true rfl)) dL_worth_5 ⟨Nat.le_of_ble_eq_true rfl, Nat.le_of_ble_eq_true rfl⟩) hS (fun q _ h => hFc q h) hFc (fun q _ h => hFc q h) (fun E ce q9 u t H1 locs ht hvm hw hB hz1 hk1 hS hce hcv hcl => ?_) (fun r_1 u t H1 locs ht hvm hw hB hz1 hk1 hS => ?_)
  · skip
    obtain ⟨hE, hP1, hK1, hD1⟩ := hB
    rw [ht] at hP1
    have hK1 := va_K.moved hvm.symm hK1
    obtain ⟨hP, hD⟩ := va_join (wr := [(ob, .inl (kl, 1, .inr (.inl fo)))]) (w1 := [(h0, .inr (11, [.ref x0, .ref x1, .ref x2, .ref x3, .ref x4, .ref x5, .ref x6, .ref x7, .ref x8, .ref x9, .ref x10, .int 0, .int 0, .int 0, .int 0, .int 0, .int 0])), (x9, .inr (6, [.int 0, .ref g1, .ref g2, .ref g3, .ref g4, .ref g5, .ref g6, .ref g7, .ref g8, .ref g9, .ref g10, .ref g11, .ref g12, .ref g13, .int 0, .int 0]))]) hP hD [0, 1] [2] rfl rfl (by decide) (by decide) hk1 hFc hP1 hD1
    have hK := (hK.sub (tys' := [(kl, .long)]) [0] rfl).app hK1
    subst ht
    generalize t.heap = H at hP hS hce ⊢
    have hP : va_P (dC, dI) vwCl [(ob, .inl (kl, 1, .inr (.inl fo))), (h0, .inr (11, [.ref x0, .ref x1, .ref x2, .ref x3, .ref x4, .ref x5, .ref x6, .ref x7, .ref x8, .ref x9, .ref x10, .int 0, .int 0, .int 0, .int 0, .int 0, .int 0])), (x9, .inr (6, [.int 0, .ref g1, .ref g2, .ref g3, .ref g4, .ref g5, .ref g6, .ref g7, .ref g8, .ref g9, .ref g10, .ref g11, .ref g12, .ref g13, .int 0, .int 0]))] H := hP
    have hD : va_D A [(ob, .inl (kl, 1, .inr (.inl fo))), (h0, .inr (11, [.ref x0, .ref x1, .ref x2, .ref x3, .ref x4, .ref x5, .ref x6, .ref x7, .ref x8, .ref x9, .ref x10, .int 0, .int 0, .int 0, .int 0, .int 0, .int 0])), (x9, .inr (6, [.int 0, .ref g1, .ref g2, .ref g3, .ref g4, .ref g5, .ref g6, .ref g7, .ref g8, .ref g9, .ref g10, .ref g11, .ref g12, .ref g13, .int 0, .int 0]))] := hD
    have hK : va_K (dC, dI) vwCl [(kl, .long)] s := hK
    obtain rfl := hE
    refine vx_catch (own := RL) (name := "java/util/NoSuchElementException") (E := "java/util/NoSuchElementException") hown [] ⟨0, 10, 13, 25⟩ [] (htab.trans rfl) (fun z h => nomatch h) (by decide) (by decide) (hts (.classLink RL 25 "java/util/NoSuchElementException") (by decide +kernel)) (va_Nw.use rfl hca0) hce hcv hcl ?_
    refine W.widen (k := 1) (n := 6) (Nat.le_of_ble_eq_true rfl) (Nat.le_of_ble_eq_true rfl) ?_
    refine lv_astore (lv' := [(4, .ref q9), (0, .ref h0), (1, .int p1), (2, .int p2), (3, .ref ob)]) hx hb dL_worth_13 hl (by decide) rfl (fun ls hl => ?_)
    refine lv_iconst (v := 1) hx hb dL_worth_15 (by decide) ?_
    have hP9 : va_P (dC, dI) vwCl [(ob, .inl (kl, 1, .inr (.inl fo)))] H := by have h := hP.sub (ws' := [(ob, .inl (kl, 1, .inr (.inl fo)))]) [0] rfl; exact h
    have hD9 : va_D A [(ob, .inl (kl, 1, .inr (.inl fo)))] := by have h := hD.sub (ws' := [(ob, .inl (kl, 1, .inr (.inl fo)))]) [0] (by decide) rfl; exact h
    have hK9 := hK.sub (tys' := [(kl, .long)]) [0] rfl
    refine W.widen (k := 1) (n := 6) (Nat.le_of_ble_eq_true rfl) (Nat.le_of_ble_eq_true rfl) ?_
    exact W.iret (v := 1) hx hb hr (fun t ht hW => ⟨⟨1, 1, rfl, rfl, fo, rfl, by rw [ht]; exact hP9, va_K.moved hW.alike hK9, hAe ▸ hD9⟩, hAe ▸ hS.F ht⟩) (fun q hq => hAe ▸ hS.2.2 q hq) dL_worth_16
  obtain rfl : r_1 = u := hw.symm
  obtain ⟨hf_2, hP1, hK1, hD1⟩ := hB
  exact False.elim hf_2
def wo_L_out : List Cond := [.classLink RL 25 "java/util/NoSuchElementException"]
def wf_L_out : List Cond := .codeWith yL_out cL_out 4 (some .int) [(0, 8, 11, 25)] :: (wo_L_out ++ (wsV RL 52 RX11 yX11_out wf_X11_out))
set_option maxRecDepth 100000 in
theorem gf_L_out_0 : GoodIn wf_L_out (wsV RL 52 RX11 yX11_out wf_X11_out) := goodIn_sub (fun _ h => (List.mem_cons_of_mem _ (List.mem_append_right _ h))) (by decide +kernel)
set_option maxHeartbeats 4000000 in
set_option maxRecDepth 100000 in
theorem c_L_out_fresh (l : Launch) (hlt : l.stackTraces = false) (dC : Nat → ClassId) (dI : Nat → Nat → Nat) (h0 x0 x1 x2 x3 x4 x5 x6 x7 x8 x9 x10 : Nat) (b1 : Nat) (p1 : Int32) (sa0 : Nat) (ob : Nat) (kl : ClassId) (fo : Nat → Int64) (sz : Nat) : Met l yL_out wf_L_out ({ frames := 7, cells := 1, slots := 6, locals := 114 }) (va_Pc [.ref h0, .int p1, .ref ob] (fun U => U.heap.size = sz ∧ va_P (dC, dI) vwCl [(h0, .inr (11, [.ref x0, .ref x1, .ref x2, .ref x3, .ref x4, .ref x5, .ref x6, .ref x7, .ref x8, .ref x9, .ref x10, .int 0, .int 0, .int 0, .int 0, .int 0, .int 0])), (x1, .inr (8, [.ref b1, .int 0, .int 0, .int 0])), (ob, .inl (kl, 1, .inr (.inl fo)))] U.heap ∧ va_K (dC, dI) vwCl [(kl, .long)] U ∧ va_D (fun _ => True) [(h0, .inr (11, [.ref x0, .ref x1, .ref x2, .ref x3, .ref x4, .ref x5, .ref x6, .ref x7, .ref x8, .ref x9, .ref x10, .int 0, .int 0, .int 0, .int 0, .int 0, .int 0])), (x1, .inr (8, [.ref b1, .int 0, .int 0, .int 0])), (ob, .inl (kl, 1, .inr (.inl fo)))] ∧ va_Nw (.castable "java/util/NoSuchElementException" "java/util/NoSuchElementException") U ∧ va_Nw (.declares (Bundle.initS "java/lang/RuntimeException")) U ∧ va_Nw (.declares (Bundle.initS "java/lang/Exception")) U ∧ va_Nw (.declares (Bundle.initS Bundle.tN)) U ∧ vk_R RX11 279 "no such byte" sa0 U ∧ vx_Zq Bundle.tN "UNASSIGNED_STACK" Bundle.steD (va_A [(h0, .inr (11, [.ref x0, .ref x1, .ref x2, .ref x3, .ref x4, .ref x5, .ref x6, .ref x7, .ref x8, .ref x9, .ref x10, .int 0, .int 0, .int 0, .int 0, .int 0, .int 0])), (x1, .inr (8, [.ref b1, .int 0, .int 0, .int 0])), (ob, .inl (kl, 1, .inr (.inl fo)))] sz) U U.heap ∧ vx_Zq Bundle.tN "SUPPRESSED_SENTINEL" Bundle.listD (va_A [(h0, .inr (11, [.ref x0, .ref x1, .ref x2, .ref x3, .ref x4, .ref x5, .ref x6, .ref x7, .ref x8, .ref x9, .ref x10, .int 0, .int 0, .int 0, .int 0, .int 0, .int 0])), (x1, .inr (8, [.ref b1, .int 0, .int 0, .int 0])), (ob, .inl (kl, 1, .inr (.inl fo)))] sz) U U.heap)) (va_Qi (fun (r u : Int32) => u = r) (fun (r : Int32) (t : State) => ∃ (go : Nat → Int64), (r = 1) ∧ va_P (dC, dI) vwCl [(ob, .inl (kl, 1, .inr (.inl go)))] t.heap ∧ va_K (dC, dI) vwCl [(kl, .long)] t ∧ va_D (va_A [(h0, .inr (11, [.ref x0, .ref x1, .ref x2, .ref x3, .ref x4, .ref x5, .ref x6, .ref x7, .ref x8, .ref x9, .ref x10, .int 0, .int 0, .int 0, .int 0, .int 0, .int 0])), (x1, .inr (8, [.ref b1, .int 0, .int 0, .int 0])), (ob, .inl (kl, 1, .inr (.inl fo)))] sz) [(ob, .inl (kl, 1, .inr (.inl go)))]) (va_A [(h0, .inr (11, [.ref x0, .ref x1, .ref x2, .ref x3, .ref x4, .ref x5, .ref x6, .ref x7, .ref x8, .ref x9, .ref x10, .int 0, .int 0, .int 0, .int 0, .int 0, .int 0])), (x1, .inr (8, [.ref b1, .int 0, .int 0, .int 0])), (ob, .inl (kl, 1, .inr (.inl fo)))] sz)) 1 6 (va_A [(h0, .inr (11, [.ref x0, .ref x1, .ref x2, .ref x3, .ref x4, .ref x5, .ref x6, .ref x7, .ref x8, .ref x9, .ref x10, .int 0, .int 0, .int 0, .int 0, .int 0, .int 0])), (x1, .inr (8, [.ref b1, .int 0, .int 0, .int 0])), (ob, .inl (kl, 1, .inr (.inl fo)))] sz) := by
  refine va_MetW (cc := cL_out) (maxL := 4) (ret := (some .int)) (hh := [(0, 8, 11, 25)]) (by decide) rfl ?_
  intro p e s m args below meth c s₁ B hml hv
  obtain ⟨rfl, hsz, hP, hK, hD0, hca0, hde0, hde1, hde2, hst0, hUS, hNS⟩ := hv
  have hx := B.exec
  have hb := B.bytes
  have hr := B.returns
  have hts := atoms_spec (ws := wf_L_out) B.pre
  have hown : s.vm.findClass RL = some m.cls := findClass_of_methodNamed B.named
  have hlocks := B.notSynchronized
  have htab := vx_table (x := yL_out) B (hts _ List.mem_cons_self)
  subst hsz
  have hD := hD0.self (sz := s.heap.size)
  generalize hAe : va_A [(h0, .inr (11, [.ref x0, .ref x1, .ref x2, .ref x3, .ref x4, .ref x5, .ref x6, .ref x7, .ref x8, .ref x9, .ref x10, .int 0, .int 0, .int 0, .int 0, .int 0, .int 0])), (x1, .inr (8, [.ref b1, .int 0, .int 0, .int 0])), (ob, .inl (kl, 1, .inr (.inl fo)))] s.heap.size = A at hD hUS hNS ⊢
  have hA : ∀ q : Nat, s.heap.size ≤ q → A q := fun q h => by rw [← hAe]; exact Or.inr h
  have hS : va_S A s.heap s.heap [] := va_S.rf
  have hP : va_P (dC, dI) vwCl [(h0, .inr (11, [.ref x0, .ref x1, .ref x2, .ref x3, .ref x4, .ref x5, .ref x6, .ref x7, .ref x8, .ref x9, .ref x10, .int 0, .int 0, .int 0, .int 0, .int 0, .int 0])), (x1, .inr (8, [.ref b1, .int 0, .int 0, .int 0])), (ob, .inl (kl, 1, .inr (.inl fo)))] s.heap := hP
  have hD : va_D A [(h0, .inr (11, [.ref x0, .ref x1, .ref x2, .ref x3, .ref x4, .ref x5, .ref x6, .ref x7, .ref x8, .ref x9, .ref x10, .int 0, .int 0, .int 0, .int 0, .int 0, .int 0])), (x1, .inr (8, [.ref b1, .int 0, .int 0, .int 0])), (ob, .inl (kl, 1, .inr (.inl fo)))] := hD
  have hl := lv_entry ([.ref h0, .int p1, .ref ob]) (n := 4) (Nat.le_of_ble_eq_true rfl)
  rw [lg_entry_eq]
  generalize (lg_sl ([.ref h0, .int p1, .ref ob]) ++ List.replicate (4 - (lg_sl ([.ref h0, .int p1, .ref ob])).length) Slot.unset).toArray = ls at hl ⊢
  have hl : lv_has ls 4 [(0, .ref h0), (1, .int p1), (2, .ref ob)] := hl
  refine lv_aload_n hx hb dL_out_0 rfl (lv_at hl 2 rfl) ?_
  refine lv_iconst (v := 0) hx hb dL_out_1 (by decide) ?_
  refine lv_aload_n hx hb dL_out_2 rfl (lv_at hl 0 rfl) ?_
  refine lv_iload_n hx hb dL_out_3 rfl (lv_at hl 1 rfl) ?_
  have hPc := hP.sub (ws' := [(h0, .inr (11, [.ref x0, .ref x1, .ref x2, .ref x3, .ref x4, .ref x5, .ref x6, .ref x7, .ref x8, .ref x9, .ref x10, .int 0, .int 0, .int 0, .int 0, .int 0, .int 0])), (x1, .inr (8, [.ref b1, .int 0, .int 0, .int 0]))]) [0, 1] rfl
  have hDc := hD.sub (ws' := [(h0, .inr (11, [.ref x0, .ref x1, .ref x2, .ref x3, .ref x4, .ref x5, .ref x6, .ref x7, .ref x8, .ref x9, .ref x10, .int 0, .int 0, .int 0, .int 0, .int 0, .int 0])), (x1, .inr (8, [.ref b1, .int 0, .int 0, .int 0]))]) [0, 1] (by decide) rfl
  have hKc := hK.sub (tys' := []) [] rfl
  have hFc := va_free (wc := [(h0, .inr (11, [.ref x0, .ref x1, .ref x2, .ref x3, .ref x4, .ref x5, .ref x6, .ref x7, .ref x8, .ref x9, .ref x10, .int 0, .int 0, .int 0, .int 0, .int 0, .int 0])), (x1, .inr (8, [.ref b1, .int 0, .int 0, .int 0]))]) hD hS hA [0, 1] rfl
  refine vx_calll (vx_runV (As := [.int p1]) (rest := [.int 0, .ref ob]) ⟨hx, hb, hml, hown, hts⟩ (c_X11_out_fresh l hlt dC dI h0 x0 x1 x2 x3 x4 x5 x6 x7 x8 x9 x10 b1 p1 sa0 s.heap.size) (cwV 1 hts gf_L_out_0 rfl rfl rfl (by decide +kernel) ⟨Nat.le_of_ble_eq_true rfl, Nat.le_of_ble_eq_true rfl⟩) ⟨fun a U g mk q => by obtain ⟨q0, q1, qP, qK, qD, qC0, qd0, qd1, qd2, qs0, qU, qN⟩ := q; exact ⟨q0, q1, qP, va_K.moved (u := U) (U := U.calling g mk a) (Vm.Alike.refl U.vm) qK, qD, va_Nw.same rfl rfl qC0, va_Nw.same rfl rfl qd0, va_Nw.same rfl rfl qd1, va_Nw.same rfl rfl qd2, vk_R.same rfl qs0, vx_Zq.moved (u := U) (U := U.calling g mk a) (Vm.Alike.refl U.vm) qU, vx_Zq.moved (u := U) (U := U.calling g mk a) (Vm.Alike.refl U.vm) qN⟩, va_recv hKc hPc (ci := 11) (q0 := 0) rfl rfl, fun U hU hW => ⟨rfl, by rw [hU], by rw [hU]; exact hPc, va_K.moved hW.alike hKc, hDc.weaken (fun _ _ _ _ => trivial), va_Nw.warmC hW hca0, va_Nw.warmD hW hde0, va_Nw.warmD hW hde1, va_Nw.warmD hW hde2, vk_R.warm hW hst0, (by rw [hU]; exact ((hUS.moved hW.alike).kept hS.2.1).narrow hFc), (by rw [hU]; exact ((hNS.moved hW.alike).kept hS.2.1).narrow hFc)⟩⟩ rfl rfl hl.1 rfl (lv_room (Nat.le_of_ble_eq_true rfl)) dL_out_4 ⟨Nat.le_of_ble_eq_true rfl, Nat.le_of_ble_eq_true rfl⟩) hS (fun q _ h => hFc q h) hFc (fun q _ h => hFc q h) (fun E ce q9 u t H1 locs ht hvm hw hB hz1 hk1 hS hce hcv hcl => ?_) (fun r_1 u t H1 locs ht hvm hw hB hz1 hk1 hS => ?_)
  · skip
    obtain ⟨hE, hP1, hK1, hD1⟩ := hB
    rw [ht] at hP1
    have hK1 := va_K.moved hvm.symm hK1
    obtain ⟨hP, hD⟩ := va_join (wr := [(ob, .inl (kl, 1, .inr (.inl fo)))]) (w1 := [(h0, .inr (11, [.ref x0, .ref x1, .ref x2, .ref x3, .ref x4, .ref x5, .ref x6, .ref x7, .ref x8, .ref x9, .ref x10, .int 0, .int 0, .int 0, .int 0, .int 0, .int 0])), (x1, .inr (8, [.ref b1, .int 0, .int 0, .int 0]))]) hP hD [0, 1] [2] rfl rfl (by decide) (by decide) hk1 hFc hP1 hD1
    have hK := (hK.sub (tys' := [(kl, .long)]) [0] rfl).app hK1
    subst ht
    generalize t.heap = H at hP hS hce ⊢
    have hP : va_P (dC, dI) vwCl [(ob, .inl (kl, 1, .inr (.inl fo))), (h0, .inr (11, [.ref x0, .ref x1, .ref x2, .ref x3, .ref x4, .ref x5, .ref x6, .ref x7, .ref x8, .ref x9, .ref x10, .int 0, .int 0, .int 0, .int 0, .int 0, .int 0])), (x1, .inr (8, [.ref b1, .int 0, .int 0, .int 0]))] H := hP
    have hD : va_D A [(ob, .inl (kl, 1, .inr (.inl fo))), (h0, .inr (11, [.ref x0, .ref x1, .ref x2, .ref x3, .ref x4, .ref x5, .ref x6, .ref x7, .ref x8, .ref x9, .ref x10, .int 0, .int 0, .int 0, .int 0, .int 0, .int 0])), (x1, .inr (8, [.ref b1, .int 0, .int 0, .int 0]))] := hD
    have hK : va_K (dC, dI) vwCl [(kl, .long)] s := hK
    obtain rfl := hE
    refine vx_catch (own := RL) (name := "java/util/NoSuchElementException") (E := "java/util/NoSuchElementException") hown [] ⟨0, 8, 11, 25⟩ [] (htab.trans rfl) (fun z h => nomatch h) (by decide) (by decide) (hts (.classLink RL 25 "java/util/NoSuchElementException") (by decide +kernel)) (va_Nw.use rfl hca0) hce hcv hcl ?_
    refine W.widen (k := 1) (n := 6) (Nat.le_of_ble_eq_true rfl) (Nat.le_of_ble_eq_true rfl) ?_
    refine lv_astore_n (lv' := [(3, .ref q9), (0, .ref h0), (1, .int p1), (2, .ref ob)]) hx hb dL_out_11 rfl hl (by decide) rfl (fun ls hl => ?_)
    refine lv_iconst (v := 1) hx hb dL_out_12 (by decide) ?_
    have hP9 : va_P (dC, dI) vwCl [(ob, .inl (kl, 1, .inr (.inl fo)))] H := by have h := hP.sub (ws' := [(ob, .inl (kl, 1, .inr (.inl fo)))]) [0] rfl; exact h
    have hD9 : va_D A [(ob, .inl (kl, 1, .inr (.inl fo)))] := by have h := hD.sub (ws' := [(ob, .inl (kl, 1, .inr (.inl fo)))]) [0] (by decide) rfl; exact h
    have hK9 := hK.sub (tys' := [(kl, .long)]) [0] rfl
    refine W.widen (k := 1) (n := 6) (Nat.le_of_ble_eq_true rfl) (Nat.le_of_ble_eq_true rfl) ?_
    exact W.iret (v := 1) hx hb hr (fun t ht hW => ⟨⟨1, 1, rfl, rfl, fo, rfl, by rw [ht]; exact hP9, va_K.moved hW.alike hK9, hAe ▸ hD9⟩, hAe ▸ hS.F ht⟩) (fun q hq => hAe ▸ hS.2.2 q hq) dL_out_13
  obtain rfl : r_1 = u := hw.symm
  obtain ⟨hf_2, hP1, hK1, hD1⟩ := hB
  exact False.elim hf_2
def wo_L_look : List Cond := [.classLink RL 13 "java/lang/IllegalArgumentException"]
def wf_L_look : List Cond := .codeWith yL_look cL_look 4 (some .int) [(0, 9, 12, 13)] :: (wo_L_look ++ (wsV RL 56 RX11 yX11_look wf_X11_look))
set_option maxRecDepth 100000 in
theorem gf_L_look_0 : GoodIn wf_L_look (wsV RL 56 RX11 yX11_look wf_X11_look) := goodIn_sub (fun _ h => (List.mem_cons_of_mem _ (List.mem_append_right _ h))) (by decide +kernel)
set_option maxHeartbeats 4000000 in
set_option maxRecDepth 100000 in
theorem c_L_look_fresh (l : Launch) (hlt : l.stackTraces = false) (dC : Nat → ClassId) (dI : Nat → Nat → Nat) (h0 x0 x1 x2 x3 x4 x5 x6 x7 x8 x9 x10 : Nat) (b0 b1 : Nat) (g1 g2 g3 g4 g5 g6 g7 g8 g9 g10 g11 g12 g13 : Nat) (p1 : Int32) (sa0 : Nat) (ob : Nat) (kl : ClassId) (fo : Nat → Int64) (sz : Nat) : Met l yL_look wf_L_look ({ frames := 7, cells := 1, slots := 6, locals := 111 }) (va_Pc [.ref h0, .int p1, .ref ob] (fun U => U.heap.size = sz ∧ va_P (dC, dI) vwCl [(h0, .inr (11, [.ref x0, .ref x1, .ref x2, .ref x3, .ref x4, .ref x5, .ref x6, .ref x7, .ref x8, .ref x9, .ref x10, .int 0, .int 0, .int 0, .int 0, .int 0, .int 0])), (x0, .inr (8, [.ref b0, .int 0, .int 0, .int 0])), (x1, .inr (8, [.ref b1, .int 0, .int 0, .int 0])), (x9, .inr (6, [.int 0, .ref g1, .ref g2, .ref g3, .ref g4, .ref g5, .ref g6, .ref g7, .ref g8, .ref g9, .ref g10, .ref g11, .ref g12, .ref g13, .int 0, .int 0])), (ob, .inl (kl, 1, .inr (.inl fo)))] U.heap ∧ va_K (dC, dI) vwCl [(kl, .long)] U ∧ va_D (fun _ => True) [(h0, .inr (11, [.ref x0, .ref x1, .ref x2, .ref x3, .ref x4, .ref x5, .ref x6, .ref x7, .ref x8, .ref x9, .ref x10, .int 0, .int 0, .int 0, .int 0, .int 0, .int 0])), (x0, .inr (8, [.ref b0, .int 0, .int 0, .int 0])), (x1, .inr (8, [.ref b1, .int 0, .int 0, .int 0])), (x9, .inr (6, [.int 0, .ref g1, .ref g2, .ref g3, .ref g4, .ref g5, .ref g6, .ref g7, .ref g8, .ref g9, .ref g10, .ref g11, .ref g12, .ref g13, .int 0, .int 0])), (ob, .inl (kl, 1, .inr (.inl fo)))] ∧ va_Nw (.castable "java/lang/IllegalArgumentException" "java/lang/IllegalArgumentException") U ∧ va_Nw (.declares (Bundle.initS "java/lang/RuntimeException")) U ∧ va_Nw (.declares (Bundle.initS "java/lang/Exception")) U ∧ va_Nw (.declares (Bundle.initS Bundle.tN)) U ∧ vk_R RX11 284 "no such question" sa0 U ∧ vx_Zq Bundle.tN "UNASSIGNED_STACK" Bundle.steD (va_A [(h0, .inr (11, [.ref x0, .ref x1, .ref x2, .ref x3, .ref x4, .ref x5, .ref x6, .ref x7, .ref x8, .ref x9, .ref x10, .int 0, .int 0, .int 0, .int 0, .int 0, .int 0])), (x0, .inr (8, [.ref b0, .int 0, .int 0, .int 0])), (x1, .inr (8, [.ref b1, .int 0, .int 0, .int 0])), (x9, .inr (6, [.int 0, .ref g1, .ref g2, .ref g3, .ref g4, .ref g5, .ref g6, .ref g7, .ref g8, .ref g9, .ref g10, .ref g11, .ref g12, .ref g13, .int 0, .int 0])), (ob, .inl (kl, 1, .inr (.inl fo)))] sz) U U.heap ∧ vx_Zq Bundle.tN "SUPPRESSED_SENTINEL" Bundle.listD (va_A [(h0, .inr (11, [.ref x0, .ref x1, .ref x2, .ref x3, .ref x4, .ref x5, .ref x6, .ref x7, .ref x8, .ref x9, .ref x10, .int 0, .int 0, .int 0, .int 0, .int 0, .int 0])), (x0, .inr (8, [.ref b0, .int 0, .int 0, .int 0])), (x1, .inr (8, [.ref b1, .int 0, .int 0, .int 0])), (x9, .inr (6, [.int 0, .ref g1, .ref g2, .ref g3, .ref g4, .ref g5, .ref g6, .ref g7, .ref g8, .ref g9, .ref g10, .ref g11, .ref g12, .ref g13, .int 0, .int 0])), (ob, .inl (kl, 1, .inr (.inl fo)))] sz) U U.heap)) (va_Qi (fun (r u : Int32) => u = r) (fun (r : Int32) (t : State) => ∃ (go : Nat → Int64), ((r = 0 ∧ go 0 = 0 ∧ ¬ p1 < 0 ∧ p1 ≤ 14) ∨ (r = 1 ∧ (p1 < 0 ∨ ¬ p1 ≤ 14))) ∧ va_P (dC, dI) vwCl [(ob, .inl (kl, 1, .inr (.inl go)))] t.heap ∧ va_K (dC, dI) vwCl [(kl, .long)] t ∧ va_D (va_A [(h0, .inr (11, [.ref x0, .ref x1, .ref x2, .ref x3, .ref x4, .ref x5, .ref x6, .ref x7, .ref x8, .ref x9, .ref x10, .int 0, .int 0, .int 0, .int 0, .int 0, .int 0])), (x0, .inr (8, [.ref b0, .int 0, .int 0, .int 0])), (x1, .inr (8, [.ref b1, .int 0, .int 0, .int 0])), (x9, .inr (6, [.int 0, .ref g1, .ref g2, .ref g3, .ref g4, .ref g5, .ref g6, .ref g7, .ref g8, .ref g9, .ref g10, .ref g11, .ref g12, .ref g13, .int 0, .int 0])), (ob, .inl (kl, 1, .inr (.inl fo)))] sz) [(ob, .inl (kl, 1, .inr (.inl go)))]) (va_A [(h0, .inr (11, [.ref x0, .ref x1, .ref x2, .ref x3, .ref x4, .ref x5, .ref x6, .ref x7, .ref x8, .ref x9, .ref x10, .int 0, .int 0, .int 0, .int 0, .int 0, .int 0])), (x0, .inr (8, [.ref b0, .int 0, .int 0, .int 0])), (x1, .inr (8, [.ref b1, .int 0, .int 0, .int 0])), (x9, .inr (6, [.int 0, .ref g1, .ref g2, .ref g3, .ref g4, .ref g5, .ref g6, .ref g7, .ref g8, .ref g9, .ref g10, .ref g11, .ref g12, .ref g13, .int 0, .int 0])), (ob, .inl (kl, 1, .inr (.inl fo)))] sz)) 1 6 (va_A [(h0, .inr (11, [.ref x0, .ref x1, .ref x2, .ref x3, .ref x4, .ref x5, .ref x6, .ref x7, .ref x8, .ref x9, .ref x10, .int 0, .int 0, .int 0, .int 0, .int 0, .int 0])), (x0, .inr (8, [.ref b0, .int 0, .int 0, .int 0])), (x1, .inr (8, [.ref b1, .int 0, .int 0, .int 0])), (x9, .inr (6, [.int 0, .ref g1, .ref g2, .ref g3, .ref g4, .ref g5, .ref g6, .ref g7, .ref g8, .ref g9, .ref g10, .ref g11, .ref g12, .ref g13, .int 0, .int 0])), (ob, .inl (kl, 1, .inr (.inl fo)))] sz) := by
  refine va_MetW (cc := cL_look) (maxL := 4) (ret := (some .int)) (hh := [(0, 9, 12, 13)]) (by decide) rfl ?_
  intro p e s m args below meth c s₁ B hml hv
  obtain ⟨rfl, hsz, hP, hK, hD0, hca0, hde0, hde1, hde2, hst0, hUS, hNS⟩ := hv
  have hx := B.exec
  have hb := B.bytes
  have hr := B.returns
  have hts := atoms_spec (ws := wf_L_look) B.pre
  have hown : s.vm.findClass RL = some m.cls := findClass_of_methodNamed B.named
  have hlocks := B.notSynchronized
  have htab := vx_table (x := yL_look) B (hts _ List.mem_cons_self)
  subst hsz
  have hD := hD0.self (sz := s.heap.size)
  generalize hAe : va_A [(h0, .inr (11, [.ref x0, .ref x1, .ref x2, .ref x3, .ref x4, .ref x5, .ref x6, .ref x7, .ref x8, .ref x9, .ref x10, .int 0, .int 0, .int 0, .int 0, .int 0, .int 0])), (x0, .inr (8, [.ref b0, .int 0, .int 0, .int 0])), (x1, .inr (8, [.ref b1, .int 0, .int 0, .int 0])), (x9, .inr (6, [.int 0, .ref g1, .ref g2, .ref g3, .ref g4, .ref g5, .ref g6, .ref g7, .ref g8, .ref g9, .ref g10, .ref g11, .ref g12, .ref g13, .int 0, .int 0])), (ob, .inl (kl, 1, .inr (.inl fo)))] s.heap.size = A at hD hUS hNS ⊢
  have hA : ∀ q : Nat, s.heap.size ≤ q → A q := fun q h => by rw [← hAe]; exact Or.inr h
  have hS : va_S A s.heap s.heap [] := va_S.rf
  have hP : va_P (dC, dI) vwCl [(h0, .inr (11, [.ref x0, .ref x1, .ref x2, .ref x3, .ref x4, .ref x5, .ref x6, .ref x7, .ref x8, .ref x9, .ref x10, .int 0, .int 0, .int 0, .int 0, .int 0, .int 0])), (x0, .inr (8, [.ref b0, .int 0, .int 0, .int 0])), (x1, .inr (8, [.ref b1, .int 0, .int 0, .int 0])), (x9, .inr (6, [.int 0, .ref g1, .ref g2, .ref g3, .ref g4, .ref g5, .ref g6, .ref g7, .ref g8, .ref g9, .ref g10, .ref g11, .ref g12, .ref g13, .int 0, .int 0])), (ob, .inl (kl, 1, .inr (.inl fo)))] s.heap := hP
  have hD : va_D A [(h0, .inr (11, [.ref x0, .ref x1, .ref x2, .ref x3, .ref x4, .ref x5, .ref x6, .ref x7, .ref x8, .ref x9, .ref x10, .int 0, .int 0, .int 0, .int 0, .int 0, .int 0])), (x0, .inr (8, [.ref b0, .int 0, .int 0, .int 0])), (x1, .inr (8, [.ref b1, .int 0, .int 0, .int 0])), (x9, .inr (6, [.int 0, .ref g1, .ref g2, .ref g3, .ref g4, .ref g5, .ref g6, .ref g7, .ref g8, .ref g9, .ref g10, .ref g11, .ref g12, .ref g13, .int 0, .int 0])), (ob, .inl (kl, 1, .inr (.inl fo)))] := hD
  have hl := lv_entry ([.ref h0, .int p1, .ref ob]) (n := 4) (Nat.le_of_ble_eq_true rfl)
  rw [lg_entry_eq]
  generalize (lg_sl ([.ref h0, .int p1, .ref ob]) ++ List.replicate (4 - (lg_sl ([.ref h0, .int p1, .ref ob])).length) Slot.unset).toArray = ls at hl ⊢
  have hl : lv_has ls 4 [(0, .ref h0), (1, .int p1), (2, .ref ob)] := hl
  refine lv_aload_n hx hb dL_look_0 rfl (lv_at hl 2 rfl) ?_
  refine lv_iconst (v := 0) hx hb dL_look_1 (by decide) ?_
  refine lv_aload_n hx hb dL_look_2 rfl (lv_at hl 0 rfl) ?_
  refine lv_iload_n hx hb dL_look_3 rfl (lv_at hl 1 rfl) ?_
  have hPc := hP.sub (ws' := [(h0, .inr (11, [.ref x0, .ref x1, .ref x2, .ref x3, .ref x4, .ref x5, .ref x6, .ref x7, .ref x8, .ref x9, .ref x10, .int 0, .int 0, .int 0, .int 0, .int 0, .int 0])), (x0, .inr (8, [.ref b0, .int 0, .int 0, .int 0])), (x1, .inr (8, [.ref b1, .int 0, .int 0, .int 0])), (x9, .inr (6, [.int 0, .ref g1, .ref g2, .ref g3, .ref g4, .ref g5, .ref g6, .ref g7, .ref g8, .ref g9, .ref g10, .ref g11, .ref g12, .ref g13, .int 0, .int 0]))]) [0, 1, 2, 3] rfl
  have hDc := hD.sub (ws' := [(h0, .inr (11, [.ref x0, .ref x1, .ref x2, .ref x3, .ref x4, .ref x5, .ref x6, .ref x7, .ref x8, .ref x9, .ref x10, .int 0, .int 0, .int 0, .int 0, .int 0, .int 0])), (x0, .inr (8, [.ref b0, .int 0, .int 0, .int 0])), (x1, .inr (8, [.ref b1, .int 0, .int 0, .int 0])), (x9, .inr (6, [.int 0, .ref g1, .ref g2, .ref g3, .ref g4, .ref g5, .ref g6, .ref g7, .ref g8, .ref g9, .ref g10, .ref g11, .ref g12, .ref g13, .int 0, .int 0]))]) [0, 1, 2, 3] (by decide) rfl
  have hKc := hK.sub (tys' := []) [] rfl
  have hFc := va_free (wc := [(h0, .inr (11, [.ref x0, .ref x1, .ref x2, .ref x3, .ref x4, .ref x5, .ref x6, .ref x7, .ref x8, .ref x9, .ref x10, .int 0, .int 0, .int 0, .int 0, .int 0, .int 0])), (x0, .inr (8, [.ref b0, .int 0, .int 0, .int 0])), (x1, .inr (8, [.ref b1, .int 0, .int 0, .int 0])), (x9, .inr (6, [.int 0, .ref g1, .ref g2, .ref g3, .ref g4, .ref g5, .ref g6, .ref g7, .ref g8, .ref g9, .ref g10, .ref g11, .ref g12, .ref g13, .int 0, .int 0]))]) hD hS hA [0, 1, 2, 3] rfl
  refine vx_calli (vx_runV (As := [.int p1]) (rest := [.int 0, .ref ob]) ⟨hx, hb, hml, hown, hts⟩ (c_X11_look_fresh l hlt dC dI h0 x0 x1 x2 x3 x4 x5 x6 x7 x8 x9 x10 b0 b1 g1 g2 g3 g4 g5 g6 g7 g8 g9 g10 g11 g12 g13 p1 sa0 s.heap.size) (cwV 1 hts gf_L_look_0 rfl rfl rfl (by decide +kernel) ⟨Nat.le_of_ble_eq_true rfl, Nat.le_of_ble_eq_true rfl⟩) ⟨fun a U g mk q => by obtain ⟨q0, q1, qP, qK, qD, qC0, qd0, qd1, qd2, qs0, qU, qN⟩ := q; exact ⟨q0, q1, qP, va_K.moved (u := U) (U := U.calling g mk a) (Vm.Alike.refl U.vm) qK, qD, va_Nw.same rfl rfl qC0, va_Nw.same rfl rfl qd0, va_Nw.same rfl rfl qd1, va_Nw.same rfl rfl qd2, vk_R.same rfl qs0, vx_Zq.moved (u := U) (U := U.calling g mk a) (Vm.Alike.refl U.vm) qU, vx_Zq.moved (u := U) (U := U.calling g mk a) (Vm.Alike.refl U.vm) qN⟩, va_recv hKc hPc (ci := 11) (q0 := 0) rfl rfl, fun U hU hW => ⟨rfl, by rw [hU], by rw [hU]; exact hPc, va_K.moved hW.alike hKc, hDc.weaken (fun _ _ _ _ => trivial), va_Nw.warmC hW hca0, va_Nw.warmD hW hde0, va_Nw.warmD hW hde1, va_Nw.warmD hW hde2, vk_R.warm hW hst0, (by rw [hU]; exact ((hUS.moved hW.alike).kept hS.2.1).narrow hFc), (by rw [hU]; exact ((hNS.moved hW.alike).kept hS.2.1).narrow hFc)⟩⟩ rfl rfl hl.1 rfl (lv_room (Nat.le_of_ble_eq_true rfl)) dL_look_4 ⟨Nat.le_of_ble_eq_true rfl, Nat.le_of_ble_eq_true rfl⟩) hS (fun q _ h => hFc q h) hFc (fun q _ h => hFc q h) (fun E ce q9 u t H1 locs ht hvm hw hB hz1 hk1 hS hce hcv hcl => ?_) (fun r_1 u t H1 locs ht hvm hw hB hz1 hk1 hS => ?_)
  · skip
    obtain ⟨hE, hP1, hK1, hD1⟩ := hB
    rw [ht] at hP1
    have hK1 := va_K.moved hvm.symm hK1
    obtain ⟨hP, hD⟩ := va_join (wr := [(ob, .inl (kl, 1, .inr (.inl fo)))]) (w1 := [(h0, .inr (11, [.ref x0, .ref x1, .ref x2, .ref x3, .ref x4, .ref x5, .ref x6, .ref x7, .ref x8, .ref x9, .ref x10, .int 0, .int 0, .int 0, .int 0, .int 0, .int 0])), (x0, .inr (8, [.ref b0, .int 0, .int 0, .int 0])), (x1, .inr (8, [.ref b1, .int 0, .int 0, .int 0])), (x9, .inr (6, [.int 0, .ref g1, .ref g2, .ref g3, .ref g4, .ref g5, .ref g6, .ref g7, .ref g8, .ref g9, .ref g10, .ref g11, .ref g12, .ref g13, .int 0, .int 0]))]) hP hD [0, 1, 2, 3] [4] rfl rfl (by decide) (by decide) hk1 hFc hP1 hD1
    have hK := (hK.sub (tys' := [(kl, .long)]) [0] rfl).app hK1
    subst ht
    generalize t.heap = H at hP hS hce ⊢
    have hP : va_P (dC, dI) vwCl [(ob, .inl (kl, 1, .inr (.inl fo))), (h0, .inr (11, [.ref x0, .ref x1, .ref x2, .ref x3, .ref x4, .ref x5, .ref x6, .ref x7, .ref x8, .ref x9, .ref x10, .int 0, .int 0, .int 0, .int 0, .int 0, .int 0])), (x0, .inr (8, [.ref b0, .int 0, .int 0, .int 0])), (x1, .inr (8, [.ref b1, .int 0, .int 0, .int 0])), (x9, .inr (6, [.int 0, .ref g1, .ref g2, .ref g3, .ref g4, .ref g5, .ref g6, .ref g7, .ref g8, .ref g9, .ref g10, .ref g11, .ref g12, .ref g13, .int 0, .int 0]))] H := hP
    have hD : va_D A [(ob, .inl (kl, 1, .inr (.inl fo))), (h0, .inr (11, [.ref x0, .ref x1, .ref x2, .ref x3, .ref x4, .ref x5, .ref x6, .ref x7, .ref x8, .ref x9, .ref x10, .int 0, .int 0, .int 0, .int 0, .int 0, .int 0])), (x0, .inr (8, [.ref b0, .int 0, .int 0, .int 0])), (x1, .inr (8, [.ref b1, .int 0, .int 0, .int 0])), (x9, .inr (6, [.int 0, .ref g1, .ref g2, .ref g3, .ref g4, .ref g5, .ref g6, .ref g7, .ref g8, .ref g9, .ref g10, .ref g11, .ref g12, .ref g13, .int 0, .int 0]))] := hD
    have hK : va_K (dC, dI) vwCl [(kl, .long)] s := hK
    obtain ⟨rfl, hE⟩ := hE
    refine vx_catch (own := RL) (name := "java/lang/IllegalArgumentException") (E := "java/lang/IllegalArgumentException") hown [] ⟨0, 9, 12, 13⟩ [] (htab.trans rfl) (fun z h => nomatch h) (by decide) (by decide) (hts (.classLink RL 13 "java/lang/IllegalArgumentException") (by decide +kernel)) (va_Nw.use rfl hca0) hce hcv hcl ?_
    refine W.widen (k := 1) (n := 6) (Nat.le_of_ble_eq_true rfl) (Nat.le_of_ble_eq_true rfl) ?_
    refine lv_astore_n (lv' := [(3, .ref q9), (0, .ref h0), (1, .int p1), (2, .ref ob)]) hx hb dL_look_12 rfl hl (by decide) rfl (fun ls hl => ?_)
    refine lv_iconst (v := 1) hx hb dL_look_13 (by decide) ?_
    have hP9 : va_P (dC, dI) vwCl [(ob, .inl (kl, 1, .inr (.inl fo)))] H := by have h := hP.sub (ws' := [(ob, .inl (kl, 1, .inr (.inl fo)))]) [0] rfl; exact h
    have hD9 : va_D A [(ob, .inl (kl, 1, .inr (.inl fo)))] := by have h := hD.sub (ws' := [(ob, .inl (kl, 1, .inr (.inl fo)))]) [0] (by decide) rfl; exact h
    have hK9 := hK.sub (tys' := [(kl, .long)]) [0] rfl
    refine W.widen (k := 1) (n := 6) (Nat.le_of_ble_eq_true rfl) (Nat.le_of_ble_eq_true rfl) ?_
    exact W.iret (v := 1) hx hb hr (fun t ht hW => ⟨⟨1, 1, rfl, rfl, fo, (Or.inr ⟨rfl, hE⟩), by rw [ht]; exact hP9, va_K.moved hW.alike hK9, hAe ▸ hD9⟩, hAe ▸ hS.F ht⟩) (fun q hq => hAe ▸ hS.2.2 q hq) dL_look_14
  obtain rfl : u = r_1 := hw
  obtain ⟨hr_2, hf_3, hP1, hK1, hD1⟩ := hB
  rw [ht] at hP1
  have hK1 := va_K.moved hvm.symm hK1
  obtain ⟨hP, hD⟩ := va_join (wr := [(ob, .inl (kl, 1, .inr (.inl fo)))]) (w1 := [(h0, .inr (11, [.ref x0, .ref x1, .ref x2, .ref x3, .ref x4, .ref x5, .ref x6, .ref x7, .ref x8, .ref x9, .ref x10, .int 0, .int 0, .int 0, .int 0, .int 0, .int 0])), (x0, .inr (8, [.ref b0, .int 0, .int 0, .int 0])), (x1, .inr (8, [.ref b1, .int 0, .int 0, .int 0])), (x9, .inr (6, [.int 0, .ref g1, .ref g2, .ref g3, .ref g4, .ref g5, .ref g6, .ref g7, .ref g8, .ref g9, .ref g10, .ref g11, .ref g12, .ref g13, .int 0, .int 0]))]) hP hD [0, 1, 2, 3] [4] rfl rfl (by decide) (by decide) hk1 hFc hP1 hD1
  have hK := (hK.sub (tys' := [(kl, .long)]) [0] rfl).app hK1
  generalize H1 = H at hP hS ⊢
  have hP : va_P (dC, dI) vwCl [(ob, .inl (kl, 1, .inr (.inl fo))), (h0, .inr (11, [.ref x0, .ref x1, .ref x2, .ref x3, .ref x4, .ref x5, .ref x6, .ref x7, .ref x8, .ref x9, .ref x10, .int 0, .int 0, .int 0, .int 0, .int 0, .int 0])), (x0, .inr (8, [.ref b0, .int 0, .int 0, .int 0])), (x1, .inr (8, [.ref b1, .int 0, .int 0, .int 0])), (x9, .inr (6, [.int 0, .ref g1, .ref g2, .ref g3, .ref g4, .ref g5, .ref g6, .ref g7, .ref g8, .ref g9, .ref g10, .ref g11, .ref g12, .ref g13, .int 0, .int 0]))] H := hP
  have hD : va_D A [(ob, .inl (kl, 1, .inr (.inl fo))), (h0, .inr (11, [.ref x0, .ref x1, .ref x2, .ref x3, .ref x4, .ref x5, .ref x6, .ref x7, .ref x8, .ref x9, .ref x10, .int 0, .int 0, .int 0, .int 0, .int 0, .int 0])), (x0, .inr (8, [.ref b0, .int 0, .int 0, .int 0])), (x1, .inr (8, [.ref b1, .int 0, .int 0, .int 0])), (x9, .inr (6, [.int 0, .ref g1, .ref g2, .ref g3, .ref g4, .ref g5, .ref g6, .ref g7, .ref g8, .ref g9, .ref g10, .ref g11, .ref g12, .ref g13, .int 0, .int 0]))] := hD
  have hK : va_K (dC, dI) vwCl [(kl, .long)] s := hK
  refine W.widen (k := 1) (n := 6) (Nat.le_of_ble_eq_true rfl) (Nat.le_of_ble_eq_true rfl) ?_
  subst hr_2
  obtain ⟨x_4, ex_4⟩ : ∃ y, y = (0 : Int32).toInt64 := ⟨_, rfl⟩
  refine lv_i2l (v := x_4) hx hb dL_look_7 ex_4.symm ?_
  refine gz_last (0) (by decide) (by decide) rfl hx hb hK hP hD hS 0 0 rfl rfl dL_look_8 (fun H locs hP hD hS => ?_)
  obtain ⟨f_5, ef_5⟩ : ∃ g : Nat → Int64, g = vp_updL fo (0) (x_4) := ⟨_, rfl⟩
  have hP : va_P (dC, dI) vwCl [(ob, .inl (kl, 1, .inr (.inl f_5))), (h0, .inr (11, [.ref x0, .ref x1, .ref x2, .ref x3, .ref x4, .ref x5, .ref x6, .ref x7, .ref x8, .ref x9, .ref x10, .int 0, .int 0, .int 0, .int 0, .int 0, .int 0])), (x0, .inr (8, [.ref b0, .int 0, .int 0, .int 0])), (x1, .inr (8, [.ref b1, .int 0, .int 0, .int 0])), (x9, .inr (6, [.int 0, .ref g1, .ref g2, .ref g3, .ref g4, .ref g5, .ref g6, .ref g7, .ref g8, .ref g9, .ref g10, .ref g11, .ref g12, .ref g13, .int 0, .int 0]))] H := by rw [ef_5]; exact hP
  have hD : va_D A [(ob, .inl (kl, 1, .inr (.inl f_5))), (h0, .inr (11, [.ref x0, .ref x1, .ref x2, .ref x3, .ref x4, .ref x5, .ref x6, .ref x7, .ref x8, .ref x9, .ref x10, .int 0, .int 0, .int 0, .int 0, .int 0, .int 0])), (x0, .inr (8, [.ref b0, .int 0, .int 0, .int 0])), (x1, .inr (8, [.ref b1, .int 0, .int 0, .int 0])), (x9, .inr (6, [.int 0, .ref g1, .ref g2, .ref g3, .ref g4, .ref g5, .ref g6, .ref g7, .ref g8, .ref g9, .ref g10, .ref g11, .ref g12, .ref g13, .int 0, .int 0]))] := by rw [ef_5]; exact hD
  refine lv_goto (tgt := 15) hx hb dL_look_9 (by decide) ?_
  refine lv_iconst (v := 0) hx hb dL_look_15 (by decide) ?_
  have hP9 : va_P (dC, dI) vwCl [(ob, .inl (kl, 1, .inr (.inl f_5)))] H := by have h := hP.sub (ws' := [(ob, .inl (kl, 1, .inr (.inl f_5)))]) [0] rfl; exact h
  have hD9 : va_D A [(ob, .inl (kl, 1, .inr (.inl f_5)))] := by have h := hD.sub (ws' := [(ob, .inl (kl, 1, .inr (.inl f_5)))]) [0] (by decide) rfl; exact h
  have hK9 := hK.sub (tys' := [(kl, .long)]) [0] rfl
  refine W.widen (k := 1) (n := 6) (Nat.le_of_ble_eq_true rfl) (Nat.le_of_ble_eq_true rfl) ?_
  exact W.iret (v := 0) hx hb hr (fun t ht hW => ⟨⟨0, 0, rfl, rfl, f_5, (Or.inl ⟨rfl, by rw [ef_5, ex_4]; rfl, hf_3⟩), by rw [ht]; exact hP9, va_K.moved hW.alike hK9, hAe ▸ hD9⟩, hAe ▸ hS.F ht⟩) (fun q hq => hAe ▸ hS.2.2 q hq) dL_look_16
def wo_L_feed : List Cond := [.classLink RL 13 "java/lang/IllegalArgumentException"]
def wf_L_feed : List Cond := .codeWith yL_feed cL_feed 6 (some .int) [(0, 11, 14, 13), (0, 11, 18, 15)] :: (wo_L_feed ++ (wsV RL 7 RX11 yX11_feed wf_X11_feed))
set_option maxRecDepth 100000 in
theorem gf_L_feed_0 : GoodIn wf_L_feed (wsV RL 7 RX11 yX11_feed wf_X11_feed) := goodIn_sub (fun _ h => (List.mem_cons_of_mem _ (List.mem_append_right _ h))) (by decide +kernel)
set_option maxHeartbeats 4000000 in
set_option maxRecDepth 100000 in
theorem c_L_feed_fresh (l : Launch) (hlt : l.stackTraces = false) (dC : Nat → ClassId) (dI : Nat → Nat → Nat) (h0 x0 x1 x2 x3 x4 x5 x6 x7 x8 x9 x10 : Nat) (b0 : Nat) (k0 : ClassId) (p1 : Int32) (p2 : Int64) (sa0 sa1 : Nat) (ob : Nat) (kl : ClassId) (fo : Nat → Int64) (sz : Nat) : Met l yL_feed wf_L_feed ({ frames := 7, cells := 1, slots := 6, locals := 114 }) (va_Pc [.ref h0, .int p1, .long p2, .ref ob] (fun U => U.heap.size = sz ∧ va_P (dC, dI) vwCl [(h0, .inr (11, [.ref x0, .ref x1, .ref x2, .ref x3, .ref x4, .ref x5, .ref x6, .ref x7, .ref x8, .ref x9, .ref x10, .int 0, .int 0, .int 0, .int 0, .int 0, .int 0])), (x0, .inr (8, [.ref b0, .int 0, .int 0, .int 0])), (b0, .inl (k0, 8192, .inl (fun _ => 0))), (ob, .inl (kl, 1, .inr (.inl fo)))] U.heap ∧ va_K (dC, dI) vwCl [(k0, .byte), (kl, .long)] U ∧ va_D (fun _ => True) [(h0, .inr (11, [.ref x0, .ref x1, .ref x2, .ref x3, .ref x4, .ref x5, .ref x6, .ref x7, .ref x8, .ref x9, .ref x10, .int 0, .int 0, .int 0, .int 0, .int 0, .int 0])), (x0, .inr (8, [.ref b0, .int 0, .int 0, .int 0])), (b0, .inl (k0, 8192, .inl (fun _ => 0))), (ob, .inl (kl, 1, .inr (.inl fo)))] ∧ va_Nw (.castable "java/lang/IllegalArgumentException" "java/lang/IllegalArgumentException") U ∧ va_Nw (.castable "java/lang/IllegalStateException" "java/lang/IllegalStateException") U ∧ va_Nw (.declares (Bundle.initS "java/lang/RuntimeException")) U ∧ va_Nw (.declares (Bundle.initS "java/lang/Exception")) U ∧ va_Nw (.declares (Bundle.initS Bundle.tN)) U ∧ vk_R RX11 80 "1 to 8 bytes are fed" sa0 U ∧ vk_R RX11 91 "the tape is full" sa1 U ∧ vx_Zq Bundle.tN "UNASSIGNED_STACK" Bundle.steD (va_A [(h0, .inr (11, [.ref x0, .ref x1, .ref x2, .ref x3, .ref x4, .ref x5, .ref x6, .ref x7, .ref x8, .ref x9, .ref x10, .int 0, .int 0, .int 0, .int 0, .int 0, .int 0])), (x0, .inr (8, [.ref b0, .int 0, .int 0, .int 0])), (b0, .inl (k0, 8192, .inl (fun _ => 0))), (ob, .inl (kl, 1, .inr (.inl fo)))] sz) U U.heap ∧ vx_Zq Bundle.tN "SUPPRESSED_SENTINEL" Bundle.listD (va_A [(h0, .inr (11, [.ref x0, .ref x1, .ref x2, .ref x3, .ref x4, .ref x5, .ref x6, .ref x7, .ref x8, .ref x9, .ref x10, .int 0, .int 0, .int 0, .int 0, .int 0, .int 0])), (x0, .inr (8, [.ref b0, .int 0, .int 0, .int 0])), (b0, .inl (k0, 8192, .inl (fun _ => 0))), (ob, .inl (kl, 1, .inr (.inl fo)))] sz) U U.heap)) (va_Qi (fun (r u : Int32) => u = r) (fun (r : Int32) (t : State) => ∃ (go : Nat → Int64), ((r = 0 ∧ go 0 = p1.toInt64 ∧ ¬ p1 < 1 ∧ p1 ≤ 8) ∨ (r = 1 ∧ (p1 < 1 ∨ ¬ p1 ≤ 8))) ∧ va_P (dC, dI) vwCl [(ob, .inl (kl, 1, .inr (.inl go)))] t.heap ∧ va_K (dC, dI) vwCl [(kl, .long)] t ∧ va_D (va_A [(h0, .inr (11, [.ref x0, .ref x1, .ref x2, .ref x3, .ref x4, .ref x5, .ref x6, .ref x7, .ref x8, .ref x9, .ref x10, .int 0, .int 0, .int 0, .int 0, .int 0, .int 0])), (x0, .inr (8, [.ref b0, .int 0, .int 0, .int 0])), (b0, .inl (k0, 8192, .inl (fun _ => 0))), (ob, .inl (kl, 1, .inr (.inl fo)))] sz) [(ob, .inl (kl, 1, .inr (.inl go)))]) (va_A [(h0, .inr (11, [.ref x0, .ref x1, .ref x2, .ref x3, .ref x4, .ref x5, .ref x6, .ref x7, .ref x8, .ref x9, .ref x10, .int 0, .int 0, .int 0, .int 0, .int 0, .int 0])), (x0, .inr (8, [.ref b0, .int 0, .int 0, .int 0])), (b0, .inl (k0, 8192, .inl (fun _ => 0))), (ob, .inl (kl, 1, .inr (.inl fo)))] sz)) 1 6 (va_A [(h0, .inr (11, [.ref x0, .ref x1, .ref x2, .ref x3, .ref x4, .ref x5, .ref x6, .ref x7, .ref x8, .ref x9, .ref x10, .int 0, .int 0, .int 0, .int 0, .int 0, .int 0])), (x0, .inr (8, [.ref b0, .int 0, .int 0, .int 0])), (b0, .inl (k0, 8192, .inl (fun _ => 0))), (ob, .inl (kl, 1, .inr (.inl fo)))] sz) := by
  refine va_MetW (cc := cL_feed) (maxL := 6) (ret := (some .int)) (hh := [(0, 11, 14, 13), (0, 11, 18, 15)]) (by decide) rfl ?_
  intro p e s m args below meth c s₁ B hml hv
  obtain ⟨rfl, hsz, hP, hK, hD0, hca0, hca1, hde0, hde1, hde2, hst0, hst1, hUS, hNS⟩ := hv
  have hx := B.exec
  have hb := B.bytes
  have hr := B.returns
  have hts := atoms_spec (ws := wf_L_feed) B.pre
  have hown : s.vm.findClass RL = some m.cls := findClass_of_methodNamed B.named
  have hlocks := B.notSynchronized
  have htab := vx_table (x := yL_feed) B (hts _ List.mem_cons_self)
  subst hsz
  have hD := hD0.self (sz := s.heap.size)
  generalize hAe : va_A [(h0, .inr (11, [.ref x0, .ref x1, .ref x2, .ref x3, .ref x4, .ref x5, .ref x6, .ref x7, .ref x8, .ref x9, .ref x10, .int 0, .int 0, .int 0, .int 0, .int 0, .int 0])), (x0, .inr (8, [.ref b0, .int 0, .int 0, .int 0])), (b0, .inl (k0, 8192, .inl (fun _ => 0))), (ob, .inl (kl, 1, .inr (.inl fo)))] s.heap.size = A at hD hUS hNS ⊢
  have hA : ∀ q : Nat, s.heap.size ≤ q → A q := fun q h => by rw [← hAe]; exact Or.inr h
  have hS : va_S A s.heap s.heap [] := va_S.rf
  have hP : va_P (dC, dI) vwCl [(h0, .inr (11, [.ref x0, .ref x1, .ref x2, .ref x3, .ref x4, .ref x5, .ref x6, .ref x7, .ref x8, .ref x9, .ref x10, .int 0, .int 0, .int 0, .int 0, .int 0, .int 0])), (x0, .inr (8, [.ref b0, .int 0, .int 0, .int 0])), (b0, .inl (k0, 8192, .inl (fun _ => 0))), (ob, .inl (kl, 1, .inr (.inl fo)))] s.heap := hP
  have hD : va_D A [(h0, .inr (11, [.ref x0, .ref x1, .ref x2, .ref x3, .ref x4, .ref x5, .ref x6, .ref x7, .ref x8, .ref x9, .ref x10, .int 0, .int 0, .int 0, .int 0, .int 0, .int 0])), (x0, .inr (8, [.ref b0, .int 0, .int 0, .int 0])), (b0, .inl (k0, 8192, .inl (fun _ => 0))), (ob, .inl (kl, 1, .inr (.inl fo)))] := hD
  have hl := lv_entry ([.ref h0, .int p1, .long p2, .ref ob]) (n := 6) (Nat.le_of_ble_eq_true rfl)
  rw [lg_entry_eq]
  generalize (lg_sl ([.ref h0, .int p1, .long p2, .ref ob]) ++ List.replicate (6 - (lg_sl ([.ref h0, .int p1, .long p2, .ref ob])).length) Slot.unset).toArray = ls at hl ⊢
  have hl : lv_has ls 6 [(0, .ref h0), (1, .int p1), (2, .long p2), (4, .ref ob)] := hl
  refine lv_aload hx hb dL_feed_0 (lv_at hl 3 rfl) ?_
  refine lv_iconst (v := 0) hx hb dL_feed_2 (by decide) ?_
  refine lv_aload_n hx hb dL_feed_3 rfl (lv_at hl 0 rfl) ?_
  refine lv_iload_n hx hb dL_feed_4 rfl (lv_at hl 1 rfl) ?_
  refine lv_lload_n hx hb dL_feed_5 rfl (lv_at hl 2 rfl) ?_
  have hPc := hP.sub (ws' := [(h0, .inr (11, [.ref x0, .ref x1, .ref x2, .ref x3, .ref x4, .ref x5, .ref x6, .ref x7, .ref x8, .ref x9, .ref x10, .int 0, .int 0, .int 0, .int 0, .int 0, .int 0])), (x0, .inr (8, [.ref b0, .int 0, .int 0, .int 0])), (b0, .inl (k0, 8192, .inl (fun _ => 0)))]) [0, 1, 2] rfl
  have hDc := hD.sub (ws' := [(h0, .inr (11, [.ref x0, .ref x1, .ref x2, .ref x3, .ref x4, .ref x5, .ref x6, .ref x7, .ref x8, .ref x9, .ref x10, .int 0, .int 0, .int 0, .int 0, .int 0, .int 0])), (x0, .inr (8, [.ref b0, .int 0, .int 0, .int 0])), (b0, .inl (k0, 8192, .inl (fun _ => 0)))]) [0, 1, 2] (by decide) rfl
  have hKc := hK.sub (tys' := [(k0, .byte)]) [0] rfl
  have hFc := va_free (wc := [(h0, .inr (11, [.ref x0, .ref x1, .ref x2, .ref x3, .ref x4, .ref x5, .ref x6, .ref x7, .ref x8, .ref x9, .ref x10, .int 0, .int 0, .int 0, .int 0, .int 0, .int 0])), (x0, .inr (8, [.ref b0, .int 0, .int 0, .int 0])), (b0, .inl (k0, 8192, .inl (fun _ => 0)))]) hD hS hA [0, 1, 2] rfl
  refine vx_calli (vx_runV (As := [.int p1, .long p2]) (rest := [.int 0, .ref ob]) ⟨hx, hb, hml, hown, hts⟩ (c_X11_feed_fresh l hlt dC dI h0 x0 x1 x2 x3 x4 x5 x6 x7 x8 x9 x10 b0 k0 p1 p2 sa0 sa1 s.heap.size) (cwV 2 hts gf_L_feed_0 rfl rfl rfl (by decide +kernel) ⟨Nat.le_of_ble_eq_true rfl, Nat.le_of_ble_eq_true rfl⟩) ⟨fun a U g mk q => by obtain ⟨q0, q1, qP, qK, qD, qC0, qC1, qd0, qd1, qd2, qs0, qs1, qU, qN⟩ := q; exact ⟨q0, q1, qP, va_K.moved (u := U) (U := U.calling g mk a) (Vm.Alike.refl U.vm) qK, qD, va_Nw.same rfl rfl qC0, va_Nw.same rfl rfl qC1, va_Nw.same rfl rfl qd0, va_Nw.same rfl rfl qd1, va_Nw.same rfl rfl qd2, vk_R.same rfl qs0, vk_R.same rfl qs1, vx_Zq.moved (u := U) (U := U.calling g mk a) (Vm.Alike.refl U.vm) qU, vx_Zq.moved (u := U) (U := U.calling g mk a) (Vm.Alike.refl U.vm) qN⟩, va_recv hKc hPc (ci := 11) (q0 := 0) rfl rfl, fun U hU hW => ⟨rfl, by rw [hU], by rw [hU]; exact hPc, va_K.moved hW.alike hKc, hDc.weaken (fun _ _ _ _ => trivial), va_Nw.warmC hW hca0, va_Nw.warmC hW hca1, va_Nw.warmD hW hde0, va_Nw.warmD hW hde1, va_Nw.warmD hW hde2, vk_R.warm hW hst0, vk_R.warm hW hst1, (by rw [hU]; exact ((hUS.moved hW.alike).kept hS.2.1).narrow hFc), (by rw [hU]; exact ((hNS.moved hW.alike).kept hS.2.1).narrow hFc)⟩⟩ rfl rfl hl.1 rfl (lv_room (Nat.le_of_ble_eq_true rfl)) dL_feed_6 ⟨Nat.le_of_ble_eq_true rfl, Nat.le_of_ble_eq_true rfl⟩) hS (fun q _ h => hFc q h) hFc (fun q _ h => hFc q h) (fun E ce q9 u t H1 locs ht hvm hw hB hz1 hk1 hS hce hcv hcl => ?_) (fun r_1 u t H1 locs ht hvm hw hB hz1 hk1 hS => ?_)
  · skip
    obtain ⟨hE, hP1, hK1, hD1⟩ := hB
    rw [ht] at hP1
    have hK1 := va_K.moved hvm.symm hK1
    obtain ⟨hP, hD⟩ := va_join (wr := [(ob, .inl (kl, 1, .inr (.inl fo)))]) (w1 := [(h0, .inr (11, [.ref x0, .ref x1, .ref x2, .ref x3, .ref x4, .ref x5, .ref x6, .ref x7, .ref x8, .ref x9, .ref x10, .int 0, .int 0, .int 0, .int 0, .int 0, .int 0])), (x0, .inr (8, [.ref b0, .int 0, .int 0, .int 0])), (b0, .inl (k0, 8192, .inl (fun _ => 0)))]) hP hD [0, 1, 2] [3] rfl rfl (by decide) (by decide) hk1 hFc hP1 hD1
    have hK := (hK.sub (tys' := [(kl, .long)]) [1] rfl).app hK1
    subst ht
    generalize t.heap = H at hP hS hce ⊢
    have hP : va_P (dC, dI) vwCl [(ob, .inl (kl, 1, .inr (.inl fo))), (h0, .inr (11, [.ref x0, .ref x1, .ref x2, .ref x3, .ref x4, .ref x5, .ref x6, .ref x7, .ref x8, .ref x9, .ref x10, .int 0, .int 0, .int 0, .int 0, .int 0, .int 0])), (x0, .inr (8, [.ref b0, .int 0, .int 0, .int 0])), (b0, .inl (k0, 8192, .inl (fun _ => 0)))] H := hP
    have hD : va_D A [(ob, .inl (kl, 1, .inr (.inl fo))), (h0, .inr (11, [.ref x0, .ref x1, .ref x2, .ref x3, .ref x4, .ref x5, .ref x6, .ref x7, .ref x8, .ref x9, .ref x10, .int 0, .int 0, .int 0, .int 0, .int 0, .int 0])), (x0, .inr (8, [.ref b0, .int 0, .int 0, .int 0])), (b0, .inl (k0, 8192, .inl (fun _ => 0)))] := hD
    have hK : va_K (dC, dI) vwCl [(kl, .long), (k0, .byte)] s := hK
    obtain ⟨rfl, hE⟩ := hE
    refine vx_catch (own := RL) (name := "java/lang/IllegalArgumentException") (E := "java/lang/IllegalArgumentException") hown [] ⟨0, 11, 14, 13⟩ [⟨0, 11, 18, 15⟩] (htab.trans rfl) (fun z h => nomatch h) (by decide) (by decide) (hts (.classLink RL 13 "java/lang/IllegalArgumentException") (by decide +kernel)) (va_Nw.use rfl hca0) hce hcv hcl ?_
    refine W.widen (k := 1) (n := 6) (Nat.le_of_ble_eq_true rfl) (Nat.le_of_ble_eq_true rfl) ?_
    refine lv_astore (lv' := [(5, .ref q9), (0, .ref h0), (1, .int p1), (2, .long p2), (4, .ref ob)]) hx hb dL_feed_14 hl (by decide) rfl (fun ls hl => ?_)
    refine lv_iconst (v := 1) hx hb dL_feed_16 (by decide) ?_
    have hP9 : va_P (dC, dI) vwCl [(ob, .inl (kl, 1, .inr (.inl fo)))] H := by have h := hP.sub (ws' := [(ob, .inl (kl, 1, .inr (.inl fo)))]) [0] rfl; exact h
    have hD9 : va_D A [(ob, .inl (kl, 1, .inr (.inl fo)))] := by have h := hD.sub (ws' := [(ob, .inl (kl, 1, .inr (.inl fo)))]) [0] (by decide) rfl; exact h
    have hK9 := hK.sub (tys' := [(kl, .long)]) [0] rfl
    refine W.widen (k := 1) (n := 6) (Nat.le_of_ble_eq_true rfl) (Nat.le_of_ble_eq_true rfl) ?_
    exact W.iret (v := 1) hx hb hr (fun t ht hW => ⟨⟨1, 1, rfl, rfl, fo, (Or.inr ⟨rfl, hE⟩), by rw [ht]; exact hP9, va_K.moved hW.alike hK9, hAe ▸ hD9⟩, hAe ▸ hS.F ht⟩) (fun q hq => hAe ▸ hS.2.2 q hq) dL_feed_17
  obtain rfl : r_1 = u := hw.symm
  obtain ⟨hr_2, hf_3, hP1, hK1, hD1⟩ := hB
  rw [ht] at hP1
  have hK1 := va_K.moved hvm.symm hK1
  obtain ⟨hP, hD⟩ := va_join (wr := [(ob, .inl (kl, 1, .inr (.inl fo)))]) (w1 := []) hP hD [0, 1, 2] [3] rfl rfl (by decide) (by decide) hk1 hFc hP1 hD1
  have hK := (hK.sub (tys' := [(kl, .long)]) [1] rfl).app hK1
  generalize H1 = H at hP hS ⊢
  have hP : va_P (dC, dI) vwCl [(ob, .inl (kl, 1, .inr (.inl fo)))] H := hP
  have hD : va_D A [(ob, .inl (kl, 1, .inr (.inl fo)))] := hD
  have hK : va_K (dC, dI) vwCl [(kl, .long)] s := hK
  refine W.widen (k := 1) (n := 6) (Nat.le_of_ble_eq_true rfl) (Nat.le_of_ble_eq_true rfl) ?_
  obtain ⟨x_4, ex_4⟩ : ∃ y, y = r_1.toInt64 := ⟨_, rfl⟩
  refine lv_i2l (v := x_4) hx hb dL_feed_9 ex_4.symm ?_
  refine gz_last (0) (by decide) (by decide) rfl hx hb hK hP hD hS 0 0 rfl rfl dL_feed_10 (fun H locs hP hD hS => ?_)
  obtain ⟨f_5, ef_5⟩ : ∃ g : Nat → Int64, g = vp_updL fo (0) (x_4) := ⟨_, rfl⟩
  have hP : va_P (dC, dI) vwCl [(ob, .inl (kl, 1, .inr (.inl f_5)))] H := by rw [ef_5]; exact hP
  have hD : va_D A [(ob, .inl (kl, 1, .inr (.inl f_5)))] := by rw [ef_5]; exact hD
  refine lv_goto (tgt := 22) hx hb dL_feed_11 (by decide) ?_
  refine lv_iconst (v := 0) hx hb dL_feed_22 (by decide) ?_
  have hP9 : va_P (dC, dI) vwCl [(ob, .inl (kl, 1, .inr (.inl f_5)))] H := by have h := hP.sub (ws' := [(ob, .inl (kl, 1, .inr (.inl f_5)))]) [0] rfl; exact h
  have hD9 : va_D A [(ob, .inl (kl, 1, .inr (.inl f_5)))] := by have h := hD.sub (ws' := [(ob, .inl (kl, 1, .inr (.inl f_5)))]) [0] (by decide) rfl; exact h
  have hK9 := hK.sub (tys' := [(kl, .long)]) [0] rfl
  refine W.widen (k := 1) (n := 6) (Nat.le_of_ble_eq_true rfl) (Nat.le_of_ble_eq_true rfl) ?_
  exact W.iret (v := 0) hx hb hr (fun t ht hW => ⟨⟨0, 0, rfl, rfl, f_5, (Or.inl ⟨rfl, by rw [ef_5, ex_4, hr_2]; rfl, hf_3⟩), by rw [ht]; exact hP9, va_K.moved hW.alike hK9, hAe ▸ hD9⟩, hAe ▸ hS.F ht⟩) (fun q hq => hAe ▸ hS.2.2 q hq) dL_feed_23
def wo_L_run : List Cond := [.classLink RL 13 "java/lang/IllegalArgumentException", .classLink RL 15 "java/lang/IllegalStateException"]
def wf_L_run : List Cond := .codeWith yL_run cL_run 6 (some .int) [(0, 12, 15, 13), (0, 12, 19, 15)] :: (wo_L_run ++ (wsV RL 17 RX11 yX11_run wf_X11_run))
set_option maxRecDepth 100000 in
theorem gf_L_run_0 : GoodIn wf_L_run (wsV RL 17 RX11 yX11_run wf_X11_run) := goodIn_sub (fun _ h => (List.mem_cons_of_mem _ (List.mem_append_right _ h))) (by decide +kernel)
set_option maxHeartbeats 4000000 in
set_option maxRecDepth 100000 in
theorem c_L_run_fresh (l : Launch) (hlt : l.stackTraces = false) (dC : Nat → ClassId) (dI : Nat → Nat → Nat) (h0 x0 x1 x2 x3 x4 x5 x6 x7 x8 x9 x10 : Nat) (g1 g2 g3 g4 g5 g6 g7 g8 g9 g10 g11 g12 g13 : Nat) (p1 p2 p3 : Int32) (sa0 sa1 : Nat) (ob : Nat) (kl : ClassId) (fo : Nat → Int64) (sz : Nat) : Met l yL_run wf_L_run ({ frames := 7, cells := 1, slots := 6, locals := 114 }) (va_Pc [.ref h0, .int p1, .int p2, .int p3, .ref ob] (fun U => U.heap.size = sz ∧ va_P (dC, dI) vwCl [(h0, .inr (11, [.ref x0, .ref x1, .ref x2, .ref x3, .ref x4, .ref x5, .ref x6, .ref x7, .ref x8, .ref x9, .ref x10, .int 0, .int 0, .int 0, .int 0, .int 0, .int 0])), (x9, .inr (6, [.int 0, .ref g1, .ref g2, .ref g3, .ref g4, .ref g5, .ref g6, .ref g7, .ref g8, .ref g9, .ref g10, .ref g11, .ref g12, .ref g13, .int 0, .int 0])), (ob, .inl (kl, 1, .inr (.inl fo)))] U.heap ∧ va_K (dC, dI) vwCl [(kl, .long)] U ∧ va_D (fun _ => True) [(h0, .inr (11, [.ref x0, .ref x1, .ref x2, .ref x3, .ref x4, .ref x5, .ref x6, .ref x7, .ref x8, .ref x9, .ref x10, .int 0, .int 0, .int 0, .int 0, .int 0, .int 0])), (x9, .inr (6, [.int 0, .ref g1, .ref g2, .ref g3, .ref g4, .ref g5, .ref g6, .ref g7, .ref g8, .ref g9, .ref g10, .ref g11, .ref g12, .ref g13, .int 0, .int 0])), (ob, .inl (kl, 1, .inr (.inl fo)))] ∧ va_Nw (.castable "java/lang/IllegalArgumentException" "java/lang/IllegalArgumentException") U ∧ va_Nw (.castable "java/lang/IllegalStateException" "java/lang/IllegalStateException") U ∧ va_Nw (.declares (Bundle.initS "java/lang/RuntimeException")) U ∧ va_Nw (.declares (Bundle.initS "java/lang/Exception")) U ∧ va_Nw (.declares (Bundle.initS Bundle.tN)) U ∧ vk_R RX11 117 "steps and cells are 1 or more" sa0 U ∧ vk_R RX11 122 "there is no program" sa1 U ∧ vx_Zq Bundle.tN "UNASSIGNED_STACK" Bundle.steD (va_A [(h0, .inr (11, [.ref x0, .ref x1, .ref x2, .ref x3, .ref x4, .ref x5, .ref x6, .ref x7, .ref x8, .ref x9, .ref x10, .int 0, .int 0, .int 0, .int 0, .int 0, .int 0])), (x9, .inr (6, [.int 0, .ref g1, .ref g2, .ref g3, .ref g4, .ref g5, .ref g6, .ref g7, .ref g8, .ref g9, .ref g10, .ref g11, .ref g12, .ref g13, .int 0, .int 0])), (ob, .inl (kl, 1, .inr (.inl fo)))] sz) U U.heap ∧ vx_Zq Bundle.tN "SUPPRESSED_SENTINEL" Bundle.listD (va_A [(h0, .inr (11, [.ref x0, .ref x1, .ref x2, .ref x3, .ref x4, .ref x5, .ref x6, .ref x7, .ref x8, .ref x9, .ref x10, .int 0, .int 0, .int 0, .int 0, .int 0, .int 0])), (x9, .inr (6, [.int 0, .ref g1, .ref g2, .ref g3, .ref g4, .ref g5, .ref g6, .ref g7, .ref g8, .ref g9, .ref g10, .ref g11, .ref g12, .ref g13, .int 0, .int 0])), (ob, .inl (kl, 1, .inr (.inl fo)))] sz) U U.heap ∧ va_Nc "java/lang/IllegalStateException" "java/lang/IllegalArgumentException" U)) (va_Qi (fun (r u : Int32) => u = r) (fun (r : Int32) (t : State) => ∃ (go : Nat → Int64), ((r = 1 ∧ (p1 < 1 ∨ ¬ 1 ≤ p2)) ∨ (r = 2 ∧ ¬ p1 < 1 ∧ 1 ≤ p2)) ∧ va_P (dC, dI) vwCl [(ob, .inl (kl, 1, .inr (.inl go)))] t.heap ∧ va_K (dC, dI) vwCl [(kl, .long)] t ∧ va_D (va_A [(h0, .inr (11, [.ref x0, .ref x1, .ref x2, .ref x3, .ref x4, .ref x5, .ref x6, .ref x7, .ref x8, .ref x9, .ref x10, .int 0, .int 0, .int 0, .int 0, .int 0, .int 0])), (x9, .inr (6, [.int 0, .ref g1, .ref g2, .ref g3, .ref g4, .ref g5, .ref g6, .ref g7, .ref g8, .ref g9, .ref g10, .ref g11, .ref g12, .ref g13, .int 0, .int 0])), (ob, .inl (kl, 1, .inr (.inl fo)))] sz) [(ob, .inl (kl, 1, .inr (.inl go)))]) (va_A [(h0, .inr (11, [.ref x0, .ref x1, .ref x2, .ref x3, .ref x4, .ref x5, .ref x6, .ref x7, .ref x8, .ref x9, .ref x10, .int 0, .int 0, .int 0, .int 0, .int 0, .int 0])), (x9, .inr (6, [.int 0, .ref g1, .ref g2, .ref g3, .ref g4, .ref g5, .ref g6, .ref g7, .ref g8, .ref g9, .ref g10, .ref g11, .ref g12, .ref g13, .int 0, .int 0])), (ob, .inl (kl, 1, .inr (.inl fo)))] sz)) 1 6 (va_A [(h0, .inr (11, [.ref x0, .ref x1, .ref x2, .ref x3, .ref x4, .ref x5, .ref x6, .ref x7, .ref x8, .ref x9, .ref x10, .int 0, .int 0, .int 0, .int 0, .int 0, .int 0])), (x9, .inr (6, [.int 0, .ref g1, .ref g2, .ref g3, .ref g4, .ref g5, .ref g6, .ref g7, .ref g8, .ref g9, .ref g10, .ref g11, .ref g12, .ref g13, .int 0, .int 0])), (ob, .inl (kl, 1, .inr (.inl fo)))] sz) := by
  refine va_MetW (cc := cL_run) (maxL := 6) (ret := (some .int)) (hh := [(0, 12, 15, 13), (0, 12, 19, 15)]) (by decide) rfl ?_
  intro p e s m args below meth c s₁ B hml hv
  obtain ⟨rfl, hsz, hP, hK, hD0, hca0, hca1, hde0, hde1, hde2, hst0, hst1, hUS, hNS, hnc0⟩ := hv
  have hx := B.exec
  have hb := B.bytes
  have hr := B.returns
  have hts := atoms_spec (ws := wf_L_run) B.pre
  have hown : s.vm.findClass RL = some m.cls := findClass_of_methodNamed B.named
  have hlocks := B.notSynchronized
  have htab := vx_table (x := yL_run) B (hts _ List.mem_cons_self)
  subst hsz
  have hD := hD0.self (sz := s.heap.size)
  generalize hAe : va_A [(h0, .inr (11, [.ref x0, .ref x1, .ref x2, .ref x3, .ref x4, .ref x5, .ref x6, .ref x7, .ref x8, .ref x9, .ref x10, .int 0, .int 0, .int 0, .int 0, .int 0, .int 0])), (x9, .inr (6, [.int 0, .ref g1, .ref g2, .ref g3, .ref g4, .ref g5, .ref g6, .ref g7, .ref g8, .ref g9, .ref g10, .ref g11, .ref g12, .ref g13, .int 0, .int 0])), (ob, .inl (kl, 1, .inr (.inl fo)))] s.heap.size = A at hD hUS hNS ⊢
  have hA : ∀ q : Nat, s.heap.size ≤ q → A q := fun q h => by rw [← hAe]; exact Or.inr h
  have hS : va_S A s.heap s.heap [] := va_S.rf
  have hP : va_P (dC, dI) vwCl [(h0, .inr (11, [.ref x0, .ref x1, .ref x2, .ref x3, .ref x4, .ref x5, .ref x6, .ref x7, .ref x8, .ref x9, .ref x10, .int 0, .int 0, .int 0, .int 0, .int 0, .int 0])), (x9, .inr (6, [.int 0, .ref g1, .ref g2, .ref g3, .ref g4, .ref g5, .ref g6, .ref g7, .ref g8, .ref g9, .ref g10, .ref g11, .ref g12, .ref g13, .int 0, .int 0])), (ob, .inl (kl, 1, .inr (.inl fo)))] s.heap := hP
  have hD : va_D A [(h0, .inr (11, [.ref x0, .ref x1, .ref x2, .ref x3, .ref x4, .ref x5, .ref x6, .ref x7, .ref x8, .ref x9, .ref x10, .int 0, .int 0, .int 0, .int 0, .int 0, .int 0])), (x9, .inr (6, [.int 0, .ref g1, .ref g2, .ref g3, .ref g4, .ref g5, .ref g6, .ref g7, .ref g8, .ref g9, .ref g10, .ref g11, .ref g12, .ref g13, .int 0, .int 0])), (ob, .inl (kl, 1, .inr (.inl fo)))] := hD
  have hl := lv_entry ([.ref h0, .int p1, .int p2, .int p3, .ref ob]) (n := 6) (Nat.le_of_ble_eq_true rfl)
  rw [lg_entry_eq]
  generalize (lg_sl ([.ref h0, .int p1, .int p2, .int p3, .ref ob]) ++ List.replicate (6 - (lg_sl ([.ref h0, .int p1, .int p2, .int p3, .ref ob])).length) Slot.unset).toArray = ls at hl ⊢
  have hl : lv_has ls 6 [(0, .ref h0), (1, .int p1), (2, .int p2), (3, .int p3), (4, .ref ob)] := hl
  refine lv_aload hx hb dL_run_0 (lv_at hl 4 rfl) ?_
  refine lv_iconst (v := 0) hx hb dL_run_2 (by decide) ?_
  refine lv_aload_n hx hb dL_run_3 rfl (lv_at hl 0 rfl) ?_
  refine lv_iload_n hx hb dL_run_4 rfl (lv_at hl 1 rfl) ?_
  refine lv_iload_n hx hb dL_run_5 rfl (lv_at hl 2 rfl) ?_
  refine lv_iload_n hx hb dL_run_6 rfl (lv_at hl 3 rfl) ?_
  have hPc := hP.sub (ws' := [(h0, .inr (11, [.ref x0, .ref x1, .ref x2, .ref x3, .ref x4, .ref x5, .ref x6, .ref x7, .ref x8, .ref x9, .ref x10, .int 0, .int 0, .int 0, .int 0, .int 0, .int 0])), (x9, .inr (6, [.int 0, .ref g1, .ref g2, .ref g3, .ref g4, .ref g5, .ref g6, .ref g7, .ref g8, .ref g9, .ref g10, .ref g11, .ref g12, .ref g13, .int 0, .int 0]))]) [0, 1] rfl
  have hDc := hD.sub (ws' := [(h0, .inr (11, [.ref x0, .ref x1, .ref x2, .ref x3, .ref x4, .ref x5, .ref x6, .ref x7, .ref x8, .ref x9, .ref x10, .int 0, .int 0, .int 0, .int 0, .int 0, .int 0])), (x9, .inr (6, [.int 0, .ref g1, .ref g2, .ref g3, .ref g4, .ref g5, .ref g6, .ref g7, .ref g8, .ref g9, .ref g10, .ref g11, .ref g12, .ref g13, .int 0, .int 0]))]) [0, 1] (by decide) rfl
  have hKc := hK.sub (tys' := []) [] rfl
  have hFc := va_free (wc := [(h0, .inr (11, [.ref x0, .ref x1, .ref x2, .ref x3, .ref x4, .ref x5, .ref x6, .ref x7, .ref x8, .ref x9, .ref x10, .int 0, .int 0, .int 0, .int 0, .int 0, .int 0])), (x9, .inr (6, [.int 0, .ref g1, .ref g2, .ref g3, .ref g4, .ref g5, .ref g6, .ref g7, .ref g8, .ref g9, .ref g10, .ref g11, .ref g12, .ref g13, .int 0, .int 0]))]) hD hS hA [0, 1] rfl
  refine vx_calli (vx_runV (As := [.int p1, .int p2, .int p3]) (rest := [.int 0, .ref ob]) ⟨hx, hb, hml, hown, hts⟩ (c_X11_run_fresh l hlt dC dI h0 x0 x1 x2 x3 x4 x5 x6 x7 x8 x9 x10 g1 g2 g3 g4 g5 g6 g7 g8 g9 g10 g11 g12 g13 p1 p2 p3 sa0 sa1 s.heap.size) (cwV 3 hts gf_L_run_0 rfl rfl rfl (by decide +kernel) ⟨Nat.le_of_ble_eq_true rfl, Nat.le_of_ble_eq_true rfl⟩) ⟨fun a U g mk q => by obtain ⟨q0, q1, qP, qK, qD, qC0, qC1, qd0, qd1, qd2, qs0, qs1, qU, qN⟩ := q; exact ⟨q0, q1, qP, va_K.moved (u := U) (U := U.calling g mk a) (Vm.Alike.refl U.vm) qK, qD, va_Nw.same rfl rfl qC0, va_Nw.same rfl rfl qC1, va_Nw.same rfl rfl qd0, va_Nw.same rfl rfl qd1, va_Nw.same rfl rfl qd2, vk_R.same rfl qs0, vk_R.same rfl qs1, vx_Zq.moved (u := U) (U := U.calling g mk a) (Vm.Alike.refl U.vm) qU, vx_Zq.moved (u := U) (U := U.calling g mk a) (Vm.Alike.refl U.vm) qN⟩, va_recv hKc hPc (ci := 11) (q0 := 0) rfl rfl, fun U hU hW => ⟨rfl, by rw [hU], by rw [hU]; exact hPc, va_K.moved hW.alike hKc, hDc.weaken (fun _ _ _ _ => trivial), va_Nw.warmC hW hca0, va_Nw.warmC hW hca1, va_Nw.warmD hW hde0, va_Nw.warmD hW hde1, va_Nw.warmD hW hde2, vk_R.warm hW hst0, vk_R.warm hW hst1, (by rw [hU]; exact ((hUS.moved hW.alike).kept hS.2.1).narrow hFc), (by rw [hU]; exact ((hNS.moved hW.alike).kept hS.2.1).narrow hFc)⟩⟩ rfl rfl hl.1 rfl (lv_room (Nat.le_of_ble_eq_true rfl)) dL_run_7 ⟨Nat.le_of_ble_eq_true rfl, Nat.le_of_ble_eq_true rfl⟩) hS (fun q _ h => hFc q h) hFc (fun q _ h => hFc q h) (fun E ce q9 u t H1 locs ht hvm hw hB hz1 hk1 hS hce hcv hcl => ?_) (fun r_1 u t H1 locs ht hvm hw hB hz1 hk1 hS => ?_)
  · skip
    obtain ⟨hE, hP1, hK1, hD1⟩ := hB
    rw [ht] at hP1
    have hK1 := va_K.moved hvm.symm hK1
    obtain ⟨hP, hD⟩ := va_join (wr := [(ob, .inl (kl, 1, .inr (.inl fo)))]) (w1 := [(h0, .inr (11, [.ref x0, .ref x1, .ref x2, .ref x3, .ref x4, .ref x5, .ref x6, .ref x7, .ref x8, .ref x9, .ref x10, .int 0, .int 0, .int 0, .int 0, .int 0, .int 0])), (x9, .inr (6, [.int 0, .ref g1, .ref g2, .ref g3, .ref g4, .ref g5, .ref g6, .ref g7, .ref g8, .ref g9, .ref g10, .ref g11, .ref g12, .ref g13, .int 0, .int 0]))]) hP hD [0, 1] [2] rfl rfl (by decide) (by decide) hk1 hFc hP1 hD1
    have hK := (hK.sub (tys' := [(kl, .long)]) [0] rfl).app hK1
    subst ht
    generalize t.heap = H at hP hS hce ⊢
    have hP : va_P (dC, dI) vwCl [(ob, .inl (kl, 1, .inr (.inl fo))), (h0, .inr (11, [.ref x0, .ref x1, .ref x2, .ref x3, .ref x4, .ref x5, .ref x6, .ref x7, .ref x8, .ref x9, .ref x10, .int 0, .int 0, .int 0, .int 0, .int 0, .int 0])), (x9, .inr (6, [.int 0, .ref g1, .ref g2, .ref g3, .ref g4, .ref g5, .ref g6, .ref g7, .ref g8, .ref g9, .ref g10, .ref g11, .ref g12, .ref g13, .int 0, .int 0]))] H := hP
    have hD : va_D A [(ob, .inl (kl, 1, .inr (.inl fo))), (h0, .inr (11, [.ref x0, .ref x1, .ref x2, .ref x3, .ref x4, .ref x5, .ref x6, .ref x7, .ref x8, .ref x9, .ref x10, .int 0, .int 0, .int 0, .int 0, .int 0, .int 0])), (x9, .inr (6, [.int 0, .ref g1, .ref g2, .ref g3, .ref g4, .ref g5, .ref g6, .ref g7, .ref g8, .ref g9, .ref g10, .ref g11, .ref g12, .ref g13, .int 0, .int 0]))] := hD
    have hK : va_K (dC, dI) vwCl [(kl, .long)] s := hK
    rcases hE with ⟨rfl, hE⟩ | ⟨rfl, hE⟩
    · skip
      refine vx_catch (own := RL) (name := "java/lang/IllegalArgumentException") (E := "java/lang/IllegalArgumentException") hown [] ⟨0, 12, 15, 13⟩ [⟨0, 12, 19, 15⟩] (htab.trans rfl) (fun z h => nomatch h) (by decide) (by decide) (hts (.classLink RL 13 "java/lang/IllegalArgumentException") (by decide +kernel)) (va_Nw.use rfl hca0) hce hcv hcl ?_
      refine W.widen (k := 1) (n := 6) (Nat.le_of_ble_eq_true rfl) (Nat.le_of_ble_eq_true rfl) ?_
      refine lv_astore (lv' := [(5, .ref q9), (0, .ref h0), (1, .int p1), (2, .int p2), (3, .int p3), (4, .ref ob)]) hx hb dL_run_15 hl (by decide) rfl (fun ls hl => ?_)
      refine lv_iconst (v := 1) hx hb dL_run_17 (by decide) ?_
      have hP9 : va_P (dC, dI) vwCl [(ob, .inl (kl, 1, .inr (.inl fo)))] H := by have h := hP.sub (ws' := [(ob, .inl (kl, 1, .inr (.inl fo)))]) [0] rfl; exact h
      have hD9 : va_D A [(ob, .inl (kl, 1, .inr (.inl fo)))] := by have h := hD.sub (ws' := [(ob, .inl (kl, 1, .inr (.inl fo)))]) [0] (by decide) rfl; exact h
      have hK9 := hK.sub (tys' := [(kl, .long)]) [0] rfl
      refine W.widen (k := 1) (n := 6) (Nat.le_of_ble_eq_true rfl) (Nat.le_of_ble_eq_true rfl) ?_
      exact W.iret (v := 1) hx hb hr (fun t ht hW => ⟨⟨1, 1, rfl, rfl, fo, (Or.inl ⟨rfl, hE⟩), by rw [ht]; exact hP9, va_K.moved hW.alike hK9, hAe ▸ hD9⟩, hAe ▸ hS.F ht⟩) (fun q hq => hAe ▸ hS.2.2 q hq) dL_run_18
    · skip
      refine vx_catch (own := RL) (name := "java/lang/IllegalStateException") (E := "java/lang/IllegalStateException") hown [⟨0, 12, 15, 13⟩] ⟨0, 12, 19, 15⟩ [] (htab.trans rfl) (fun z h => by obtain rfl := List.mem_singleton.mp h; exact Or.inr ⟨by decide, "java/lang/IllegalArgumentException", (hts (.classLink RL 13 "java/lang/IllegalArgumentException") (by decide +kernel)), hnc0⟩) (by decide) (by decide) (hts (.classLink RL 15 "java/lang/IllegalStateException") (by decide +kernel)) (va_Nw.use rfl hca1) hce hcv hcl ?_
      refine W.widen (k := 1) (n := 6) (Nat.le_of_ble_eq_true rfl) (Nat.le_of_ble_eq_true rfl) ?_
      refine lv_astore (lv' := [(5, .ref q9), (0, .ref h0), (1, .int p1), (2, .int p2), (3, .int p3), (4, .ref ob)]) hx hb dL_run_19 hl (by decide) rfl (fun ls hl => ?_)
      refine lv_iconst (v := 2) hx hb dL_run_21 (by decide) ?_
      have hP9 : va_P (dC, dI) vwCl [(ob, .inl (kl, 1, .inr (.inl fo)))] H := by have h := hP.sub (ws' := [(ob, .inl (kl, 1, .inr (.inl fo)))]) [0] rfl; exact h
      have hD9 : va_D A [(ob, .inl (kl, 1, .inr (.inl fo)))] := by have h := hD.sub (ws' := [(ob, .inl (kl, 1, .inr (.inl fo)))]) [0] (by decide) rfl; exact h
      have hK9 := hK.sub (tys' := [(kl, .long)]) [0] rfl
      refine W.widen (k := 1) (n := 6) (Nat.le_of_ble_eq_true rfl) (Nat.le_of_ble_eq_true rfl) ?_
      exact W.iret (v := 2) hx hb hr (fun t ht hW => ⟨⟨2, 2, rfl, rfl, fo, (Or.inr ⟨rfl, hE⟩), by rw [ht]; exact hP9, va_K.moved hW.alike hK9, hAe ▸ hD9⟩, hAe ▸ hS.F ht⟩) (fun q hq => hAe ▸ hS.2.2 q hq) dL_run_22
  obtain rfl : r_1 = u := hw.symm
  obtain ⟨hf_2, hP1, hK1, hD1⟩ := hB
  exact False.elim hf_2
