set_option maxHeartbeats 4000000 in
set_option maxRecDepth 100000 in
theorem c_X8_init (l : Launch) (dC : Nat → ClassId) (dI : Nat → Nat → Nat) (h0 : Nat) (sz : Nat) : Met l yX8_init wsX8_init ({ frames := 1, cells := 1, slots := 8192, locals := 12 }) (va_Pc [.ref h0] (fun U => U.heap.size = sz ∧ va_P (dC, dI) vwCl [(h0, .inr (8, [.null, .int 0, .int 0, .int 0]))] U.heap ∧ va_K (dC, dI) vwCl [] U ∧ va_D (fun _ => True) [(h0, .inr (8, [.null, .int 0, .int 0, .int 0]))])) (va_Qv (fun (_ : Unit) => True) (fun (_ : Unit) (t : State) => ∃ (aq0 : Nat), ∃ (ak0 : ClassId), va_P (dC, dI) vwCl [(h0, .inr (8, [.ref aq0, .int 0, .int 0, .int 0])), (aq0, .inl (ak0, 8192, .inl (fun _ => 0)))] t.heap ∧ va_K (dC, dI) vwCl [(ak0, .byte)] t ∧ va_D (va_A [(h0, .inr (8, [.null, .int 0, .int 0, .int 0]))] sz) [(h0, .inr (8, [.ref aq0, .int 0, .int 0, .int 0])), (aq0, .inl (ak0, 8192, .inl (fun _ => 0)))]) (va_A [(h0, .inr (8, [.null, .int 0, .int 0, .int 0]))] sz)) 1 8192 (va_A [(h0, .inr (8, [.null, .int 0, .int 0, .int 0]))] sz) := by
  refine Met.ofW (cc := cX8_init) (maxL := 1) (ret := none) (by decide) rfl ?_
  intro p e s m args below meth c s₁ B hml hv
  obtain ⟨rfl, hsz, hP, hK, hD0⟩ := hv
  have hx := B.exec
  have hb := B.bytes
  have hr := B.returns
  have hts := atoms_spec (ws := wsX8_init) B.pre
  have hown : s.vm.findClass RX8 = some m.cls := findClass_of_methodNamed B.named
  have hlocks := B.notSynchronized
  have hin : meth.name = "<init>" := (name_of_methodNamed B.named B.method).1
  subst hsz
  have hD := hD0.self (sz := s.heap.size)
  generalize hAe : va_A [(h0, .inr (8, [.null, .int 0, .int 0, .int 0]))] s.heap.size = A at hD ⊢
  have hA : ∀ q : Nat, s.heap.size ≤ q → A q := fun q h => by rw [← hAe]; exact Or.inr h
  have hS : va_S A s.heap s.heap [] := va_S.rf
  have hP : va_P (dC, dI) vwCl [(h0, .inr (8, [.null, .int 0, .int 0, .int 0]))] s.heap := hP
  have hD : va_D A [(h0, .inr (8, [.null, .int 0, .int 0, .int 0]))] := hD
  have hl := lv_entry ([.ref h0]) (n := 1) (Nat.le_of_ble_eq_true rfl)
  rw [lg_entry_eq]
  generalize (lg_sl ([.ref h0]) ++ List.replicate (1 - (lg_sl ([.ref h0])).length) Slot.unset).toArray = ls at hl ⊢
  have hl : lv_has ls 1 [(0, .ref h0)] := hl
  have hiX8 : ∀ w ∈ wsX80, w ∈ wsX8_init := by decide +kernel
  refine lv_aload_n hx hb dX8_init_0 rfl (lv_at hl 0 rfl) ?_
  refine W.objInit hx hb hown (hts (.methodLink RX8 3 objectInit) (by decide +kernel)) (hts (.instanceMethod objectInit) (by decide +kernel)) (hts (.code objectInit ⟨#[0xb1]⟩ 1 none) (by decide +kernel)) rfl (by rw [hml]; exact hl.1) rfl dX8_init_1 (Nat.le_of_ble_eq_true rfl) (Nat.le_of_ble_eq_true rfl) ?_
  refine W.eq (g2 := F0 m 4 ls []) rfl ?_
  refine lv_aload_n hx hb dX8_init_4 rfl (lv_at hl 0 rfl) ?_
  refine lv_sipush (v := 8192) hx hb dX8_init_5 (by decide) ?_
  refine va_newa (atype := .byte) (ty := .byte) (N' := 8192) (a0 := (8192, .inl (fun _ => 0))) hx hb (hts (.arrayClass .byte) (by decide +kernel)) rfl hK hP hD hS hA (fun _ => rfl) (by decide) (by decide) (Nat.le_of_ble_eq_true rfl) (Nat.le_of_ble_eq_true rfl) (Nat.le_of_ble_eq_true rfl) dX8_init_8 (fun q_1 k_2 H hK hP hD hS => ?_)
  have hP : va_P (dC, dI) vwCl [(h0, .inr (8, [.null, .int 0, .int 0, .int 0])), (q_1, .inl (k_2, 8192, .inl (fun _ => 0)))] H := hP
  have hD : va_D A [(h0, .inr (8, [.null, .int 0, .int 0, .int 0])), (q_1, .inl (k_2, 8192, .inl (fun _ => 0)))] := hD
  have hK : va_K (dC, dI) vwCl [(k_2, .byte)] s := hK
  refine W.widen (k := 1) (n := 8192) (Nat.le_of_ble_eq_true rfl) (Nat.le_of_ble_eq_true rfl) ?_
  refine va_putF (D := (dC, dI)) (ci := 8) (v := .ref q_1) (ty := .array .byte) (C := RX8) (T := TX8) (N := 4) hx hb hts hiX8 tyX8 tyX8_ok nmX8 hown hK hP hD hS 0 rfl rfl 0 (by decide) (hts (.fieldLink RX8 9 "ComboHouse$Row" "bytes" "[B") (by decide +kernel)) (fun _ h9 => h9) rfl hin rfl (by decide +kernel) rfl rfl (Nat.le_of_ble_eq_true rfl) dX8_init_10 (fun H locs hP hD hS => ?_)
  have hP : va_P (dC, dI) vwCl [(h0, .inr (8, [.ref q_1, .int 0, .int 0, .int 0])), (q_1, .inl (k_2, 8192, .inl (fun _ => 0)))] H := hP
  have hD : va_D A [(h0, .inr (8, [.ref q_1, .int 0, .int 0, .int 0])), (q_1, .inl (k_2, 8192, .inl (fun _ => 0)))] := hD
  have hP9 := hP.sub (ws' := [(h0, .inr (8, [.ref q_1, .int 0, .int 0, .int 0])), (q_1, .inl (k_2, 8192, .inl (fun _ => 0)))]) [0, 1] rfl
  have hD9 := hD.sub (ws' := [(h0, .inr (8, [.ref q_1, .int 0, .int 0, .int 0])), (q_1, .inl (k_2, 8192, .inl (fun _ => 0)))]) [0, 1] (by decide) rfl
  have hK9 := hK.sub (tys' := [(k_2, .byte)]) [0] rfl
  refine W.widen (k := 1) (n := 8192) (Nat.le_of_ble_eq_true rfl) (Nat.le_of_ble_eq_true rfl) ?_
  exact W.vret hx hb hr (fun t ht hW => ⟨⟨(), rfl, trivial, q_1, k_2, by rw [ht]; exact hP9, va_K.moved hW.alike hK9, hAe ▸ hD9⟩, hAe ▸ hS.F ht⟩) (fun q hq => hAe ▸ hS.2.2 q hq) dX8_init_13
set_option maxHeartbeats 4000000 in
set_option maxRecDepth 100000 in
theorem c_X0_init (l : Launch) (dC : Nat → ClassId) (dI : Nat → Nat → Nat) (h0 : Nat) (sz : Nat) : Met l yX0_init wsX0_init ({ frames := 1, cells := 9, slots := 56357, locals := 12 }) (va_Pc [.ref h0] (fun U => U.heap.size = sz ∧ va_P (dC, dI) vwCl [(h0, .inr (0, [.null, .null, .null, .null, .null, .null, .null, .null, .null, .int 0]))] U.heap ∧ va_K (dC, dI) vwCl [] U ∧ va_D (fun _ => True) [(h0, .inr (0, [.null, .null, .null, .null, .null, .null, .null, .null, .null, .int 0]))])) (va_Qv (fun (_ : Unit) => True) (fun (_ : Unit) (t : State) => ∃ (aq0 : Nat), ∃ (ak0 : ClassId), ∃ (aq1 : Nat), ∃ (ak1 : ClassId), ∃ (aq2 : Nat), ∃ (ak2 : ClassId), ∃ (aq3 : Nat), ∃ (ak3 : ClassId), ∃ (aq4 : Nat), ∃ (ak4 : ClassId), ∃ (aq5 : Nat), ∃ (ak5 : ClassId), ∃ (aq6 : Nat), ∃ (ak6 : ClassId), ∃ (aq7 : Nat), ∃ (ak7 : ClassId), ∃ (aq8 : Nat), ∃ (ak8 : ClassId), va_P (dC, dI) vwCl [(h0, .inr (0, [.ref aq0, .ref aq1, .ref aq2, .ref aq3, .ref aq4, .ref aq5, .ref aq6, .ref aq7, .ref aq8, .int 400])), (aq0, .inl (ak0, 8000, .inl (fun _ => 0))), (aq1, .inl (ak1, 8000, .inl (fun _ => 0))), (aq2, .inl (ak2, 8000, .inl (fun _ => 0))), (aq3, .inl (ak3, 8000, .inl (fun _ => 0))), (aq4, .inl (ak4, 8000, .inl (fun _ => 0))), (aq5, .inl (ak5, 168, .inl (fun _ => 0))), (aq6, .inl (ak6, 8000, .inl (fun _ => 0))), (aq7, .inl (ak7, 8000, .inl (fun _ => 0))), (aq8, .inl (ak8, 189, .inl (fun _ => 0)))] t.heap ∧ va_K (dC, dI) vwCl [(ak0, .int), (ak1, .int), (ak2, .int), (ak3, .int), (ak4, .int), (ak5, .int), (ak6, .int), (ak7, .int), (ak8, .int)] t ∧ va_D (va_A [(h0, .inr (0, [.null, .null, .null, .null, .null, .null, .null, .null, .null, .int 0]))] sz) [(h0, .inr (0, [.ref aq0, .ref aq1, .ref aq2, .ref aq3, .ref aq4, .ref aq5, .ref aq6, .ref aq7, .ref aq8, .int 400])), (aq0, .inl (ak0, 8000, .inl (fun _ => 0))), (aq1, .inl (ak1, 8000, .inl (fun _ => 0))), (aq2, .inl (ak2, 8000, .inl (fun _ => 0))), (aq3, .inl (ak3, 8000, .inl (fun _ => 0))), (aq4, .inl (ak4, 8000, .inl (fun _ => 0))), (aq5, .inl (ak5, 168, .inl (fun _ => 0))), (aq6, .inl (ak6, 8000, .inl (fun _ => 0))), (aq7, .inl (ak7, 8000, .inl (fun _ => 0))), (aq8, .inl (ak8, 189, .inl (fun _ => 0)))]) (va_A [(h0, .inr (0, [.null, .null, .null, .null, .null, .null, .null, .null, .null, .int 0]))] sz)) 9 56357 (va_A [(h0, .inr (0, [.null, .null, .null, .null, .null, .null, .null, .null, .null, .int 0]))] sz) := by
  refine Met.ofW (cc := cX0_init) (maxL := 1) (ret := none) (by decide) rfl ?_
  intro p e s m args below meth c s₁ B hml hv
  obtain ⟨rfl, hsz, hP, hK, hD0⟩ := hv
  have hx := B.exec
  have hb := B.bytes
  have hr := B.returns
  have hts := atoms_spec (ws := wsX0_init) B.pre
  have hown : s.vm.findClass RX0 = some m.cls := findClass_of_methodNamed B.named
  have hlocks := B.notSynchronized
  have hin : meth.name = "<init>" := (name_of_methodNamed B.named B.method).1
  subst hsz
  have hD := hD0.self (sz := s.heap.size)
  generalize hAe : va_A [(h0, .inr (0, [.null, .null, .null, .null, .null, .null, .null, .null, .null, .int 0]))] s.heap.size = A at hD ⊢
  have hA : ∀ q : Nat, s.heap.size ≤ q → A q := fun q h => by rw [← hAe]; exact Or.inr h
  have hS : va_S A s.heap s.heap [] := va_S.rf
  have hP : va_P (dC, dI) vwCl [(h0, .inr (0, [.null, .null, .null, .null, .null, .null, .null, .null, .null, .int 0]))] s.heap := hP
  have hD : va_D A [(h0, .inr (0, [.null, .null, .null, .null, .null, .null, .null, .null, .null, .int 0]))] := hD
  have hl := lv_entry ([.ref h0]) (n := 1) (Nat.le_of_ble_eq_true rfl)
  rw [lg_entry_eq]
  generalize (lg_sl ([.ref h0]) ++ List.replicate (1 - (lg_sl ([.ref h0])).length) Slot.unset).toArray = ls at hl ⊢
  have hl : lv_has ls 1 [(0, .ref h0)] := hl
  have hiX0 : ∀ w ∈ wsX00, w ∈ wsX0_init := by decide +kernel
  refine lv_aload_n hx hb dX0_init_0 rfl (lv_at hl 0 rfl) ?_
  refine W.objInit hx hb hown (hts (.methodLink RX0 3 objectInit) (by decide +kernel)) (hts (.instanceMethod objectInit) (by decide +kernel)) (hts (.code objectInit ⟨#[0xb1]⟩ 1 none) (by decide +kernel)) rfl (by rw [hml]; exact hl.1) rfl dX0_init_1 (Nat.le_of_ble_eq_true rfl) (Nat.le_of_ble_eq_true rfl) ?_
  refine W.eq (g2 := F0 m 4 ls []) rfl ?_
  refine lv_aload_n hx hb dX0_init_4 rfl (lv_at hl 0 rfl) ?_
  refine lv_sipush (v := 8000) hx hb dX0_init_5 (by decide) ?_
  refine va_newa (atype := .int) (ty := .int) (N' := 8000) (a0 := (8000, .inl (fun _ => 0))) hx hb (hts (.arrayClass .int) (by decide +kernel)) rfl hK hP hD hS hA (fun _ => rfl) (by decide) (by decide) (Nat.le_of_ble_eq_true rfl) (Nat.le_of_ble_eq_true rfl) (Nat.le_of_ble_eq_true rfl) dX0_init_8 (fun q_1 k_2 H hK hP hD hS => ?_)
  have hP : va_P (dC, dI) vwCl [(h0, .inr (0, [.null, .null, .null, .null, .null, .null, .null, .null, .null, .int 0])), (q_1, .inl (k_2, 8000, .inl (fun _ => 0)))] H := hP
  have hD : va_D A [(h0, .inr (0, [.null, .null, .null, .null, .null, .null, .null, .null, .null, .int 0])), (q_1, .inl (k_2, 8000, .inl (fun _ => 0)))] := hD
  have hK : va_K (dC, dI) vwCl [(k_2, .int)] s := hK
  refine W.widen (k := 1) (n := 8000) (Nat.le_of_ble_eq_true rfl) (Nat.le_of_ble_eq_true rfl) ?_
  refine va_putF (D := (dC, dI)) (ci := 0) (v := .ref q_1) (ty := .array .int) (C := RX0) (T := TX0) (N := 10) hx hb hts hiX0 tyX0 tyX0_ok nmX0 hown hK hP hD hS 0 rfl rfl 0 (by decide) (hts (.fieldLink RX0 11 "ComboHouse$Code" "op" "[I") (by decide +kernel)) (fun _ h9 => h9) rfl hin rfl (by decide +kernel) rfl rfl (Nat.le_of_ble_eq_true rfl) dX0_init_10 (fun H locs hP hD hS => ?_)
  have hP : va_P (dC, dI) vwCl [(h0, .inr (0, [.ref q_1, .null, .null, .null, .null, .null, .null, .null, .null, .int 0])), (q_1, .inl (k_2, 8000, .inl (fun _ => 0)))] H := hP
  have hD : va_D A [(h0, .inr (0, [.ref q_1, .null, .null, .null, .null, .null, .null, .null, .null, .int 0])), (q_1, .inl (k_2, 8000, .inl (fun _ => 0)))] := hD
  refine lv_aload_n hx hb dX0_init_13 rfl (lv_at hl 0 rfl) ?_
  refine lv_sipush (v := 8000) hx hb dX0_init_14 (by decide) ?_
  refine va_newa (atype := .int) (ty := .int) (N' := 8000) (a0 := (8000, .inl (fun _ => 0))) hx hb (hts (.arrayClass .int) (by decide +kernel)) rfl hK hP hD hS hA (fun _ => rfl) (by decide) (by decide) (Nat.le_of_ble_eq_true rfl) (Nat.le_of_ble_eq_true rfl) (Nat.le_of_ble_eq_true rfl) dX0_init_17 (fun q_3 k_4 H hK hP hD hS => ?_)
  have hP : va_P (dC, dI) vwCl [(h0, .inr (0, [.ref q_1, .null, .null, .null, .null, .null, .null, .null, .null, .int 0])), (q_1, .inl (k_2, 8000, .inl (fun _ => 0))), (q_3, .inl (k_4, 8000, .inl (fun _ => 0)))] H := hP
  have hD : va_D A [(h0, .inr (0, [.ref q_1, .null, .null, .null, .null, .null, .null, .null, .null, .int 0])), (q_1, .inl (k_2, 8000, .inl (fun _ => 0))), (q_3, .inl (k_4, 8000, .inl (fun _ => 0)))] := hD
  have hK : va_K (dC, dI) vwCl [(k_2, .int), (k_4, .int)] s := hK
  refine W.widen (k := 2) (n := 16000) (Nat.le_of_ble_eq_true rfl) (Nat.le_of_ble_eq_true rfl) ?_
  refine va_putF (D := (dC, dI)) (ci := 0) (v := .ref q_3) (ty := .array .int) (C := RX0) (T := TX0) (N := 10) hx hb hts hiX0 tyX0 tyX0_ok nmX0 hown hK hP hD hS 0 rfl rfl 1 (by decide) (hts (.fieldLink RX0 15 "ComboHouse$Code" "one" "[I") (by decide +kernel)) (fun _ h9 => h9) rfl hin rfl (by decide +kernel) rfl rfl (Nat.le_of_ble_eq_true rfl) dX0_init_19 (fun H locs hP hD hS => ?_)
  have hP : va_P (dC, dI) vwCl [(h0, .inr (0, [.ref q_1, .ref q_3, .null, .null, .null, .null, .null, .null, .null, .int 0])), (q_1, .inl (k_2, 8000, .inl (fun _ => 0))), (q_3, .inl (k_4, 8000, .inl (fun _ => 0)))] H := hP
  have hD : va_D A [(h0, .inr (0, [.ref q_1, .ref q_3, .null, .null, .null, .null, .null, .null, .null, .int 0])), (q_1, .inl (k_2, 8000, .inl (fun _ => 0))), (q_3, .inl (k_4, 8000, .inl (fun _ => 0)))] := hD
  refine lv_aload_n hx hb dX0_init_22 rfl (lv_at hl 0 rfl) ?_
  refine lv_sipush (v := 8000) hx hb dX0_init_23 (by decide) ?_
  refine va_newa (atype := .int) (ty := .int) (N' := 8000) (a0 := (8000, .inl (fun _ => 0))) hx hb (hts (.arrayClass .int) (by decide +kernel)) rfl hK hP hD hS hA (fun _ => rfl) (by decide) (by decide) (Nat.le_of_ble_eq_true rfl) (Nat.le_of_ble_eq_true rfl) (Nat.le_of_ble_eq_true rfl) dX0_init_26 (fun q_5 k_6 H hK hP hD hS => ?_)
  have hP : va_P (dC, dI) vwCl [(h0, .inr (0, [.ref q_1, .ref q_3, .null, .null, .null, .null, .null, .null, .null, .int 0])), (q_1, .inl (k_2, 8000, .inl (fun _ => 0))), (q_3, .inl (k_4, 8000, .inl (fun _ => 0))), (q_5, .inl (k_6, 8000, .inl (fun _ => 0)))] H := hP
  have hD : va_D A [(h0, .inr (0, [.ref q_1, .ref q_3, .null, .null, .null, .null, .null, .null, .null, .int 0])), (q_1, .inl (k_2, 8000, .inl (fun _ => 0))), (q_3, .inl (k_4, 8000, .inl (fun _ => 0))), (q_5, .inl (k_6, 8000, .inl (fun _ => 0)))] := hD
  have hK : va_K (dC, dI) vwCl [(k_2, .int), (k_4, .int), (k_6, .int)] s := hK
  refine W.widen (k := 3) (n := 24000) (Nat.le_of_ble_eq_true rfl) (Nat.le_of_ble_eq_true rfl) ?_
  refine va_putF (D := (dC, dI)) (ci := 0) (v := .ref q_5) (ty := .array .int) (C := RX0) (T := TX0) (N := 10) hx hb hts hiX0 tyX0 tyX0_ok nmX0 hown hK hP hD hS 0 rfl rfl 2 (by decide) (hts (.fieldLink RX0 18 "ComboHouse$Code" "two" "[I") (by decide +kernel)) (fun _ h9 => h9) rfl hin rfl (by decide +kernel) rfl rfl (Nat.le_of_ble_eq_true rfl) dX0_init_28 (fun H locs hP hD hS => ?_)
  have hP : va_P (dC, dI) vwCl [(h0, .inr (0, [.ref q_1, .ref q_3, .ref q_5, .null, .null, .null, .null, .null, .null, .int 0])), (q_1, .inl (k_2, 8000, .inl (fun _ => 0))), (q_3, .inl (k_4, 8000, .inl (fun _ => 0))), (q_5, .inl (k_6, 8000, .inl (fun _ => 0)))] H := hP
  have hD : va_D A [(h0, .inr (0, [.ref q_1, .ref q_3, .ref q_5, .null, .null, .null, .null, .null, .null, .int 0])), (q_1, .inl (k_2, 8000, .inl (fun _ => 0))), (q_3, .inl (k_4, 8000, .inl (fun _ => 0))), (q_5, .inl (k_6, 8000, .inl (fun _ => 0)))] := hD
  refine lv_aload_n hx hb dX0_init_31 rfl (lv_at hl 0 rfl) ?_
  refine lv_sipush (v := 8000) hx hb dX0_init_32 (by decide) ?_
  refine va_newa (atype := .int) (ty := .int) (N' := 8000) (a0 := (8000, .inl (fun _ => 0))) hx hb (hts (.arrayClass .int) (by decide +kernel)) rfl hK hP hD hS hA (fun _ => rfl) (by decide) (by decide) (Nat.le_of_ble_eq_true rfl) (Nat.le_of_ble_eq_true rfl) (Nat.le_of_ble_eq_true rfl) dX0_init_35 (fun q_7 k_8 H hK hP hD hS => ?_)
  have hP : va_P (dC, dI) vwCl [(h0, .inr (0, [.ref q_1, .ref q_3, .ref q_5, .null, .null, .null, .null, .null, .null, .int 0])), (q_1, .inl (k_2, 8000, .inl (fun _ => 0))), (q_3, .inl (k_4, 8000, .inl (fun _ => 0))), (q_5, .inl (k_6, 8000, .inl (fun _ => 0))), (q_7, .inl (k_8, 8000, .inl (fun _ => 0)))] H := hP
  have hD : va_D A [(h0, .inr (0, [.ref q_1, .ref q_3, .ref q_5, .null, .null, .null, .null, .null, .null, .int 0])), (q_1, .inl (k_2, 8000, .inl (fun _ => 0))), (q_3, .inl (k_4, 8000, .inl (fun _ => 0))), (q_5, .inl (k_6, 8000, .inl (fun _ => 0))), (q_7, .inl (k_8, 8000, .inl (fun _ => 0)))] := hD
  have hK : va_K (dC, dI) vwCl [(k_2, .int), (k_4, .int), (k_6, .int), (k_8, .int)] s := hK
  refine W.widen (k := 4) (n := 32000) (Nat.le_of_ble_eq_true rfl) (Nat.le_of_ble_eq_true rfl) ?_
  refine va_putF (D := (dC, dI)) (ci := 0) (v := .ref q_7) (ty := .array .int) (C := RX0) (T := TX0) (N := 10) hx hb hts hiX0 tyX0 tyX0_ok nmX0 hown hK hP hD hS 0 rfl rfl 3 (by decide) (hts (.fieldLink RX0 21 "ComboHouse$Code" "skip" "[I") (by decide +kernel)) (fun _ h9 => h9) rfl hin rfl (by decide +kernel) rfl rfl (Nat.le_of_ble_eq_true rfl) dX0_init_37 (fun H locs hP hD hS => ?_)
  have hP : va_P (dC, dI) vwCl [(h0, .inr (0, [.ref q_1, .ref q_3, .ref q_5, .ref q_7, .null, .null, .null, .null, .null, .int 0])), (q_1, .inl (k_2, 8000, .inl (fun _ => 0))), (q_3, .inl (k_4, 8000, .inl (fun _ => 0))), (q_5, .inl (k_6, 8000, .inl (fun _ => 0))), (q_7, .inl (k_8, 8000, .inl (fun _ => 0)))] H := hP
  have hD : va_D A [(h0, .inr (0, [.ref q_1, .ref q_3, .ref q_5, .ref q_7, .null, .null, .null, .null, .null, .int 0])), (q_1, .inl (k_2, 8000, .inl (fun _ => 0))), (q_3, .inl (k_4, 8000, .inl (fun _ => 0))), (q_5, .inl (k_6, 8000, .inl (fun _ => 0))), (q_7, .inl (k_8, 8000, .inl (fun _ => 0)))] := hD
  refine lv_aload_n hx hb dX0_init_40 rfl (lv_at hl 0 rfl) ?_
  refine lv_sipush (v := 8000) hx hb dX0_init_41 (by decide) ?_
  refine va_newa (atype := .int) (ty := .int) (N' := 8000) (a0 := (8000, .inl (fun _ => 0))) hx hb (hts (.arrayClass .int) (by decide +kernel)) rfl hK hP hD hS hA (fun _ => rfl) (by decide) (by decide) (Nat.le_of_ble_eq_true rfl) (Nat.le_of_ble_eq_true rfl) (Nat.le_of_ble_eq_true rfl) dX0_init_44 (fun q_9 k_10 H hK hP hD hS => ?_)
  have hP : va_P (dC, dI) vwCl [(h0, .inr (0, [.ref q_1, .ref q_3, .ref q_5, .ref q_7, .null, .null, .null, .null, .null, .int 0])), (q_1, .inl (k_2, 8000, .inl (fun _ => 0))), (q_3, .inl (k_4, 8000, .inl (fun _ => 0))), (q_5, .inl (k_6, 8000, .inl (fun _ => 0))), (q_7, .inl (k_8, 8000, .inl (fun _ => 0))), (q_9, .inl (k_10, 8000, .inl (fun _ => 0)))] H := hP
  have hD : va_D A [(h0, .inr (0, [.ref q_1, .ref q_3, .ref q_5, .ref q_7, .null, .null, .null, .null, .null, .int 0])), (q_1, .inl (k_2, 8000, .inl (fun _ => 0))), (q_3, .inl (k_4, 8000, .inl (fun _ => 0))), (q_5, .inl (k_6, 8000, .inl (fun _ => 0))), (q_7, .inl (k_8, 8000, .inl (fun _ => 0))), (q_9, .inl (k_10, 8000, .inl (fun _ => 0)))] := hD
  have hK : va_K (dC, dI) vwCl [(k_2, .int), (k_4, .int), (k_6, .int), (k_8, .int), (k_10, .int)] s := hK
  refine W.widen (k := 5) (n := 40000) (Nat.le_of_ble_eq_true rfl) (Nat.le_of_ble_eq_true rfl) ?_
  refine va_putF (D := (dC, dI)) (ci := 0) (v := .ref q_9) (ty := .array .int) (C := RX0) (T := TX0) (N := 10) hx hb hts hiX0 tyX0 tyX0_ok nmX0 hown hK hP hD hS 0 rfl rfl 4 (by decide) (hts (.fieldLink RX0 24 "ComboHouse$Code" "other" "[I") (by decide +kernel)) (fun _ h9 => h9) rfl hin rfl (by decide +kernel) rfl rfl (Nat.le_of_ble_eq_true rfl) dX0_init_46 (fun H locs hP hD hS => ?_)
  have hP : va_P (dC, dI) vwCl [(h0, .inr (0, [.ref q_1, .ref q_3, .ref q_5, .ref q_7, .ref q_9, .null, .null, .null, .null, .int 0])), (q_1, .inl (k_2, 8000, .inl (fun _ => 0))), (q_3, .inl (k_4, 8000, .inl (fun _ => 0))), (q_5, .inl (k_6, 8000, .inl (fun _ => 0))), (q_7, .inl (k_8, 8000, .inl (fun _ => 0))), (q_9, .inl (k_10, 8000, .inl (fun _ => 0)))] H := hP
  have hD : va_D A [(h0, .inr (0, [.ref q_1, .ref q_3, .ref q_5, .ref q_7, .ref q_9, .null, .null, .null, .null, .int 0])), (q_1, .inl (k_2, 8000, .inl (fun _ => 0))), (q_3, .inl (k_4, 8000, .inl (fun _ => 0))), (q_5, .inl (k_6, 8000, .inl (fun _ => 0))), (q_7, .inl (k_8, 8000, .inl (fun _ => 0))), (q_9, .inl (k_10, 8000, .inl (fun _ => 0)))] := hD
  refine lv_aload_n hx hb dX0_init_49 rfl (lv_at hl 0 rfl) ?_
  refine lv_sipush (v := 168) hx hb dX0_init_50 (by decide) ?_
  refine va_newa (atype := .int) (ty := .int) (N' := 168) (a0 := (168, .inl (fun _ => 0))) hx hb (hts (.arrayClass .int) (by decide +kernel)) rfl hK hP hD hS hA (fun _ => rfl) (by decide) (by decide) (Nat.le_of_ble_eq_true rfl) (Nat.le_of_ble_eq_true rfl) (Nat.le_of_ble_eq_true rfl) dX0_init_53 (fun q_11 k_12 H hK hP hD hS => ?_)
  have hP : va_P (dC, dI) vwCl [(h0, .inr (0, [.ref q_1, .ref q_3, .ref q_5, .ref q_7, .ref q_9, .null, .null, .null, .null, .int 0])), (q_1, .inl (k_2, 8000, .inl (fun _ => 0))), (q_3, .inl (k_4, 8000, .inl (fun _ => 0))), (q_5, .inl (k_6, 8000, .inl (fun _ => 0))), (q_7, .inl (k_8, 8000, .inl (fun _ => 0))), (q_9, .inl (k_10, 8000, .inl (fun _ => 0))), (q_11, .inl (k_12, 168, .inl (fun _ => 0)))] H := hP
  have hD : va_D A [(h0, .inr (0, [.ref q_1, .ref q_3, .ref q_5, .ref q_7, .ref q_9, .null, .null, .null, .null, .int 0])), (q_1, .inl (k_2, 8000, .inl (fun _ => 0))), (q_3, .inl (k_4, 8000, .inl (fun _ => 0))), (q_5, .inl (k_6, 8000, .inl (fun _ => 0))), (q_7, .inl (k_8, 8000, .inl (fun _ => 0))), (q_9, .inl (k_10, 8000, .inl (fun _ => 0))), (q_11, .inl (k_12, 168, .inl (fun _ => 0)))] := hD
  have hK : va_K (dC, dI) vwCl [(k_2, .int), (k_4, .int), (k_6, .int), (k_8, .int), (k_10, .int), (k_12, .int)] s := hK
  refine W.widen (k := 6) (n := 40168) (Nat.le_of_ble_eq_true rfl) (Nat.le_of_ble_eq_true rfl) ?_
  refine va_putF (D := (dC, dI)) (ci := 0) (v := .ref q_11) (ty := .array .int) (C := RX0) (T := TX0) (N := 10) hx hb hts hiX0 tyX0 tyX0_ok nmX0 hown hK hP hD hS 0 rfl rfl 5 (by decide) (hts (.fieldLink RX0 27 "ComboHouse$Code" "definition" "[I") (by decide +kernel)) (fun _ h9 => h9) rfl hin rfl (by decide +kernel) rfl rfl (Nat.le_of_ble_eq_true rfl) dX0_init_55 (fun H locs hP hD hS => ?_)
  have hP : va_P (dC, dI) vwCl [(h0, .inr (0, [.ref q_1, .ref q_3, .ref q_5, .ref q_7, .ref q_9, .ref q_11, .null, .null, .null, .int 0])), (q_1, .inl (k_2, 8000, .inl (fun _ => 0))), (q_3, .inl (k_4, 8000, .inl (fun _ => 0))), (q_5, .inl (k_6, 8000, .inl (fun _ => 0))), (q_7, .inl (k_8, 8000, .inl (fun _ => 0))), (q_9, .inl (k_10, 8000, .inl (fun _ => 0))), (q_11, .inl (k_12, 168, .inl (fun _ => 0)))] H := hP
  have hD : va_D A [(h0, .inr (0, [.ref q_1, .ref q_3, .ref q_5, .ref q_7, .ref q_9, .ref q_11, .null, .null, .null, .int 0])), (q_1, .inl (k_2, 8000, .inl (fun _ => 0))), (q_3, .inl (k_4, 8000, .inl (fun _ => 0))), (q_5, .inl (k_6, 8000, .inl (fun _ => 0))), (q_7, .inl (k_8, 8000, .inl (fun _ => 0))), (q_9, .inl (k_10, 8000, .inl (fun _ => 0))), (q_11, .inl (k_12, 168, .inl (fun _ => 0)))] := hD
  refine lv_aload_n hx hb dX0_init_58 rfl (lv_at hl 0 rfl) ?_
  refine lv_sipush (v := 8000) hx hb dX0_init_59 (by decide) ?_
  refine va_newa (atype := .int) (ty := .int) (N' := 8000) (a0 := (8000, .inl (fun _ => 0))) hx hb (hts (.arrayClass .int) (by decide +kernel)) rfl hK hP hD hS hA (fun _ => rfl) (by decide) (by decide) (Nat.le_of_ble_eq_true rfl) (Nat.le_of_ble_eq_true rfl) (Nat.le_of_ble_eq_true rfl) dX0_init_62 (fun q_13 k_14 H hK hP hD hS => ?_)
  have hP : va_P (dC, dI) vwCl [(h0, .inr (0, [.ref q_1, .ref q_3, .ref q_5, .ref q_7, .ref q_9, .ref q_11, .null, .null, .null, .int 0])), (q_1, .inl (k_2, 8000, .inl (fun _ => 0))), (q_3, .inl (k_4, 8000, .inl (fun _ => 0))), (q_5, .inl (k_6, 8000, .inl (fun _ => 0))), (q_7, .inl (k_8, 8000, .inl (fun _ => 0))), (q_9, .inl (k_10, 8000, .inl (fun _ => 0))), (q_11, .inl (k_12, 168, .inl (fun _ => 0))), (q_13, .inl (k_14, 8000, .inl (fun _ => 0)))] H := hP
  have hD : va_D A [(h0, .inr (0, [.ref q_1, .ref q_3, .ref q_5, .ref q_7, .ref q_9, .ref q_11, .null, .null, .null, .int 0])), (q_1, .inl (k_2, 8000, .inl (fun _ => 0))), (q_3, .inl (k_4, 8000, .inl (fun _ => 0))), (q_5, .inl (k_6, 8000, .inl (fun _ => 0))), (q_7, .inl (k_8, 8000, .inl (fun _ => 0))), (q_9, .inl (k_10, 8000, .inl (fun _ => 0))), (q_11, .inl (k_12, 168, .inl (fun _ => 0))), (q_13, .inl (k_14, 8000, .inl (fun _ => 0)))] := hD
  have hK : va_K (dC, dI) vwCl [(k_2, .int), (k_4, .int), (k_6, .int), (k_8, .int), (k_10, .int), (k_12, .int), (k_14, .int)] s := hK
  refine W.widen (k := 7) (n := 48168) (Nat.le_of_ble_eq_true rfl) (Nat.le_of_ble_eq_true rfl) ?_
  refine va_putF (D := (dC, dI)) (ci := 0) (v := .ref q_13) (ty := .array .int) (C := RX0) (T := TX0) (N := 10) hx hb hts hiX0 tyX0 tyX0_ok nmX0 hown hK hP hD hS 0 rfl rfl 6 (by decide) (hts (.fieldLink RX0 30 "ComboHouse$Code" "source" "[I") (by decide +kernel)) (fun _ h9 => h9) rfl hin rfl (by decide +kernel) rfl rfl (Nat.le_of_ble_eq_true rfl) dX0_init_64 (fun H locs hP hD hS => ?_)
  have hP : va_P (dC, dI) vwCl [(h0, .inr (0, [.ref q_1, .ref q_3, .ref q_5, .ref q_7, .ref q_9, .ref q_11, .ref q_13, .null, .null, .int 0])), (q_1, .inl (k_2, 8000, .inl (fun _ => 0))), (q_3, .inl (k_4, 8000, .inl (fun _ => 0))), (q_5, .inl (k_6, 8000, .inl (fun _ => 0))), (q_7, .inl (k_8, 8000, .inl (fun _ => 0))), (q_9, .inl (k_10, 8000, .inl (fun _ => 0))), (q_11, .inl (k_12, 168, .inl (fun _ => 0))), (q_13, .inl (k_14, 8000, .inl (fun _ => 0)))] H := hP
  have hD : va_D A [(h0, .inr (0, [.ref q_1, .ref q_3, .ref q_5, .ref q_7, .ref q_9, .ref q_11, .ref q_13, .null, .null, .int 0])), (q_1, .inl (k_2, 8000, .inl (fun _ => 0))), (q_3, .inl (k_4, 8000, .inl (fun _ => 0))), (q_5, .inl (k_6, 8000, .inl (fun _ => 0))), (q_7, .inl (k_8, 8000, .inl (fun _ => 0))), (q_9, .inl (k_10, 8000, .inl (fun _ => 0))), (q_11, .inl (k_12, 168, .inl (fun _ => 0))), (q_13, .inl (k_14, 8000, .inl (fun _ => 0)))] := hD
  refine lv_aload_n hx hb dX0_init_67 rfl (lv_at hl 0 rfl) ?_
  refine lv_sipush (v := 8000) hx hb dX0_init_68 (by decide) ?_
  refine va_newa (atype := .int) (ty := .int) (N' := 8000) (a0 := (8000, .inl (fun _ => 0))) hx hb (hts (.arrayClass .int) (by decide +kernel)) rfl hK hP hD hS hA (fun _ => rfl) (by decide) (by decide) (Nat.le_of_ble_eq_true rfl) (Nat.le_of_ble_eq_true rfl) (Nat.le_of_ble_eq_true rfl) dX0_init_71 (fun q_15 k_16 H hK hP hD hS => ?_)
  have hP : va_P (dC, dI) vwCl [(h0, .inr (0, [.ref q_1, .ref q_3, .ref q_5, .ref q_7, .ref q_9, .ref q_11, .ref q_13, .null, .null, .int 0])), (q_1, .inl (k_2, 8000, .inl (fun _ => 0))), (q_3, .inl (k_4, 8000, .inl (fun _ => 0))), (q_5, .inl (k_6, 8000, .inl (fun _ => 0))), (q_7, .inl (k_8, 8000, .inl (fun _ => 0))), (q_9, .inl (k_10, 8000, .inl (fun _ => 0))), (q_11, .inl (k_12, 168, .inl (fun _ => 0))), (q_13, .inl (k_14, 8000, .inl (fun _ => 0))), (q_15, .inl (k_16, 8000, .inl (fun _ => 0)))] H := hP
  have hD : va_D A [(h0, .inr (0, [.ref q_1, .ref q_3, .ref q_5, .ref q_7, .ref q_9, .ref q_11, .ref q_13, .null, .null, .int 0])), (q_1, .inl (k_2, 8000, .inl (fun _ => 0))), (q_3, .inl (k_4, 8000, .inl (fun _ => 0))), (q_5, .inl (k_6, 8000, .inl (fun _ => 0))), (q_7, .inl (k_8, 8000, .inl (fun _ => 0))), (q_9, .inl (k_10, 8000, .inl (fun _ => 0))), (q_11, .inl (k_12, 168, .inl (fun _ => 0))), (q_13, .inl (k_14, 8000, .inl (fun _ => 0))), (q_15, .inl (k_16, 8000, .inl (fun _ => 0)))] := hD
  have hK : va_K (dC, dI) vwCl [(k_2, .int), (k_4, .int), (k_6, .int), (k_8, .int), (k_10, .int), (k_12, .int), (k_14, .int), (k_16, .int)] s := hK
  refine W.widen (k := 8) (n := 56168) (Nat.le_of_ble_eq_true rfl) (Nat.le_of_ble_eq_true rfl) ?_
  refine va_putF (D := (dC, dI)) (ci := 0) (v := .ref q_15) (ty := .array .int) (C := RX0) (T := TX0) (N := 10) hx hb hts hiX0 tyX0 tyX0_ok nmX0 hown hK hP hD hS 0 rfl rfl 7 (by decide) (hts (.fieldLink RX0 33 "ComboHouse$Code" "target" "[I") (by decide +kernel)) (fun _ h9 => h9) rfl hin rfl (by decide +kernel) rfl rfl (Nat.le_of_ble_eq_true rfl) dX0_init_73 (fun H locs hP hD hS => ?_)
  have hP : va_P (dC, dI) vwCl [(h0, .inr (0, [.ref q_1, .ref q_3, .ref q_5, .ref q_7, .ref q_9, .ref q_11, .ref q_13, .ref q_15, .null, .int 0])), (q_1, .inl (k_2, 8000, .inl (fun _ => 0))), (q_3, .inl (k_4, 8000, .inl (fun _ => 0))), (q_5, .inl (k_6, 8000, .inl (fun _ => 0))), (q_7, .inl (k_8, 8000, .inl (fun _ => 0))), (q_9, .inl (k_10, 8000, .inl (fun _ => 0))), (q_11, .inl (k_12, 168, .inl (fun _ => 0))), (q_13, .inl (k_14, 8000, .inl (fun _ => 0))), (q_15, .inl (k_16, 8000, .inl (fun _ => 0)))] H := hP
  have hD : va_D A [(h0, .inr (0, [.ref q_1, .ref q_3, .ref q_5, .ref q_7, .ref q_9, .ref q_11, .ref q_13, .ref q_15, .null, .int 0])), (q_1, .inl (k_2, 8000, .inl (fun _ => 0))), (q_3, .inl (k_4, 8000, .inl (fun _ => 0))), (q_5, .inl (k_6, 8000, .inl (fun _ => 0))), (q_7, .inl (k_8, 8000, .inl (fun _ => 0))), (q_9, .inl (k_10, 8000, .inl (fun _ => 0))), (q_11, .inl (k_12, 168, .inl (fun _ => 0))), (q_13, .inl (k_14, 8000, .inl (fun _ => 0))), (q_15, .inl (k_16, 8000, .inl (fun _ => 0)))] := hD
  refine lv_aload_n hx hb dX0_init_76 rfl (lv_at hl 0 rfl) ?_
  refine lv_sipush (v := 189) hx hb dX0_init_77 (by decide) ?_
  refine va_newa (atype := .int) (ty := .int) (N' := 189) (a0 := (189, .inl (fun _ => 0))) hx hb (hts (.arrayClass .int) (by decide +kernel)) rfl hK hP hD hS hA (fun _ => rfl) (by decide) (by decide) (Nat.le_of_ble_eq_true rfl) (Nat.le_of_ble_eq_true rfl) (Nat.le_of_ble_eq_true rfl) dX0_init_80 (fun q_17 k_18 H hK hP hD hS => ?_)
  have hP : va_P (dC, dI) vwCl [(h0, .inr (0, [.ref q_1, .ref q_3, .ref q_5, .ref q_7, .ref q_9, .ref q_11, .ref q_13, .ref q_15, .null, .int 0])), (q_1, .inl (k_2, 8000, .inl (fun _ => 0))), (q_3, .inl (k_4, 8000, .inl (fun _ => 0))), (q_5, .inl (k_6, 8000, .inl (fun _ => 0))), (q_7, .inl (k_8, 8000, .inl (fun _ => 0))), (q_9, .inl (k_10, 8000, .inl (fun _ => 0))), (q_11, .inl (k_12, 168, .inl (fun _ => 0))), (q_13, .inl (k_14, 8000, .inl (fun _ => 0))), (q_15, .inl (k_16, 8000, .inl (fun _ => 0))), (q_17, .inl (k_18, 189, .inl (fun _ => 0)))] H := hP
  have hD : va_D A [(h0, .inr (0, [.ref q_1, .ref q_3, .ref q_5, .ref q_7, .ref q_9, .ref q_11, .ref q_13, .ref q_15, .null, .int 0])), (q_1, .inl (k_2, 8000, .inl (fun _ => 0))), (q_3, .inl (k_4, 8000, .inl (fun _ => 0))), (q_5, .inl (k_6, 8000, .inl (fun _ => 0))), (q_7, .inl (k_8, 8000, .inl (fun _ => 0))), (q_9, .inl (k_10, 8000, .inl (fun _ => 0))), (q_11, .inl (k_12, 168, .inl (fun _ => 0))), (q_13, .inl (k_14, 8000, .inl (fun _ => 0))), (q_15, .inl (k_16, 8000, .inl (fun _ => 0))), (q_17, .inl (k_18, 189, .inl (fun _ => 0)))] := hD
  have hK : va_K (dC, dI) vwCl [(k_2, .int), (k_4, .int), (k_6, .int), (k_8, .int), (k_10, .int), (k_12, .int), (k_14, .int), (k_16, .int), (k_18, .int)] s := hK
  refine W.widen (k := 9) (n := 56357) (Nat.le_of_ble_eq_true rfl) (Nat.le_of_ble_eq_true rfl) ?_
  refine va_putF (D := (dC, dI)) (ci := 0) (v := .ref q_17) (ty := .array .int) (C := RX0) (T := TX0) (N := 10) hx hb hts hiX0 tyX0 tyX0_ok nmX0 hown hK hP hD hS 0 rfl rfl 8 (by decide) (hts (.fieldLink RX0 36 "ComboHouse$Code" "pieces" "[I") (by decide +kernel)) (fun _ h9 => h9) rfl hin rfl (by decide +kernel) rfl rfl (Nat.le_of_ble_eq_true rfl) dX0_init_82 (fun H locs hP hD hS => ?_)
  have hP : va_P (dC, dI) vwCl [(h0, .inr (0, [.ref q_1, .ref q_3, .ref q_5, .ref q_7, .ref q_9, .ref q_11, .ref q_13, .ref q_15, .ref q_17, .int 0])), (q_1, .inl (k_2, 8000, .inl (fun _ => 0))), (q_3, .inl (k_4, 8000, .inl (fun _ => 0))), (q_5, .inl (k_6, 8000, .inl (fun _ => 0))), (q_7, .inl (k_8, 8000, .inl (fun _ => 0))), (q_9, .inl (k_10, 8000, .inl (fun _ => 0))), (q_11, .inl (k_12, 168, .inl (fun _ => 0))), (q_13, .inl (k_14, 8000, .inl (fun _ => 0))), (q_15, .inl (k_16, 8000, .inl (fun _ => 0))), (q_17, .inl (k_18, 189, .inl (fun _ => 0)))] H := hP
  have hD : va_D A [(h0, .inr (0, [.ref q_1, .ref q_3, .ref q_5, .ref q_7, .ref q_9, .ref q_11, .ref q_13, .ref q_15, .ref q_17, .int 0])), (q_1, .inl (k_2, 8000, .inl (fun _ => 0))), (q_3, .inl (k_4, 8000, .inl (fun _ => 0))), (q_5, .inl (k_6, 8000, .inl (fun _ => 0))), (q_7, .inl (k_8, 8000, .inl (fun _ => 0))), (q_9, .inl (k_10, 8000, .inl (fun _ => 0))), (q_11, .inl (k_12, 168, .inl (fun _ => 0))), (q_13, .inl (k_14, 8000, .inl (fun _ => 0))), (q_15, .inl (k_16, 8000, .inl (fun _ => 0))), (q_17, .inl (k_18, 189, .inl (fun _ => 0)))] := hD
  refine lv_aload_n hx hb dX0_init_85 rfl (lv_at hl 0 rfl) ?_
  refine lv_sipush (v := 400) hx hb dX0_init_86 (by decide) ?_
  refine va_put (D := (dC, dI)) (ci := 0) (v := .int 400) (ty := .int) (C := RX0) (T := TX0) (N := 10) hx hb hts hiX0 tyX0 tyX0_ok nmX0 hown hK hP hD hS 0 rfl rfl 9 (by decide) (hts (.fieldLink RX0 39 "ComboHouse$Code" "count" "I") (by decide +kernel)) (fun _ h9 => h9) rfl (by decide +kernel) rfl rfl (Nat.le_of_ble_eq_true rfl) dX0_init_89 (fun H locs hP hD hS => ?_)
  have hP : va_P (dC, dI) vwCl [(h0, .inr (0, [.ref q_1, .ref q_3, .ref q_5, .ref q_7, .ref q_9, .ref q_11, .ref q_13, .ref q_15, .ref q_17, .int 400])), (q_1, .inl (k_2, 8000, .inl (fun _ => 0))), (q_3, .inl (k_4, 8000, .inl (fun _ => 0))), (q_5, .inl (k_6, 8000, .inl (fun _ => 0))), (q_7, .inl (k_8, 8000, .inl (fun _ => 0))), (q_9, .inl (k_10, 8000, .inl (fun _ => 0))), (q_11, .inl (k_12, 168, .inl (fun _ => 0))), (q_13, .inl (k_14, 8000, .inl (fun _ => 0))), (q_15, .inl (k_16, 8000, .inl (fun _ => 0))), (q_17, .inl (k_18, 189, .inl (fun _ => 0)))] H := hP
  have hD : va_D A [(h0, .inr (0, [.ref q_1, .ref q_3, .ref q_5, .ref q_7, .ref q_9, .ref q_11, .ref q_13, .ref q_15, .ref q_17, .int 400])), (q_1, .inl (k_2, 8000, .inl (fun _ => 0))), (q_3, .inl (k_4, 8000, .inl (fun _ => 0))), (q_5, .inl (k_6, 8000, .inl (fun _ => 0))), (q_7, .inl (k_8, 8000, .inl (fun _ => 0))), (q_9, .inl (k_10, 8000, .inl (fun _ => 0))), (q_11, .inl (k_12, 168, .inl (fun _ => 0))), (q_13, .inl (k_14, 8000, .inl (fun _ => 0))), (q_15, .inl (k_16, 8000, .inl (fun _ => 0))), (q_17, .inl (k_18, 189, .inl (fun _ => 0)))] := hD
  have hP9 := hP.sub (ws' := [(h0, .inr (0, [.ref q_1, .ref q_3, .ref q_5, .ref q_7, .ref q_9, .ref q_11, .ref q_13, .ref q_15, .ref q_17, .int 400])), (q_1, .inl (k_2, 8000, .inl (fun _ => 0))), (q_3, .inl (k_4, 8000, .inl (fun _ => 0))), (q_5, .inl (k_6, 8000, .inl (fun _ => 0))), (q_7, .inl (k_8, 8000, .inl (fun _ => 0))), (q_9, .inl (k_10, 8000, .inl (fun _ => 0))), (q_11, .inl (k_12, 168, .inl (fun _ => 0))), (q_13, .inl (k_14, 8000, .inl (fun _ => 0))), (q_15, .inl (k_16, 8000, .inl (fun _ => 0))), (q_17, .inl (k_18, 189, .inl (fun _ => 0)))]) [0, 1, 2, 3, 4, 5, 6, 7, 8, 9] rfl
  have hD9 := hD.sub (ws' := [(h0, .inr (0, [.ref q_1, .ref q_3, .ref q_5, .ref q_7, .ref q_9, .ref q_11, .ref q_13, .ref q_15, .ref q_17, .int 400])), (q_1, .inl (k_2, 8000, .inl (fun _ => 0))), (q_3, .inl (k_4, 8000, .inl (fun _ => 0))), (q_5, .inl (k_6, 8000, .inl (fun _ => 0))), (q_7, .inl (k_8, 8000, .inl (fun _ => 0))), (q_9, .inl (k_10, 8000, .inl (fun _ => 0))), (q_11, .inl (k_12, 168, .inl (fun _ => 0))), (q_13, .inl (k_14, 8000, .inl (fun _ => 0))), (q_15, .inl (k_16, 8000, .inl (fun _ => 0))), (q_17, .inl (k_18, 189, .inl (fun _ => 0)))]) [0, 1, 2, 3, 4, 5, 6, 7, 8, 9] (by decide) rfl
  have hK9 := hK.sub (tys' := [(k_2, .int), (k_4, .int), (k_6, .int), (k_8, .int), (k_10, .int), (k_12, .int), (k_14, .int), (k_16, .int), (k_18, .int)]) [0, 1, 2, 3, 4, 5, 6, 7, 8] rfl
  refine W.widen (k := 9) (n := 56357) (Nat.le_of_ble_eq_true rfl) (Nat.le_of_ble_eq_true rfl) ?_
  exact W.vret hx hb hr (fun t ht hW => ⟨⟨(), rfl, trivial, q_1, k_2, q_3, k_4, q_5, k_6, q_7, k_8, q_9, k_10, q_11, k_12, q_13, k_14, q_15, k_16, q_17, k_18, by rw [ht]; exact hP9, va_K.moved hW.alike hK9, hAe ▸ hD9⟩, hAe ▸ hS.F ht⟩) (fun q hq => hAe ▸ hS.2.2 q hq) dX0_init_92
set_option maxHeartbeats 4000000 in
set_option maxRecDepth 100000 in
theorem c_X2_init (l : Launch) (dC : Nat → ClassId) (dI : Nat → Nat → Nat) (h0 : Nat) (sz : Nat) : Met l yX2_init wsX2_init ({ frames := 1, cells := 0, slots := 0, locals := 12 }) (va_Pc [.ref h0] (fun U => U.heap.size = sz ∧ va_P (dC, dI) vwCl [(h0, .inr (2, [.int 0, .long 0, .int 0, .long 0, .long 0, .long 0, .long 0, .long 0, .long 0, .long 0]))] U.heap ∧ va_K (dC, dI) vwCl [] U ∧ va_D (fun _ => True) [(h0, .inr (2, [.int 0, .long 0, .int 0, .long 0, .long 0, .long 0, .long 0, .long 0, .long 0, .long 0]))])) (va_Qv (fun (_ : Unit) => True) (fun (_ : Unit) (t : State) => va_P (dC, dI) vwCl [(h0, .inr (2, [.int 0, .long 0, .int 0, .long 0, .long 0, .long 0, .long 0, .long 0, .long 0, .long 0]))] t.heap ∧ va_K (dC, dI) vwCl [] t ∧ va_D (va_A [(h0, .inr (2, [.int 0, .long 0, .int 0, .long 0, .long 0, .long 0, .long 0, .long 0, .long 0, .long 0]))] sz) [(h0, .inr (2, [.int 0, .long 0, .int 0, .long 0, .long 0, .long 0, .long 0, .long 0, .long 0, .long 0]))]) (va_A [(h0, .inr (2, [.int 0, .long 0, .int 0, .long 0, .long 0, .long 0, .long 0, .long 0, .long 0, .long 0]))] sz)) 0 0 (va_A [(h0, .inr (2, [.int 0, .long 0, .int 0, .long 0, .long 0, .long 0, .long 0, .long 0, .long 0, .long 0]))] sz) := by
  refine Met.ofW (cc := cX2_init) (maxL := 1) (ret := none) (by decide) rfl ?_
  intro p e s m args below meth c s₁ B hml hv
  obtain ⟨rfl, hsz, hP, hK, hD0⟩ := hv
  have hx := B.exec
  have hb := B.bytes
  have hr := B.returns
  have hts := atoms_spec (ws := wsX2_init) B.pre
  have hown : s.vm.findClass RX2 = some m.cls := findClass_of_methodNamed B.named
  have hlocks := B.notSynchronized
  have hin : meth.name = "<init>" := (name_of_methodNamed B.named B.method).1
  subst hsz
  have hD := hD0.self (sz := s.heap.size)
  generalize hAe : va_A [(h0, .inr (2, [.int 0, .long 0, .int 0, .long 0, .long 0, .long 0, .long 0, .long 0, .long 0, .long 0]))] s.heap.size = A at hD ⊢
  have hA : ∀ q : Nat, s.heap.size ≤ q → A q := fun q h => by rw [← hAe]; exact Or.inr h
  have hS : va_S A s.heap s.heap [] := va_S.rf
  have hP : va_P (dC, dI) vwCl [(h0, .inr (2, [.int 0, .long 0, .int 0, .long 0, .long 0, .long 0, .long 0, .long 0, .long 0, .long 0]))] s.heap := hP
  have hD : va_D A [(h0, .inr (2, [.int 0, .long 0, .int 0, .long 0, .long 0, .long 0, .long 0, .long 0, .long 0, .long 0]))] := hD
  have hl := lv_entry ([.ref h0]) (n := 1) (Nat.le_of_ble_eq_true rfl)
  rw [lg_entry_eq]
  generalize (lg_sl ([.ref h0]) ++ List.replicate (1 - (lg_sl ([.ref h0])).length) Slot.unset).toArray = ls at hl ⊢
  have hl : lv_has ls 1 [(0, .ref h0)] := hl
  refine lv_aload_n hx hb dX2_init_0 rfl (lv_at hl 0 rfl) ?_
  refine W.objInit hx hb hown (hts (.methodLink RX2 1 objectInit) (by decide +kernel)) (hts (.instanceMethod objectInit) (by decide +kernel)) (hts (.code objectInit ⟨#[0xb1]⟩ 1 none) (by decide +kernel)) rfl (by rw [hml]; exact hl.1) rfl dX2_init_1 (Nat.le_of_ble_eq_true rfl) (Nat.le_of_ble_eq_true rfl) ?_
  refine W.eq (g2 := F0 m 4 ls []) rfl ?_
  have hP9 := hP.sub (ws' := [(h0, .inr (2, [.int 0, .long 0, .int 0, .long 0, .long 0, .long 0, .long 0, .long 0, .long 0, .long 0]))]) [0] rfl
  have hD9 := hD.sub (ws' := [(h0, .inr (2, [.int 0, .long 0, .int 0, .long 0, .long 0, .long 0, .long 0, .long 0, .long 0, .long 0]))]) [0] (by decide) rfl
  have hK9 := hK.sub (tys' := []) [] rfl
  refine W.widen (k := 0) (n := 0) (Nat.le_of_ble_eq_true rfl) (Nat.le_of_ble_eq_true rfl) ?_
  exact W.vret hx hb hr (fun t ht hW => ⟨⟨(), rfl, trivial, by rw [ht]; exact hP9, va_K.moved hW.alike hK9, hAe ▸ hD9⟩, hAe ▸ hS.F ht⟩) (fun q hq => hAe ▸ hS.2.2 q hq) dX2_init_4
set_option maxHeartbeats 4000000 in
set_option maxRecDepth 100000 in
theorem c_X3_init (l : Launch) (dC : Nat → ClassId) (dI : Nat → Nat → Nat) (h0 : Nat) (p0 : Nat) (sz : Nat) : Met l yX3_init wsX3_init ({ frames := 1, cells := 0, slots := 0, locals := 12 }) (va_Pc [.ref h0, .ref p0] (fun U => U.heap.size = sz ∧ va_P (dC, dI) vwCl [(h0, .inr (3, [.null, .null, .null, .int 0, .int 0, .int 0]))] U.heap ∧ va_K (dC, dI) vwCl [] U ∧ va_D (fun _ => True) [(h0, .inr (3, [.null, .null, .null, .int 0, .int 0, .int 0]))])) (va_Qv (fun (_ : Unit) => True) (fun (_ : Unit) (t : State) => va_P (dC, dI) vwCl [(h0, .inr (3, [.ref p0, .null, .null, .int 0, .int 0, .int 0]))] t.heap ∧ va_K (dC, dI) vwCl [] t ∧ va_D (va_A [(h0, .inr (3, [.null, .null, .null, .int 0, .int 0, .int 0]))] sz) [(h0, .inr (3, [.ref p0, .null, .null, .int 0, .int 0, .int 0]))]) (va_A [(h0, .inr (3, [.null, .null, .null, .int 0, .int 0, .int 0]))] sz)) 0 0 (va_A [(h0, .inr (3, [.null, .null, .null, .int 0, .int 0, .int 0]))] sz) := by
  refine Met.ofW (cc := cX3_init) (maxL := 2) (ret := none) (by decide) rfl ?_
  intro p e s m args below meth c s₁ B hml hv
  obtain ⟨rfl, hsz, hP, hK, hD0⟩ := hv
  have hx := B.exec
  have hb := B.bytes
  have hr := B.returns
  have hts := atoms_spec (ws := wsX3_init) B.pre
  have hown : s.vm.findClass RX3 = some m.cls := findClass_of_methodNamed B.named
  have hlocks := B.notSynchronized
  have hin : meth.name = "<init>" := (name_of_methodNamed B.named B.method).1
  subst hsz
  have hD := hD0.self (sz := s.heap.size)
  generalize hAe : va_A [(h0, .inr (3, [.null, .null, .null, .int 0, .int 0, .int 0]))] s.heap.size = A at hD ⊢
  have hA : ∀ q : Nat, s.heap.size ≤ q → A q := fun q h => by rw [← hAe]; exact Or.inr h
  have hS : va_S A s.heap s.heap [] := va_S.rf
  have hP : va_P (dC, dI) vwCl [(h0, .inr (3, [.null, .null, .null, .int 0, .int 0, .int 0]))] s.heap := hP
  have hD : va_D A [(h0, .inr (3, [.null, .null, .null, .int 0, .int 0, .int 0]))] := hD
  have hl := lv_entry ([.ref h0, .ref p0]) (n := 2) (Nat.le_of_ble_eq_true rfl)
  rw [lg_entry_eq]
  generalize (lg_sl ([.ref h0, .ref p0]) ++ List.replicate (2 - (lg_sl ([.ref h0, .ref p0])).length) Slot.unset).toArray = ls at hl ⊢
  have hl : lv_has ls 2 [(0, .ref h0), (1, .ref p0)] := hl
  have hiX3 : ∀ w ∈ wsX30, w ∈ wsX3_init := by decide +kernel
  refine lv_aload_n hx hb dX3_init_0 rfl (lv_at hl 0 rfl) ?_
  refine W.objInit hx hb hown (hts (.methodLink RX3 3 objectInit) (by decide +kernel)) (hts (.instanceMethod objectInit) (by decide +kernel)) (hts (.code objectInit ⟨#[0xb1]⟩ 1 none) (by decide +kernel)) rfl (by rw [hml]; exact hl.1) rfl dX3_init_1 (Nat.le_of_ble_eq_true rfl) (Nat.le_of_ble_eq_true rfl) ?_
  refine W.eq (g2 := F0 m 4 ls []) rfl ?_
  refine lv_aload_n hx hb dX3_init_4 rfl (lv_at hl 0 rfl) ?_
  refine lv_aload_n hx hb dX3_init_5 rfl (lv_at hl 1 rfl) ?_
  refine va_putF (D := (dC, dI)) (ci := 3) (v := .ref p0) (ty := .object "ComboHouse$Order") (C := RX3) (T := TX3) (N := 6) hx hb hts hiX3 tyX3 tyX3_ok nmX3 hown hK hP hD hS 0 rfl rfl 0 (by decide) (hts (.fieldLink RX3 9 "ComboHouse$Loader" "order" "LComboHouse$Order;") (by decide +kernel)) (fun _ h9 => h9) rfl hin rfl (by decide +kernel) rfl rfl (Nat.le_of_ble_eq_true rfl) dX3_init_6 (fun H locs hP hD hS => ?_)
  have hP : va_P (dC, dI) vwCl [(h0, .inr (3, [.ref p0, .null, .null, .int 0, .int 0, .int 0]))] H := hP
  have hD : va_D A [(h0, .inr (3, [.ref p0, .null, .null, .int 0, .int 0, .int 0]))] := hD
  have hP9 := hP.sub (ws' := [(h0, .inr (3, [.ref p0, .null, .null, .int 0, .int 0, .int 0]))]) [0] rfl
  have hD9 := hD.sub (ws' := [(h0, .inr (3, [.ref p0, .null, .null, .int 0, .int 0, .int 0]))]) [0] (by decide) rfl
  have hK9 := hK.sub (tys' := []) [] rfl
  refine W.widen (k := 0) (n := 0) (Nat.le_of_ble_eq_true rfl) (Nat.le_of_ble_eq_true rfl) ?_
  exact W.vret hx hb hr (fun t ht hW => ⟨⟨(), rfl, trivial, by rw [ht]; exact hP9, va_K.moved hW.alike hK9, hAe ▸ hD9⟩, hAe ▸ hS.F ht⟩) (fun q hq => hAe ▸ hS.2.2 q hq) dX3_init_9
set_option maxHeartbeats 4000000 in
set_option maxRecDepth 100000 in
theorem c_X7_init (l : Launch) (dC : Nat → ClassId) (dI : Nat → Nat → Nat) (h0 : Nat) (sz : Nat) : Met l yX7_init wsX7_init ({ frames := 1, cells := 4, slots := 26048, locals := 12 }) (va_Pc [.ref h0] (fun U => U.heap.size = sz ∧ va_P (dC, dI) vwCl [(h0, .inr (7, [.null, .null, .null, .null, .int 0, .int 0, .int 0]))] U.heap ∧ va_K (dC, dI) vwCl [] U ∧ va_D (fun _ => True) [(h0, .inr (7, [.null, .null, .null, .null, .int 0, .int 0, .int 0]))])) (va_Qv (fun (_ : Unit) => True) (fun (_ : Unit) (t : State) => ∃ (aq0 : Nat), ∃ (ak0 : ClassId), ∃ (aq1 : Nat), ∃ (ak1 : ClassId), ∃ (aq2 : Nat), ∃ (ak2 : ClassId), ∃ (aq3 : Nat), ∃ (ak3 : ClassId), va_P (dC, dI) vwCl [(h0, .inr (7, [.ref aq0, .ref aq1, .ref aq2, .ref aq3, .int 0, .int 0, .int 0])), (aq0, .inl (ak0, 3200, .inl (fun _ => 0))), (aq1, .inl (ak1, 22656, .inl (fun _ => 0))), (aq2, .inl (ak2, 128, .inl (fun _ => 0))), (aq3, .inl (ak3, 64, .inl (fun _ => 0)))] t.heap ∧ va_K (dC, dI) vwCl [(ak0, .int), (ak1, .int), (ak2, .int), (ak3, .int)] t ∧ va_D (va_A [(h0, .inr (7, [.null, .null, .null, .null, .int 0, .int 0, .int 0]))] sz) [(h0, .inr (7, [.ref aq0, .ref aq1, .ref aq2, .ref aq3, .int 0, .int 0, .int 0])), (aq0, .inl (ak0, 3200, .inl (fun _ => 0))), (aq1, .inl (ak1, 22656, .inl (fun _ => 0))), (aq2, .inl (ak2, 128, .inl (fun _ => 0))), (aq3, .inl (ak3, 64, .inl (fun _ => 0)))]) (va_A [(h0, .inr (7, [.null, .null, .null, .null, .int 0, .int 0, .int 0]))] sz)) 4 26048 (va_A [(h0, .inr (7, [.null, .null, .null, .null, .int 0, .int 0, .int 0]))] sz) := by
  refine Met.ofW (cc := cX7_init) (maxL := 1) (ret := none) (by decide) rfl ?_
  intro p e s m args below meth c s₁ B hml hv
  obtain ⟨rfl, hsz, hP, hK, hD0⟩ := hv
  have hx := B.exec
  have hb := B.bytes
  have hr := B.returns
  have hts := atoms_spec (ws := wsX7_init) B.pre
  have hown : s.vm.findClass RX7 = some m.cls := findClass_of_methodNamed B.named
  have hlocks := B.notSynchronized
  have hin : meth.name = "<init>" := (name_of_methodNamed B.named B.method).1
  subst hsz
  have hD := hD0.self (sz := s.heap.size)
  generalize hAe : va_A [(h0, .inr (7, [.null, .null, .null, .null, .int 0, .int 0, .int 0]))] s.heap.size = A at hD ⊢
  have hA : ∀ q : Nat, s.heap.size ≤ q → A q := fun q h => by rw [← hAe]; exact Or.inr h
  have hS : va_S A s.heap s.heap [] := va_S.rf
  have hP : va_P (dC, dI) vwCl [(h0, .inr (7, [.null, .null, .null, .null, .int 0, .int 0, .int 0]))] s.heap := hP
  have hD : va_D A [(h0, .inr (7, [.null, .null, .null, .null, .int 0, .int 0, .int 0]))] := hD
  have hl := lv_entry ([.ref h0]) (n := 1) (Nat.le_of_ble_eq_true rfl)
  rw [lg_entry_eq]
  generalize (lg_sl ([.ref h0]) ++ List.replicate (1 - (lg_sl ([.ref h0])).length) Slot.unset).toArray = ls at hl ⊢
  have hl : lv_has ls 1 [(0, .ref h0)] := hl
  have hiX7 : ∀ w ∈ wsX70, w ∈ wsX7_init := by decide +kernel
  refine lv_aload_n hx hb dX7_init_0 rfl (lv_at hl 0 rfl) ?_
  refine W.objInit hx hb hown (hts (.methodLink RX7 3 objectInit) (by decide +kernel)) (hts (.instanceMethod objectInit) (by decide +kernel)) (hts (.code objectInit ⟨#[0xb1]⟩ 1 none) (by decide +kernel)) rfl (by rw [hml]; exact hl.1) rfl dX7_init_1 (Nat.le_of_ble_eq_true rfl) (Nat.le_of_ble_eq_true rfl) ?_
  refine W.eq (g2 := F0 m 4 ls []) rfl ?_
  refine lv_aload_n hx hb dX7_init_4 rfl (lv_at hl 0 rfl) ?_
  refine lv_sipush (v := 3200) hx hb dX7_init_5 (by decide) ?_
  refine va_newa (atype := .int) (ty := .int) (N' := 3200) (a0 := (3200, .inl (fun _ => 0))) hx hb (hts (.arrayClass .int) (by decide +kernel)) rfl hK hP hD hS hA (fun _ => rfl) (by decide) (by decide) (Nat.le_of_ble_eq_true rfl) (Nat.le_of_ble_eq_true rfl) (Nat.le_of_ble_eq_true rfl) dX7_init_8 (fun q_1 k_2 H hK hP hD hS => ?_)
  have hP : va_P (dC, dI) vwCl [(h0, .inr (7, [.null, .null, .null, .null, .int 0, .int 0, .int 0])), (q_1, .inl (k_2, 3200, .inl (fun _ => 0)))] H := hP
  have hD : va_D A [(h0, .inr (7, [.null, .null, .null, .null, .int 0, .int 0, .int 0])), (q_1, .inl (k_2, 3200, .inl (fun _ => 0)))] := hD
  have hK : va_K (dC, dI) vwCl [(k_2, .int)] s := hK
  refine W.widen (k := 1) (n := 3200) (Nat.le_of_ble_eq_true rfl) (Nat.le_of_ble_eq_true rfl) ?_
  refine va_putF (D := (dC, dI)) (ci := 7) (v := .ref q_1) (ty := .array .int) (C := RX7) (T := TX7) (N := 7) hx hb hts hiX7 tyX7 tyX7_ok nmX7 hown hK hP hD hS 0 rfl rfl 0 (by decide) (hts (.fieldLink RX7 9 "ComboHouse$Roots" "ofNodes" "[I") (by decide +kernel)) (fun _ h9 => h9) rfl hin rfl (by decide +kernel) rfl rfl (Nat.le_of_ble_eq_true rfl) dX7_init_10 (fun H locs hP hD hS => ?_)
  have hP : va_P (dC, dI) vwCl [(h0, .inr (7, [.ref q_1, .null, .null, .null, .int 0, .int 0, .int 0])), (q_1, .inl (k_2, 3200, .inl (fun _ => 0)))] H := hP
  have hD : va_D A [(h0, .inr (7, [.ref q_1, .null, .null, .null, .int 0, .int 0, .int 0])), (q_1, .inl (k_2, 3200, .inl (fun _ => 0)))] := hD
  refine lv_aload_n hx hb dX7_init_13 rfl (lv_at hl 0 rfl) ?_
  refine lv_sipush (v := 22656) hx hb dX7_init_14 (by decide) ?_
  refine va_newa (atype := .int) (ty := .int) (N' := 22656) (a0 := (22656, .inl (fun _ => 0))) hx hb (hts (.arrayClass .int) (by decide +kernel)) rfl hK hP hD hS hA (fun _ => rfl) (by decide) (by decide) (Nat.le_of_ble_eq_true rfl) (Nat.le_of_ble_eq_true rfl) (Nat.le_of_ble_eq_true rfl) dX7_init_17 (fun q_3 k_4 H hK hP hD hS => ?_)
  have hP : va_P (dC, dI) vwCl [(h0, .inr (7, [.ref q_1, .null, .null, .null, .int 0, .int 0, .int 0])), (q_1, .inl (k_2, 3200, .inl (fun _ => 0))), (q_3, .inl (k_4, 22656, .inl (fun _ => 0)))] H := hP
  have hD : va_D A [(h0, .inr (7, [.ref q_1, .null, .null, .null, .int 0, .int 0, .int 0])), (q_1, .inl (k_2, 3200, .inl (fun _ => 0))), (q_3, .inl (k_4, 22656, .inl (fun _ => 0)))] := hD
  have hK : va_K (dC, dI) vwCl [(k_2, .int), (k_4, .int)] s := hK
  refine W.widen (k := 2) (n := 25856) (Nat.le_of_ble_eq_true rfl) (Nat.le_of_ble_eq_true rfl) ?_
  refine va_putF (D := (dC, dI)) (ci := 7) (v := .ref q_3) (ty := .array .int) (C := RX7) (T := TX7) (N := 7) hx hb hts hiX7 tyX7 tyX7_ok nmX7 hown hK hP hD hS 0 rfl rfl 1 (by decide) (hts (.fieldLink RX7 15 "ComboHouse$Roots" "ofTypes" "[I") (by decide +kernel)) (fun _ h9 => h9) rfl hin rfl (by decide +kernel) rfl rfl (Nat.le_of_ble_eq_true rfl) dX7_init_19 (fun H locs hP hD hS => ?_)
  have hP : va_P (dC, dI) vwCl [(h0, .inr (7, [.ref q_1, .ref q_3, .null, .null, .int 0, .int 0, .int 0])), (q_1, .inl (k_2, 3200, .inl (fun _ => 0))), (q_3, .inl (k_4, 22656, .inl (fun _ => 0)))] H := hP
  have hD : va_D A [(h0, .inr (7, [.ref q_1, .ref q_3, .null, .null, .int 0, .int 0, .int 0])), (q_1, .inl (k_2, 3200, .inl (fun _ => 0))), (q_3, .inl (k_4, 22656, .inl (fun _ => 0)))] := hD
  refine lv_aload_n hx hb dX7_init_22 rfl (lv_at hl 0 rfl) ?_
  refine lv_sipush (v := 128) hx hb dX7_init_23 (by decide) ?_
  refine va_newa (atype := .int) (ty := .int) (N' := 128) (a0 := (128, .inl (fun _ => 0))) hx hb (hts (.arrayClass .int) (by decide +kernel)) rfl hK hP hD hS hA (fun _ => rfl) (by decide) (by decide) (Nat.le_of_ble_eq_true rfl) (Nat.le_of_ble_eq_true rfl) (Nat.le_of_ble_eq_true rfl) dX7_init_26 (fun q_5 k_6 H hK hP hD hS => ?_)
  have hP : va_P (dC, dI) vwCl [(h0, .inr (7, [.ref q_1, .ref q_3, .null, .null, .int 0, .int 0, .int 0])), (q_1, .inl (k_2, 3200, .inl (fun _ => 0))), (q_3, .inl (k_4, 22656, .inl (fun _ => 0))), (q_5, .inl (k_6, 128, .inl (fun _ => 0)))] H := hP
  have hD : va_D A [(h0, .inr (7, [.ref q_1, .ref q_3, .null, .null, .int 0, .int 0, .int 0])), (q_1, .inl (k_2, 3200, .inl (fun _ => 0))), (q_3, .inl (k_4, 22656, .inl (fun _ => 0))), (q_5, .inl (k_6, 128, .inl (fun _ => 0)))] := hD
  have hK : va_K (dC, dI) vwCl [(k_2, .int), (k_4, .int), (k_6, .int)] s := hK
  refine W.widen (k := 3) (n := 25984) (Nat.le_of_ble_eq_true rfl) (Nat.le_of_ble_eq_true rfl) ?_
  refine va_putF (D := (dC, dI)) (ci := 7) (v := .ref q_5) (ty := .array .int) (C := RX7) (T := TX7) (N := 7) hx hb hts hiX7 tyX7 tyX7_ok nmX7 hown hK hP hD hS 0 rfl rfl 2 (by decide) (hts (.fieldLink RX7 18 "ComboHouse$Roots" "leaves" "[I") (by decide +kernel)) (fun _ h9 => h9) rfl hin rfl (by decide +kernel) rfl rfl (Nat.le_of_ble_eq_true rfl) dX7_init_28 (fun H locs hP hD hS => ?_)
  have hP : va_P (dC, dI) vwCl [(h0, .inr (7, [.ref q_1, .ref q_3, .ref q_5, .null, .int 0, .int 0, .int 0])), (q_1, .inl (k_2, 3200, .inl (fun _ => 0))), (q_3, .inl (k_4, 22656, .inl (fun _ => 0))), (q_5, .inl (k_6, 128, .inl (fun _ => 0)))] H := hP
  have hD : va_D A [(h0, .inr (7, [.ref q_1, .ref q_3, .ref q_5, .null, .int 0, .int 0, .int 0])), (q_1, .inl (k_2, 3200, .inl (fun _ => 0))), (q_3, .inl (k_4, 22656, .inl (fun _ => 0))), (q_5, .inl (k_6, 128, .inl (fun _ => 0)))] := hD
  refine lv_aload_n hx hb dX7_init_31 rfl (lv_at hl 0 rfl) ?_
  refine lv_bipush (v := 64) hx hb dX7_init_32 (by decide) ?_
  refine va_newa (atype := .int) (ty := .int) (N' := 64) (a0 := (64, .inl (fun _ => 0))) hx hb (hts (.arrayClass .int) (by decide +kernel)) rfl hK hP hD hS hA (fun _ => rfl) (by decide) (by decide) (Nat.le_of_ble_eq_true rfl) (Nat.le_of_ble_eq_true rfl) (Nat.le_of_ble_eq_true rfl) dX7_init_34 (fun q_7 k_8 H hK hP hD hS => ?_)
  have hP : va_P (dC, dI) vwCl [(h0, .inr (7, [.ref q_1, .ref q_3, .ref q_5, .null, .int 0, .int 0, .int 0])), (q_1, .inl (k_2, 3200, .inl (fun _ => 0))), (q_3, .inl (k_4, 22656, .inl (fun _ => 0))), (q_5, .inl (k_6, 128, .inl (fun _ => 0))), (q_7, .inl (k_8, 64, .inl (fun _ => 0)))] H := hP
  have hD : va_D A [(h0, .inr (7, [.ref q_1, .ref q_3, .ref q_5, .null, .int 0, .int 0, .int 0])), (q_1, .inl (k_2, 3200, .inl (fun _ => 0))), (q_3, .inl (k_4, 22656, .inl (fun _ => 0))), (q_5, .inl (k_6, 128, .inl (fun _ => 0))), (q_7, .inl (k_8, 64, .inl (fun _ => 0)))] := hD
  have hK : va_K (dC, dI) vwCl [(k_2, .int), (k_4, .int), (k_6, .int), (k_8, .int)] s := hK
  refine W.widen (k := 4) (n := 26048) (Nat.le_of_ble_eq_true rfl) (Nat.le_of_ble_eq_true rfl) ?_
  refine va_putF (D := (dC, dI)) (ci := 7) (v := .ref q_7) (ty := .array .int) (C := RX7) (T := TX7) (N := 7) hx hb hts hiX7 tyX7 tyX7_ok nmX7 hown hK hP hD hS 0 rfl rfl 3 (by decide) (hts (.fieldLink RX7 21 "ComboHouse$Roots" "w" "[I") (by decide +kernel)) (fun _ h9 => h9) rfl hin rfl (by decide +kernel) rfl rfl (Nat.le_of_ble_eq_true rfl) dX7_init_36 (fun H locs hP hD hS => ?_)
  have hP : va_P (dC, dI) vwCl [(h0, .inr (7, [.ref q_1, .ref q_3, .ref q_5, .ref q_7, .int 0, .int 0, .int 0])), (q_1, .inl (k_2, 3200, .inl (fun _ => 0))), (q_3, .inl (k_4, 22656, .inl (fun _ => 0))), (q_5, .inl (k_6, 128, .inl (fun _ => 0))), (q_7, .inl (k_8, 64, .inl (fun _ => 0)))] H := hP
  have hD : va_D A [(h0, .inr (7, [.ref q_1, .ref q_3, .ref q_5, .ref q_7, .int 0, .int 0, .int 0])), (q_1, .inl (k_2, 3200, .inl (fun _ => 0))), (q_3, .inl (k_4, 22656, .inl (fun _ => 0))), (q_5, .inl (k_6, 128, .inl (fun _ => 0))), (q_7, .inl (k_8, 64, .inl (fun _ => 0)))] := hD
  have hP9 := hP.sub (ws' := [(h0, .inr (7, [.ref q_1, .ref q_3, .ref q_5, .ref q_7, .int 0, .int 0, .int 0])), (q_1, .inl (k_2, 3200, .inl (fun _ => 0))), (q_3, .inl (k_4, 22656, .inl (fun _ => 0))), (q_5, .inl (k_6, 128, .inl (fun _ => 0))), (q_7, .inl (k_8, 64, .inl (fun _ => 0)))]) [0, 1, 2, 3, 4] rfl
  have hD9 := hD.sub (ws' := [(h0, .inr (7, [.ref q_1, .ref q_3, .ref q_5, .ref q_7, .int 0, .int 0, .int 0])), (q_1, .inl (k_2, 3200, .inl (fun _ => 0))), (q_3, .inl (k_4, 22656, .inl (fun _ => 0))), (q_5, .inl (k_6, 128, .inl (fun _ => 0))), (q_7, .inl (k_8, 64, .inl (fun _ => 0)))]) [0, 1, 2, 3, 4] (by decide) rfl
  have hK9 := hK.sub (tys' := [(k_2, .int), (k_4, .int), (k_6, .int), (k_8, .int)]) [0, 1, 2, 3] rfl
  refine W.widen (k := 4) (n := 26048) (Nat.le_of_ble_eq_true rfl) (Nat.le_of_ble_eq_true rfl) ?_
  exact W.vret hx hb hr (fun t ht hW => ⟨⟨(), rfl, trivial, q_1, k_2, q_3, k_4, q_5, k_6, q_7, k_8, by rw [ht]; exact hP9, va_K.moved hW.alike hK9, hAe ▸ hD9⟩, hAe ▸ hS.F ht⟩) (fun q hq => hAe ▸ hS.2.2 q hq) dX7_init_39
set_option maxHeartbeats 4000000 in
set_option maxRecDepth 100000 in
theorem c_X9_init (l : Launch) (dC : Nat → ClassId) (dI : Nat → Nat → Nat) (h0 : Nat) (p0 : Nat) (sz : Nat) : Met l yX9_init wsX9_init ({ frames := 1, cells := 5, slots := 20992, locals := 12 }) (va_Pc [.ref h0, .ref p0] (fun U => U.heap.size = sz ∧ va_P (dC, dI) vwCl [(h0, .inr (9, [.int 0, .null, .null, .null, .null, .null, .null, .int 0, .int 0, .null, .null, .int 0, .int 0, .int 0, .long 0, .int 0, .int 0]))] U.heap ∧ va_K (dC, dI) vwCl [] U ∧ va_D (fun _ => True) [(h0, .inr (9, [.int 0, .null, .null, .null, .null, .null, .null, .int 0, .int 0, .null, .null, .int 0, .int 0, .int 0, .long 0, .int 0, .int 0]))])) (va_Qv (fun (_ : Unit) => True) (fun (_ : Unit) (t : State) => ∃ (aq2 : Nat), ∃ (ak2 : ClassId), ∃ (aq3 : Nat), ∃ (ak3 : ClassId), ∃ (aq4 : Nat), ∃ (ak4 : ClassId), ∃ (aq5 : Nat), ∃ (ak5 : ClassId), ∃ (aq6 : Nat), ∃ (ak6 : ClassId), va_P (dC, dI) vwCl [(h0, .inr (9, [.int 0, .ref p0, .ref aq2, .ref aq3, .ref aq4, .ref aq5, .ref aq6, .int 0, .int 0, .null, .null, .int 0, .int 0, .int 0, .long 0, .int 0, .int 0])), (aq2, .inl (ak2, 8192, .inl (fun _ => 0))), (aq3, .inl (ak3, 4096, .inr (.inl (fun _ => 0)))), (aq4, .inl (ak4, 4096, .inl (fun _ => 0))), (aq5, .inl (ak5, 4096, .inl (fun _ => 0))), (aq6, .inl (ak6, 512, .inl (fun _ => 0)))] t.heap ∧ va_K (dC, dI) vwCl [(ak2, .int), (ak3, .long), (ak4, .int), (ak5, .int), (ak6, .int)] t ∧ va_D (va_A [(h0, .inr (9, [.int 0, .null, .null, .null, .null, .null, .null, .int 0, .int 0, .null, .null, .int 0, .int 0, .int 0, .long 0, .int 0, .int 0]))] sz) [(h0, .inr (9, [.int 0, .ref p0, .ref aq2, .ref aq3, .ref aq4, .ref aq5, .ref aq6, .int 0, .int 0, .null, .null, .int 0, .int 0, .int 0, .long 0, .int 0, .int 0])), (aq2, .inl (ak2, 8192, .inl (fun _ => 0))), (aq3, .inl (ak3, 4096, .inr (.inl (fun _ => 0)))), (aq4, .inl (ak4, 4096, .inl (fun _ => 0))), (aq5, .inl (ak5, 4096, .inl (fun _ => 0))), (aq6, .inl (ak6, 512, .inl (fun _ => 0)))]) (va_A [(h0, .inr (9, [.int 0, .null, .null, .null, .null, .null, .null, .int 0, .int 0, .null, .null, .int 0, .int 0, .int 0, .long 0, .int 0, .int 0]))] sz)) 5 20992 (va_A [(h0, .inr (9, [.int 0, .null, .null, .null, .null, .null, .null, .int 0, .int 0, .null, .null, .int 0, .int 0, .int 0, .long 0, .int 0, .int 0]))] sz) := by
  refine Met.ofW (cc := cX9_init) (maxL := 2) (ret := none) (by decide) rfl ?_
  intro p e s m args below meth c s₁ B hml hv
  obtain ⟨rfl, hsz, hP, hK, hD0⟩ := hv
  have hx := B.exec
  have hb := B.bytes
  have hr := B.returns
  have hts := atoms_spec (ws := wsX9_init) B.pre
  have hown : s.vm.findClass RX9 = some m.cls := findClass_of_methodNamed B.named
  have hlocks := B.notSynchronized
  have hin : meth.name = "<init>" := (name_of_methodNamed B.named B.method).1
  subst hsz
  have hD := hD0.self (sz := s.heap.size)
  generalize hAe : va_A [(h0, .inr (9, [.int 0, .null, .null, .null, .null, .null, .null, .int 0, .int 0, .null, .null, .int 0, .int 0, .int 0, .long 0, .int 0, .int 0]))] s.heap.size = A at hD ⊢
  have hA : ∀ q : Nat, s.heap.size ≤ q → A q := fun q h => by rw [← hAe]; exact Or.inr h
  have hS : va_S A s.heap s.heap [] := va_S.rf
  have hP : va_P (dC, dI) vwCl [(h0, .inr (9, [.int 0, .null, .null, .null, .null, .null, .null, .int 0, .int 0, .null, .null, .int 0, .int 0, .int 0, .long 0, .int 0, .int 0]))] s.heap := hP
  have hD : va_D A [(h0, .inr (9, [.int 0, .null, .null, .null, .null, .null, .null, .int 0, .int 0, .null, .null, .int 0, .int 0, .int 0, .long 0, .int 0, .int 0]))] := hD
  have hl := lv_entry ([.ref h0, .ref p0]) (n := 2) (Nat.le_of_ble_eq_true rfl)
  rw [lg_entry_eq]
  generalize (lg_sl ([.ref h0, .ref p0]) ++ List.replicate (2 - (lg_sl ([.ref h0, .ref p0])).length) Slot.unset).toArray = ls at hl ⊢
  have hl : lv_has ls 2 [(0, .ref h0), (1, .ref p0)] := hl
  have hiX9 : ∀ w ∈ wsX90, w ∈ wsX9_init := by decide +kernel
  refine lv_aload_n hx hb dX9_init_0 rfl (lv_at hl 0 rfl) ?_
  refine W.objInit hx hb hown (hts (.methodLink RX9 3 objectInit) (by decide +kernel)) (hts (.instanceMethod objectInit) (by decide +kernel)) (hts (.code objectInit ⟨#[0xb1]⟩ 1 none) (by decide +kernel)) rfl (by rw [hml]; exact hl.1) rfl dX9_init_1 (Nat.le_of_ble_eq_true rfl) (Nat.le_of_ble_eq_true rfl) ?_
  refine W.eq (g2 := F0 m 4 ls []) rfl ?_
  refine lv_aload_n hx hb dX9_init_4 rfl (lv_at hl 0 rfl) ?_
  refine lv_sipush (v := 8192) hx hb dX9_init_5 (by decide) ?_
  refine va_newa (atype := .int) (ty := .int) (N' := 8192) (a0 := (8192, .inl (fun _ => 0))) hx hb (hts (.arrayClass .int) (by decide +kernel)) rfl hK hP hD hS hA (fun _ => rfl) (by decide) (by decide) (Nat.le_of_ble_eq_true rfl) (Nat.le_of_ble_eq_true rfl) (Nat.le_of_ble_eq_true rfl) dX9_init_8 (fun q_1 k_2 H hK hP hD hS => ?_)
  have hP : va_P (dC, dI) vwCl [(h0, .inr (9, [.int 0, .null, .null, .null, .null, .null, .null, .int 0, .int 0, .null, .null, .int 0, .int 0, .int 0, .long 0, .int 0, .int 0])), (q_1, .inl (k_2, 8192, .inl (fun _ => 0)))] H := hP
  have hD : va_D A [(h0, .inr (9, [.int 0, .null, .null, .null, .null, .null, .null, .int 0, .int 0, .null, .null, .int 0, .int 0, .int 0, .long 0, .int 0, .int 0])), (q_1, .inl (k_2, 8192, .inl (fun _ => 0)))] := hD
  have hK : va_K (dC, dI) vwCl [(k_2, .int)] s := hK
  refine W.widen (k := 1) (n := 8192) (Nat.le_of_ble_eq_true rfl) (Nat.le_of_ble_eq_true rfl) ?_
  refine va_putF (D := (dC, dI)) (ci := 9) (v := .ref q_1) (ty := .array .int) (C := RX9) (T := TX9) (N := 17) hx hb hts hiX9 tyX9 tyX9_ok nmX9 hown hK hP hD hS 0 rfl rfl 2 (by decide) (hts (.fieldLink RX9 9 "ComboHouse$Speech" "stack" "[I") (by decide +kernel)) (fun _ h9 => h9) rfl hin rfl (by decide +kernel) rfl rfl (Nat.le_of_ble_eq_true rfl) dX9_init_10 (fun H locs hP hD hS => ?_)
  have hP : va_P (dC, dI) vwCl [(h0, .inr (9, [.int 0, .null, .ref q_1, .null, .null, .null, .null, .int 0, .int 0, .null, .null, .int 0, .int 0, .int 0, .long 0, .int 0, .int 0])), (q_1, .inl (k_2, 8192, .inl (fun _ => 0)))] H := hP
  have hD : va_D A [(h0, .inr (9, [.int 0, .null, .ref q_1, .null, .null, .null, .null, .int 0, .int 0, .null, .null, .int 0, .int 0, .int 0, .long 0, .int 0, .int 0])), (q_1, .inl (k_2, 8192, .inl (fun _ => 0)))] := hD
  refine lv_aload_n hx hb dX9_init_13 rfl (lv_at hl 0 rfl) ?_
  refine lv_sipush (v := 4096) hx hb dX9_init_14 (by decide) ?_
  refine va_newa (atype := .long) (ty := .long) (N' := 4096) (a0 := (4096, .inr (.inl (fun _ => 0)))) hx hb (hts (.arrayClass .long) (by decide +kernel)) rfl hK hP hD hS hA (fun _ => rfl) (by decide) (by decide) (Nat.le_of_ble_eq_true rfl) (Nat.le_of_ble_eq_true rfl) (Nat.le_of_ble_eq_true rfl) dX9_init_17 (fun q_3 k_4 H hK hP hD hS => ?_)
  have hP : va_P (dC, dI) vwCl [(h0, .inr (9, [.int 0, .null, .ref q_1, .null, .null, .null, .null, .int 0, .int 0, .null, .null, .int 0, .int 0, .int 0, .long 0, .int 0, .int 0])), (q_1, .inl (k_2, 8192, .inl (fun _ => 0))), (q_3, .inl (k_4, 4096, .inr (.inl (fun _ => 0))))] H := hP
  have hD : va_D A [(h0, .inr (9, [.int 0, .null, .ref q_1, .null, .null, .null, .null, .int 0, .int 0, .null, .null, .int 0, .int 0, .int 0, .long 0, .int 0, .int 0])), (q_1, .inl (k_2, 8192, .inl (fun _ => 0))), (q_3, .inl (k_4, 4096, .inr (.inl (fun _ => 0))))] := hD
  have hK : va_K (dC, dI) vwCl [(k_2, .int), (k_4, .long)] s := hK
  refine W.widen (k := 2) (n := 12288) (Nat.le_of_ble_eq_true rfl) (Nat.le_of_ble_eq_true rfl) ?_
  refine va_putF (D := (dC, dI)) (ci := 9) (v := .ref q_3) (ty := .array .long) (C := RX9) (T := TX9) (N := 17) hx hb hts hiX9 tyX9 tyX9_ok nmX9 hown hK hP hD hS 0 rfl rfl 3 (by decide) (hts (.fieldLink RX9 15 "ComboHouse$Speech" "names" "[J") (by decide +kernel)) (fun _ h9 => h9) rfl hin rfl (by decide +kernel) rfl rfl (Nat.le_of_ble_eq_true rfl) dX9_init_19 (fun H locs hP hD hS => ?_)
  have hP : va_P (dC, dI) vwCl [(h0, .inr (9, [.int 0, .null, .ref q_1, .ref q_3, .null, .null, .null, .int 0, .int 0, .null, .null, .int 0, .int 0, .int 0, .long 0, .int 0, .int 0])), (q_1, .inl (k_2, 8192, .inl (fun _ => 0))), (q_3, .inl (k_4, 4096, .inr (.inl (fun _ => 0))))] H := hP
  have hD : va_D A [(h0, .inr (9, [.int 0, .null, .ref q_1, .ref q_3, .null, .null, .null, .int 0, .int 0, .null, .null, .int 0, .int 0, .int 0, .long 0, .int 0, .int 0])), (q_1, .inl (k_2, 8192, .inl (fun _ => 0))), (q_3, .inl (k_4, 4096, .inr (.inl (fun _ => 0))))] := hD
  refine lv_aload_n hx hb dX9_init_22 rfl (lv_at hl 0 rfl) ?_
  refine lv_sipush (v := 4096) hx hb dX9_init_23 (by decide) ?_
  refine va_newa (atype := .int) (ty := .int) (N' := 4096) (a0 := (4096, .inl (fun _ => 0))) hx hb (hts (.arrayClass .int) (by decide +kernel)) rfl hK hP hD hS hA (fun _ => rfl) (by decide) (by decide) (Nat.le_of_ble_eq_true rfl) (Nat.le_of_ble_eq_true rfl) (Nat.le_of_ble_eq_true rfl) dX9_init_26 (fun q_5 k_6 H hK hP hD hS => ?_)
  have hP : va_P (dC, dI) vwCl [(h0, .inr (9, [.int 0, .null, .ref q_1, .ref q_3, .null, .null, .null, .int 0, .int 0, .null, .null, .int 0, .int 0, .int 0, .long 0, .int 0, .int 0])), (q_1, .inl (k_2, 8192, .inl (fun _ => 0))), (q_3, .inl (k_4, 4096, .inr (.inl (fun _ => 0)))), (q_5, .inl (k_6, 4096, .inl (fun _ => 0)))] H := hP
  have hD : va_D A [(h0, .inr (9, [.int 0, .null, .ref q_1, .ref q_3, .null, .null, .null, .int 0, .int 0, .null, .null, .int 0, .int 0, .int 0, .long 0, .int 0, .int 0])), (q_1, .inl (k_2, 8192, .inl (fun _ => 0))), (q_3, .inl (k_4, 4096, .inr (.inl (fun _ => 0)))), (q_5, .inl (k_6, 4096, .inl (fun _ => 0)))] := hD
  have hK : va_K (dC, dI) vwCl [(k_2, .int), (k_4, .long), (k_6, .int)] s := hK
  refine W.widen (k := 3) (n := 16384) (Nat.le_of_ble_eq_true rfl) (Nat.le_of_ble_eq_true rfl) ?_
  refine va_putF (D := (dC, dI)) (ci := 9) (v := .ref q_5) (ty := .array .int) (C := RX9) (T := TX9) (N := 17) hx hb hts hiX9 tyX9 tyX9_ok nmX9 hown hK hP hD hS 0 rfl rfl 4 (by decide) (hts (.fieldLink RX9 19 "ComboHouse$Speech" "named" "[I") (by decide +kernel)) (fun _ h9 => h9) rfl hin rfl (by decide +kernel) rfl rfl (Nat.le_of_ble_eq_true rfl) dX9_init_28 (fun H locs hP hD hS => ?_)
  have hP : va_P (dC, dI) vwCl [(h0, .inr (9, [.int 0, .null, .ref q_1, .ref q_3, .ref q_5, .null, .null, .int 0, .int 0, .null, .null, .int 0, .int 0, .int 0, .long 0, .int 0, .int 0])), (q_1, .inl (k_2, 8192, .inl (fun _ => 0))), (q_3, .inl (k_4, 4096, .inr (.inl (fun _ => 0)))), (q_5, .inl (k_6, 4096, .inl (fun _ => 0)))] H := hP
  have hD : va_D A [(h0, .inr (9, [.int 0, .null, .ref q_1, .ref q_3, .ref q_5, .null, .null, .int 0, .int 0, .null, .null, .int 0, .int 0, .int 0, .long 0, .int 0, .int 0])), (q_1, .inl (k_2, 8192, .inl (fun _ => 0))), (q_3, .inl (k_4, 4096, .inr (.inl (fun _ => 0)))), (q_5, .inl (k_6, 4096, .inl (fun _ => 0)))] := hD
  refine lv_aload_n hx hb dX9_init_31 rfl (lv_at hl 0 rfl) ?_
  refine lv_sipush (v := 4096) hx hb dX9_init_32 (by decide) ?_
  refine va_newa (atype := .int) (ty := .int) (N' := 4096) (a0 := (4096, .inl (fun _ => 0))) hx hb (hts (.arrayClass .int) (by decide +kernel)) rfl hK hP hD hS hA (fun _ => rfl) (by decide) (by decide) (Nat.le_of_ble_eq_true rfl) (Nat.le_of_ble_eq_true rfl) (Nat.le_of_ble_eq_true rfl) dX9_init_35 (fun q_7 k_8 H hK hP hD hS => ?_)
  have hP : va_P (dC, dI) vwCl [(h0, .inr (9, [.int 0, .null, .ref q_1, .ref q_3, .ref q_5, .null, .null, .int 0, .int 0, .null, .null, .int 0, .int 0, .int 0, .long 0, .int 0, .int 0])), (q_1, .inl (k_2, 8192, .inl (fun _ => 0))), (q_3, .inl (k_4, 4096, .inr (.inl (fun _ => 0)))), (q_5, .inl (k_6, 4096, .inl (fun _ => 0))), (q_7, .inl (k_8, 4096, .inl (fun _ => 0)))] H := hP
  have hD : va_D A [(h0, .inr (9, [.int 0, .null, .ref q_1, .ref q_3, .ref q_5, .null, .null, .int 0, .int 0, .null, .null, .int 0, .int 0, .int 0, .long 0, .int 0, .int 0])), (q_1, .inl (k_2, 8192, .inl (fun _ => 0))), (q_3, .inl (k_4, 4096, .inr (.inl (fun _ => 0)))), (q_5, .inl (k_6, 4096, .inl (fun _ => 0))), (q_7, .inl (k_8, 4096, .inl (fun _ => 0)))] := hD
  have hK : va_K (dC, dI) vwCl [(k_2, .int), (k_4, .long), (k_6, .int), (k_8, .int)] s := hK
  refine W.widen (k := 4) (n := 20480) (Nat.le_of_ble_eq_true rfl) (Nat.le_of_ble_eq_true rfl) ?_
  refine va_putF (D := (dC, dI)) (ci := 9) (v := .ref q_7) (ty := .array .int) (C := RX9) (T := TX9) (N := 17) hx hb hts hiX9 tyX9 tyX9_ok nmX9 hown hK hP hD hS 0 rfl rfl 5 (by decide) (hts (.fieldLink RX9 22 "ComboHouse$Speech" "next" "[I") (by decide +kernel)) (fun _ h9 => h9) rfl hin rfl (by decide +kernel) rfl rfl (Nat.le_of_ble_eq_true rfl) dX9_init_37 (fun H locs hP hD hS => ?_)
  have hP : va_P (dC, dI) vwCl [(h0, .inr (9, [.int 0, .null, .ref q_1, .ref q_3, .ref q_5, .ref q_7, .null, .int 0, .int 0, .null, .null, .int 0, .int 0, .int 0, .long 0, .int 0, .int 0])), (q_1, .inl (k_2, 8192, .inl (fun _ => 0))), (q_3, .inl (k_4, 4096, .inr (.inl (fun _ => 0)))), (q_5, .inl (k_6, 4096, .inl (fun _ => 0))), (q_7, .inl (k_8, 4096, .inl (fun _ => 0)))] H := hP
  have hD : va_D A [(h0, .inr (9, [.int 0, .null, .ref q_1, .ref q_3, .ref q_5, .ref q_7, .null, .int 0, .int 0, .null, .null, .int 0, .int 0, .int 0, .long 0, .int 0, .int 0])), (q_1, .inl (k_2, 8192, .inl (fun _ => 0))), (q_3, .inl (k_4, 4096, .inr (.inl (fun _ => 0)))), (q_5, .inl (k_6, 4096, .inl (fun _ => 0))), (q_7, .inl (k_8, 4096, .inl (fun _ => 0)))] := hD
  refine lv_aload_n hx hb dX9_init_40 rfl (lv_at hl 0 rfl) ?_
  refine lv_sipush (v := 512) hx hb dX9_init_41 (by decide) ?_
  refine va_newa (atype := .int) (ty := .int) (N' := 512) (a0 := (512, .inl (fun _ => 0))) hx hb (hts (.arrayClass .int) (by decide +kernel)) rfl hK hP hD hS hA (fun _ => rfl) (by decide) (by decide) (Nat.le_of_ble_eq_true rfl) (Nat.le_of_ble_eq_true rfl) (Nat.le_of_ble_eq_true rfl) dX9_init_44 (fun q_9 k_10 H hK hP hD hS => ?_)
  have hP : va_P (dC, dI) vwCl [(h0, .inr (9, [.int 0, .null, .ref q_1, .ref q_3, .ref q_5, .ref q_7, .null, .int 0, .int 0, .null, .null, .int 0, .int 0, .int 0, .long 0, .int 0, .int 0])), (q_1, .inl (k_2, 8192, .inl (fun _ => 0))), (q_3, .inl (k_4, 4096, .inr (.inl (fun _ => 0)))), (q_5, .inl (k_6, 4096, .inl (fun _ => 0))), (q_7, .inl (k_8, 4096, .inl (fun _ => 0))), (q_9, .inl (k_10, 512, .inl (fun _ => 0)))] H := hP
  have hD : va_D A [(h0, .inr (9, [.int 0, .null, .ref q_1, .ref q_3, .ref q_5, .ref q_7, .null, .int 0, .int 0, .null, .null, .int 0, .int 0, .int 0, .long 0, .int 0, .int 0])), (q_1, .inl (k_2, 8192, .inl (fun _ => 0))), (q_3, .inl (k_4, 4096, .inr (.inl (fun _ => 0)))), (q_5, .inl (k_6, 4096, .inl (fun _ => 0))), (q_7, .inl (k_8, 4096, .inl (fun _ => 0))), (q_9, .inl (k_10, 512, .inl (fun _ => 0)))] := hD
  have hK : va_K (dC, dI) vwCl [(k_2, .int), (k_4, .long), (k_6, .int), (k_8, .int), (k_10, .int)] s := hK
  refine W.widen (k := 5) (n := 20992) (Nat.le_of_ble_eq_true rfl) (Nat.le_of_ble_eq_true rfl) ?_
  refine va_putF (D := (dC, dI)) (ci := 9) (v := .ref q_9) (ty := .array .int) (C := RX9) (T := TX9) (N := 17) hx hb hts hiX9 tyX9 tyX9_ok nmX9 hown hK hP hD hS 0 rfl rfl 6 (by decide) (hts (.fieldLink RX9 25 "ComboHouse$Speech" "head" "[I") (by decide +kernel)) (fun _ h9 => h9) rfl hin rfl (by decide +kernel) rfl rfl (Nat.le_of_ble_eq_true rfl) dX9_init_46 (fun H locs hP hD hS => ?_)
  have hP : va_P (dC, dI) vwCl [(h0, .inr (9, [.int 0, .null, .ref q_1, .ref q_3, .ref q_5, .ref q_7, .ref q_9, .int 0, .int 0, .null, .null, .int 0, .int 0, .int 0, .long 0, .int 0, .int 0])), (q_1, .inl (k_2, 8192, .inl (fun _ => 0))), (q_3, .inl (k_4, 4096, .inr (.inl (fun _ => 0)))), (q_5, .inl (k_6, 4096, .inl (fun _ => 0))), (q_7, .inl (k_8, 4096, .inl (fun _ => 0))), (q_9, .inl (k_10, 512, .inl (fun _ => 0)))] H := hP
  have hD : va_D A [(h0, .inr (9, [.int 0, .null, .ref q_1, .ref q_3, .ref q_5, .ref q_7, .ref q_9, .int 0, .int 0, .null, .null, .int 0, .int 0, .int 0, .long 0, .int 0, .int 0])), (q_1, .inl (k_2, 8192, .inl (fun _ => 0))), (q_3, .inl (k_4, 4096, .inr (.inl (fun _ => 0)))), (q_5, .inl (k_6, 4096, .inl (fun _ => 0))), (q_7, .inl (k_8, 4096, .inl (fun _ => 0))), (q_9, .inl (k_10, 512, .inl (fun _ => 0)))] := hD
  refine lv_aload_n hx hb dX9_init_49 rfl (lv_at hl 0 rfl) ?_
  refine lv_aload_n hx hb dX9_init_50 rfl (lv_at hl 1 rfl) ?_
  refine va_putF (D := (dC, dI)) (ci := 9) (v := .ref p0) (ty := .object "ComboHouse$Order") (C := RX9) (T := TX9) (N := 17) hx hb hts hiX9 tyX9 tyX9_ok nmX9 hown hK hP hD hS 0 rfl rfl 1 (by decide) (hts (.fieldLink RX9 28 "ComboHouse$Speech" "order" "LComboHouse$Order;") (by decide +kernel)) (fun _ h9 => h9) rfl hin rfl (by decide +kernel) rfl rfl (Nat.le_of_ble_eq_true rfl) dX9_init_51 (fun H locs hP hD hS => ?_)
  have hP : va_P (dC, dI) vwCl [(h0, .inr (9, [.int 0, .ref p0, .ref q_1, .ref q_3, .ref q_5, .ref q_7, .ref q_9, .int 0, .int 0, .null, .null, .int 0, .int 0, .int 0, .long 0, .int 0, .int 0])), (q_1, .inl (k_2, 8192, .inl (fun _ => 0))), (q_3, .inl (k_4, 4096, .inr (.inl (fun _ => 0)))), (q_5, .inl (k_6, 4096, .inl (fun _ => 0))), (q_7, .inl (k_8, 4096, .inl (fun _ => 0))), (q_9, .inl (k_10, 512, .inl (fun _ => 0)))] H := hP
  have hD : va_D A [(h0, .inr (9, [.int 0, .ref p0, .ref q_1, .ref q_3, .ref q_5, .ref q_7, .ref q_9, .int 0, .int 0, .null, .null, .int 0, .int 0, .int 0, .long 0, .int 0, .int 0])), (q_1, .inl (k_2, 8192, .inl (fun _ => 0))), (q_3, .inl (k_4, 4096, .inr (.inl (fun _ => 0)))), (q_5, .inl (k_6, 4096, .inl (fun _ => 0))), (q_7, .inl (k_8, 4096, .inl (fun _ => 0))), (q_9, .inl (k_10, 512, .inl (fun _ => 0)))] := hD
  have hP9 := hP.sub (ws' := [(h0, .inr (9, [.int 0, .ref p0, .ref q_1, .ref q_3, .ref q_5, .ref q_7, .ref q_9, .int 0, .int 0, .null, .null, .int 0, .int 0, .int 0, .long 0, .int 0, .int 0])), (q_1, .inl (k_2, 8192, .inl (fun _ => 0))), (q_3, .inl (k_4, 4096, .inr (.inl (fun _ => 0)))), (q_5, .inl (k_6, 4096, .inl (fun _ => 0))), (q_7, .inl (k_8, 4096, .inl (fun _ => 0))), (q_9, .inl (k_10, 512, .inl (fun _ => 0)))]) [0, 1, 2, 3, 4, 5] rfl
  have hD9 := hD.sub (ws' := [(h0, .inr (9, [.int 0, .ref p0, .ref q_1, .ref q_3, .ref q_5, .ref q_7, .ref q_9, .int 0, .int 0, .null, .null, .int 0, .int 0, .int 0, .long 0, .int 0, .int 0])), (q_1, .inl (k_2, 8192, .inl (fun _ => 0))), (q_3, .inl (k_4, 4096, .inr (.inl (fun _ => 0)))), (q_5, .inl (k_6, 4096, .inl (fun _ => 0))), (q_7, .inl (k_8, 4096, .inl (fun _ => 0))), (q_9, .inl (k_10, 512, .inl (fun _ => 0)))]) [0, 1, 2, 3, 4, 5] (by decide) rfl
  have hK9 := hK.sub (tys' := [(k_2, .int), (k_4, .long), (k_6, .int), (k_8, .int), (k_10, .int)]) [0, 1, 2, 3, 4] rfl
  refine W.widen (k := 5) (n := 20992) (Nat.le_of_ble_eq_true rfl) (Nat.le_of_ble_eq_true rfl) ?_
  exact W.vret hx hb hr (fun t ht hW => ⟨⟨(), rfl, trivial, q_1, k_2, q_3, k_4, q_5, k_6, q_7, k_8, q_9, k_10, by rw [ht]; exact hP9, va_K.moved hW.alike hK9, hAe ▸ hD9⟩, hAe ▸ hS.F ht⟩) (fun q hq => hAe ▸ hS.2.2 q hq) dX9_init_54
set_option maxHeartbeats 4000000 in
set_option maxRecDepth 100000 in
theorem c_X10_init (l : Launch) (dC : Nat → ClassId) (dI : Nat → Nat → Nat) (h0 : Nat) (sz : Nat) : Met l yX10_init wsX10_init ({ frames := 1, cells := 10, slots := 128352, locals := 12 }) (va_Pc [.ref h0] (fun U => U.heap.size = sz ∧ va_P (dC, dI) vwCl [(h0, .inr (10, [.int 0, .null, .null, .null, .null, .null, .null, .null, .null, .null, .null, .int 0]))] U.heap ∧ va_K (dC, dI) vwCl [] U ∧ va_D (fun _ => True) [(h0, .inr (10, [.int 0, .null, .null, .null, .null, .null, .null, .null, .null, .null, .null, .int 0]))])) (va_Qv (fun (_ : Unit) => True) (fun (_ : Unit) (t : State) => ∃ (aq1 : Nat), ∃ (ak1 : ClassId), ∃ (aq2 : Nat), ∃ (ak2 : ClassId), ∃ (aq3 : Nat), ∃ (ak3 : ClassId), ∃ (aq4 : Nat), ∃ (ak4 : ClassId), ∃ (aq5 : Nat), ∃ (ak5 : ClassId), ∃ (aq6 : Nat), ∃ (ak6 : ClassId), ∃ (aq7 : Nat), ∃ (ak7 : ClassId), ∃ (aq8 : Nat), ∃ (ak8 : ClassId), ∃ (aq9 : Nat), ∃ (ak9 : ClassId), ∃ (aq10 : Nat), ∃ (ak10 : ClassId), va_P (dC, dI) vwCl [(h0, .inr (10, [.int 0, .ref aq1, .ref aq2, .ref aq3, .ref aq4, .ref aq5, .ref aq6, .ref aq7, .ref aq8, .ref aq9, .ref aq10, .int 0])), (aq1, .inl (ak1, 14032, .inl (fun _ => 0))), (aq2, .inl (ak2, 14032, .inl (fun _ => 0))), (aq3, .inl (ak3, 14032, .inl (fun _ => 0))), (aq4, .inl (ak4, 14032, .inl (fun _ => 0))), (aq5, .inl (ak5, 14032, .inl (fun _ => 0))), (aq6, .inl (ak6, 14032, .inl (fun _ => 0))), (aq7, .inl (ak7, 14032, .inl (fun _ => 0))), (aq8, .inl (ak8, 14032, .inl (fun _ => 0))), (aq9, .inl (ak9, 2048, .inl (fun _ => 0))), (aq10, .inl (ak10, 14048, .inl (fun _ => 0)))] t.heap ∧ va_K (dC, dI) vwCl [(ak1, .int), (ak2, .int), (ak3, .int), (ak4, .int), (ak5, .int), (ak6, .boolean), (ak7, .int), (ak8, .int), (ak9, .int), (ak10, .int)] t ∧ va_D (va_A [(h0, .inr (10, [.int 0, .null, .null, .null, .null, .null, .null, .null, .null, .null, .null, .int 0]))] sz) [(h0, .inr (10, [.int 0, .ref aq1, .ref aq2, .ref aq3, .ref aq4, .ref aq5, .ref aq6, .ref aq7, .ref aq8, .ref aq9, .ref aq10, .int 0])), (aq1, .inl (ak1, 14032, .inl (fun _ => 0))), (aq2, .inl (ak2, 14032, .inl (fun _ => 0))), (aq3, .inl (ak3, 14032, .inl (fun _ => 0))), (aq4, .inl (ak4, 14032, .inl (fun _ => 0))), (aq5, .inl (ak5, 14032, .inl (fun _ => 0))), (aq6, .inl (ak6, 14032, .inl (fun _ => 0))), (aq7, .inl (ak7, 14032, .inl (fun _ => 0))), (aq8, .inl (ak8, 14032, .inl (fun _ => 0))), (aq9, .inl (ak9, 2048, .inl (fun _ => 0))), (aq10, .inl (ak10, 14048, .inl (fun _ => 0)))]) (va_A [(h0, .inr (10, [.int 0, .null, .null, .null, .null, .null, .null, .null, .null, .null, .null, .int 0]))] sz)) 10 128352 (va_A [(h0, .inr (10, [.int 0, .null, .null, .null, .null, .null, .null, .null, .null, .null, .null, .int 0]))] sz) := by
  refine Met.ofW (cc := cX10_init) (maxL := 1) (ret := none) (by decide) rfl ?_
  intro p e s m args below meth c s₁ B hml hv
  obtain ⟨rfl, hsz, hP, hK, hD0⟩ := hv
  have hx := B.exec
  have hb := B.bytes
  have hr := B.returns
  have hts := atoms_spec (ws := wsX10_init) B.pre
  have hown : s.vm.findClass RX10 = some m.cls := findClass_of_methodNamed B.named
  have hlocks := B.notSynchronized
  have hin : meth.name = "<init>" := (name_of_methodNamed B.named B.method).1
  subst hsz
  have hD := hD0.self (sz := s.heap.size)
  generalize hAe : va_A [(h0, .inr (10, [.int 0, .null, .null, .null, .null, .null, .null, .null, .null, .null, .null, .int 0]))] s.heap.size = A at hD ⊢
  have hA : ∀ q : Nat, s.heap.size ≤ q → A q := fun q h => by rw [← hAe]; exact Or.inr h
  have hS : va_S A s.heap s.heap [] := va_S.rf
  have hP : va_P (dC, dI) vwCl [(h0, .inr (10, [.int 0, .null, .null, .null, .null, .null, .null, .null, .null, .null, .null, .int 0]))] s.heap := hP
  have hD : va_D A [(h0, .inr (10, [.int 0, .null, .null, .null, .null, .null, .null, .null, .null, .null, .null, .int 0]))] := hD
  have hl := lv_entry ([.ref h0]) (n := 1) (Nat.le_of_ble_eq_true rfl)
  rw [lg_entry_eq]
  generalize (lg_sl ([.ref h0]) ++ List.replicate (1 - (lg_sl ([.ref h0])).length) Slot.unset).toArray = ls at hl ⊢
  have hl : lv_has ls 1 [(0, .ref h0)] := hl
  have hiX10 : ∀ w ∈ wsX100, w ∈ wsX10_init := by decide +kernel
  refine lv_aload_n hx hb dX10_init_0 rfl (lv_at hl 0 rfl) ?_
  refine W.objInit hx hb hown (hts (.methodLink RX10 5 objectInit) (by decide +kernel)) (hts (.instanceMethod objectInit) (by decide +kernel)) (hts (.code objectInit ⟨#[0xb1]⟩ 1 none) (by decide +kernel)) rfl (by rw [hml]; exact hl.1) rfl dX10_init_1 (Nat.le_of_ble_eq_true rfl) (Nat.le_of_ble_eq_true rfl) ?_
  refine W.eq (g2 := F0 m 4 ls []) rfl ?_
  refine lv_aload_n hx hb dX10_init_4 rfl (lv_at hl 0 rfl) ?_
  refine lv_sipush (v := 14032) hx hb dX10_init_5 (by decide) ?_
  refine va_newa (atype := .int) (ty := .int) (N' := 14032) (a0 := (14032, .inl (fun _ => 0))) hx hb (hts (.arrayClass .int) (by decide +kernel)) rfl hK hP hD hS hA (fun _ => rfl) (by decide) (by decide) (Nat.le_of_ble_eq_true rfl) (Nat.le_of_ble_eq_true rfl) (Nat.le_of_ble_eq_true rfl) dX10_init_8 (fun q_1 k_2 H hK hP hD hS => ?_)
  have hP : va_P (dC, dI) vwCl [(h0, .inr (10, [.int 0, .null, .null, .null, .null, .null, .null, .null, .null, .null, .null, .int 0])), (q_1, .inl (k_2, 14032, .inl (fun _ => 0)))] H := hP
  have hD : va_D A [(h0, .inr (10, [.int 0, .null, .null, .null, .null, .null, .null, .null, .null, .null, .null, .int 0])), (q_1, .inl (k_2, 14032, .inl (fun _ => 0)))] := hD
  have hK : va_K (dC, dI) vwCl [(k_2, .int)] s := hK
  refine W.widen (k := 1) (n := 14032) (Nat.le_of_ble_eq_true rfl) (Nat.le_of_ble_eq_true rfl) ?_
  refine va_putF (D := (dC, dI)) (ci := 10) (v := .ref q_1) (ty := .array .int) (C := RX10) (T := TX10) (N := 12) hx hb hts hiX10 tyX10 tyX10_ok nmX10 hown hK hP hD hS 0 rfl rfl 1 (by decide) (hts (.fieldLink RX10 11 "ComboHouse$Types" "kind" "[I") (by decide +kernel)) (fun _ h9 => h9) rfl hin rfl (by decide +kernel) rfl rfl (Nat.le_of_ble_eq_true rfl) dX10_init_10 (fun H locs hP hD hS => ?_)
  have hP : va_P (dC, dI) vwCl [(h0, .inr (10, [.int 0, .ref q_1, .null, .null, .null, .null, .null, .null, .null, .null, .null, .int 0])), (q_1, .inl (k_2, 14032, .inl (fun _ => 0)))] H := hP
  have hD : va_D A [(h0, .inr (10, [.int 0, .ref q_1, .null, .null, .null, .null, .null, .null, .null, .null, .null, .int 0])), (q_1, .inl (k_2, 14032, .inl (fun _ => 0)))] := hD
  refine lv_aload_n hx hb dX10_init_13 rfl (lv_at hl 0 rfl) ?_
  refine lv_sipush (v := 14032) hx hb dX10_init_14 (by decide) ?_
  refine va_newa (atype := .int) (ty := .int) (N' := 14032) (a0 := (14032, .inl (fun _ => 0))) hx hb (hts (.arrayClass .int) (by decide +kernel)) rfl hK hP hD hS hA (fun _ => rfl) (by decide) (by decide) (Nat.le_of_ble_eq_true rfl) (Nat.le_of_ble_eq_true rfl) (Nat.le_of_ble_eq_true rfl) dX10_init_17 (fun q_3 k_4 H hK hP hD hS => ?_)
  have hP : va_P (dC, dI) vwCl [(h0, .inr (10, [.int 0, .ref q_1, .null, .null, .null, .null, .null, .null, .null, .null, .null, .int 0])), (q_1, .inl (k_2, 14032, .inl (fun _ => 0))), (q_3, .inl (k_4, 14032, .inl (fun _ => 0)))] H := hP
  have hD : va_D A [(h0, .inr (10, [.int 0, .ref q_1, .null, .null, .null, .null, .null, .null, .null, .null, .null, .int 0])), (q_1, .inl (k_2, 14032, .inl (fun _ => 0))), (q_3, .inl (k_4, 14032, .inl (fun _ => 0)))] := hD
  have hK : va_K (dC, dI) vwCl [(k_2, .int), (k_4, .int)] s := hK
  refine W.widen (k := 2) (n := 28064) (Nat.le_of_ble_eq_true rfl) (Nat.le_of_ble_eq_true rfl) ?_
  refine va_putF (D := (dC, dI)) (ci := 10) (v := .ref q_3) (ty := .array .int) (C := RX10) (T := TX10) (N := 12) hx hb hts hiX10 tyX10 tyX10_ok nmX10 hown hK hP hD hS 0 rfl rfl 2 (by decide) (hts (.fieldLink RX10 15 "ComboHouse$Types" "left" "[I") (by decide +kernel)) (fun _ h9 => h9) rfl hin rfl (by decide +kernel) rfl rfl (Nat.le_of_ble_eq_true rfl) dX10_init_19 (fun H locs hP hD hS => ?_)
  have hP : va_P (dC, dI) vwCl [(h0, .inr (10, [.int 0, .ref q_1, .ref q_3, .null, .null, .null, .null, .null, .null, .null, .null, .int 0])), (q_1, .inl (k_2, 14032, .inl (fun _ => 0))), (q_3, .inl (k_4, 14032, .inl (fun _ => 0)))] H := hP
  have hD : va_D A [(h0, .inr (10, [.int 0, .ref q_1, .ref q_3, .null, .null, .null, .null, .null, .null, .null, .null, .int 0])), (q_1, .inl (k_2, 14032, .inl (fun _ => 0))), (q_3, .inl (k_4, 14032, .inl (fun _ => 0)))] := hD
  refine lv_aload_n hx hb dX10_init_22 rfl (lv_at hl 0 rfl) ?_
  refine lv_sipush (v := 14032) hx hb dX10_init_23 (by decide) ?_
  refine va_newa (atype := .int) (ty := .int) (N' := 14032) (a0 := (14032, .inl (fun _ => 0))) hx hb (hts (.arrayClass .int) (by decide +kernel)) rfl hK hP hD hS hA (fun _ => rfl) (by decide) (by decide) (Nat.le_of_ble_eq_true rfl) (Nat.le_of_ble_eq_true rfl) (Nat.le_of_ble_eq_true rfl) dX10_init_26 (fun q_5 k_6 H hK hP hD hS => ?_)
  have hP : va_P (dC, dI) vwCl [(h0, .inr (10, [.int 0, .ref q_1, .ref q_3, .null, .null, .null, .null, .null, .null, .null, .null, .int 0])), (q_1, .inl (k_2, 14032, .inl (fun _ => 0))), (q_3, .inl (k_4, 14032, .inl (fun _ => 0))), (q_5, .inl (k_6, 14032, .inl (fun _ => 0)))] H := hP
  have hD : va_D A [(h0, .inr (10, [.int 0, .ref q_1, .ref q_3, .null, .null, .null, .null, .null, .null, .null, .null, .int 0])), (q_1, .inl (k_2, 14032, .inl (fun _ => 0))), (q_3, .inl (k_4, 14032, .inl (fun _ => 0))), (q_5, .inl (k_6, 14032, .inl (fun _ => 0)))] := hD
  have hK : va_K (dC, dI) vwCl [(k_2, .int), (k_4, .int), (k_6, .int)] s := hK
  refine W.widen (k := 3) (n := 42096) (Nat.le_of_ble_eq_true rfl) (Nat.le_of_ble_eq_true rfl) ?_
  refine va_putF (D := (dC, dI)) (ci := 10) (v := .ref q_5) (ty := .array .int) (C := RX10) (T := TX10) (N := 12) hx hb hts hiX10 tyX10 tyX10_ok nmX10 hown hK hP hD hS 0 rfl rfl 3 (by decide) (hts (.fieldLink RX10 18 "ComboHouse$Types" "right" "[I") (by decide +kernel)) (fun _ h9 => h9) rfl hin rfl (by decide +kernel) rfl rfl (Nat.le_of_ble_eq_true rfl) dX10_init_28 (fun H locs hP hD hS => ?_)
  have hP : va_P (dC, dI) vwCl [(h0, .inr (10, [.int 0, .ref q_1, .ref q_3, .ref q_5, .null, .null, .null, .null, .null, .null, .null, .int 0])), (q_1, .inl (k_2, 14032, .inl (fun _ => 0))), (q_3, .inl (k_4, 14032, .inl (fun _ => 0))), (q_5, .inl (k_6, 14032, .inl (fun _ => 0)))] H := hP
  have hD : va_D A [(h0, .inr (10, [.int 0, .ref q_1, .ref q_3, .ref q_5, .null, .null, .null, .null, .null, .null, .null, .int 0])), (q_1, .inl (k_2, 14032, .inl (fun _ => 0))), (q_3, .inl (k_4, 14032, .inl (fun _ => 0))), (q_5, .inl (k_6, 14032, .inl (fun _ => 0)))] := hD
  refine lv_aload_n hx hb dX10_init_31 rfl (lv_at hl 0 rfl) ?_
  refine lv_sipush (v := 14032) hx hb dX10_init_32 (by decide) ?_
  refine va_newa (atype := .int) (ty := .int) (N' := 14032) (a0 := (14032, .inl (fun _ => 0))) hx hb (hts (.arrayClass .int) (by decide +kernel)) rfl hK hP hD hS hA (fun _ => rfl) (by decide) (by decide) (Nat.le_of_ble_eq_true rfl) (Nat.le_of_ble_eq_true rfl) (Nat.le_of_ble_eq_true rfl) dX10_init_35 (fun q_7 k_8 H hK hP hD hS => ?_)
  have hP : va_P (dC, dI) vwCl [(h0, .inr (10, [.int 0, .ref q_1, .ref q_3, .ref q_5, .null, .null, .null, .null, .null, .null, .null, .int 0])), (q_1, .inl (k_2, 14032, .inl (fun _ => 0))), (q_3, .inl (k_4, 14032, .inl (fun _ => 0))), (q_5, .inl (k_6, 14032, .inl (fun _ => 0))), (q_7, .inl (k_8, 14032, .inl (fun _ => 0)))] H := hP
  have hD : va_D A [(h0, .inr (10, [.int 0, .ref q_1, .ref q_3, .ref q_5, .null, .null, .null, .null, .null, .null, .null, .int 0])), (q_1, .inl (k_2, 14032, .inl (fun _ => 0))), (q_3, .inl (k_4, 14032, .inl (fun _ => 0))), (q_5, .inl (k_6, 14032, .inl (fun _ => 0))), (q_7, .inl (k_8, 14032, .inl (fun _ => 0)))] := hD
  have hK : va_K (dC, dI) vwCl [(k_2, .int), (k_4, .int), (k_6, .int), (k_8, .int)] s := hK
  refine W.widen (k := 4) (n := 56128) (Nat.le_of_ble_eq_true rfl) (Nat.le_of_ble_eq_true rfl) ?_
  refine va_putF (D := (dC, dI)) (ci := 10) (v := .ref q_7) (ty := .array .int) (C := RX10) (T := TX10) (N := 12) hx hb hts hiX10 tyX10 tyX10_ok nmX10 hown hK hP hD hS 0 rfl rfl 4 (by decide) (hts (.fieldLink RX10 21 "ComboHouse$Types" "width" "[I") (by decide +kernel)) (fun _ h9 => h9) rfl hin rfl (by decide +kernel) rfl rfl (Nat.le_of_ble_eq_true rfl) dX10_init_37 (fun H locs hP hD hS => ?_)
  have hP : va_P (dC, dI) vwCl [(h0, .inr (10, [.int 0, .ref q_1, .ref q_3, .ref q_5, .ref q_7, .null, .null, .null, .null, .null, .null, .int 0])), (q_1, .inl (k_2, 14032, .inl (fun _ => 0))), (q_3, .inl (k_4, 14032, .inl (fun _ => 0))), (q_5, .inl (k_6, 14032, .inl (fun _ => 0))), (q_7, .inl (k_8, 14032, .inl (fun _ => 0)))] H := hP
  have hD : va_D A [(h0, .inr (10, [.int 0, .ref q_1, .ref q_3, .ref q_5, .ref q_7, .null, .null, .null, .null, .null, .null, .int 0])), (q_1, .inl (k_2, 14032, .inl (fun _ => 0))), (q_3, .inl (k_4, 14032, .inl (fun _ => 0))), (q_5, .inl (k_6, 14032, .inl (fun _ => 0))), (q_7, .inl (k_8, 14032, .inl (fun _ => 0)))] := hD
  refine lv_aload_n hx hb dX10_init_40 rfl (lv_at hl 0 rfl) ?_
  refine lv_sipush (v := 14032) hx hb dX10_init_41 (by decide) ?_
  refine va_newa (atype := .int) (ty := .int) (N' := 14032) (a0 := (14032, .inl (fun _ => 0))) hx hb (hts (.arrayClass .int) (by decide +kernel)) rfl hK hP hD hS hA (fun _ => rfl) (by decide) (by decide) (Nat.le_of_ble_eq_true rfl) (Nat.le_of_ble_eq_true rfl) (Nat.le_of_ble_eq_true rfl) dX10_init_44 (fun q_9 k_10 H hK hP hD hS => ?_)
  have hP : va_P (dC, dI) vwCl [(h0, .inr (10, [.int 0, .ref q_1, .ref q_3, .ref q_5, .ref q_7, .null, .null, .null, .null, .null, .null, .int 0])), (q_1, .inl (k_2, 14032, .inl (fun _ => 0))), (q_3, .inl (k_4, 14032, .inl (fun _ => 0))), (q_5, .inl (k_6, 14032, .inl (fun _ => 0))), (q_7, .inl (k_8, 14032, .inl (fun _ => 0))), (q_9, .inl (k_10, 14032, .inl (fun _ => 0)))] H := hP
  have hD : va_D A [(h0, .inr (10, [.int 0, .ref q_1, .ref q_3, .ref q_5, .ref q_7, .null, .null, .null, .null, .null, .null, .int 0])), (q_1, .inl (k_2, 14032, .inl (fun _ => 0))), (q_3, .inl (k_4, 14032, .inl (fun _ => 0))), (q_5, .inl (k_6, 14032, .inl (fun _ => 0))), (q_7, .inl (k_8, 14032, .inl (fun _ => 0))), (q_9, .inl (k_10, 14032, .inl (fun _ => 0)))] := hD
  have hK : va_K (dC, dI) vwCl [(k_2, .int), (k_4, .int), (k_6, .int), (k_8, .int), (k_10, .int)] s := hK
  refine W.widen (k := 5) (n := 70160) (Nat.le_of_ble_eq_true rfl) (Nat.le_of_ble_eq_true rfl) ?_
  refine va_putF (D := (dC, dI)) (ci := 10) (v := .ref q_9) (ty := .array .int) (C := RX10) (T := TX10) (N := 12) hx hb hts hiX10 tyX10 tyX10_ok nmX10 hown hK hP hD hS 0 rfl rfl 5 (by decide) (hts (.fieldLink RX10 24 "ComboHouse$Types" "word" "[I") (by decide +kernel)) (fun _ h9 => h9) rfl hin rfl (by decide +kernel) rfl rfl (Nat.le_of_ble_eq_true rfl) dX10_init_46 (fun H locs hP hD hS => ?_)
  have hP : va_P (dC, dI) vwCl [(h0, .inr (10, [.int 0, .ref q_1, .ref q_3, .ref q_5, .ref q_7, .ref q_9, .null, .null, .null, .null, .null, .int 0])), (q_1, .inl (k_2, 14032, .inl (fun _ => 0))), (q_3, .inl (k_4, 14032, .inl (fun _ => 0))), (q_5, .inl (k_6, 14032, .inl (fun _ => 0))), (q_7, .inl (k_8, 14032, .inl (fun _ => 0))), (q_9, .inl (k_10, 14032, .inl (fun _ => 0)))] H := hP
  have hD : va_D A [(h0, .inr (10, [.int 0, .ref q_1, .ref q_3, .ref q_5, .ref q_7, .ref q_9, .null, .null, .null, .null, .null, .int 0])), (q_1, .inl (k_2, 14032, .inl (fun _ => 0))), (q_3, .inl (k_4, 14032, .inl (fun _ => 0))), (q_5, .inl (k_6, 14032, .inl (fun _ => 0))), (q_7, .inl (k_8, 14032, .inl (fun _ => 0))), (q_9, .inl (k_10, 14032, .inl (fun _ => 0)))] := hD
  refine lv_aload_n hx hb dX10_init_49 rfl (lv_at hl 0 rfl) ?_
  refine lv_sipush (v := 14032) hx hb dX10_init_50 (by decide) ?_
  refine va_newa (atype := .boolean) (ty := .boolean) (N' := 14032) (a0 := (14032, .inl (fun _ => 0))) hx hb (hts (.arrayClass .boolean) (by decide +kernel)) rfl hK hP hD hS hA (fun _ => rfl) (by decide) (by decide) (Nat.le_of_ble_eq_true rfl) (Nat.le_of_ble_eq_true rfl) (Nat.le_of_ble_eq_true rfl) dX10_init_53 (fun q_11 k_12 H hK hP hD hS => ?_)
  have hP : va_P (dC, dI) vwCl [(h0, .inr (10, [.int 0, .ref q_1, .ref q_3, .ref q_5, .ref q_7, .ref q_9, .null, .null, .null, .null, .null, .int 0])), (q_1, .inl (k_2, 14032, .inl (fun _ => 0))), (q_3, .inl (k_4, 14032, .inl (fun _ => 0))), (q_5, .inl (k_6, 14032, .inl (fun _ => 0))), (q_7, .inl (k_8, 14032, .inl (fun _ => 0))), (q_9, .inl (k_10, 14032, .inl (fun _ => 0))), (q_11, .inl (k_12, 14032, .inl (fun _ => 0)))] H := hP
  have hD : va_D A [(h0, .inr (10, [.int 0, .ref q_1, .ref q_3, .ref q_5, .ref q_7, .ref q_9, .null, .null, .null, .null, .null, .int 0])), (q_1, .inl (k_2, 14032, .inl (fun _ => 0))), (q_3, .inl (k_4, 14032, .inl (fun _ => 0))), (q_5, .inl (k_6, 14032, .inl (fun _ => 0))), (q_7, .inl (k_8, 14032, .inl (fun _ => 0))), (q_9, .inl (k_10, 14032, .inl (fun _ => 0))), (q_11, .inl (k_12, 14032, .inl (fun _ => 0)))] := hD
  have hK : va_K (dC, dI) vwCl [(k_2, .int), (k_4, .int), (k_6, .int), (k_8, .int), (k_10, .int), (k_12, .boolean)] s := hK
  refine W.widen (k := 6) (n := 84192) (Nat.le_of_ble_eq_true rfl) (Nat.le_of_ble_eq_true rfl) ?_
  refine va_putF (D := (dC, dI)) (ci := 10) (v := .ref q_11) (ty := .array .boolean) (C := RX10) (T := TX10) (N := 12) hx hb hts hiX10 tyX10 tyX10_ok nmX10 hown hK hP hD hS 0 rfl rfl 6 (by decide) (hts (.fieldLink RX10 27 "ComboHouse$Types" "full" "[Z") (by decide +kernel)) (fun _ h9 => h9) rfl hin rfl (by decide +kernel) rfl rfl (Nat.le_of_ble_eq_true rfl) dX10_init_55 (fun H locs hP hD hS => ?_)
  have hP : va_P (dC, dI) vwCl [(h0, .inr (10, [.int 0, .ref q_1, .ref q_3, .ref q_5, .ref q_7, .ref q_9, .ref q_11, .null, .null, .null, .null, .int 0])), (q_1, .inl (k_2, 14032, .inl (fun _ => 0))), (q_3, .inl (k_4, 14032, .inl (fun _ => 0))), (q_5, .inl (k_6, 14032, .inl (fun _ => 0))), (q_7, .inl (k_8, 14032, .inl (fun _ => 0))), (q_9, .inl (k_10, 14032, .inl (fun _ => 0))), (q_11, .inl (k_12, 14032, .inl (fun _ => 0)))] H := hP
  have hD : va_D A [(h0, .inr (10, [.int 0, .ref q_1, .ref q_3, .ref q_5, .ref q_7, .ref q_9, .ref q_11, .null, .null, .null, .null, .int 0])), (q_1, .inl (k_2, 14032, .inl (fun _ => 0))), (q_3, .inl (k_4, 14032, .inl (fun _ => 0))), (q_5, .inl (k_6, 14032, .inl (fun _ => 0))), (q_7, .inl (k_8, 14032, .inl (fun _ => 0))), (q_9, .inl (k_10, 14032, .inl (fun _ => 0))), (q_11, .inl (k_12, 14032, .inl (fun _ => 0)))] := hD
  refine lv_aload_n hx hb dX10_init_58 rfl (lv_at hl 0 rfl) ?_
  refine lv_sipush (v := 14032) hx hb dX10_init_59 (by decide) ?_
  refine va_newa (atype := .int) (ty := .int) (N' := 14032) (a0 := (14032, .inl (fun _ => 0))) hx hb (hts (.arrayClass .int) (by decide +kernel)) rfl hK hP hD hS hA (fun _ => rfl) (by decide) (by decide) (Nat.le_of_ble_eq_true rfl) (Nat.le_of_ble_eq_true rfl) (Nat.le_of_ble_eq_true rfl) dX10_init_62 (fun q_13 k_14 H hK hP hD hS => ?_)
  have hP : va_P (dC, dI) vwCl [(h0, .inr (10, [.int 0, .ref q_1, .ref q_3, .ref q_5, .ref q_7, .ref q_9, .ref q_11, .null, .null, .null, .null, .int 0])), (q_1, .inl (k_2, 14032, .inl (fun _ => 0))), (q_3, .inl (k_4, 14032, .inl (fun _ => 0))), (q_5, .inl (k_6, 14032, .inl (fun _ => 0))), (q_7, .inl (k_8, 14032, .inl (fun _ => 0))), (q_9, .inl (k_10, 14032, .inl (fun _ => 0))), (q_11, .inl (k_12, 14032, .inl (fun _ => 0))), (q_13, .inl (k_14, 14032, .inl (fun _ => 0)))] H := hP
  have hD : va_D A [(h0, .inr (10, [.int 0, .ref q_1, .ref q_3, .ref q_5, .ref q_7, .ref q_9, .ref q_11, .null, .null, .null, .null, .int 0])), (q_1, .inl (k_2, 14032, .inl (fun _ => 0))), (q_3, .inl (k_4, 14032, .inl (fun _ => 0))), (q_5, .inl (k_6, 14032, .inl (fun _ => 0))), (q_7, .inl (k_8, 14032, .inl (fun _ => 0))), (q_9, .inl (k_10, 14032, .inl (fun _ => 0))), (q_11, .inl (k_12, 14032, .inl (fun _ => 0))), (q_13, .inl (k_14, 14032, .inl (fun _ => 0)))] := hD
  have hK : va_K (dC, dI) vwCl [(k_2, .int), (k_4, .int), (k_6, .int), (k_8, .int), (k_10, .int), (k_12, .boolean), (k_14, .int)] s := hK
  refine W.widen (k := 7) (n := 98224) (Nat.le_of_ble_eq_true rfl) (Nat.le_of_ble_eq_true rfl) ?_
  refine va_putF (D := (dC, dI)) (ci := 10) (v := .ref q_13) (ty := .array .int) (C := RX10) (T := TX10) (N := 12) hx hb hts hiX10 tyX10 tyX10_ok nmX10 hown hK hP hD hS 0 rfl rfl 7 (by decide) (hts (.fieldLink RX10 31 "ComboHouse$Types" "textLength" "[I") (by decide +kernel)) (fun _ h9 => h9) rfl hin rfl (by decide +kernel) rfl rfl (Nat.le_of_ble_eq_true rfl) dX10_init_64 (fun H locs hP hD hS => ?_)
  have hP : va_P (dC, dI) vwCl [(h0, .inr (10, [.int 0, .ref q_1, .ref q_3, .ref q_5, .ref q_7, .ref q_9, .ref q_11, .ref q_13, .null, .null, .null, .int 0])), (q_1, .inl (k_2, 14032, .inl (fun _ => 0))), (q_3, .inl (k_4, 14032, .inl (fun _ => 0))), (q_5, .inl (k_6, 14032, .inl (fun _ => 0))), (q_7, .inl (k_8, 14032, .inl (fun _ => 0))), (q_9, .inl (k_10, 14032, .inl (fun _ => 0))), (q_11, .inl (k_12, 14032, .inl (fun _ => 0))), (q_13, .inl (k_14, 14032, .inl (fun _ => 0)))] H := hP
  have hD : va_D A [(h0, .inr (10, [.int 0, .ref q_1, .ref q_3, .ref q_5, .ref q_7, .ref q_9, .ref q_11, .ref q_13, .null, .null, .null, .int 0])), (q_1, .inl (k_2, 14032, .inl (fun _ => 0))), (q_3, .inl (k_4, 14032, .inl (fun _ => 0))), (q_5, .inl (k_6, 14032, .inl (fun _ => 0))), (q_7, .inl (k_8, 14032, .inl (fun _ => 0))), (q_9, .inl (k_10, 14032, .inl (fun _ => 0))), (q_11, .inl (k_12, 14032, .inl (fun _ => 0))), (q_13, .inl (k_14, 14032, .inl (fun _ => 0)))] := hD
  refine lv_aload_n hx hb dX10_init_67 rfl (lv_at hl 0 rfl) ?_
  refine lv_sipush (v := 14032) hx hb dX10_init_68 (by decide) ?_
  refine va_newa (atype := .int) (ty := .int) (N' := 14032) (a0 := (14032, .inl (fun _ => 0))) hx hb (hts (.arrayClass .int) (by decide +kernel)) rfl hK hP hD hS hA (fun _ => rfl) (by decide) (by decide) (Nat.le_of_ble_eq_true rfl) (Nat.le_of_ble_eq_true rfl) (Nat.le_of_ble_eq_true rfl) dX10_init_71 (fun q_15 k_16 H hK hP hD hS => ?_)
  have hP : va_P (dC, dI) vwCl [(h0, .inr (10, [.int 0, .ref q_1, .ref q_3, .ref q_5, .ref q_7, .ref q_9, .ref q_11, .ref q_13, .null, .null, .null, .int 0])), (q_1, .inl (k_2, 14032, .inl (fun _ => 0))), (q_3, .inl (k_4, 14032, .inl (fun _ => 0))), (q_5, .inl (k_6, 14032, .inl (fun _ => 0))), (q_7, .inl (k_8, 14032, .inl (fun _ => 0))), (q_9, .inl (k_10, 14032, .inl (fun _ => 0))), (q_11, .inl (k_12, 14032, .inl (fun _ => 0))), (q_13, .inl (k_14, 14032, .inl (fun _ => 0))), (q_15, .inl (k_16, 14032, .inl (fun _ => 0)))] H := hP
  have hD : va_D A [(h0, .inr (10, [.int 0, .ref q_1, .ref q_3, .ref q_5, .ref q_7, .ref q_9, .ref q_11, .ref q_13, .null, .null, .null, .int 0])), (q_1, .inl (k_2, 14032, .inl (fun _ => 0))), (q_3, .inl (k_4, 14032, .inl (fun _ => 0))), (q_5, .inl (k_6, 14032, .inl (fun _ => 0))), (q_7, .inl (k_8, 14032, .inl (fun _ => 0))), (q_9, .inl (k_10, 14032, .inl (fun _ => 0))), (q_11, .inl (k_12, 14032, .inl (fun _ => 0))), (q_13, .inl (k_14, 14032, .inl (fun _ => 0))), (q_15, .inl (k_16, 14032, .inl (fun _ => 0)))] := hD
  have hK : va_K (dC, dI) vwCl [(k_2, .int), (k_4, .int), (k_6, .int), (k_8, .int), (k_10, .int), (k_12, .boolean), (k_14, .int), (k_16, .int)] s := hK
  refine W.widen (k := 8) (n := 112256) (Nat.le_of_ble_eq_true rfl) (Nat.le_of_ble_eq_true rfl) ?_
  refine va_putF (D := (dC, dI)) (ci := 10) (v := .ref q_15) (ty := .array .int) (C := RX10) (T := TX10) (N := 12) hx hb hts hiX10 tyX10 tyX10_ok nmX10 hown hK hP hD hS 0 rfl rfl 8 (by decide) (hts (.fieldLink RX10 34 "ComboHouse$Types" "next" "[I") (by decide +kernel)) (fun _ h9 => h9) rfl hin rfl (by decide +kernel) rfl rfl (Nat.le_of_ble_eq_true rfl) dX10_init_73 (fun H locs hP hD hS => ?_)
  have hP : va_P (dC, dI) vwCl [(h0, .inr (10, [.int 0, .ref q_1, .ref q_3, .ref q_5, .ref q_7, .ref q_9, .ref q_11, .ref q_13, .ref q_15, .null, .null, .int 0])), (q_1, .inl (k_2, 14032, .inl (fun _ => 0))), (q_3, .inl (k_4, 14032, .inl (fun _ => 0))), (q_5, .inl (k_6, 14032, .inl (fun _ => 0))), (q_7, .inl (k_8, 14032, .inl (fun _ => 0))), (q_9, .inl (k_10, 14032, .inl (fun _ => 0))), (q_11, .inl (k_12, 14032, .inl (fun _ => 0))), (q_13, .inl (k_14, 14032, .inl (fun _ => 0))), (q_15, .inl (k_16, 14032, .inl (fun _ => 0)))] H := hP
  have hD : va_D A [(h0, .inr (10, [.int 0, .ref q_1, .ref q_3, .ref q_5, .ref q_7, .ref q_9, .ref q_11, .ref q_13, .ref q_15, .null, .null, .int 0])), (q_1, .inl (k_2, 14032, .inl (fun _ => 0))), (q_3, .inl (k_4, 14032, .inl (fun _ => 0))), (q_5, .inl (k_6, 14032, .inl (fun _ => 0))), (q_7, .inl (k_8, 14032, .inl (fun _ => 0))), (q_9, .inl (k_10, 14032, .inl (fun _ => 0))), (q_11, .inl (k_12, 14032, .inl (fun _ => 0))), (q_13, .inl (k_14, 14032, .inl (fun _ => 0))), (q_15, .inl (k_16, 14032, .inl (fun _ => 0)))] := hD
  refine lv_aload_n hx hb dX10_init_76 rfl (lv_at hl 0 rfl) ?_
  refine lv_sipush (v := 2048) hx hb dX10_init_77 (by decide) ?_
  refine va_newa (atype := .int) (ty := .int) (N' := 2048) (a0 := (2048, .inl (fun _ => 0))) hx hb (hts (.arrayClass .int) (by decide +kernel)) rfl hK hP hD hS hA (fun _ => rfl) (by decide) (by decide) (Nat.le_of_ble_eq_true rfl) (Nat.le_of_ble_eq_true rfl) (Nat.le_of_ble_eq_true rfl) dX10_init_80 (fun q_17 k_18 H hK hP hD hS => ?_)
  have hP : va_P (dC, dI) vwCl [(h0, .inr (10, [.int 0, .ref q_1, .ref q_3, .ref q_5, .ref q_7, .ref q_9, .ref q_11, .ref q_13, .ref q_15, .null, .null, .int 0])), (q_1, .inl (k_2, 14032, .inl (fun _ => 0))), (q_3, .inl (k_4, 14032, .inl (fun _ => 0))), (q_5, .inl (k_6, 14032, .inl (fun _ => 0))), (q_7, .inl (k_8, 14032, .inl (fun _ => 0))), (q_9, .inl (k_10, 14032, .inl (fun _ => 0))), (q_11, .inl (k_12, 14032, .inl (fun _ => 0))), (q_13, .inl (k_14, 14032, .inl (fun _ => 0))), (q_15, .inl (k_16, 14032, .inl (fun _ => 0))), (q_17, .inl (k_18, 2048, .inl (fun _ => 0)))] H := hP
  have hD : va_D A [(h0, .inr (10, [.int 0, .ref q_1, .ref q_3, .ref q_5, .ref q_7, .ref q_9, .ref q_11, .ref q_13, .ref q_15, .null, .null, .int 0])), (q_1, .inl (k_2, 14032, .inl (fun _ => 0))), (q_3, .inl (k_4, 14032, .inl (fun _ => 0))), (q_5, .inl (k_6, 14032, .inl (fun _ => 0))), (q_7, .inl (k_8, 14032, .inl (fun _ => 0))), (q_9, .inl (k_10, 14032, .inl (fun _ => 0))), (q_11, .inl (k_12, 14032, .inl (fun _ => 0))), (q_13, .inl (k_14, 14032, .inl (fun _ => 0))), (q_15, .inl (k_16, 14032, .inl (fun _ => 0))), (q_17, .inl (k_18, 2048, .inl (fun _ => 0)))] := hD
  have hK : va_K (dC, dI) vwCl [(k_2, .int), (k_4, .int), (k_6, .int), (k_8, .int), (k_10, .int), (k_12, .boolean), (k_14, .int), (k_16, .int), (k_18, .int)] s := hK
  refine W.widen (k := 9) (n := 114304) (Nat.le_of_ble_eq_true rfl) (Nat.le_of_ble_eq_true rfl) ?_
  refine va_putF (D := (dC, dI)) (ci := 10) (v := .ref q_17) (ty := .array .int) (C := RX10) (T := TX10) (N := 12) hx hb hts hiX10 tyX10 tyX10_ok nmX10 hown hK hP hD hS 0 rfl rfl 9 (by decide) (hts (.fieldLink RX10 37 "ComboHouse$Types" "head" "[I") (by decide +kernel)) (fun _ h9 => h9) rfl hin rfl (by decide +kernel) rfl rfl (Nat.le_of_ble_eq_true rfl) dX10_init_82 (fun H locs hP hD hS => ?_)
  have hP : va_P (dC, dI) vwCl [(h0, .inr (10, [.int 0, .ref q_1, .ref q_3, .ref q_5, .ref q_7, .ref q_9, .ref q_11, .ref q_13, .ref q_15, .ref q_17, .null, .int 0])), (q_1, .inl (k_2, 14032, .inl (fun _ => 0))), (q_3, .inl (k_4, 14032, .inl (fun _ => 0))), (q_5, .inl (k_6, 14032, .inl (fun _ => 0))), (q_7, .inl (k_8, 14032, .inl (fun _ => 0))), (q_9, .inl (k_10, 14032, .inl (fun _ => 0))), (q_11, .inl (k_12, 14032, .inl (fun _ => 0))), (q_13, .inl (k_14, 14032, .inl (fun _ => 0))), (q_15, .inl (k_16, 14032, .inl (fun _ => 0))), (q_17, .inl (k_18, 2048, .inl (fun _ => 0)))] H := hP
  have hD : va_D A [(h0, .inr (10, [.int 0, .ref q_1, .ref q_3, .ref q_5, .ref q_7, .ref q_9, .ref q_11, .ref q_13, .ref q_15, .ref q_17, .null, .int 0])), (q_1, .inl (k_2, 14032, .inl (fun _ => 0))), (q_3, .inl (k_4, 14032, .inl (fun _ => 0))), (q_5, .inl (k_6, 14032, .inl (fun _ => 0))), (q_7, .inl (k_8, 14032, .inl (fun _ => 0))), (q_9, .inl (k_10, 14032, .inl (fun _ => 0))), (q_11, .inl (k_12, 14032, .inl (fun _ => 0))), (q_13, .inl (k_14, 14032, .inl (fun _ => 0))), (q_15, .inl (k_16, 14032, .inl (fun _ => 0))), (q_17, .inl (k_18, 2048, .inl (fun _ => 0)))] := hD
  refine lv_aload_n hx hb dX10_init_85 rfl (lv_at hl 0 rfl) ?_
  refine lv_sipush (v := 14048) hx hb dX10_init_86 (by decide) ?_
  refine va_newa (atype := .int) (ty := .int) (N' := 14048) (a0 := (14048, .inl (fun _ => 0))) hx hb (hts (.arrayClass .int) (by decide +kernel)) rfl hK hP hD hS hA (fun _ => rfl) (by decide) (by decide) (Nat.le_of_ble_eq_true rfl) (Nat.le_of_ble_eq_true rfl) (Nat.le_of_ble_eq_true rfl) dX10_init_89 (fun q_19 k_20 H hK hP hD hS => ?_)
  have hP : va_P (dC, dI) vwCl [(h0, .inr (10, [.int 0, .ref q_1, .ref q_3, .ref q_5, .ref q_7, .ref q_9, .ref q_11, .ref q_13, .ref q_15, .ref q_17, .null, .int 0])), (q_1, .inl (k_2, 14032, .inl (fun _ => 0))), (q_3, .inl (k_4, 14032, .inl (fun _ => 0))), (q_5, .inl (k_6, 14032, .inl (fun _ => 0))), (q_7, .inl (k_8, 14032, .inl (fun _ => 0))), (q_9, .inl (k_10, 14032, .inl (fun _ => 0))), (q_11, .inl (k_12, 14032, .inl (fun _ => 0))), (q_13, .inl (k_14, 14032, .inl (fun _ => 0))), (q_15, .inl (k_16, 14032, .inl (fun _ => 0))), (q_17, .inl (k_18, 2048, .inl (fun _ => 0))), (q_19, .inl (k_20, 14048, .inl (fun _ => 0)))] H := hP
  have hD : va_D A [(h0, .inr (10, [.int 0, .ref q_1, .ref q_3, .ref q_5, .ref q_7, .ref q_9, .ref q_11, .ref q_13, .ref q_15, .ref q_17, .null, .int 0])), (q_1, .inl (k_2, 14032, .inl (fun _ => 0))), (q_3, .inl (k_4, 14032, .inl (fun _ => 0))), (q_5, .inl (k_6, 14032, .inl (fun _ => 0))), (q_7, .inl (k_8, 14032, .inl (fun _ => 0))), (q_9, .inl (k_10, 14032, .inl (fun _ => 0))), (q_11, .inl (k_12, 14032, .inl (fun _ => 0))), (q_13, .inl (k_14, 14032, .inl (fun _ => 0))), (q_15, .inl (k_16, 14032, .inl (fun _ => 0))), (q_17, .inl (k_18, 2048, .inl (fun _ => 0))), (q_19, .inl (k_20, 14048, .inl (fun _ => 0)))] := hD
  have hK : va_K (dC, dI) vwCl [(k_2, .int), (k_4, .int), (k_6, .int), (k_8, .int), (k_10, .int), (k_12, .boolean), (k_14, .int), (k_16, .int), (k_18, .int), (k_20, .int)] s := hK
  refine W.widen (k := 10) (n := 128352) (Nat.le_of_ble_eq_true rfl) (Nat.le_of_ble_eq_true rfl) ?_
  refine va_putF (D := (dC, dI)) (ci := 10) (v := .ref q_19) (ty := .array .int) (C := RX10) (T := TX10) (N := 12) hx hb hts hiX10 tyX10 tyX10_ok nmX10 hown hK hP hD hS 0 rfl rfl 10 (by decide) (hts (.fieldLink RX10 40 "ComboHouse$Types" "stack" "[I") (by decide +kernel)) (fun _ h9 => h9) rfl hin rfl (by decide +kernel) rfl rfl (Nat.le_of_ble_eq_true rfl) dX10_init_91 (fun H locs hP hD hS => ?_)
  have hP : va_P (dC, dI) vwCl [(h0, .inr (10, [.int 0, .ref q_1, .ref q_3, .ref q_5, .ref q_7, .ref q_9, .ref q_11, .ref q_13, .ref q_15, .ref q_17, .ref q_19, .int 0])), (q_1, .inl (k_2, 14032, .inl (fun _ => 0))), (q_3, .inl (k_4, 14032, .inl (fun _ => 0))), (q_5, .inl (k_6, 14032, .inl (fun _ => 0))), (q_7, .inl (k_8, 14032, .inl (fun _ => 0))), (q_9, .inl (k_10, 14032, .inl (fun _ => 0))), (q_11, .inl (k_12, 14032, .inl (fun _ => 0))), (q_13, .inl (k_14, 14032, .inl (fun _ => 0))), (q_15, .inl (k_16, 14032, .inl (fun _ => 0))), (q_17, .inl (k_18, 2048, .inl (fun _ => 0))), (q_19, .inl (k_20, 14048, .inl (fun _ => 0)))] H := hP
  have hD : va_D A [(h0, .inr (10, [.int 0, .ref q_1, .ref q_3, .ref q_5, .ref q_7, .ref q_9, .ref q_11, .ref q_13, .ref q_15, .ref q_17, .ref q_19, .int 0])), (q_1, .inl (k_2, 14032, .inl (fun _ => 0))), (q_3, .inl (k_4, 14032, .inl (fun _ => 0))), (q_5, .inl (k_6, 14032, .inl (fun _ => 0))), (q_7, .inl (k_8, 14032, .inl (fun _ => 0))), (q_9, .inl (k_10, 14032, .inl (fun _ => 0))), (q_11, .inl (k_12, 14032, .inl (fun _ => 0))), (q_13, .inl (k_14, 14032, .inl (fun _ => 0))), (q_15, .inl (k_16, 14032, .inl (fun _ => 0))), (q_17, .inl (k_18, 2048, .inl (fun _ => 0))), (q_19, .inl (k_20, 14048, .inl (fun _ => 0)))] := hD
  have hP9 := hP.sub (ws' := [(h0, .inr (10, [.int 0, .ref q_1, .ref q_3, .ref q_5, .ref q_7, .ref q_9, .ref q_11, .ref q_13, .ref q_15, .ref q_17, .ref q_19, .int 0])), (q_1, .inl (k_2, 14032, .inl (fun _ => 0))), (q_3, .inl (k_4, 14032, .inl (fun _ => 0))), (q_5, .inl (k_6, 14032, .inl (fun _ => 0))), (q_7, .inl (k_8, 14032, .inl (fun _ => 0))), (q_9, .inl (k_10, 14032, .inl (fun _ => 0))), (q_11, .inl (k_12, 14032, .inl (fun _ => 0))), (q_13, .inl (k_14, 14032, .inl (fun _ => 0))), (q_15, .inl (k_16, 14032, .inl (fun _ => 0))), (q_17, .inl (k_18, 2048, .inl (fun _ => 0))), (q_19, .inl (k_20, 14048, .inl (fun _ => 0)))]) [0, 1, 2, 3, 4, 5, 6, 7, 8, 9, 10] rfl
  have hD9 := hD.sub (ws' := [(h0, .inr (10, [.int 0, .ref q_1, .ref q_3, .ref q_5, .ref q_7, .ref q_9, .ref q_11, .ref q_13, .ref q_15, .ref q_17, .ref q_19, .int 0])), (q_1, .inl (k_2, 14032, .inl (fun _ => 0))), (q_3, .inl (k_4, 14032, .inl (fun _ => 0))), (q_5, .inl (k_6, 14032, .inl (fun _ => 0))), (q_7, .inl (k_8, 14032, .inl (fun _ => 0))), (q_9, .inl (k_10, 14032, .inl (fun _ => 0))), (q_11, .inl (k_12, 14032, .inl (fun _ => 0))), (q_13, .inl (k_14, 14032, .inl (fun _ => 0))), (q_15, .inl (k_16, 14032, .inl (fun _ => 0))), (q_17, .inl (k_18, 2048, .inl (fun _ => 0))), (q_19, .inl (k_20, 14048, .inl (fun _ => 0)))]) [0, 1, 2, 3, 4, 5, 6, 7, 8, 9, 10] (by decide) rfl
  have hK9 := hK.sub (tys' := [(k_2, .int), (k_4, .int), (k_6, .int), (k_8, .int), (k_10, .int), (k_12, .boolean), (k_14, .int), (k_16, .int), (k_18, .int), (k_20, .int)]) [0, 1, 2, 3, 4, 5, 6, 7, 8, 9] rfl
  refine W.widen (k := 10) (n := 128352) (Nat.le_of_ble_eq_true rfl) (Nat.le_of_ble_eq_true rfl) ?_
  exact W.vret hx hb hr (fun t ht hW => ⟨⟨(), rfl, trivial, q_1, k_2, q_3, k_4, q_5, k_6, q_7, k_8, q_9, k_10, q_11, k_12, q_13, k_14, q_15, k_16, q_17, k_18, q_19, k_20, by rw [ht]; exact hP9, va_K.moved hW.alike hK9, hAe ▸ hD9⟩, hAe ▸ hS.F ht⟩) (fun q hq => hAe ▸ hS.2.2 q hq) dX10_init_94
