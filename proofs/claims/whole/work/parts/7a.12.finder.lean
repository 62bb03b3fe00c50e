def fdK : Nat → Int32 := (upd (upd (upd (upd (upd (upd (upd (upd (upd (upd (upd (upd (upd (upd (upd (upd (upd (upd (upd (upd (upd (upd (upd (upd (upd (upd (fun _ => 0) 0 0) 1 1) 2 2) 3 2) 4 2) 5 2) 6 2) 7 2) 8 2) 9 2) 10 2) 14 2) 18 2) 22 2) 11 2) 15 2) 19 2) 23 2) 12 2) 16 2) 20 2) 24 2) 13 2) 17 2) 21 2) 25 2)
def fdL : Nat → Int32 := (upd (upd (upd (upd (upd (upd (upd (upd (upd (upd (upd (upd (upd (upd (upd (upd (upd (upd (upd (upd (upd (upd (upd (upd (upd (upd (fun _ => 0) 0 0) 1 0) 2 1) 3 2) 4 3) 5 4) 6 5) 7 6) 8 7) 9 8) 10 1) 14 1) 18 4) 22 4) 11 1) 15 1) 19 5) 23 4) 12 1) 16 1) 20 6) 24 4) 13 1) 17 1) 21 7) 25 4)
def fdR : Nat → Int32 := (upd (upd (upd (upd (upd (upd (upd (upd (upd (upd (upd (upd (upd (upd (upd (upd (upd (upd (upd (upd (upd (upd (upd (upd (upd (upd (fun _ => 0) 0 0) 1 0) 2 1) 3 2) 4 3) 5 4) 6 5) 7 6) 8 7) 9 8) 10 4) 14 5) 18 5) 22 4) 11 5) 15 6) 19 6) 23 5) 12 6) 16 7) 20 7) 24 6) 13 7) 17 8) 21 8) 25 7)
set_option maxHeartbeats 4000000 in
set_option maxRecDepth 100000 in
theorem c_X1_init (l : Launch) (dC : Nat → ClassId) (dI : Nat → Nat → Nat) (h0 : Nat) (sz : Nat) : Met l yX1_init wsX1_init ({ frames := 1, cells := 6, slots := 98224, locals := 24 }) (va_Pc [.ref h0] (fun U => U.heap.size = sz ∧ va_P (dC, dI) vwCl [(h0, .inr (1, [.null, .null, .null, .null, .null, .null, .int 0, .int 0]))] U.heap ∧ va_K (dC, dI) vwCl [] U ∧ va_D (fun _ => True) [(h0, .inr (1, [.null, .null, .null, .null, .null, .null, .int 0, .int 0]))])) (va_Qv (fun (_ : Unit) => True) (fun (_ : Unit) (t : State) => ∃ (aq0 : Nat), ∃ (ak0 : ClassId), ∃ (aq1 : Nat), ∃ (ak1 : ClassId), ∃ (aq2 : Nat), ∃ (ak2 : ClassId), ∃ (aq3 : Nat), ∃ (ak3 : ClassId), ∃ (aq4 : Nat), ∃ (ak4 : ClassId), ∃ (aq5 : Nat), ∃ (ak5 : ClassId), va_P (dC, dI) vwCl [(h0, .inr (1, [.ref aq0, .ref aq1, .ref aq2, .ref aq3, .ref aq4, .ref aq5, .int 0, .int 0])), (aq0, .inl (ak0, 14032, .inl fdK)), (aq1, .inl (ak1, 14032, .inl fdL)), (aq2, .inl (ak2, 14032, .inl fdR)), (aq3, .inl (ak3, 14032, .inl (fun _ => 0))), (aq4, .inl (ak4, 14032, .inl (fun _ => 0))), (aq5, .inl (ak5, 28064, .inl (fun _ => 0)))] t.heap ∧ va_K (dC, dI) vwCl [(ak0, .int), (ak1, .int), (ak2, .int), (ak3, .int), (ak4, .int), (ak5, .int)] t ∧ va_D (va_A [(h0, .inr (1, [.null, .null, .null, .null, .null, .null, .int 0, .int 0]))] sz) [(h0, .inr (1, [.ref aq0, .ref aq1, .ref aq2, .ref aq3, .ref aq4, .ref aq5, .int 0, .int 0])), (aq0, .inl (ak0, 14032, .inl fdK)), (aq1, .inl (ak1, 14032, .inl fdL)), (aq2, .inl (ak2, 14032, .inl fdR)), (aq3, .inl (ak3, 14032, .inl (fun _ => 0))), (aq4, .inl (ak4, 14032, .inl (fun _ => 0))), (aq5, .inl (ak5, 28064, .inl (fun _ => 0)))]) (va_A [(h0, .inr (1, [.null, .null, .null, .null, .null, .null, .int 0, .int 0]))] sz)) 6 98224 (va_A [(h0, .inr (1, [.null, .null, .null, .null, .null, .null, .int 0, .int 0]))] sz) := by
  refine Met.ofW (cc := cX1_init) (maxL := 3) (ret := none) (by decide) rfl ?_
  intro p e s m args below meth c s₁ B hml hv
  obtain ⟨rfl, hsz, hP, hK, hD0⟩ := hv
  have hx := B.exec
  have hb := B.bytes
  have hr := B.returns
  have hts := atoms_spec (ws := wsX1_init) B.pre
  have hown : s.vm.findClass RX1 = some m.cls := findClass_of_methodNamed B.named
  have hlocks := B.notSynchronized
  have hin : meth.name = "<init>" := (name_of_methodNamed B.named B.method).1
  subst hsz
  have hD := hD0.self (sz := s.heap.size)
  generalize hAe : va_A [(h0, .inr (1, [.null, .null, .null, .null, .null, .null, .int 0, .int 0]))] s.heap.size = A at hD ⊢
  have hA : ∀ q : Nat, s.heap.size ≤ q → A q := fun q h => by rw [← hAe]; exact Or.inr h
  have hS : va_S A s.heap s.heap [] := va_S.rf
  have hP : va_P (dC, dI) vwCl [(h0, .inr (1, [.null, .null, .null, .null, .null, .null, .int 0, .int 0]))] s.heap := hP
  have hD : va_D A [(h0, .inr (1, [.null, .null, .null, .null, .null, .null, .int 0, .int 0]))] := hD
  have hl := lv_entry ([.ref h0]) (n := 3) (Nat.le_of_ble_eq_true rfl)
  rw [lg_entry_eq]
  generalize (lg_sl ([.ref h0]) ++ List.replicate (3 - (lg_sl ([.ref h0])).length) Slot.unset).toArray = ls at hl ⊢
  have hl : lv_has ls 3 [(0, .ref h0)] := hl
  have hiX1 : ∀ w ∈ wsX10, w ∈ wsX1_init := by decide +kernel
  refine lv_aload_n hx hb dX1_init_0 rfl (lv_at hl 0 rfl) ?_
  refine W.objInit hx hb hown (hts (.methodLink RX1 5 objectInit) (by decide +kernel)) (hts (.instanceMethod objectInit) (by decide +kernel)) (hts (.code objectInit ⟨#[0xb1]⟩ 1 none) (by decide +kernel)) rfl (by rw [hml]; exact hl.1) rfl dX1_init_1 (Nat.le_of_ble_eq_true rfl) (Nat.le_of_ble_eq_true rfl) ?_
  refine W.eq (g2 := F0 m 4 ls []) rfl ?_
  refine lv_aload_n hx hb dX1_init_4 rfl (lv_at hl 0 rfl) ?_
  refine lv_sipush (v := 14032) hx hb dX1_init_5 (by decide) ?_
  refine va_newa (atype := .int) (ty := .int) (N' := 14032) (a0 := (14032, .inl (fun _ => 0))) hx hb (hts (.arrayClass .int) (by decide +kernel)) rfl hK hP hD hS hA (fun _ => rfl) (by decide) (by decide) (Nat.le_of_ble_eq_true rfl) (Nat.le_of_ble_eq_true rfl) (Nat.le_of_ble_eq_true rfl) dX1_init_8 (fun q_1 k_2 H hK hP hD hS => ?_)
  have hP : va_P (dC, dI) vwCl [(h0, .inr (1, [.null, .null, .null, .null, .null, .null, .int 0, .int 0])), (q_1, .inl (k_2, 14032, .inl (fun _ => 0)))] H := hP
  have hD : va_D A [(h0, .inr (1, [.null, .null, .null, .null, .null, .null, .int 0, .int 0])), (q_1, .inl (k_2, 14032, .inl (fun _ => 0)))] := hD
  have hK : va_K (dC, dI) vwCl [(k_2, .int)] s := hK
  refine W.widen (k := 1) (n := 14032) (Nat.le_of_ble_eq_true rfl) (Nat.le_of_ble_eq_true rfl) ?_
  refine va_putF (D := (dC, dI)) (ci := 1) (v := .ref q_1) (ty := .array .int) (C := RX1) (T := TX1) (N := 8) hx hb hts hiX1 tyX1 tyX1_ok nmX1 hown hK hP hD hS 0 rfl rfl 0 (by decide) (hts (.fieldLink RX1 13 "ComboHouse$Finder" "kind" "[I") (by decide +kernel)) (fun _ h9 => h9) rfl hin rfl (by decide +kernel) rfl rfl (Nat.le_of_ble_eq_true rfl) dX1_init_10 (fun H locs hP hD hS => ?_)
  have hP : va_P (dC, dI) vwCl [(h0, .inr (1, [.ref q_1, .null, .null, .null, .null, .null, .int 0, .int 0])), (q_1, .inl (k_2, 14032, .inl (fun _ => 0)))] H := hP
  have hD : va_D A [(h0, .inr (1, [.ref q_1, .null, .null, .null, .null, .null, .int 0, .int 0])), (q_1, .inl (k_2, 14032, .inl (fun _ => 0)))] := hD
  refine lv_aload_n hx hb dX1_init_13 rfl (lv_at hl 0 rfl) ?_
  refine lv_sipush (v := 14032) hx hb dX1_init_14 (by decide) ?_
  refine va_newa (atype := .int) (ty := .int) (N' := 14032) (a0 := (14032, .inl (fun _ => 0))) hx hb (hts (.arrayClass .int) (by decide +kernel)) rfl hK hP hD hS hA (fun _ => rfl) (by decide) (by decide) (Nat.le_of_ble_eq_true rfl) (Nat.le_of_ble_eq_true rfl) (Nat.le_of_ble_eq_true rfl) dX1_init_17 (fun q_3 k_4 H hK hP hD hS => ?_)
  have hP : va_P (dC, dI) vwCl [(h0, .inr (1, [.ref q_1, .null, .null, .null, .null, .null, .int 0, .int 0])), (q_1, .inl (k_2, 14032, .inl (fun _ => 0))), (q_3, .inl (k_4, 14032, .inl (fun _ => 0)))] H := hP
  have hD : va_D A [(h0, .inr (1, [.ref q_1, .null, .null, .null, .null, .null, .int 0, .int 0])), (q_1, .inl (k_2, 14032, .inl (fun _ => 0))), (q_3, .inl (k_4, 14032, .inl (fun _ => 0)))] := hD
  have hK : va_K (dC, dI) vwCl [(k_2, .int), (k_4, .int)] s := hK
  refine W.widen (k := 2) (n := 28064) (Nat.le_of_ble_eq_true rfl) (Nat.le_of_ble_eq_true rfl) ?_
  refine va_putF (D := (dC, dI)) (ci := 1) (v := .ref q_3) (ty := .array .int) (C := RX1) (T := TX1) (N := 8) hx hb hts hiX1 tyX1 tyX1_ok nmX1 hown hK hP hD hS 0 rfl rfl 1 (by decide) (hts (.fieldLink RX1 17 "ComboHouse$Finder" "left" "[I") (by decide +kernel)) (fun _ h9 => h9) rfl hin rfl (by decide +kernel) rfl rfl (Nat.le_of_ble_eq_true rfl) dX1_init_19 (fun H locs hP hD hS => ?_)
  have hP : va_P (dC, dI) vwCl [(h0, .inr (1, [.ref q_1, .ref q_3, .null, .null, .null, .null, .int 0, .int 0])), (q_1, .inl (k_2, 14032, .inl (fun _ => 0))), (q_3, .inl (k_4, 14032, .inl (fun _ => 0)))] H := hP
  have hD : va_D A [(h0, .inr (1, [.ref q_1, .ref q_3, .null, .null, .null, .null, .int 0, .int 0])), (q_1, .inl (k_2, 14032, .inl (fun _ => 0))), (q_3, .inl (k_4, 14032, .inl (fun _ => 0)))] := hD
  refine lv_aload_n hx hb dX1_init_22 rfl (lv_at hl 0 rfl) ?_
  refine lv_sipush (v := 14032) hx hb dX1_init_23 (by decide) ?_
  refine va_newa (atype := .int) (ty := .int) (N' := 14032) (a0 := (14032, .inl (fun _ => 0))) hx hb (hts (.arrayClass .int) (by decide +kernel)) rfl hK hP hD hS hA (fun _ => rfl) (by decide) (by decide) (Nat.le_of_ble_eq_true rfl) (Nat.le_of_ble_eq_true rfl) (Nat.le_of_ble_eq_true rfl) dX1_init_26 (fun q_5 k_6 H hK hP hD hS => ?_)
  have hP : va_P (dC, dI) vwCl [(h0, .inr (1, [.ref q_1, .ref q_3, .null, .null, .null, .null, .int 0, .int 0])), (q_1, .inl (k_2, 14032, .inl (fun _ => 0))), (q_3, .inl (k_4, 14032, .inl (fun _ => 0))), (q_5, .inl (k_6, 14032, .inl (fun _ => 0)))] H := hP
  have hD : va_D A [(h0, .inr (1, [.ref q_1, .ref q_3, .null, .null, .null, .null, .int 0, .int 0])), (q_1, .inl (k_2, 14032, .inl (fun _ => 0))), (q_3, .inl (k_4, 14032, .inl (fun _ => 0))), (q_5, .inl (k_6, 14032, .inl (fun _ => 0)))] := hD
  have hK : va_K (dC, dI) vwCl [(k_2, .int), (k_4, .int), (k_6, .int)] s := hK
  refine W.widen (k := 3) (n := 42096) (Nat.le_of_ble_eq_true rfl) (Nat.le_of_ble_eq_true rfl) ?_
  refine va_putF (D := (dC, dI)) (ci := 1) (v := .ref q_5) (ty := .array .int) (C := RX1) (T := TX1) (N := 8) hx hb hts hiX1 tyX1 tyX1_ok nmX1 hown hK hP hD hS 0 rfl rfl 2 (by decide) (hts (.fieldLink RX1 20 "ComboHouse$Finder" "right" "[I") (by decide +kernel)) (fun _ h9 => h9) rfl hin rfl (by decide +kernel) rfl rfl (Nat.le_of_ble_eq_true rfl) dX1_init_28 (fun H locs hP hD hS => ?_)
  have hP : va_P (dC, dI) vwCl [(h0, .inr (1, [.ref q_1, .ref q_3, .ref q_5, .null, .null, .null, .int 0, .int 0])), (q_1, .inl (k_2, 14032, .inl (fun _ => 0))), (q_3, .inl (k_4, 14032, .inl (fun _ => 0))), (q_5, .inl (k_6, 14032, .inl (fun _ => 0)))] H := hP
  have hD : va_D A [(h0, .inr (1, [.ref q_1, .ref q_3, .ref q_5, .null, .null, .null, .int 0, .int 0])), (q_1, .inl (k_2, 14032, .inl (fun _ => 0))), (q_3, .inl (k_4, 14032, .inl (fun _ => 0))), (q_5, .inl (k_6, 14032, .inl (fun _ => 0)))] := hD
  refine lv_aload_n hx hb dX1_init_31 rfl (lv_at hl 0 rfl) ?_
  refine lv_sipush (v := 14032) hx hb dX1_init_32 (by decide) ?_
  refine va_newa (atype := .int) (ty := .int) (N' := 14032) (a0 := (14032, .inl (fun _ => 0))) hx hb (hts (.arrayClass .int) (by decide +kernel)) rfl hK hP hD hS hA (fun _ => rfl) (by decide) (by decide) (Nat.le_of_ble_eq_true rfl) (Nat.le_of_ble_eq_true rfl) (Nat.le_of_ble_eq_true rfl) dX1_init_35 (fun q_7 k_8 H hK hP hD hS => ?_)
  have hP : va_P (dC, dI) vwCl [(h0, .inr (1, [.ref q_1, .ref q_3, .ref q_5, .null, .null, .null, .int 0, .int 0])), (q_1, .inl (k_2, 14032, .inl (fun _ => 0))), (q_3, .inl (k_4, 14032, .inl (fun _ => 0))), (q_5, .inl (k_6, 14032, .inl (fun _ => 0))), (q_7, .inl (k_8, 14032, .inl (fun _ => 0)))] H := hP
  have hD : va_D A [(h0, .inr (1, [.ref q_1, .ref q_3, .ref q_5, .null, .null, .null, .int 0, .int 0])), (q_1, .inl (k_2, 14032, .inl (fun _ => 0))), (q_3, .inl (k_4, 14032, .inl (fun _ => 0))), (q_5, .inl (k_6, 14032, .inl (fun _ => 0))), (q_7, .inl (k_8, 14032, .inl (fun _ => 0)))] := hD
  have hK : va_K (dC, dI) vwCl [(k_2, .int), (k_4, .int), (k_6, .int), (k_8, .int)] s := hK
  refine W.widen (k := 4) (n := 56128) (Nat.le_of_ble_eq_true rfl) (Nat.le_of_ble_eq_true rfl) ?_
  refine va_putF (D := (dC, dI)) (ci := 1) (v := .ref q_7) (ty := .array .int) (C := RX1) (T := TX1) (N := 8) hx hb hts hiX1 tyX1 tyX1_ok nmX1 hown hK hP hD hS 0 rfl rfl 3 (by decide) (hts (.fieldLink RX1 23 "ComboHouse$Finder" "up" "[I") (by decide +kernel)) (fun _ h9 => h9) rfl hin rfl (by decide +kernel) rfl rfl (Nat.le_of_ble_eq_true rfl) dX1_init_37 (fun H locs hP hD hS => ?_)
  have hP : va_P (dC, dI) vwCl [(h0, .inr (1, [.ref q_1, .ref q_3, .ref q_5, .ref q_7, .null, .null, .int 0, .int 0])), (q_1, .inl (k_2, 14032, .inl (fun _ => 0))), (q_3, .inl (k_4, 14032, .inl (fun _ => 0))), (q_5, .inl (k_6, 14032, .inl (fun _ => 0))), (q_7, .inl (k_8, 14032, .inl (fun _ => 0)))] H := hP
  have hD : va_D A [(h0, .inr (1, [.ref q_1, .ref q_3, .ref q_5, .ref q_7, .null, .null, .int 0, .int 0])), (q_1, .inl (k_2, 14032, .inl (fun _ => 0))), (q_3, .inl (k_4, 14032, .inl (fun _ => 0))), (q_5, .inl (k_6, 14032, .inl (fun _ => 0))), (q_7, .inl (k_8, 14032, .inl (fun _ => 0)))] := hD
  refine lv_aload_n hx hb dX1_init_40 rfl (lv_at hl 0 rfl) ?_
  refine lv_sipush (v := 14032) hx hb dX1_init_41 (by decide) ?_
  refine va_newa (atype := .int) (ty := .int) (N' := 14032) (a0 := (14032, .inl (fun _ => 0))) hx hb (hts (.arrayClass .int) (by decide +kernel)) rfl hK hP hD hS hA (fun _ => rfl) (by decide) (by decide) (Nat.le_of_ble_eq_true rfl) (Nat.le_of_ble_eq_true rfl) (Nat.le_of_ble_eq_true rfl) dX1_init_44 (fun q_9 k_10 H hK hP hD hS => ?_)
  have hP : va_P (dC, dI) vwCl [(h0, .inr (1, [.ref q_1, .ref q_3, .ref q_5, .ref q_7, .null, .null, .int 0, .int 0])), (q_1, .inl (k_2, 14032, .inl (fun _ => 0))), (q_3, .inl (k_4, 14032, .inl (fun _ => 0))), (q_5, .inl (k_6, 14032, .inl (fun _ => 0))), (q_7, .inl (k_8, 14032, .inl (fun _ => 0))), (q_9, .inl (k_10, 14032, .inl (fun _ => 0)))] H := hP
  have hD : va_D A [(h0, .inr (1, [.ref q_1, .ref q_3, .ref q_5, .ref q_7, .null, .null, .int 0, .int 0])), (q_1, .inl (k_2, 14032, .inl (fun _ => 0))), (q_3, .inl (k_4, 14032, .inl (fun _ => 0))), (q_5, .inl (k_6, 14032, .inl (fun _ => 0))), (q_7, .inl (k_8, 14032, .inl (fun _ => 0))), (q_9, .inl (k_10, 14032, .inl (fun _ => 0)))] := hD
  have hK : va_K (dC, dI) vwCl [(k_2, .int), (k_4, .int), (k_6, .int), (k_8, .int), (k_10, .int)] s := hK
  refine W.widen (k := 5) (n := 70160) (Nat.le_of_ble_eq_true rfl) (Nat.le_of_ble_eq_true rfl) ?_
  refine va_putF (D := (dC, dI)) (ci := 1) (v := .ref q_9) (ty := .array .int) (C := RX1) (T := TX1) (N := 8) hx hb hts hiX1 tyX1 tyX1_ok nmX1 hown hK hP hD hS 0 rfl rfl 4 (by decide) (hts (.fieldLink RX1 26 "ComboHouse$Finder" "found" "[I") (by decide +kernel)) (fun _ h9 => h9) rfl hin rfl (by decide +kernel) rfl rfl (Nat.le_of_ble_eq_true rfl) dX1_init_46 (fun H locs hP hD hS => ?_)
  have hP : va_P (dC, dI) vwCl [(h0, .inr (1, [.ref q_1, .ref q_3, .ref q_5, .ref q_7, .ref q_9, .null, .int 0, .int 0])), (q_1, .inl (k_2, 14032, .inl (fun _ => 0))), (q_3, .inl (k_4, 14032, .inl (fun _ => 0))), (q_5, .inl (k_6, 14032, .inl (fun _ => 0))), (q_7, .inl (k_8, 14032, .inl (fun _ => 0))), (q_9, .inl (k_10, 14032, .inl (fun _ => 0)))] H := hP
  have hD : va_D A [(h0, .inr (1, [.ref q_1, .ref q_3, .ref q_5, .ref q_7, .ref q_9, .null, .int 0, .int 0])), (q_1, .inl (k_2, 14032, .inl (fun _ => 0))), (q_3, .inl (k_4, 14032, .inl (fun _ => 0))), (q_5, .inl (k_6, 14032, .inl (fun _ => 0))), (q_7, .inl (k_8, 14032, .inl (fun _ => 0))), (q_9, .inl (k_10, 14032, .inl (fun _ => 0)))] := hD
  refine lv_aload_n hx hb dX1_init_49 rfl (lv_at hl 0 rfl) ?_
  refine lv_sipush (v := 28064) hx hb dX1_init_50 (by decide) ?_
  refine va_newa (atype := .int) (ty := .int) (N' := 28064) (a0 := (28064, .inl (fun _ => 0))) hx hb (hts (.arrayClass .int) (by decide +kernel)) rfl hK hP hD hS hA (fun _ => rfl) (by decide) (by decide) (Nat.le_of_ble_eq_true rfl) (Nat.le_of_ble_eq_true rfl) (Nat.le_of_ble_eq_true rfl) dX1_init_53 (fun q_11 k_12 H hK hP hD hS => ?_)
  have hP : va_P (dC, dI) vwCl [(h0, .inr (1, [.ref q_1, .ref q_3, .ref q_5, .ref q_7, .ref q_9, .null, .int 0, .int 0])), (q_1, .inl (k_2, 14032, .inl (fun _ => 0))), (q_3, .inl (k_4, 14032, .inl (fun _ => 0))), (q_5, .inl (k_6, 14032, .inl (fun _ => 0))), (q_7, .inl (k_8, 14032, .inl (fun _ => 0))), (q_9, .inl (k_10, 14032, .inl (fun _ => 0))), (q_11, .inl (k_12, 28064, .inl (fun _ => 0)))] H := hP
  have hD : va_D A [(h0, .inr (1, [.ref q_1, .ref q_3, .ref q_5, .ref q_7, .ref q_9, .null, .int 0, .int 0])), (q_1, .inl (k_2, 14032, .inl (fun _ => 0))), (q_3, .inl (k_4, 14032, .inl (fun _ => 0))), (q_5, .inl (k_6, 14032, .inl (fun _ => 0))), (q_7, .inl (k_8, 14032, .inl (fun _ => 0))), (q_9, .inl (k_10, 14032, .inl (fun _ => 0))), (q_11, .inl (k_12, 28064, .inl (fun _ => 0)))] := hD
  have hK : va_K (dC, dI) vwCl [(k_2, .int), (k_4, .int), (k_6, .int), (k_8, .int), (k_10, .int), (k_12, .int)] s := hK
  refine W.widen (k := 6) (n := 98224) (Nat.le_of_ble_eq_true rfl) (Nat.le_of_ble_eq_true rfl) ?_
  refine va_putF (D := (dC, dI)) (ci := 1) (v := .ref q_11) (ty := .array .int) (C := RX1) (T := TX1) (N := 8) hx hb hts hiX1 tyX1 tyX1_ok nmX1 hown hK hP hD hS 0 rfl rfl 5 (by decide) (hts (.fieldLink RX1 29 "ComboHouse$Finder" "stack" "[I") (by decide +kernel)) (fun _ h9 => h9) rfl hin rfl (by decide +kernel) rfl rfl (Nat.le_of_ble_eq_true rfl) dX1_init_55 (fun H locs hP hD hS => ?_)
  have hP : va_P (dC, dI) vwCl [(h0, .inr (1, [.ref q_1, .ref q_3, .ref q_5, .ref q_7, .ref q_9, .ref q_11, .int 0, .int 0])), (q_1, .inl (k_2, 14032, .inl (fun _ => 0))), (q_3, .inl (k_4, 14032, .inl (fun _ => 0))), (q_5, .inl (k_6, 14032, .inl (fun _ => 0))), (q_7, .inl (k_8, 14032, .inl (fun _ => 0))), (q_9, .inl (k_10, 14032, .inl (fun _ => 0))), (q_11, .inl (k_12, 28064, .inl (fun _ => 0)))] H := hP
  have hD : va_D A [(h0, .inr (1, [.ref q_1, .ref q_3, .ref q_5, .ref q_7, .ref q_9, .ref q_11, .int 0, .int 0])), (q_1, .inl (k_2, 14032, .inl (fun _ => 0))), (q_3, .inl (k_4, 14032, .inl (fun _ => 0))), (q_5, .inl (k_6, 14032, .inl (fun _ => 0))), (q_7, .inl (k_8, 14032, .inl (fun _ => 0))), (q_9, .inl (k_10, 14032, .inl (fun _ => 0))), (q_11, .inl (k_12, 28064, .inl (fun _ => 0)))] := hD
  refine lv_aload_n hx hb dX1_init_58 rfl (lv_at hl 0 rfl) ?_
  refine lv_iconst (v := 0) hx hb dX1_init_59 (by decide) ?_
  refine lv_iconst (v := 0) hx hb dX1_init_60 (by decide) ?_
  refine lv_iconst (v := 0) hx hb dX1_init_61 (by decide) ?_
  refine lv_iconst (v := 0) hx hb dX1_init_62 (by decide) ?_
  have hPc := hP.sub (ws' := [(h0, .inr (1, [.ref q_1, .ref q_3, .ref q_5, .ref q_7, .ref q_9, .ref q_11, .int 0, .int 0])), (q_1, .inl (k_2, 14032, .inl (fun _ => 0))), (q_3, .inl (k_4, 14032, .inl (fun _ => 0))), (q_5, .inl (k_6, 14032, .inl (fun _ => 0)))]) [0, 1, 2, 3] rfl
  have hDc := hD.sub (ws' := [(h0, .inr (1, [.ref q_1, .ref q_3, .ref q_5, .ref q_7, .ref q_9, .ref q_11, .int 0, .int 0])), (q_1, .inl (k_2, 14032, .inl (fun _ => 0))), (q_3, .inl (k_4, 14032, .inl (fun _ => 0))), (q_5, .inl (k_6, 14032, .inl (fun _ => 0)))]) [0, 1, 2, 3] (by decide) rfl
  have hKc := hK.sub (tys' := [(k_2, .int), (k_4, .int), (k_6, .int)]) [0, 1, 2] rfl
  have hFc := va_free (wc := [(h0, .inr (1, [.ref q_1, .ref q_3, .ref q_5, .ref q_7, .ref q_9, .ref q_11, .int 0, .int 0])), (q_1, .inl (k_2, 14032, .inl (fun _ => 0))), (q_3, .inl (k_4, 14032, .inl (fun _ => 0))), (q_5, .inl (k_6, 14032, .inl (fun _ => 0)))]) hD hS hA [0, 1, 2, 3] rfl
  refine va_callv (va_runV (As := [.int 0, .int 0, .int 0, .int 0]) (rest := []) ⟨hx, hb, hml, hown, hts⟩ (c_X1_fix l dC dI h0 q_1 q_3 q_5 k_2 k_4 k_6 q_7 q_9 q_11 (fun _ => 0) (fun _ => 0) (fun _ => 0) 0 0 0 0 0 0 H.size (by decide)) (cwV 4 hts gX1_init_X1_fix rfl rfl rfl (by decide +kernel) ⟨Nat.le_of_ble_eq_true rfl, Nat.le_of_ble_eq_true rfl⟩) ⟨fun a U g mk q => by obtain ⟨q0, q1, qP, qK, qD⟩ := q; exact ⟨q0, q1, qP, va_K.moved (u := U) (U := U.calling g mk a) (Vm.Alike.refl U.vm) qK, qD⟩, va_recv hKc hPc (ci := 1) (q0 := 0) rfl rfl, fun U hU hW => ⟨rfl, by rw [hU], by rw [hU]; exact hPc, va_K.moved hW.alike hKc, hDc.weaken (fun _ _ _ _ => trivial)⟩⟩ rfl rfl hl.1 rfl (lv_room (Nat.le_of_ble_eq_true rfl)) dX1_init_63 ⟨Nat.le_of_ble_eq_true rfl, Nat.le_of_ble_eq_true rfl⟩) hS (fun q _ h => hFc q h) hFc (fun u t H1 locs ht hvm hw hB hz1 hk1 hS => ?_)
  obtain ⟨hP1, hK1, hD1⟩ := hB
  rw [ht] at hP1
  have hK1 := va_K.moved hvm.symm hK1
  obtain ⟨hP, hD⟩ := va_join (wr := [(q_7, .inl (k_8, 14032, .inl (fun _ => 0))), (q_9, .inl (k_10, 14032, .inl (fun _ => 0))), (q_11, .inl (k_12, 28064, .inl (fun _ => 0)))]) (w1 := [(h0, .inr (1, [.ref q_1, .ref q_3, .ref q_5, .ref q_7, .ref q_9, .ref q_11, .int 0, .int 0])), (q_1, .inl (k_2, 14032, .inl (upd (fun _ => 0) 0 0))), (q_3, .inl (k_4, 14032, .inl (upd (fun _ => 0) 0 0))), (q_5, .inl (k_6, 14032, .inl (upd (fun _ => 0) 0 0)))]) hP hD [0, 1, 2, 3] [4, 5, 6] rfl rfl (by decide) (by decide) hk1 hFc hP1 hD1
  have hK := (hK.sub (tys' := [(k_8, .int), (k_10, .int), (k_12, .int)]) [3, 4, 5] rfl).app hK1
  generalize H1 = H at hP hS ⊢
  obtain ⟨g_14, eg_14⟩ : ∃ y : Nat → Int32, y = upd (fun _ => 0) 0 0 := ⟨_, rfl⟩
  obtain ⟨g_15, eg_15⟩ : ∃ y : Nat → Int32, y = upd (fun _ => 0) 0 0 := ⟨_, rfl⟩
  obtain ⟨g_16, eg_16⟩ : ∃ y : Nat → Int32, y = upd (fun _ => 0) 0 0 := ⟨_, rfl⟩
  have hP : va_P (dC, dI) vwCl [(q_7, .inl (k_8, 14032, .inl (fun _ => 0))), (q_9, .inl (k_10, 14032, .inl (fun _ => 0))), (q_11, .inl (k_12, 28064, .inl (fun _ => 0))), (h0, .inr (1, [.ref q_1, .ref q_3, .ref q_5, .ref q_7, .ref q_9, .ref q_11, .int 0, .int 0])), (q_1, .inl (k_2, 14032, .inl g_14)), (q_3, .inl (k_4, 14032, .inl g_15)), (q_5, .inl (k_6, 14032, .inl g_16))] H := by rw [eg_14, eg_15, eg_16]; exact hP
  have hD : va_D A [(q_7, .inl (k_8, 14032, .inl (fun _ => 0))), (q_9, .inl (k_10, 14032, .inl (fun _ => 0))), (q_11, .inl (k_12, 28064, .inl (fun _ => 0))), (h0, .inr (1, [.ref q_1, .ref q_3, .ref q_5, .ref q_7, .ref q_9, .ref q_11, .int 0, .int 0])), (q_1, .inl (k_2, 14032, .inl g_14)), (q_3, .inl (k_4, 14032, .inl g_15)), (q_5, .inl (k_6, 14032, .inl g_16))] := by rw [eg_14, eg_15, eg_16]; exact hD
  have hK : va_K (dC, dI) vwCl [(k_8, .int), (k_10, .int), (k_12, .int), (k_2, .int), (k_4, .int), (k_6, .int)] s := hK
  refine W.widen (k := 6) (n := 98224) (Nat.le_of_ble_eq_true rfl) (Nat.le_of_ble_eq_true rfl) ?_
  refine lv_aload_n hx hb dX1_init_66 rfl (lv_at hl 0 rfl) ?_
  refine lv_iconst (v := 1) hx hb dX1_init_67 (by decide) ?_
  refine lv_iconst (v := 1) hx hb dX1_init_68 (by decide) ?_
  refine lv_iconst (v := 0) hx hb dX1_init_69 (by decide) ?_
  refine lv_iconst (v := 0) hx hb dX1_init_70 (by decide) ?_
  have hPc := hP.sub (ws' := [(h0, .inr (1, [.ref q_1, .ref q_3, .ref q_5, .ref q_7, .ref q_9, .ref q_11, .int 0, .int 0])), (q_1, .inl (k_2, 14032, .inl g_14)), (q_3, .inl (k_4, 14032, .inl g_15)), (q_5, .inl (k_6, 14032, .inl g_16))]) [3, 4, 5, 6] rfl
  have hDc := hD.sub (ws' := [(h0, .inr (1, [.ref q_1, .ref q_3, .ref q_5, .ref q_7, .ref q_9, .ref q_11, .int 0, .int 0])), (q_1, .inl (k_2, 14032, .inl g_14)), (q_3, .inl (k_4, 14032, .inl g_15)), (q_5, .inl (k_6, 14032, .inl g_16))]) [3, 4, 5, 6] (by decide) rfl
  have hKc := hK.sub (tys' := [(k_2, .int), (k_4, .int), (k_6, .int)]) [3, 4, 5] rfl
  have hFc := va_free (wc := [(h0, .inr (1, [.ref q_1, .ref q_3, .ref q_5, .ref q_7, .ref q_9, .ref q_11, .int 0, .int 0])), (q_1, .inl (k_2, 14032, .inl g_14)), (q_3, .inl (k_4, 14032, .inl g_15)), (q_5, .inl (k_6, 14032, .inl g_16))]) hD hS hA [3, 4, 5, 6] rfl
  refine va_callv (va_runV (As := [.int 1, .int 1, .int 0, .int 0]) (rest := []) ⟨hx, hb, hml, hown, hts⟩ (c_X1_fix l dC dI h0 q_1 q_3 q_5 k_2 k_4 k_6 q_7 q_9 q_11 g_14 g_15 g_16 0 0 1 1 0 0 H.size (by decide)) (cwV 4 hts gX1_init_X1_fix rfl rfl rfl (by decide +kernel) ⟨Nat.le_of_ble_eq_true rfl, Nat.le_of_ble_eq_true rfl⟩) ⟨fun a U g mk q => by obtain ⟨q0, q1, qP, qK, qD⟩ := q; exact ⟨q0, q1, qP, va_K.moved (u := U) (U := U.calling g mk a) (Vm.Alike.refl U.vm) qK, qD⟩, va_recv hKc hPc (ci := 1) (q0 := 0) rfl rfl, fun U hU hW => ⟨rfl, by rw [hU], by rw [hU]; exact hPc, va_K.moved hW.alike hKc, hDc.weaken (fun _ _ _ _ => trivial)⟩⟩ rfl rfl hl.1 rfl (lv_room (Nat.le_of_ble_eq_true rfl)) dX1_init_71 ⟨Nat.le_of_ble_eq_true rfl, Nat.le_of_ble_eq_true rfl⟩) hS (fun q _ h => hFc q h) hFc (fun u t H1 locs ht hvm hw hB hz1 hk1 hS => ?_)
  obtain ⟨hP1, hK1, hD1⟩ := hB
  rw [ht] at hP1
  have hK1 := va_K.moved hvm.symm hK1
  obtain ⟨hP, hD⟩ := va_join (wr := [(q_7, .inl (k_8, 14032, .inl (fun _ => 0))), (q_9, .inl (k_10, 14032, .inl (fun _ => 0))), (q_11, .inl (k_12, 28064, .inl (fun _ => 0)))]) (w1 := [(h0, .inr (1, [.ref q_1, .ref q_3, .ref q_5, .ref q_7, .ref q_9, .ref q_11, .int 0, .int 0])), (q_1, .inl (k_2, 14032, .inl (upd g_14 1 1))), (q_3, .inl (k_4, 14032, .inl (upd g_15 1 0))), (q_5, .inl (k_6, 14032, .inl (upd g_16 1 0)))]) hP hD [3, 4, 5, 6] [0, 1, 2] rfl rfl (by decide) (by decide) hk1 hFc hP1 hD1
  have hK := (hK.sub (tys' := [(k_8, .int), (k_10, .int), (k_12, .int)]) [0, 1, 2] rfl).app hK1
  generalize H1 = H at hP hS ⊢
  obtain ⟨g_18, eg_18⟩ : ∃ y : Nat → Int32, y = upd g_14 1 1 := ⟨_, rfl⟩
  obtain ⟨g_19, eg_19⟩ : ∃ y : Nat → Int32, y = upd g_15 1 0 := ⟨_, rfl⟩
  obtain ⟨g_20, eg_20⟩ : ∃ y : Nat → Int32, y = upd g_16 1 0 := ⟨_, rfl⟩
  have hP : va_P (dC, dI) vwCl [(q_7, .inl (k_8, 14032, .inl (fun _ => 0))), (q_9, .inl (k_10, 14032, .inl (fun _ => 0))), (q_11, .inl (k_12, 28064, .inl (fun _ => 0))), (h0, .inr (1, [.ref q_1, .ref q_3, .ref q_5, .ref q_7, .ref q_9, .ref q_11, .int 0, .int 0])), (q_1, .inl (k_2, 14032, .inl g_18)), (q_3, .inl (k_4, 14032, .inl g_19)), (q_5, .inl (k_6, 14032, .inl g_20))] H := by rw [eg_18, eg_19, eg_20]; exact hP
  have hD : va_D A [(q_7, .inl (k_8, 14032, .inl (fun _ => 0))), (q_9, .inl (k_10, 14032, .inl (fun _ => 0))), (q_11, .inl (k_12, 28064, .inl (fun _ => 0))), (h0, .inr (1, [.ref q_1, .ref q_3, .ref q_5, .ref q_7, .ref q_9, .ref q_11, .int 0, .int 0])), (q_1, .inl (k_2, 14032, .inl g_18)), (q_3, .inl (k_4, 14032, .inl g_19)), (q_5, .inl (k_6, 14032, .inl g_20))] := by rw [eg_18, eg_19, eg_20]; exact hD
  have hK : va_K (dC, dI) vwCl [(k_8, .int), (k_10, .int), (k_12, .int), (k_2, .int), (k_4, .int), (k_6, .int)] s := hK
  refine W.widen (k := 6) (n := 98224) (Nat.le_of_ble_eq_true rfl) (Nat.le_of_ble_eq_true rfl) ?_
  refine lv_iconst (v := 1) hx hb dX1_init_74 (by decide) ?_
  refine lv_istore_n (lv' := [(1, .int 1), (0, .ref h0)]) hx hb dX1_init_75 rfl hl (by decide) rfl (fun ls hl => ?_)
  refine lv_iload_n hx hb dX1_init_76 rfl (lv_at hl 0 rfl) ?_
  refine lv_bipush (v := 8) hx hb dX1_init_77 (by decide) ?_
  refine lv_icmp_gt (tgt := 106) hx hb dX1_init_79 (by decide) (fun cnd_21 => ?_) (fun cnd_21 => ?_)
  · exact absurd cnd_21 (by decide)
  refine lv_aload_n hx hb dX1_init_82 rfl (lv_at hl 1 rfl) ?_
  refine lv_iconst (v := 1) hx hb dX1_init_83 (by decide) ?_
  refine lv_iload_n hx hb dX1_init_84 rfl (lv_at hl 0 rfl) ?_
  refine lv_iadd hx hb dX1_init_85 ?_
  refine W.eq (g2 := F0 m 86 ls [.int 2, .ref h0]) (by rfl) ?_
  refine lv_iconst (v := 2) hx hb dX1_init_86 (by decide) ?_
  refine lv_iconst (v := 1) hx hb dX1_init_87 (by decide) ?_
  refine lv_iload_n hx hb dX1_init_88 rfl (lv_at hl 0 rfl) ?_
  refine lv_iadd hx hb dX1_init_89 ?_
  refine W.eq (g2 := F0 m 90 ls [.int 2, .int 2, .int 2, .ref h0]) (by rfl) ?_
  refine lv_iconst (v := 1) hx hb dX1_init_90 (by decide) ?_
  refine lv_isub hx hb dX1_init_91 ?_
  refine W.eq (g2 := F0 m 92 ls [.int 1, .int 2, .int 2, .ref h0]) (by rfl) ?_
  refine lv_iconst (v := 1) hx hb dX1_init_92 (by decide) ?_
  refine lv_iload_n hx hb dX1_init_93 rfl (lv_at hl 0 rfl) ?_
  refine lv_iadd hx hb dX1_init_94 ?_
  refine W.eq (g2 := F0 m 95 ls [.int 2, .int 1, .int 2, .int 2, .ref h0]) (by rfl) ?_
  refine lv_iconst (v := 1) hx hb dX1_init_95 (by decide) ?_
  refine lv_isub hx hb dX1_init_96 ?_
  refine W.eq (g2 := F0 m 97 ls [.int 1, .int 1, .int 2, .int 2, .ref h0]) (by rfl) ?_
  have hPc := hP.sub (ws' := [(h0, .inr (1, [.ref q_1, .ref q_3, .ref q_5, .ref q_7, .ref q_9, .ref q_11, .int 0, .int 0])), (q_1, .inl (k_2, 14032, .inl g_18)), (q_3, .inl (k_4, 14032, .inl g_19)), (q_5, .inl (k_6, 14032, .inl g_20))]) [3, 4, 5, 6] rfl
  have hDc := hD.sub (ws' := [(h0, .inr (1, [.ref q_1, .ref q_3, .ref q_5, .ref q_7, .ref q_9, .ref q_11, .int 0, .int 0])), (q_1, .inl (k_2, 14032, .inl g_18)), (q_3, .inl (k_4, 14032, .inl g_19)), (q_5, .inl (k_6, 14032, .inl g_20))]) [3, 4, 5, 6] (by decide) rfl
  have hKc := hK.sub (tys' := [(k_2, .int), (k_4, .int), (k_6, .int)]) [3, 4, 5] rfl
  have hFc := va_free (wc := [(h0, .inr (1, [.ref q_1, .ref q_3, .ref q_5, .ref q_7, .ref q_9, .ref q_11, .int 0, .int 0])), (q_1, .inl (k_2, 14032, .inl g_18)), (q_3, .inl (k_4, 14032, .inl g_19)), (q_5, .inl (k_6, 14032, .inl g_20))]) hD hS hA [3, 4, 5, 6] rfl
  refine va_callv (va_runV (As := [.int 2, .int 2, .int 1, .int 1]) (rest := []) ⟨hx, hb, hml, hown, hts⟩ (c_X1_fix l dC dI h0 q_1 q_3 q_5 k_2 k_4 k_6 q_7 q_9 q_11 g_18 g_19 g_20 0 0 2 2 1 1 H.size (by decide)) (cwV 4 hts gX1_init_X1_fix rfl rfl rfl (by decide +kernel) ⟨Nat.le_of_ble_eq_true rfl, Nat.le_of_ble_eq_true rfl⟩) ⟨fun a U g mk q => by obtain ⟨q0, q1, qP, qK, qD⟩ := q; exact ⟨q0, q1, qP, va_K.moved (u := U) (U := U.calling g mk a) (Vm.Alike.refl U.vm) qK, qD⟩, va_recv hKc hPc (ci := 1) (q0 := 0) rfl rfl, fun U hU hW => ⟨rfl, by rw [hU], by rw [hU]; exact hPc, va_K.moved hW.alike hKc, hDc.weaken (fun _ _ _ _ => trivial)⟩⟩ rfl rfl hl.1 rfl (lv_room (Nat.le_of_ble_eq_true rfl)) dX1_init_97 ⟨Nat.le_of_ble_eq_true rfl, Nat.le_of_ble_eq_true rfl⟩) hS (fun q _ h => hFc q h) hFc (fun u t H1 locs ht hvm hw hB hz1 hk1 hS => ?_)
  obtain ⟨hP1, hK1, hD1⟩ := hB
  rw [ht] at hP1
  have hK1 := va_K.moved hvm.symm hK1
  obtain ⟨hP, hD⟩ := va_join (wr := [(q_7, .inl (k_8, 14032, .inl (fun _ => 0))), (q_9, .inl (k_10, 14032, .inl (fun _ => 0))), (q_11, .inl (k_12, 28064, .inl (fun _ => 0)))]) (w1 := [(h0, .inr (1, [.ref q_1, .ref q_3, .ref q_5, .ref q_7, .ref q_9, .ref q_11, .int 0, .int 0])), (q_1, .inl (k_2, 14032, .inl (upd g_18 2 2))), (q_3, .inl (k_4, 14032, .inl (upd g_19 2 1))), (q_5, .inl (k_6, 14032, .inl (upd g_20 2 1)))]) hP hD [3, 4, 5, 6] [0, 1, 2] rfl rfl (by decide) (by decide) hk1 hFc hP1 hD1
  have hK := (hK.sub (tys' := [(k_8, .int), (k_10, .int), (k_12, .int)]) [0, 1, 2] rfl).app hK1
  generalize H1 = H at hP hS ⊢
  obtain ⟨g_23, eg_23⟩ : ∃ y : Nat → Int32, y = upd g_18 2 2 := ⟨_, rfl⟩
  obtain ⟨g_24, eg_24⟩ : ∃ y : Nat → Int32, y = upd g_19 2 1 := ⟨_, rfl⟩
  obtain ⟨g_25, eg_25⟩ : ∃ y : Nat → Int32, y = upd g_20 2 1 := ⟨_, rfl⟩
  have hP : va_P (dC, dI) vwCl [(q_7, .inl (k_8, 14032, .inl (fun _ => 0))), (q_9, .inl (k_10, 14032, .inl (fun _ => 0))), (q_11, .inl (k_12, 28064, .inl (fun _ => 0))), (h0, .inr (1, [.ref q_1, .ref q_3, .ref q_5, .ref q_7, .ref q_9, .ref q_11, .int 0, .int 0])), (q_1, .inl (k_2, 14032, .inl g_23)), (q_3, .inl (k_4, 14032, .inl g_24)), (q_5, .inl (k_6, 14032, .inl g_25))] H := by rw [eg_23, eg_24, eg_25]; exact hP
  have hD : va_D A [(q_7, .inl (k_8, 14032, .inl (fun _ => 0))), (q_9, .inl (k_10, 14032, .inl (fun _ => 0))), (q_11, .inl (k_12, 28064, .inl (fun _ => 0))), (h0, .inr (1, [.ref q_1, .ref q_3, .ref q_5, .ref q_7, .ref q_9, .ref q_11, .int 0, .int 0])), (q_1, .inl (k_2, 14032, .inl g_23)), (q_3, .inl (k_4, 14032, .inl g_24)), (q_5, .inl (k_6, 14032, .inl g_25))] := by rw [eg_23, eg_24, eg_25]; exact hD
  have hK : va_K (dC, dI) vwCl [(k_8, .int), (k_10, .int), (k_12, .int), (k_2, .int), (k_4, .int), (k_6, .int)] s := hK
  refine W.widen (k := 6) (n := 98224) (Nat.le_of_ble_eq_true rfl) (Nat.le_of_ble_eq_true rfl) ?_
  refine lv_iinc (v := 2) (lv' := [(1, .int 2), (0, .ref h0)]) hx hb dX1_init_100 hl (k := 0) rfl (by decide) (by decide) rfl (fun ls hl => ?_)
  refine lv_goto (tgt := 76) hx hb dX1_init_103 (by decide) ?_
  refine lv_iload_n hx hb dX1_init_76 rfl (lv_at hl 0 rfl) ?_
  refine lv_bipush (v := 8) hx hb dX1_init_77 (by decide) ?_
  refine lv_icmp_gt (tgt := 106) hx hb dX1_init_79 (by decide) (fun cnd_26 => ?_) (fun cnd_26 => ?_)
  · exact absurd cnd_26 (by decide)
  refine lv_aload_n hx hb dX1_init_82 rfl (lv_at hl 1 rfl) ?_
  refine lv_iconst (v := 1) hx hb dX1_init_83 (by decide) ?_
  refine lv_iload_n hx hb dX1_init_84 rfl (lv_at hl 0 rfl) ?_
  refine lv_iadd hx hb dX1_init_85 ?_
  refine W.eq (g2 := F0 m 86 ls [.int 3, .ref h0]) (by rfl) ?_
  refine lv_iconst (v := 2) hx hb dX1_init_86 (by decide) ?_
  refine lv_iconst (v := 1) hx hb dX1_init_87 (by decide) ?_
  refine lv_iload_n hx hb dX1_init_88 rfl (lv_at hl 0 rfl) ?_
  refine lv_iadd hx hb dX1_init_89 ?_
  refine W.eq (g2 := F0 m 90 ls [.int 3, .int 2, .int 3, .ref h0]) (by rfl) ?_
  refine lv_iconst (v := 1) hx hb dX1_init_90 (by decide) ?_
  refine lv_isub hx hb dX1_init_91 ?_
  refine W.eq (g2 := F0 m 92 ls [.int 2, .int 2, .int 3, .ref h0]) (by rfl) ?_
  refine lv_iconst (v := 1) hx hb dX1_init_92 (by decide) ?_
  refine lv_iload_n hx hb dX1_init_93 rfl (lv_at hl 0 rfl) ?_
  refine lv_iadd hx hb dX1_init_94 ?_
  refine W.eq (g2 := F0 m 95 ls [.int 3, .int 2, .int 2, .int 3, .ref h0]) (by rfl) ?_
  refine lv_iconst (v := 1) hx hb dX1_init_95 (by decide) ?_
  refine lv_isub hx hb dX1_init_96 ?_
  refine W.eq (g2 := F0 m 97 ls [.int 2, .int 2, .int 2, .int 3, .ref h0]) (by rfl) ?_
  have hPc := hP.sub (ws' := [(h0, .inr (1, [.ref q_1, .ref q_3, .ref q_5, .ref q_7, .ref q_9, .ref q_11, .int 0, .int 0])), (q_1, .inl (k_2, 14032, .inl g_23)), (q_3, .inl (k_4, 14032, .inl g_24)), (q_5, .inl (k_6, 14032, .inl g_25))]) [3, 4, 5, 6] rfl
  have hDc := hD.sub (ws' := [(h0, .inr (1, [.ref q_1, .ref q_3, .ref q_5, .ref q_7, .ref q_9, .ref q_11, .int 0, .int 0])), (q_1, .inl (k_2, 14032, .inl g_23)), (q_3, .inl (k_4, 14032, .inl g_24)), (q_5, .inl (k_6, 14032, .inl g_25))]) [3, 4, 5, 6] (by decide) rfl
  have hKc := hK.sub (tys' := [(k_2, .int), (k_4, .int), (k_6, .int)]) [3, 4, 5] rfl
  have hFc := va_free (wc := [(h0, .inr (1, [.ref q_1, .ref q_3, .ref q_5, .ref q_7, .ref q_9, .ref q_11, .int 0, .int 0])), (q_1, .inl (k_2, 14032, .inl g_23)), (q_3, .inl (k_4, 14032, .inl g_24)), (q_5, .inl (k_6, 14032, .inl g_25))]) hD hS hA [3, 4, 5, 6] rfl
  refine va_callv (va_runV (As := [.int 3, .int 2, .int 2, .int 2]) (rest := []) ⟨hx, hb, hml, hown, hts⟩ (c_X1_fix l dC dI h0 q_1 q_3 q_5 k_2 k_4 k_6 q_7 q_9 q_11 g_23 g_24 g_25 0 0 3 2 2 2 H.size (by decide)) (cwV 4 hts gX1_init_X1_fix rfl rfl rfl (by decide +kernel) ⟨Nat.le_of_ble_eq_true rfl, Nat.le_of_ble_eq_true rfl⟩) ⟨fun a U g mk q => by obtain ⟨q0, q1, qP, qK, qD⟩ := q; exact ⟨q0, q1, qP, va_K.moved (u := U) (U := U.calling g mk a) (Vm.Alike.refl U.vm) qK, qD⟩, va_recv hKc hPc (ci := 1) (q0 := 0) rfl rfl, fun U hU hW => ⟨rfl, by rw [hU], by rw [hU]; exact hPc, va_K.moved hW.alike hKc, hDc.weaken (fun _ _ _ _ => trivial)⟩⟩ rfl rfl hl.1 rfl (lv_room (Nat.le_of_ble_eq_true rfl)) dX1_init_97 ⟨Nat.le_of_ble_eq_true rfl, Nat.le_of_ble_eq_true rfl⟩) hS (fun q _ h => hFc q h) hFc (fun u t H1 locs ht hvm hw hB hz1 hk1 hS => ?_)
  obtain ⟨hP1, hK1, hD1⟩ := hB
  rw [ht] at hP1
  have hK1 := va_K.moved hvm.symm hK1
  obtain ⟨hP, hD⟩ := va_join (wr := [(q_7, .inl (k_8, 14032, .inl (fun _ => 0))), (q_9, .inl (k_10, 14032, .inl (fun _ => 0))), (q_11, .inl (k_12, 28064, .inl (fun _ => 0)))]) (w1 := [(h0, .inr (1, [.ref q_1, .ref q_3, .ref q_5, .ref q_7, .ref q_9, .ref q_11, .int 0, .int 0])), (q_1, .inl (k_2, 14032, .inl (upd g_23 3 2))), (q_3, .inl (k_4, 14032, .inl (upd g_24 3 2))), (q_5, .inl (k_6, 14032, .inl (upd g_25 3 2)))]) hP hD [3, 4, 5, 6] [0, 1, 2] rfl rfl (by decide) (by decide) hk1 hFc hP1 hD1
  have hK := (hK.sub (tys' := [(k_8, .int), (k_10, .int), (k_12, .int)]) [0, 1, 2] rfl).app hK1
  generalize H1 = H at hP hS ⊢
  obtain ⟨g_28, eg_28⟩ : ∃ y : Nat → Int32, y = upd g_23 3 2 := ⟨_, rfl⟩
  obtain ⟨g_29, eg_29⟩ : ∃ y : Nat → Int32, y = upd g_24 3 2 := ⟨_, rfl⟩
  obtain ⟨g_30, eg_30⟩ : ∃ y : Nat → Int32, y = upd g_25 3 2 := ⟨_, rfl⟩
  have hP : va_P (dC, dI) vwCl [(q_7, .inl (k_8, 14032, .inl (fun _ => 0))), (q_9, .inl (k_10, 14032, .inl (fun _ => 0))), (q_11, .inl (k_12, 28064, .inl (fun _ => 0))), (h0, .inr (1, [.ref q_1, .ref q_3, .ref q_5, .ref q_7, .ref q_9, .ref q_11, .int 0, .int 0])), (q_1, .inl (k_2, 14032, .inl g_28)), (q_3, .inl (k_4, 14032, .inl g_29)), (q_5, .inl (k_6, 14032, .inl g_30))] H := by rw [eg_28, eg_29, eg_30]; exact hP
  have hD : va_D A [(q_7, .inl (k_8, 14032, .inl (fun _ => 0))), (q_9, .inl (k_10, 14032, .inl (fun _ => 0))), (q_11, .inl (k_12, 28064, .inl (fun _ => 0))), (h0, .inr (1, [.ref q_1, .ref q_3, .ref q_5, .ref q_7, .ref q_9, .ref q_11, .int 0, .int 0])), (q_1, .inl (k_2, 14032, .inl g_28)), (q_3, .inl (k_4, 14032, .inl g_29)), (q_5, .inl (k_6, 14032, .inl g_30))] := by rw [eg_28, eg_29, eg_30]; exact hD
  have hK : va_K (dC, dI) vwCl [(k_8, .int), (k_10, .int), (k_12, .int), (k_2, .int), (k_4, .int), (k_6, .int)] s := hK
  refine W.widen (k := 6) (n := 98224) (Nat.le_of_ble_eq_true rfl) (Nat.le_of_ble_eq_true rfl) ?_
  refine lv_iinc (v := 3) (lv' := [(1, .int 3), (0, .ref h0)]) hx hb dX1_init_100 hl (k := 0) rfl (by decide) (by decide) rfl (fun ls hl => ?_)
  refine lv_goto (tgt := 76) hx hb dX1_init_103 (by decide) ?_
  refine lv_iload_n hx hb dX1_init_76 rfl (lv_at hl 0 rfl) ?_
  refine lv_bipush (v := 8) hx hb dX1_init_77 (by decide) ?_
  refine lv_icmp_gt (tgt := 106) hx hb dX1_init_79 (by decide) (fun cnd_31 => ?_) (fun cnd_31 => ?_)
  · exact absurd cnd_31 (by decide)
  refine lv_aload_n hx hb dX1_init_82 rfl (lv_at hl 1 rfl) ?_
  refine lv_iconst (v := 1) hx hb dX1_init_83 (by decide) ?_
  refine lv_iload_n hx hb dX1_init_84 rfl (lv_at hl 0 rfl) ?_
  refine lv_iadd hx hb dX1_init_85 ?_
  refine W.eq (g2 := F0 m 86 ls [.int 4, .ref h0]) (by rfl) ?_
  refine lv_iconst (v := 2) hx hb dX1_init_86 (by decide) ?_
  refine lv_iconst (v := 1) hx hb dX1_init_87 (by decide) ?_
  refine lv_iload_n hx hb dX1_init_88 rfl (lv_at hl 0 rfl) ?_
  refine lv_iadd hx hb dX1_init_89 ?_
  refine W.eq (g2 := F0 m 90 ls [.int 4, .int 2, .int 4, .ref h0]) (by rfl) ?_
  refine lv_iconst (v := 1) hx hb dX1_init_90 (by decide) ?_
  refine lv_isub hx hb dX1_init_91 ?_
  refine W.eq (g2 := F0 m 92 ls [.int 3, .int 2, .int 4, .ref h0]) (by rfl) ?_
  refine lv_iconst (v := 1) hx hb dX1_init_92 (by decide) ?_
  refine lv_iload_n hx hb dX1_init_93 rfl (lv_at hl 0 rfl) ?_
  refine lv_iadd hx hb dX1_init_94 ?_
  refine W.eq (g2 := F0 m 95 ls [.int 4, .int 3, .int 2, .int 4, .ref h0]) (by rfl) ?_
  refine lv_iconst (v := 1) hx hb dX1_init_95 (by decide) ?_
  refine lv_isub hx hb dX1_init_96 ?_
  refine W.eq (g2 := F0 m 97 ls [.int 3, .int 3, .int 2, .int 4, .ref h0]) (by rfl) ?_
  have hPc := hP.sub (ws' := [(h0, .inr (1, [.ref q_1, .ref q_3, .ref q_5, .ref q_7, .ref q_9, .ref q_11, .int 0, .int 0])), (q_1, .inl (k_2, 14032, .inl g_28)), (q_3, .inl (k_4, 14032, .inl g_29)), (q_5, .inl (k_6, 14032, .inl g_30))]) [3, 4, 5, 6] rfl
  have hDc := hD.sub (ws' := [(h0, .inr (1, [.ref q_1, .ref q_3, .ref q_5, .ref q_7, .ref q_9, .ref q_11, .int 0, .int 0])), (q_1, .inl (k_2, 14032, .inl g_28)), (q_3, .inl (k_4, 14032, .inl g_29)), (q_5, .inl (k_6, 14032, .inl g_30))]) [3, 4, 5, 6] (by decide) rfl
  have hKc := hK.sub (tys' := [(k_2, .int), (k_4, .int), (k_6, .int)]) [3, 4, 5] rfl
  have hFc := va_free (wc := [(h0, .inr (1, [.ref q_1, .ref q_3, .ref q_5, .ref q_7, .ref q_9, .ref q_11, .int 0, .int 0])), (q_1, .inl (k_2, 14032, .inl g_28)), (q_3, .inl (k_4, 14032, .inl g_29)), (q_5, .inl (k_6, 14032, .inl g_30))]) hD hS hA [3, 4, 5, 6] rfl
  refine va_callv (va_runV (As := [.int 4, .int 2, .int 3, .int 3]) (rest := []) ⟨hx, hb, hml, hown, hts⟩ (c_X1_fix l dC dI h0 q_1 q_3 q_5 k_2 k_4 k_6 q_7 q_9 q_11 g_28 g_29 g_30 0 0 4 2 3 3 H.size (by decide)) (cwV 4 hts gX1_init_X1_fix rfl rfl rfl (by decide +kernel) ⟨Nat.le_of_ble_eq_true rfl, Nat.le_of_ble_eq_true rfl⟩) ⟨fun a U g mk q => by obtain ⟨q0, q1, qP, qK, qD⟩ := q; exact ⟨q0, q1, qP, va_K.moved (u := U) (U := U.calling g mk a) (Vm.Alike.refl U.vm) qK, qD⟩, va_recv hKc hPc (ci := 1) (q0 := 0) rfl rfl, fun U hU hW => ⟨rfl, by rw [hU], by rw [hU]; exact hPc, va_K.moved hW.alike hKc, hDc.weaken (fun _ _ _ _ => trivial)⟩⟩ rfl rfl hl.1 rfl (lv_room (Nat.le_of_ble_eq_true rfl)) dX1_init_97 ⟨Nat.le_of_ble_eq_true rfl, Nat.le_of_ble_eq_true rfl⟩) hS (fun q _ h => hFc q h) hFc (fun u t H1 locs ht hvm hw hB hz1 hk1 hS => ?_)
  obtain ⟨hP1, hK1, hD1⟩ := hB
  rw [ht] at hP1
  have hK1 := va_K.moved hvm.symm hK1
  obtain ⟨hP, hD⟩ := va_join (wr := [(q_7, .inl (k_8, 14032, .inl (fun _ => 0))), (q_9, .inl (k_10, 14032, .inl (fun _ => 0))), (q_11, .inl (k_12, 28064, .inl (fun _ => 0)))]) (w1 := [(h0, .inr (1, [.ref q_1, .ref q_3, .ref q_5, .ref q_7, .ref q_9, .ref q_11, .int 0, .int 0])), (q_1, .inl (k_2, 14032, .inl (upd g_28 4 2))), (q_3, .inl (k_4, 14032, .inl (upd g_29 4 3))), (q_5, .inl (k_6, 14032, .inl (upd g_30 4 3)))]) hP hD [3, 4, 5, 6] [0, 1, 2] rfl rfl (by decide) (by decide) hk1 hFc hP1 hD1
  have hK := (hK.sub (tys' := [(k_8, .int), (k_10, .int), (k_12, .int)]) [0, 1, 2] rfl).app hK1
  generalize H1 = H at hP hS ⊢
  obtain ⟨g_33, eg_33⟩ : ∃ y : Nat → Int32, y = upd g_28 4 2 := ⟨_, rfl⟩
  obtain ⟨g_34, eg_34⟩ : ∃ y : Nat → Int32, y = upd g_29 4 3 := ⟨_, rfl⟩
  obtain ⟨g_35, eg_35⟩ : ∃ y : Nat → Int32, y = upd g_30 4 3 := ⟨_, rfl⟩
  have hP : va_P (dC, dI) vwCl [(q_7, .inl (k_8, 14032, .inl (fun _ => 0))), (q_9, .inl (k_10, 14032, .inl (fun _ => 0))), (q_11, .inl (k_12, 28064, .inl (fun _ => 0))), (h0, .inr (1, [.ref q_1, .ref q_3, .ref q_5, .ref q_7, .ref q_9, .ref q_11, .int 0, .int 0])), (q_1, .inl (k_2, 14032, .inl g_33)), (q_3, .inl (k_4, 14032, .inl g_34)), (q_5, .inl (k_6, 14032, .inl g_35))] H := by rw [eg_33, eg_34, eg_35]; exact hP
  have hD : va_D A [(q_7, .inl (k_8, 14032, .inl (fun _ => 0))), (q_9, .inl (k_10, 14032, .inl (fun _ => 0))), (q_11, .inl (k_12, 28064, .inl (fun _ => 0))), (h0, .inr (1, [.ref q_1, .ref q_3, .ref q_5, .ref q_7, .ref q_9, .ref q_11, .int 0, .int 0])), (q_1, .inl (k_2, 14032, .inl g_33)), (q_3, .inl (k_4, 14032, .inl g_34)), (q_5, .inl (k_6, 14032, .inl g_35))] := by rw [eg_33, eg_34, eg_35]; exact hD
  have hK : va_K (dC, dI) vwCl [(k_8, .int), (k_10, .int), (k_12, .int), (k_2, .int), (k_4, .int), (k_6, .int)] s := hK
  refine W.widen (k := 6) (n := 98224) (Nat.le_of_ble_eq_true rfl) (Nat.le_of_ble_eq_true rfl) ?_
  refine lv_iinc (v := 4) (lv' := [(1, .int 4), (0, .ref h0)]) hx hb dX1_init_100 hl (k := 0) rfl (by decide) (by decide) rfl (fun ls hl => ?_)
  refine lv_goto (tgt := 76) hx hb dX1_init_103 (by decide) ?_
  refine lv_iload_n hx hb dX1_init_76 rfl (lv_at hl 0 rfl) ?_
  refine lv_bipush (v := 8) hx hb dX1_init_77 (by decide) ?_
  refine lv_icmp_gt (tgt := 106) hx hb dX1_init_79 (by decide) (fun cnd_36 => ?_) (fun cnd_36 => ?_)
  · exact absurd cnd_36 (by decide)
  refine lv_aload_n hx hb dX1_init_82 rfl (lv_at hl 1 rfl) ?_
  refine lv_iconst (v := 1) hx hb dX1_init_83 (by decide) ?_
  refine lv_iload_n hx hb dX1_init_84 rfl (lv_at hl 0 rfl) ?_
  refine lv_iadd hx hb dX1_init_85 ?_
  refine W.eq (g2 := F0 m 86 ls [.int 5, .ref h0]) (by rfl) ?_
  refine lv_iconst (v := 2) hx hb dX1_init_86 (by decide) ?_
  refine lv_iconst (v := 1) hx hb dX1_init_87 (by decide) ?_
  refine lv_iload_n hx hb dX1_init_88 rfl (lv_at hl 0 rfl) ?_
  refine lv_iadd hx hb dX1_init_89 ?_
  refine W.eq (g2 := F0 m 90 ls [.int 5, .int 2, .int 5, .ref h0]) (by rfl) ?_
  refine lv_iconst (v := 1) hx hb dX1_init_90 (by decide) ?_
  refine lv_isub hx hb dX1_init_91 ?_
  refine W.eq (g2 := F0 m 92 ls [.int 4, .int 2, .int 5, .ref h0]) (by rfl) ?_
  refine lv_iconst (v := 1) hx hb dX1_init_92 (by decide) ?_
  refine lv_iload_n hx hb dX1_init_93 rfl (lv_at hl 0 rfl) ?_
  refine lv_iadd hx hb dX1_init_94 ?_
  refine W.eq (g2 := F0 m 95 ls [.int 5, .int 4, .int 2, .int 5, .ref h0]) (by rfl) ?_
  refine lv_iconst (v := 1) hx hb dX1_init_95 (by decide) ?_
  refine lv_isub hx hb dX1_init_96 ?_
  refine W.eq (g2 := F0 m 97 ls [.int 4, .int 4, .int 2, .int 5, .ref h0]) (by rfl) ?_
  have hPc := hP.sub (ws' := [(h0, .inr (1, [.ref q_1, .ref q_3, .ref q_5, .ref q_7, .ref q_9, .ref q_11, .int 0, .int 0])), (q_1, .inl (k_2, 14032, .inl g_33)), (q_3, .inl (k_4, 14032, .inl g_34)), (q_5, .inl (k_6, 14032, .inl g_35))]) [3, 4, 5, 6] rfl
  have hDc := hD.sub (ws' := [(h0, .inr (1, [.ref q_1, .ref q_3, .ref q_5, .ref q_7, .ref q_9, .ref q_11, .int 0, .int 0])), (q_1, .inl (k_2, 14032, .inl g_33)), (q_3, .inl (k_4, 14032, .inl g_34)), (q_5, .inl (k_6, 14032, .inl g_35))]) [3, 4, 5, 6] (by decide) rfl
  have hKc := hK.sub (tys' := [(k_2, .int), (k_4, .int), (k_6, .int)]) [3, 4, 5] rfl
  have hFc := va_free (wc := [(h0, .inr (1, [.ref q_1, .ref q_3, .ref q_5, .ref q_7, .ref q_9, .ref q_11, .int 0, .int 0])), (q_1, .inl (k_2, 14032, .inl g_33)), (q_3, .inl (k_4, 14032, .inl g_34)), (q_5, .inl (k_6, 14032, .inl g_35))]) hD hS hA [3, 4, 5, 6] rfl
  refine va_callv (va_runV (As := [.int 5, .int 2, .int 4, .int 4]) (rest := []) ⟨hx, hb, hml, hown, hts⟩ (c_X1_fix l dC dI h0 q_1 q_3 q_5 k_2 k_4 k_6 q_7 q_9 q_11 g_33 g_34 g_35 0 0 5 2 4 4 H.size (by decide)) (cwV 4 hts gX1_init_X1_fix rfl rfl rfl (by decide +kernel) ⟨Nat.le_of_ble_eq_true rfl, Nat.le_of_ble_eq_true rfl⟩) ⟨fun a U g mk q => by obtain ⟨q0, q1, qP, qK, qD⟩ := q; exact ⟨q0, q1, qP, va_K.moved (u := U) (U := U.calling g mk a) (Vm.Alike.refl U.vm) qK, qD⟩, va_recv hKc hPc (ci := 1) (q0 := 0) rfl rfl, fun U hU hW => ⟨rfl, by rw [hU], by rw [hU]; exact hPc, va_K.moved hW.alike hKc, hDc.weaken (fun _ _ _ _ => trivial)⟩⟩ rfl rfl hl.1 rfl (lv_room (Nat.le_of_ble_eq_true rfl)) dX1_init_97 ⟨Nat.le_of_ble_eq_true rfl, Nat.le_of_ble_eq_true rfl⟩) hS (fun q _ h => hFc q h) hFc (fun u t H1 locs ht hvm hw hB hz1 hk1 hS => ?_)
  obtain ⟨hP1, hK1, hD1⟩ := hB
  rw [ht] at hP1
  have hK1 := va_K.moved hvm.symm hK1
  obtain ⟨hP, hD⟩ := va_join (wr := [(q_7, .inl (k_8, 14032, .inl (fun _ => 0))), (q_9, .inl (k_10, 14032, .inl (fun _ => 0))), (q_11, .inl (k_12, 28064, .inl (fun _ => 0)))]) (w1 := [(h0, .inr (1, [.ref q_1, .ref q_3, .ref q_5, .ref q_7, .ref q_9, .ref q_11, .int 0, .int 0])), (q_1, .inl (k_2, 14032, .inl (upd g_33 5 2))), (q_3, .inl (k_4, 14032, .inl (upd g_34 5 4))), (q_5, .inl (k_6, 14032, .inl (upd g_35 5 4)))]) hP hD [3, 4, 5, 6] [0, 1, 2] rfl rfl (by decide) (by decide) hk1 hFc hP1 hD1
  have hK := (hK.sub (tys' := [(k_8, .int), (k_10, .int), (k_12, .int)]) [0, 1, 2] rfl).app hK1
  generalize H1 = H at hP hS ⊢
  obtain ⟨g_38, eg_38⟩ : ∃ y : Nat → Int32, y = upd g_33 5 2 := ⟨_, rfl⟩
  obtain ⟨g_39, eg_39⟩ : ∃ y : Nat → Int32, y = upd g_34 5 4 := ⟨_, rfl⟩
  obtain ⟨g_40, eg_40⟩ : ∃ y : Nat → Int32, y = upd g_35 5 4 := ⟨_, rfl⟩
  have hP : va_P (dC, dI) vwCl [(q_7, .inl (k_8, 14032, .inl (fun _ => 0))), (q_9, .inl (k_10, 14032, .inl (fun _ => 0))), (q_11, .inl (k_12, 28064, .inl (fun _ => 0))), (h0, .inr (1, [.ref q_1, .ref q_3, .ref q_5, .ref q_7, .ref q_9, .ref q_11, .int 0, .int 0])), (q_1, .inl (k_2, 14032, .inl g_38)), (q_3, .inl (k_4, 14032, .inl g_39)), (q_5, .inl (k_6, 14032, .inl g_40))] H := by rw [eg_38, eg_39, eg_40]; exact hP
  have hD : va_D A [(q_7, .inl (k_8, 14032, .inl (fun _ => 0))), (q_9, .inl (k_10, 14032, .inl (fun _ => 0))), (q_11, .inl (k_12, 28064, .inl (fun _ => 0))), (h0, .inr (1, [.ref q_1, .ref q_3, .ref q_5, .ref q_7, .ref q_9, .ref q_11, .int 0, .int 0])), (q_1, .inl (k_2, 14032, .inl g_38)), (q_3, .inl (k_4, 14032, .inl g_39)), (q_5, .inl (k_6, 14032, .inl g_40))] := by rw [eg_38, eg_39, eg_40]; exact hD
  have hK : va_K (dC, dI) vwCl [(k_8, .int), (k_10, .int), (k_12, .int), (k_2, .int), (k_4, .int), (k_6, .int)] s := hK
  refine W.widen (k := 6) (n := 98224) (Nat.le_of_ble_eq_true rfl) (Nat.le_of_ble_eq_true rfl) ?_
  refine lv_iinc (v := 5) (lv' := [(1, .int 5), (0, .ref h0)]) hx hb dX1_init_100 hl (k := 0) rfl (by decide) (by decide) rfl (fun ls hl => ?_)
  refine lv_goto (tgt := 76) hx hb dX1_init_103 (by decide) ?_
  refine lv_iload_n hx hb dX1_init_76 rfl (lv_at hl 0 rfl) ?_
  refine lv_bipush (v := 8) hx hb dX1_init_77 (by decide) ?_
  refine lv_icmp_gt (tgt := 106) hx hb dX1_init_79 (by decide) (fun cnd_41 => ?_) (fun cnd_41 => ?_)
  · exact absurd cnd_41 (by decide)
  refine lv_aload_n hx hb dX1_init_82 rfl (lv_at hl 1 rfl) ?_
  refine lv_iconst (v := 1) hx hb dX1_init_83 (by decide) ?_
  refine lv_iload_n hx hb dX1_init_84 rfl (lv_at hl 0 rfl) ?_
  refine lv_iadd hx hb dX1_init_85 ?_
  refine W.eq (g2 := F0 m 86 ls [.int 6, .ref h0]) (by rfl) ?_
  refine lv_iconst (v := 2) hx hb dX1_init_86 (by decide) ?_
  refine lv_iconst (v := 1) hx hb dX1_init_87 (by decide) ?_
  refine lv_iload_n hx hb dX1_init_88 rfl (lv_at hl 0 rfl) ?_
  refine lv_iadd hx hb dX1_init_89 ?_
  refine W.eq (g2 := F0 m 90 ls [.int 6, .int 2, .int 6, .ref h0]) (by rfl) ?_
  refine lv_iconst (v := 1) hx hb dX1_init_90 (by decide) ?_
  refine lv_isub hx hb dX1_init_91 ?_
  refine W.eq (g2 := F0 m 92 ls [.int 5, .int 2, .int 6, .ref h0]) (by rfl) ?_
  refine lv_iconst (v := 1) hx hb dX1_init_92 (by decide) ?_
  refine lv_iload_n hx hb dX1_init_93 rfl (lv_at hl 0 rfl) ?_
  refine lv_iadd hx hb dX1_init_94 ?_
  refine W.eq (g2 := F0 m 95 ls [.int 6, .int 5, .int 2, .int 6, .ref h0]) (by rfl) ?_
  refine lv_iconst (v := 1) hx hb dX1_init_95 (by decide) ?_
  refine lv_isub hx hb dX1_init_96 ?_
  refine W.eq (g2 := F0 m 97 ls [.int 5, .int 5, .int 2, .int 6, .ref h0]) (by rfl) ?_
  have hPc := hP.sub (ws' := [(h0, .inr (1, [.ref q_1, .ref q_3, .ref q_5, .ref q_7, .ref q_9, .ref q_11, .int 0, .int 0])), (q_1, .inl (k_2, 14032, .inl g_38)), (q_3, .inl (k_4, 14032, .inl g_39)), (q_5, .inl (k_6, 14032, .inl g_40))]) [3, 4, 5, 6] rfl
  have hDc := hD.sub (ws' := [(h0, .inr (1, [.ref q_1, .ref q_3, .ref q_5, .ref q_7, .ref q_9, .ref q_11, .int 0, .int 0])), (q_1, .inl (k_2, 14032, .inl g_38)), (q_3, .inl (k_4, 14032, .inl g_39)), (q_5, .inl (k_6, 14032, .inl g_40))]) [3, 4, 5, 6] (by decide) rfl
  have hKc := hK.sub (tys' := [(k_2, .int), (k_4, .int), (k_6, .int)]) [3, 4, 5] rfl
  have hFc := va_free (wc := [(h0, .inr (1, [.ref q_1, .ref q_3, .ref q_5, .ref q_7, .ref q_9, .ref q_11, .int 0, .int 0])), (q_1, .inl (k_2, 14032, .inl g_38)), (q_3, .inl (k_4, 14032, .inl g_39)), (q_5, .inl (k_6, 14032, .inl g_40))]) hD hS hA [3, 4, 5, 6] rfl
  refine va_callv (va_runV (As := [.int 6, .int 2, .int 5, .int 5]) (rest := []) ⟨hx, hb, hml, hown, hts⟩ (c_X1_fix l dC dI h0 q_1 q_3 q_5 k_2 k_4 k_6 q_7 q_9 q_11 g_38 g_39 g_40 0 0 6 2 5 5 H.size (by decide)) (cwV 4 hts gX1_init_X1_fix rfl rfl rfl (by decide +kernel) ⟨Nat.le_of_ble_eq_true rfl, Nat.le_of_ble_eq_true rfl⟩) ⟨fun a U g mk q => by obtain ⟨q0, q1, qP, qK, qD⟩ := q; exact ⟨q0, q1, qP, va_K.moved (u := U) (U := U.calling g mk a) (Vm.Alike.refl U.vm) qK, qD⟩, va_recv hKc hPc (ci := 1) (q0 := 0) rfl rfl, fun U hU hW => ⟨rfl, by rw [hU], by rw [hU]; exact hPc, va_K.moved hW.alike hKc, hDc.weaken (fun _ _ _ _ => trivial)⟩⟩ rfl rfl hl.1 rfl (lv_room (Nat.le_of_ble_eq_true rfl)) dX1_init_97 ⟨Nat.le_of_ble_eq_true rfl, Nat.le_of_ble_eq_true rfl⟩) hS (fun q _ h => hFc q h) hFc (fun u t H1 locs ht hvm hw hB hz1 hk1 hS => ?_)
  obtain ⟨hP1, hK1, hD1⟩ := hB
  rw [ht] at hP1
  have hK1 := va_K.moved hvm.symm hK1
  obtain ⟨hP, hD⟩ := va_join (wr := [(q_7, .inl (k_8, 14032, .inl (fun _ => 0))), (q_9, .inl (k_10, 14032, .inl (fun _ => 0))), (q_11, .inl (k_12, 28064, .inl (fun _ => 0)))]) (w1 := [(h0, .inr (1, [.ref q_1, .ref q_3, .ref q_5, .ref q_7, .ref q_9, .ref q_11, .int 0, .int 0])), (q_1, .inl (k_2, 14032, .inl (upd g_38 6 2))), (q_3, .inl (k_4, 14032, .inl (upd g_39 6 5))), (q_5, .inl (k_6, 14032, .inl (upd g_40 6 5)))]) hP hD [3, 4, 5, 6] [0, 1, 2] rfl rfl (by decide) (by decide) hk1 hFc hP1 hD1
  have hK := (hK.sub (tys' := [(k_8, .int), (k_10, .int), (k_12, .int)]) [0, 1, 2] rfl).app hK1
  generalize H1 = H at hP hS ⊢
  obtain ⟨g_43, eg_43⟩ : ∃ y : Nat → Int32, y = upd g_38 6 2 := ⟨_, rfl⟩
  obtain ⟨g_44, eg_44⟩ : ∃ y : Nat → Int32, y = upd g_39 6 5 := ⟨_, rfl⟩
  obtain ⟨g_45, eg_45⟩ : ∃ y : Nat → Int32, y = upd g_40 6 5 := ⟨_, rfl⟩
  have hP : va_P (dC, dI) vwCl [(q_7, .inl (k_8, 14032, .inl (fun _ => 0))), (q_9, .inl (k_10, 14032, .inl (fun _ => 0))), (q_11, .inl (k_12, 28064, .inl (fun _ => 0))), (h0, .inr (1, [.ref q_1, .ref q_3, .ref q_5, .ref q_7, .ref q_9, .ref q_11, .int 0, .int 0])), (q_1, .inl (k_2, 14032, .inl g_43)), (q_3, .inl (k_4, 14032, .inl g_44)), (q_5, .inl (k_6, 14032, .inl g_45))] H := by rw [eg_43, eg_44, eg_45]; exact hP
  have hD : va_D A [(q_7, .inl (k_8, 14032, .inl (fun _ => 0))), (q_9, .inl (k_10, 14032, .inl (fun _ => 0))), (q_11, .inl (k_12, 28064, .inl (fun _ => 0))), (h0, .inr (1, [.ref q_1, .ref q_3, .ref q_5, .ref q_7, .ref q_9, .ref q_11, .int 0, .int 0])), (q_1, .inl (k_2, 14032, .inl g_43)), (q_3, .inl (k_4, 14032, .inl g_44)), (q_5, .inl (k_6, 14032, .inl g_45))] := by rw [eg_43, eg_44, eg_45]; exact hD
  have hK : va_K (dC, dI) vwCl [(k_8, .int), (k_10, .int), (k_12, .int), (k_2, .int), (k_4, .int), (k_6, .int)] s := hK
  refine W.widen (k := 6) (n := 98224) (Nat.le_of_ble_eq_true rfl) (Nat.le_of_ble_eq_true rfl) ?_
  refine lv_iinc (v := 6) (lv' := [(1, .int 6), (0, .ref h0)]) hx hb dX1_init_100 hl (k := 0) rfl (by decide) (by decide) rfl (fun ls hl => ?_)
  refine lv_goto (tgt := 76) hx hb dX1_init_103 (by decide) ?_
  refine lv_iload_n hx hb dX1_init_76 rfl (lv_at hl 0 rfl) ?_
  refine lv_bipush (v := 8) hx hb dX1_init_77 (by decide) ?_
  refine lv_icmp_gt (tgt := 106) hx hb dX1_init_79 (by decide) (fun cnd_46 => ?_) (fun cnd_46 => ?_)
  · exact absurd cnd_46 (by decide)
  refine lv_aload_n hx hb dX1_init_82 rfl (lv_at hl 1 rfl) ?_
  refine lv_iconst (v := 1) hx hb dX1_init_83 (by decide) ?_
  refine lv_iload_n hx hb dX1_init_84 rfl (lv_at hl 0 rfl) ?_
  refine lv_iadd hx hb dX1_init_85 ?_
  refine W.eq (g2 := F0 m 86 ls [.int 7, .ref h0]) (by rfl) ?_
  refine lv_iconst (v := 2) hx hb dX1_init_86 (by decide) ?_
  refine lv_iconst (v := 1) hx hb dX1_init_87 (by decide) ?_
  refine lv_iload_n hx hb dX1_init_88 rfl (lv_at hl 0 rfl) ?_
  refine lv_iadd hx hb dX1_init_89 ?_
  refine W.eq (g2 := F0 m 90 ls [.int 7, .int 2, .int 7, .ref h0]) (by rfl) ?_
  refine lv_iconst (v := 1) hx hb dX1_init_90 (by decide) ?_
  refine lv_isub hx hb dX1_init_91 ?_
  refine W.eq (g2 := F0 m 92 ls [.int 6, .int 2, .int 7, .ref h0]) (by rfl) ?_
  refine lv_iconst (v := 1) hx hb dX1_init_92 (by decide) ?_
  refine lv_iload_n hx hb dX1_init_93 rfl (lv_at hl 0 rfl) ?_
  refine lv_iadd hx hb dX1_init_94 ?_
  refine W.eq (g2 := F0 m 95 ls [.int 7, .int 6, .int 2, .int 7, .ref h0]) (by rfl) ?_
  refine lv_iconst (v := 1) hx hb dX1_init_95 (by decide) ?_
  refine lv_isub hx hb dX1_init_96 ?_
  refine W.eq (g2 := F0 m 97 ls [.int 6, .int 6, .int 2, .int 7, .ref h0]) (by rfl) ?_
  have hPc := hP.sub (ws' := [(h0, .inr (1, [.ref q_1, .ref q_3, .ref q_5, .ref q_7, .ref q_9, .ref q_11, .int 0, .int 0])), (q_1, .inl (k_2, 14032, .inl g_43)), (q_3, .inl (k_4, 14032, .inl g_44)), (q_5, .inl (k_6, 14032, .inl g_45))]) [3, 4, 5, 6] rfl
  have hDc := hD.sub (ws' := [(h0, .inr (1, [.ref q_1, .ref q_3, .ref q_5, .ref q_7, .ref q_9, .ref q_11, .int 0, .int 0])), (q_1, .inl (k_2, 14032, .inl g_43)), (q_3, .inl (k_4, 14032, .inl g_44)), (q_5, .inl (k_6, 14032, .inl g_45))]) [3, 4, 5, 6] (by decide) rfl
  have hKc := hK.sub (tys' := [(k_2, .int), (k_4, .int), (k_6, .int)]) [3, 4, 5] rfl
  have hFc := va_free (wc := [(h0, .inr (1, [.ref q_1, .ref q_3, .ref q_5, .ref q_7, .ref q_9, .ref q_11, .int 0, .int 0])), (q_1, .inl (k_2, 14032, .inl g_43)), (q_3, .inl (k_4, 14032, .inl g_44)), (q_5, .inl (k_6, 14032, .inl g_45))]) hD hS hA [3, 4, 5, 6] rfl
  refine va_callv (va_runV (As := [.int 7, .int 2, .int 6, .int 6]) (rest := []) ⟨hx, hb, hml, hown, hts⟩ (c_X1_fix l dC dI h0 q_1 q_3 q_5 k_2 k_4 k_6 q_7 q_9 q_11 g_43 g_44 g_45 0 0 7 2 6 6 H.size (by decide)) (cwV 4 hts gX1_init_X1_fix rfl rfl rfl (by decide +kernel) ⟨Nat.le_of_ble_eq_true rfl, Nat.le_of_ble_eq_true rfl⟩) ⟨fun a U g mk q => by obtain ⟨q0, q1, qP, qK, qD⟩ := q; exact ⟨q0, q1, qP, va_K.moved (u := U) (U := U.calling g mk a) (Vm.Alike.refl U.vm) qK, qD⟩, va_recv hKc hPc (ci := 1) (q0 := 0) rfl rfl, fun U hU hW => ⟨rfl, by rw [hU], by rw [hU]; exact hPc, va_K.moved hW.alike hKc, hDc.weaken (fun _ _ _ _ => trivial)⟩⟩ rfl rfl hl.1 rfl (lv_room (Nat.le_of_ble_eq_true rfl)) dX1_init_97 ⟨Nat.le_of_ble_eq_true rfl, Nat.le_of_ble_eq_true rfl⟩) hS (fun q _ h => hFc q h) hFc (fun u t H1 locs ht hvm hw hB hz1 hk1 hS => ?_)
  obtain ⟨hP1, hK1, hD1⟩ := hB
  rw [ht] at hP1
  have hK1 := va_K.moved hvm.symm hK1
  obtain ⟨hP, hD⟩ := va_join (wr := [(q_7, .inl (k_8, 14032, .inl (fun _ => 0))), (q_9, .inl (k_10, 14032, .inl (fun _ => 0))), (q_11, .inl (k_12, 28064, .inl (fun _ => 0)))]) (w1 := [(h0, .inr (1, [.ref q_1, .ref q_3, .ref q_5, .ref q_7, .ref q_9, .ref q_11, .int 0, .int 0])), (q_1, .inl (k_2, 14032, .inl (upd g_43 7 2))), (q_3, .inl (k_4, 14032, .inl (upd g_44 7 6))), (q_5, .inl (k_6, 14032, .inl (upd g_45 7 6)))]) hP hD [3, 4, 5, 6] [0, 1, 2] rfl rfl (by decide) (by decide) hk1 hFc hP1 hD1
  have hK := (hK.sub (tys' := [(k_8, .int), (k_10, .int), (k_12, .int)]) [0, 1, 2] rfl).app hK1
  generalize H1 = H at hP hS ⊢
  obtain ⟨g_48, eg_48⟩ : ∃ y : Nat → Int32, y = upd g_43 7 2 := ⟨_, rfl⟩
  obtain ⟨g_49, eg_49⟩ : ∃ y : Nat → Int32, y = upd g_44 7 6 := ⟨_, rfl⟩
  obtain ⟨g_50, eg_50⟩ : ∃ y : Nat → Int32, y = upd g_45 7 6 := ⟨_, rfl⟩
  have hP : va_P (dC, dI) vwCl [(q_7, .inl (k_8, 14032, .inl (fun _ => 0))), (q_9, .inl (k_10, 14032, .inl (fun _ => 0))), (q_11, .inl (k_12, 28064, .inl (fun _ => 0))), (h0, .inr (1, [.ref q_1, .ref q_3, .ref q_5, .ref q_7, .ref q_9, .ref q_11, .int 0, .int 0])), (q_1, .inl (k_2, 14032, .inl g_48)), (q_3, .inl (k_4, 14032, .inl g_49)), (q_5, .inl (k_6, 14032, .inl g_50))] H := by rw [eg_48, eg_49, eg_50]; exact hP
  have hD : va_D A [(q_7, .inl (k_8, 14032, .inl (fun _ => 0))), (q_9, .inl (k_10, 14032, .inl (fun _ => 0))), (q_11, .inl (k_12, 28064, .inl (fun _ => 0))), (h0, .inr (1, [.ref q_1, .ref q_3, .ref q_5, .ref q_7, .ref q_9, .ref q_11, .int 0, .int 0])), (q_1, .inl (k_2, 14032, .inl g_48)), (q_3, .inl (k_4, 14032, .inl g_49)), (q_5, .inl (k_6, 14032, .inl g_50))] := by rw [eg_48, eg_49, eg_50]; exact hD
  have hK : va_K (dC, dI) vwCl [(k_8, .int), (k_10, .int), (k_12, .int), (k_2, .int), (k_4, .int), (k_6, .int)] s := hK
  refine W.widen (k := 6) (n := 98224) (Nat.le_of_ble_eq_true rfl) (Nat.le_of_ble_eq_true rfl) ?_
  refine lv_iinc (v := 7) (lv' := [(1, .int 7), (0, .ref h0)]) hx hb dX1_init_100 hl (k := 0) rfl (by decide) (by decide) rfl (fun ls hl => ?_)
  refine lv_goto (tgt := 76) hx hb dX1_init_103 (by decide) ?_
  refine lv_iload_n hx hb dX1_init_76 rfl (lv_at hl 0 rfl) ?_
  refine lv_bipush (v := 8) hx hb dX1_init_77 (by decide) ?_
  refine lv_icmp_gt (tgt := 106) hx hb dX1_init_79 (by decide) (fun cnd_51 => ?_) (fun cnd_51 => ?_)
  · exact absurd cnd_51 (by decide)
  refine lv_aload_n hx hb dX1_init_82 rfl (lv_at hl 1 rfl) ?_
  refine lv_iconst (v := 1) hx hb dX1_init_83 (by decide) ?_
  refine lv_iload_n hx hb dX1_init_84 rfl (lv_at hl 0 rfl) ?_
  refine lv_iadd hx hb dX1_init_85 ?_
  refine W.eq (g2 := F0 m 86 ls [.int 8, .ref h0]) (by rfl) ?_
  refine lv_iconst (v := 2) hx hb dX1_init_86 (by decide) ?_
  refine lv_iconst (v := 1) hx hb dX1_init_87 (by decide) ?_
  refine lv_iload_n hx hb dX1_init_88 rfl (lv_at hl 0 rfl) ?_
  refine lv_iadd hx hb dX1_init_89 ?_
  refine W.eq (g2 := F0 m 90 ls [.int 8, .int 2, .int 8, .ref h0]) (by rfl) ?_
  refine lv_iconst (v := 1) hx hb dX1_init_90 (by decide) ?_
  refine lv_isub hx hb dX1_init_91 ?_
  refine W.eq (g2 := F0 m 92 ls [.int 7, .int 2, .int 8, .ref h0]) (by rfl) ?_
  refine lv_iconst (v := 1) hx hb dX1_init_92 (by decide) ?_
  refine lv_iload_n hx hb dX1_init_93 rfl (lv_at hl 0 rfl) ?_
  refine lv_iadd hx hb dX1_init_94 ?_
  refine W.eq (g2 := F0 m 95 ls [.int 8, .int 7, .int 2, .int 8, .ref h0]) (by rfl) ?_
  refine lv_iconst (v := 1) hx hb dX1_init_95 (by decide) ?_
  refine lv_isub hx hb dX1_init_96 ?_
  refine W.eq (g2 := F0 m 97 ls [.int 7, .int 7, .int 2, .int 8, .ref h0]) (by rfl) ?_
  have hPc := hP.sub (ws' := [(h0, .inr (1, [.ref q_1, .ref q_3, .ref q_5, .ref q_7, .ref q_9, .ref q_11, .int 0, .int 0])), (q_1, .inl (k_2, 14032, .inl g_48)), (q_3, .inl (k_4, 14032, .inl g_49)), (q_5, .inl (k_6, 14032, .inl g_50))]) [3, 4, 5, 6] rfl
  have hDc := hD.sub (ws' := [(h0, .inr (1, [.ref q_1, .ref q_3, .ref q_5, .ref q_7, .ref q_9, .ref q_11, .int 0, .int 0])), (q_1, .inl (k_2, 14032, .inl g_48)), (q_3, .inl (k_4, 14032, .inl g_49)), (q_5, .inl (k_6, 14032, .inl g_50))]) [3, 4, 5, 6] (by decide) rfl
  have hKc := hK.sub (tys' := [(k_2, .int), (k_4, .int), (k_6, .int)]) [3, 4, 5] rfl
  have hFc := va_free (wc := [(h0, .inr (1, [.ref q_1, .ref q_3, .ref q_5, .ref q_7, .ref q_9, .ref q_11, .int 0, .int 0])), (q_1, .inl (k_2, 14032, .inl g_48)), (q_3, .inl (k_4, 14032, .inl g_49)), (q_5, .inl (k_6, 14032, .inl g_50))]) hD hS hA [3, 4, 5, 6] rfl
  refine va_callv (va_runV (As := [.int 8, .int 2, .int 7, .int 7]) (rest := []) ⟨hx, hb, hml, hown, hts⟩ (c_X1_fix l dC dI h0 q_1 q_3 q_5 k_2 k_4 k_6 q_7 q_9 q_11 g_48 g_49 g_50 0 0 8 2 7 7 H.size (by decide)) (cwV 4 hts gX1_init_X1_fix rfl rfl rfl (by decide +kernel) ⟨Nat.le_of_ble_eq_true rfl, Nat.le_of_ble_eq_true rfl⟩) ⟨fun a U g mk q => by obtain ⟨q0, q1, qP, qK, qD⟩ := q; exact ⟨q0, q1, qP, va_K.moved (u := U) (U := U.calling g mk a) (Vm.Alike.refl U.vm) qK, qD⟩, va_recv hKc hPc (ci := 1) (q0 := 0) rfl rfl, fun U hU hW => ⟨rfl, by rw [hU], by rw [hU]; exact hPc, va_K.moved hW.alike hKc, hDc.weaken (fun _ _ _ _ => trivial)⟩⟩ rfl rfl hl.1 rfl (lv_room (Nat.le_of_ble_eq_true rfl)) dX1_init_97 ⟨Nat.le_of_ble_eq_true rfl, Nat.le_of_ble_eq_true rfl⟩) hS (fun q _ h => hFc q h) hFc (fun u t H1 locs ht hvm hw hB hz1 hk1 hS => ?_)
  obtain ⟨hP1, hK1, hD1⟩ := hB
  rw [ht] at hP1
  have hK1 := va_K.moved hvm.symm hK1
  obtain ⟨hP, hD⟩ := va_join (wr := [(q_7, .inl (k_8, 14032, .inl (fun _ => 0))), (q_9, .inl (k_10, 14032, .inl (fun _ => 0))), (q_11, .inl (k_12, 28064, .inl (fun _ => 0)))]) (w1 := [(h0, .inr (1, [.ref q_1, .ref q_3, .ref q_5, .ref q_7, .ref q_9, .ref q_11, .int 0, .int 0])), (q_1, .inl (k_2, 14032, .inl (upd g_48 8 2))), (q_3, .inl (k_4, 14032, .inl (upd g_49 8 7))), (q_5, .inl (k_6, 14032, .inl (upd g_50 8 7)))]) hP hD [3, 4, 5, 6] [0, 1, 2] rfl rfl (by decide) (by decide) hk1 hFc hP1 hD1
  have hK := (hK.sub (tys' := [(k_8, .int), (k_10, .int), (k_12, .int)]) [0, 1, 2] rfl).app hK1
  generalize H1 = H at hP hS ⊢
  obtain ⟨g_53, eg_53⟩ : ∃ y : Nat → Int32, y = upd g_48 8 2 := ⟨_, rfl⟩
  obtain ⟨g_54, eg_54⟩ : ∃ y : Nat → Int32, y = upd g_49 8 7 := ⟨_, rfl⟩
  obtain ⟨g_55, eg_55⟩ : ∃ y : Nat → Int32, y = upd g_50 8 7 := ⟨_, rfl⟩
  have hP : va_P (dC, dI) vwCl [(q_7, .inl (k_8, 14032, .inl (fun _ => 0))), (q_9, .inl (k_10, 14032, .inl (fun _ => 0))), (q_11, .inl (k_12, 28064, .inl (fun _ => 0))), (h0, .inr (1, [.ref q_1, .ref q_3, .ref q_5, .ref q_7, .ref q_9, .ref q_11, .int 0, .int 0])), (q_1, .inl (k_2, 14032, .inl g_53)), (q_3, .inl (k_4, 14032, .inl g_54)), (q_5, .inl (k_6, 14032, .inl g_55))] H := by rw [eg_53, eg_54, eg_55]; exact hP
  have hD : va_D A [(q_7, .inl (k_8, 14032, .inl (fun _ => 0))), (q_9, .inl (k_10, 14032, .inl (fun _ => 0))), (q_11, .inl (k_12, 28064, .inl (fun _ => 0))), (h0, .inr (1, [.ref q_1, .ref q_3, .ref q_5, .ref q_7, .ref q_9, .ref q_11, .int 0, .int 0])), (q_1, .inl (k_2, 14032, .inl g_53)), (q_3, .inl (k_4, 14032, .inl g_54)), (q_5, .inl (k_6, 14032, .inl g_55))] := by rw [eg_53, eg_54, eg_55]; exact hD
  have hK : va_K (dC, dI) vwCl [(k_8, .int), (k_10, .int), (k_12, .int), (k_2, .int), (k_4, .int), (k_6, .int)] s := hK
  refine W.widen (k := 6) (n := 98224) (Nat.le_of_ble_eq_true rfl) (Nat.le_of_ble_eq_true rfl) ?_
  refine lv_iinc (v := 8) (lv' := [(1, .int 8), (0, .ref h0)]) hx hb dX1_init_100 hl (k := 0) rfl (by decide) (by decide) rfl (fun ls hl => ?_)
  refine lv_goto (tgt := 76) hx hb dX1_init_103 (by decide) ?_
  refine lv_iload_n hx hb dX1_init_76 rfl (lv_at hl 0 rfl) ?_
  refine lv_bipush (v := 8) hx hb dX1_init_77 (by decide) ?_
  refine lv_icmp_gt (tgt := 106) hx hb dX1_init_79 (by decide) (fun cnd_56 => ?_) (fun cnd_56 => ?_)
  · exact absurd cnd_56 (by decide)
  refine lv_aload_n hx hb dX1_init_82 rfl (lv_at hl 1 rfl) ?_
  refine lv_iconst (v := 1) hx hb dX1_init_83 (by decide) ?_
  refine lv_iload_n hx hb dX1_init_84 rfl (lv_at hl 0 rfl) ?_
  refine lv_iadd hx hb dX1_init_85 ?_
  refine W.eq (g2 := F0 m 86 ls [.int 9, .ref h0]) (by rfl) ?_
  refine lv_iconst (v := 2) hx hb dX1_init_86 (by decide) ?_
  refine lv_iconst (v := 1) hx hb dX1_init_87 (by decide) ?_
  refine lv_iload_n hx hb dX1_init_88 rfl (lv_at hl 0 rfl) ?_
  refine lv_iadd hx hb dX1_init_89 ?_
  refine W.eq (g2 := F0 m 90 ls [.int 9, .int 2, .int 9, .ref h0]) (by rfl) ?_
  refine lv_iconst (v := 1) hx hb dX1_init_90 (by decide) ?_
  refine lv_isub hx hb dX1_init_91 ?_
  refine W.eq (g2 := F0 m 92 ls [.int 8, .int 2, .int 9, .ref h0]) (by rfl) ?_
  refine lv_iconst (v := 1) hx hb dX1_init_92 (by decide) ?_
  refine lv_iload_n hx hb dX1_init_93 rfl (lv_at hl 0 rfl) ?_
  refine lv_iadd hx hb dX1_init_94 ?_
  refine W.eq (g2 := F0 m 95 ls [.int 9, .int 8, .int 2, .int 9, .ref h0]) (by rfl) ?_
  refine lv_iconst (v := 1) hx hb dX1_init_95 (by decide) ?_
  refine lv_isub hx hb dX1_init_96 ?_
  refine W.eq (g2 := F0 m 97 ls [.int 8, .int 8, .int 2, .int 9, .ref h0]) (by rfl) ?_
  have hPc := hP.sub (ws' := [(h0, .inr (1, [.ref q_1, .ref q_3, .ref q_5, .ref q_7, .ref q_9, .ref q_11, .int 0, .int 0])), (q_1, .inl (k_2, 14032, .inl g_53)), (q_3, .inl (k_4, 14032, .inl g_54)), (q_5, .inl (k_6, 14032, .inl g_55))]) [3, 4, 5, 6] rfl
  have hDc := hD.sub (ws' := [(h0, .inr (1, [.ref q_1, .ref q_3, .ref q_5, .ref q_7, .ref q_9, .ref q_11, .int 0, .int 0])), (q_1, .inl (k_2, 14032, .inl g_53)), (q_3, .inl (k_4, 14032, .inl g_54)), (q_5, .inl (k_6, 14032, .inl g_55))]) [3, 4, 5, 6] (by decide) rfl
  have hKc := hK.sub (tys' := [(k_2, .int), (k_4, .int), (k_6, .int)]) [3, 4, 5] rfl
  have hFc := va_free (wc := [(h0, .inr (1, [.ref q_1, .ref q_3, .ref q_5, .ref q_7, .ref q_9, .ref q_11, .int 0, .int 0])), (q_1, .inl (k_2, 14032, .inl g_53)), (q_3, .inl (k_4, 14032, .inl g_54)), (q_5, .inl (k_6, 14032, .inl g_55))]) hD hS hA [3, 4, 5, 6] rfl
  refine va_callv (va_runV (As := [.int 9, .int 2, .int 8, .int 8]) (rest := []) ⟨hx, hb, hml, hown, hts⟩ (c_X1_fix l dC dI h0 q_1 q_3 q_5 k_2 k_4 k_6 q_7 q_9 q_11 g_53 g_54 g_55 0 0 9 2 8 8 H.size (by decide)) (cwV 4 hts gX1_init_X1_fix rfl rfl rfl (by decide +kernel) ⟨Nat.le_of_ble_eq_true rfl, Nat.le_of_ble_eq_true rfl⟩) ⟨fun a U g mk q => by obtain ⟨q0, q1, qP, qK, qD⟩ := q; exact ⟨q0, q1, qP, va_K.moved (u := U) (U := U.calling g mk a) (Vm.Alike.refl U.vm) qK, qD⟩, va_recv hKc hPc (ci := 1) (q0 := 0) rfl rfl, fun U hU hW => ⟨rfl, by rw [hU], by rw [hU]; exact hPc, va_K.moved hW.alike hKc, hDc.weaken (fun _ _ _ _ => trivial)⟩⟩ rfl rfl hl.1 rfl (lv_room (Nat.le_of_ble_eq_true rfl)) dX1_init_97 ⟨Nat.le_of_ble_eq_true rfl, Nat.le_of_ble_eq_true rfl⟩) hS (fun q _ h => hFc q h) hFc (fun u t H1 locs ht hvm hw hB hz1 hk1 hS => ?_)
  obtain ⟨hP1, hK1, hD1⟩ := hB
  rw [ht] at hP1
  have hK1 := va_K.moved hvm.symm hK1
  obtain ⟨hP, hD⟩ := va_join (wr := [(q_7, .inl (k_8, 14032, .inl (fun _ => 0))), (q_9, .inl (k_10, 14032, .inl (fun _ => 0))), (q_11, .inl (k_12, 28064, .inl (fun _ => 0)))]) (w1 := [(h0, .inr (1, [.ref q_1, .ref q_3, .ref q_5, .ref q_7, .ref q_9, .ref q_11, .int 0, .int 0])), (q_1, .inl (k_2, 14032, .inl (upd g_53 9 2))), (q_3, .inl (k_4, 14032, .inl (upd g_54 9 8))), (q_5, .inl (k_6, 14032, .inl (upd g_55 9 8)))]) hP hD [3, 4, 5, 6] [0, 1, 2] rfl rfl (by decide) (by decide) hk1 hFc hP1 hD1
  have hK := (hK.sub (tys' := [(k_8, .int), (k_10, .int), (k_12, .int)]) [0, 1, 2] rfl).app hK1
  generalize H1 = H at hP hS ⊢
  obtain ⟨g_58, eg_58⟩ : ∃ y : Nat → Int32, y = upd g_53 9 2 := ⟨_, rfl⟩
  obtain ⟨g_59, eg_59⟩ : ∃ y : Nat → Int32, y = upd g_54 9 8 := ⟨_, rfl⟩
  obtain ⟨g_60, eg_60⟩ : ∃ y : Nat → Int32, y = upd g_55 9 8 := ⟨_, rfl⟩
  have hP : va_P (dC, dI) vwCl [(q_7, .inl (k_8, 14032, .inl (fun _ => 0))), (q_9, .inl (k_10, 14032, .inl (fun _ => 0))), (q_11, .inl (k_12, 28064, .inl (fun _ => 0))), (h0, .inr (1, [.ref q_1, .ref q_3, .ref q_5, .ref q_7, .ref q_9, .ref q_11, .int 0, .int 0])), (q_1, .inl (k_2, 14032, .inl g_58)), (q_3, .inl (k_4, 14032, .inl g_59)), (q_5, .inl (k_6, 14032, .inl g_60))] H := by rw [eg_58, eg_59, eg_60]; exact hP
  have hD : va_D A [(q_7, .inl (k_8, 14032, .inl (fun _ => 0))), (q_9, .inl (k_10, 14032, .inl (fun _ => 0))), (q_11, .inl (k_12, 28064, .inl (fun _ => 0))), (h0, .inr (1, [.ref q_1, .ref q_3, .ref q_5, .ref q_7, .ref q_9, .ref q_11, .int 0, .int 0])), (q_1, .inl (k_2, 14032, .inl g_58)), (q_3, .inl (k_4, 14032, .inl g_59)), (q_5, .inl (k_6, 14032, .inl g_60))] := by rw [eg_58, eg_59, eg_60]; exact hD
  have hK : va_K (dC, dI) vwCl [(k_8, .int), (k_10, .int), (k_12, .int), (k_2, .int), (k_4, .int), (k_6, .int)] s := hK
  refine W.widen (k := 6) (n := 98224) (Nat.le_of_ble_eq_true rfl) (Nat.le_of_ble_eq_true rfl) ?_
  refine lv_iinc (v := 9) (lv' := [(1, .int 9), (0, .ref h0)]) hx hb dX1_init_100 hl (k := 0) rfl (by decide) (by decide) rfl (fun ls hl => ?_)
  refine lv_goto (tgt := 76) hx hb dX1_init_103 (by decide) ?_
  refine lv_iload_n hx hb dX1_init_76 rfl (lv_at hl 0 rfl) ?_
  refine lv_bipush (v := 8) hx hb dX1_init_77 (by decide) ?_
  refine lv_icmp_gt (tgt := 106) hx hb dX1_init_79 (by decide) (fun cnd_61 => ?_) (fun cnd_61 => ?_)
  rotate_left
  · exact absurd (by decide) cnd_61
  refine lv_iconst (v := 0) hx hb dX1_init_106 (by decide) ?_
  refine lv_istore_n (lv' := [(1, .int 0), (0, .ref h0)]) hx hb dX1_init_107 rfl hl (by decide) rfl (fun ls hl => ?_)
  refine lv_iload_n hx hb dX1_init_108 rfl (lv_at hl 0 rfl) ?_
  refine lv_iconst (v := 4) hx hb dX1_init_109 (by decide) ?_
  refine lv_icmp_ge (tgt := 171) hx hb dX1_init_110 (by decide) (fun cnd_62 => ?_) (fun cnd_62 => ?_)
  · exact absurd cnd_62 (by decide)
  refine lv_iconst (v := 4) hx hb dX1_init_113 (by decide) ?_
  refine lv_iload_n hx hb dX1_init_114 rfl (lv_at hl 0 rfl) ?_
  refine lv_iadd hx hb dX1_init_115 ?_
  refine W.eq (g2 := F0 m 116 ls [.int 4]) (by rfl) ?_
  refine lv_istore_n (lv' := [(2, .int 4), (1, .int 0), (0, .ref h0)]) hx hb dX1_init_116 rfl hl (by decide) rfl (fun ls hl => ?_)
  refine lv_aload_n hx hb dX1_init_117 rfl (lv_at hl 2 rfl) ?_
  refine lv_bipush (v := 10) hx hb dX1_init_118 (by decide) ?_
  refine lv_iload_n hx hb dX1_init_120 rfl (lv_at hl 1 rfl) ?_
  refine lv_iadd hx hb dX1_init_121 ?_
  refine W.eq (g2 := F0 m 122 ls [.int 10, .ref h0]) (by rfl) ?_
  refine lv_iconst (v := 2) hx hb dX1_init_122 (by decide) ?_
  refine lv_iconst (v := 1) hx hb dX1_init_123 (by decide) ?_
  refine lv_iload_n hx hb dX1_init_124 rfl (lv_at hl 0 rfl) ?_
  have hPc := hP.sub (ws' := [(h0, .inr (1, [.ref q_1, .ref q_3, .ref q_5, .ref q_7, .ref q_9, .ref q_11, .int 0, .int 0])), (q_1, .inl (k_2, 14032, .inl g_58)), (q_3, .inl (k_4, 14032, .inl g_59)), (q_5, .inl (k_6, 14032, .inl g_60))]) [3, 4, 5, 6] rfl
  have hDc := hD.sub (ws' := [(h0, .inr (1, [.ref q_1, .ref q_3, .ref q_5, .ref q_7, .ref q_9, .ref q_11, .int 0, .int 0])), (q_1, .inl (k_2, 14032, .inl g_58)), (q_3, .inl (k_4, 14032, .inl g_59)), (q_5, .inl (k_6, 14032, .inl g_60))]) [3, 4, 5, 6] (by decide) rfl
  have hKc := hK.sub (tys' := [(k_2, .int), (k_4, .int), (k_6, .int)]) [3, 4, 5] rfl
  have hFc := va_free (wc := [(h0, .inr (1, [.ref q_1, .ref q_3, .ref q_5, .ref q_7, .ref q_9, .ref q_11, .int 0, .int 0])), (q_1, .inl (k_2, 14032, .inl g_58)), (q_3, .inl (k_4, 14032, .inl g_59)), (q_5, .inl (k_6, 14032, .inl g_60))]) hD hS hA [3, 4, 5, 6] rfl
  refine va_callv (va_runV (As := [.int 10, .int 2, .int 1, .int 4]) (rest := []) ⟨hx, hb, hml, hown, hts⟩ (c_X1_fix l dC dI h0 q_1 q_3 q_5 k_2 k_4 k_6 q_7 q_9 q_11 g_58 g_59 g_60 0 0 10 2 1 4 H.size (by decide)) (cwV 4 hts gX1_init_X1_fix rfl rfl rfl (by decide +kernel) ⟨Nat.le_of_ble_eq_true rfl, Nat.le_of_ble_eq_true rfl⟩) ⟨fun a U g mk q => by obtain ⟨q0, q1, qP, qK, qD⟩ := q; exact ⟨q0, q1, qP, va_K.moved (u := U) (U := U.calling g mk a) (Vm.Alike.refl U.vm) qK, qD⟩, va_recv hKc hPc (ci := 1) (q0 := 0) rfl rfl, fun U hU hW => ⟨rfl, by rw [hU], by rw [hU]; exact hPc, va_K.moved hW.alike hKc, hDc.weaken (fun _ _ _ _ => trivial)⟩⟩ rfl rfl hl.1 rfl (lv_room (Nat.le_of_ble_eq_true rfl)) dX1_init_125 ⟨Nat.le_of_ble_eq_true rfl, Nat.le_of_ble_eq_true rfl⟩) hS (fun q _ h => hFc q h) hFc (fun u t H1 locs ht hvm hw hB hz1 hk1 hS => ?_)
  obtain ⟨hP1, hK1, hD1⟩ := hB
  rw [ht] at hP1
  have hK1 := va_K.moved hvm.symm hK1
  obtain ⟨hP, hD⟩ := va_join (wr := [(q_7, .inl (k_8, 14032, .inl (fun _ => 0))), (q_9, .inl (k_10, 14032, .inl (fun _ => 0))), (q_11, .inl (k_12, 28064, .inl (fun _ => 0)))]) (w1 := [(h0, .inr (1, [.ref q_1, .ref q_3, .ref q_5, .ref q_7, .ref q_9, .ref q_11, .int 0, .int 0])), (q_1, .inl (k_2, 14032, .inl (upd g_58 10 2))), (q_3, .inl (k_4, 14032, .inl (upd g_59 10 1))), (q_5, .inl (k_6, 14032, .inl (upd g_60 10 4)))]) hP hD [3, 4, 5, 6] [0, 1, 2] rfl rfl (by decide) (by decide) hk1 hFc hP1 hD1
  have hK := (hK.sub (tys' := [(k_8, .int), (k_10, .int), (k_12, .int)]) [0, 1, 2] rfl).app hK1
  generalize H1 = H at hP hS ⊢
  obtain ⟨g_64, eg_64⟩ : ∃ y : Nat → Int32, y = upd g_58 10 2 := ⟨_, rfl⟩
  obtain ⟨g_65, eg_65⟩ : ∃ y : Nat → Int32, y = upd g_59 10 1 := ⟨_, rfl⟩
  obtain ⟨g_66, eg_66⟩ : ∃ y : Nat → Int32, y = upd g_60 10 4 := ⟨_, rfl⟩
  have hP : va_P (dC, dI) vwCl [(q_7, .inl (k_8, 14032, .inl (fun _ => 0))), (q_9, .inl (k_10, 14032, .inl (fun _ => 0))), (q_11, .inl (k_12, 28064, .inl (fun _ => 0))), (h0, .inr (1, [.ref q_1, .ref q_3, .ref q_5, .ref q_7, .ref q_9, .ref q_11, .int 0, .int 0])), (q_1, .inl (k_2, 14032, .inl g_64)), (q_3, .inl (k_4, 14032, .inl g_65)), (q_5, .inl (k_6, 14032, .inl g_66))] H := by rw [eg_64, eg_65, eg_66]; exact hP
  have hD : va_D A [(q_7, .inl (k_8, 14032, .inl (fun _ => 0))), (q_9, .inl (k_10, 14032, .inl (fun _ => 0))), (q_11, .inl (k_12, 28064, .inl (fun _ => 0))), (h0, .inr (1, [.ref q_1, .ref q_3, .ref q_5, .ref q_7, .ref q_9, .ref q_11, .int 0, .int 0])), (q_1, .inl (k_2, 14032, .inl g_64)), (q_3, .inl (k_4, 14032, .inl g_65)), (q_5, .inl (k_6, 14032, .inl g_66))] := by rw [eg_64, eg_65, eg_66]; exact hD
  have hK : va_K (dC, dI) vwCl [(k_8, .int), (k_10, .int), (k_12, .int), (k_2, .int), (k_4, .int), (k_6, .int)] s := hK
  refine W.widen (k := 6) (n := 98224) (Nat.le_of_ble_eq_true rfl) (Nat.le_of_ble_eq_true rfl) ?_
  refine lv_aload_n hx hb dX1_init_128 rfl (lv_at hl 2 rfl) ?_
  refine lv_bipush (v := 14) hx hb dX1_init_129 (by decide) ?_
  refine lv_iload_n hx hb dX1_init_131 rfl (lv_at hl 1 rfl) ?_
  refine lv_iadd hx hb dX1_init_132 ?_
  refine W.eq (g2 := F0 m 133 ls [.int 14, .ref h0]) (by rfl) ?_
  refine lv_iconst (v := 2) hx hb dX1_init_133 (by decide) ?_
  refine lv_iconst (v := 1) hx hb dX1_init_134 (by decide) ?_
  refine lv_iload_n hx hb dX1_init_135 rfl (lv_at hl 0 rfl) ?_
  refine lv_iconst (v := 1) hx hb dX1_init_136 (by decide) ?_
  refine lv_iadd hx hb dX1_init_137 ?_
  refine W.eq (g2 := F0 m 138 ls [.int 5, .int 1, .int 2, .int 14, .ref h0]) (by rfl) ?_
  have hPc := hP.sub (ws' := [(h0, .inr (1, [.ref q_1, .ref q_3, .ref q_5, .ref q_7, .ref q_9, .ref q_11, .int 0, .int 0])), (q_1, .inl (k_2, 14032, .inl g_64)), (q_3, .inl (k_4, 14032, .inl g_65)), (q_5, .inl (k_6, 14032, .inl g_66))]) [3, 4, 5, 6] rfl
  have hDc := hD.sub (ws' := [(h0, .inr (1, [.ref q_1, .ref q_3, .ref q_5, .ref q_7, .ref q_9, .ref q_11, .int 0, .int 0])), (q_1, .inl (k_2, 14032, .inl g_64)), (q_3, .inl (k_4, 14032, .inl g_65)), (q_5, .inl (k_6, 14032, .inl g_66))]) [3, 4, 5, 6] (by decide) rfl
  have hKc := hK.sub (tys' := [(k_2, .int), (k_4, .int), (k_6, .int)]) [3, 4, 5] rfl
  have hFc := va_free (wc := [(h0, .inr (1, [.ref q_1, .ref q_3, .ref q_5, .ref q_7, .ref q_9, .ref q_11, .int 0, .int 0])), (q_1, .inl (k_2, 14032, .inl g_64)), (q_3, .inl (k_4, 14032, .inl g_65)), (q_5, .inl (k_6, 14032, .inl g_66))]) hD hS hA [3, 4, 5, 6] rfl
  refine va_callv (va_runV (As := [.int 14, .int 2, .int 1, .int 5]) (rest := []) ⟨hx, hb, hml, hown, hts⟩ (c_X1_fix l dC dI h0 q_1 q_3 q_5 k_2 k_4 k_6 q_7 q_9 q_11 g_64 g_65 g_66 0 0 14 2 1 5 H.size (by decide)) (cwV 4 hts gX1_init_X1_fix rfl rfl rfl (by decide +kernel) ⟨Nat.le_of_ble_eq_true rfl, Nat.le_of_ble_eq_true rfl⟩) ⟨fun a U g mk q => by obtain ⟨q0, q1, qP, qK, qD⟩ := q; exact ⟨q0, q1, qP, va_K.moved (u := U) (U := U.calling g mk a) (Vm.Alike.refl U.vm) qK, qD⟩, va_recv hKc hPc (ci := 1) (q0 := 0) rfl rfl, fun U hU hW => ⟨rfl, by rw [hU], by rw [hU]; exact hPc, va_K.moved hW.alike hKc, hDc.weaken (fun _ _ _ _ => trivial)⟩⟩ rfl rfl hl.1 rfl (lv_room (Nat.le_of_ble_eq_true rfl)) dX1_init_138 ⟨Nat.le_of_ble_eq_true rfl, Nat.le_of_ble_eq_true rfl⟩) hS (fun q _ h => hFc q h) hFc (fun u t H1 locs ht hvm hw hB hz1 hk1 hS => ?_)
  obtain ⟨hP1, hK1, hD1⟩ := hB
  rw [ht] at hP1
  have hK1 := va_K.moved hvm.symm hK1
  obtain ⟨hP, hD⟩ := va_join (wr := [(q_7, .inl (k_8, 14032, .inl (fun _ => 0))), (q_9, .inl (k_10, 14032, .inl (fun _ => 0))), (q_11, .inl (k_12, 28064, .inl (fun _ => 0)))]) (w1 := [(h0, .inr (1, [.ref q_1, .ref q_3, .ref q_5, .ref q_7, .ref q_9, .ref q_11, .int 0, .int 0])), (q_1, .inl (k_2, 14032, .inl (upd g_64 14 2))), (q_3, .inl (k_4, 14032, .inl (upd g_65 14 1))), (q_5, .inl (k_6, 14032, .inl (upd g_66 14 5)))]) hP hD [3, 4, 5, 6] [0, 1, 2] rfl rfl (by decide) (by decide) hk1 hFc hP1 hD1
  have hK := (hK.sub (tys' := [(k_8, .int), (k_10, .int), (k_12, .int)]) [0, 1, 2] rfl).app hK1
  generalize H1 = H at hP hS ⊢
  obtain ⟨g_68, eg_68⟩ : ∃ y : Nat → Int32, y = upd g_64 14 2 := ⟨_, rfl⟩
  obtain ⟨g_69, eg_69⟩ : ∃ y : Nat → Int32, y = upd g_65 14 1 := ⟨_, rfl⟩
  obtain ⟨g_70, eg_70⟩ : ∃ y : Nat → Int32, y = upd g_66 14 5 := ⟨_, rfl⟩
  have hP : va_P (dC, dI) vwCl [(q_7, .inl (k_8, 14032, .inl (fun _ => 0))), (q_9, .inl (k_10, 14032, .inl (fun _ => 0))), (q_11, .inl (k_12, 28064, .inl (fun _ => 0))), (h0, .inr (1, [.ref q_1, .ref q_3, .ref q_5, .ref q_7, .ref q_9, .ref q_11, .int 0, .int 0])), (q_1, .inl (k_2, 14032, .inl g_68)), (q_3, .inl (k_4, 14032, .inl g_69)), (q_5, .inl (k_6, 14032, .inl g_70))] H := by rw [eg_68, eg_69, eg_70]; exact hP
  have hD : va_D A [(q_7, .inl (k_8, 14032, .inl (fun _ => 0))), (q_9, .inl (k_10, 14032, .inl (fun _ => 0))), (q_11, .inl (k_12, 28064, .inl (fun _ => 0))), (h0, .inr (1, [.ref q_1, .ref q_3, .ref q_5, .ref q_7, .ref q_9, .ref q_11, .int 0, .int 0])), (q_1, .inl (k_2, 14032, .inl g_68)), (q_3, .inl (k_4, 14032, .inl g_69)), (q_5, .inl (k_6, 14032, .inl g_70))] := by rw [eg_68, eg_69, eg_70]; exact hD
  have hK : va_K (dC, dI) vwCl [(k_8, .int), (k_10, .int), (k_12, .int), (k_2, .int), (k_4, .int), (k_6, .int)] s := hK
  refine W.widen (k := 6) (n := 98224) (Nat.le_of_ble_eq_true rfl) (Nat.le_of_ble_eq_true rfl) ?_
  refine lv_aload_n hx hb dX1_init_141 rfl (lv_at hl 2 rfl) ?_
  refine lv_bipush (v := 18) hx hb dX1_init_142 (by decide) ?_
  refine lv_iload_n hx hb dX1_init_144 rfl (lv_at hl 1 rfl) ?_
  refine lv_iadd hx hb dX1_init_145 ?_
  refine W.eq (g2 := F0 m 146 ls [.int 18, .ref h0]) (by rfl) ?_
  refine lv_iconst (v := 2) hx hb dX1_init_146 (by decide) ?_
  refine lv_iload_n hx hb dX1_init_147 rfl (lv_at hl 0 rfl) ?_
  refine lv_iload_n hx hb dX1_init_148 rfl (lv_at hl 0 rfl) ?_
  refine lv_iconst (v := 1) hx hb dX1_init_149 (by decide) ?_
  refine lv_iadd hx hb dX1_init_150 ?_
  refine W.eq (g2 := F0 m 151 ls [.int 5, .int 4, .int 2, .int 18, .ref h0]) (by rfl) ?_
  have hPc := hP.sub (ws' := [(h0, .inr (1, [.ref q_1, .ref q_3, .ref q_5, .ref q_7, .ref q_9, .ref q_11, .int 0, .int 0])), (q_1, .inl (k_2, 14032, .inl g_68)), (q_3, .inl (k_4, 14032, .inl g_69)), (q_5, .inl (k_6, 14032, .inl g_70))]) [3, 4, 5, 6] rfl
  have hDc := hD.sub (ws' := [(h0, .inr (1, [.ref q_1, .ref q_3, .ref q_5, .ref q_7, .ref q_9, .ref q_11, .int 0, .int 0])), (q_1, .inl (k_2, 14032, .inl g_68)), (q_3, .inl (k_4, 14032, .inl g_69)), (q_5, .inl (k_6, 14032, .inl g_70))]) [3, 4, 5, 6] (by decide) rfl
  have hKc := hK.sub (tys' := [(k_2, .int), (k_4, .int), (k_6, .int)]) [3, 4, 5] rfl
  have hFc := va_free (wc := [(h0, .inr (1, [.ref q_1, .ref q_3, .ref q_5, .ref q_7, .ref q_9, .ref q_11, .int 0, .int 0])), (q_1, .inl (k_2, 14032, .inl g_68)), (q_3, .inl (k_4, 14032, .inl g_69)), (q_5, .inl (k_6, 14032, .inl g_70))]) hD hS hA [3, 4, 5, 6] rfl
  refine va_callv (va_runV (As := [.int 18, .int 2, .int 4, .int 5]) (rest := []) ⟨hx, hb, hml, hown, hts⟩ (c_X1_fix l dC dI h0 q_1 q_3 q_5 k_2 k_4 k_6 q_7 q_9 q_11 g_68 g_69 g_70 0 0 18 2 4 5 H.size (by decide)) (cwV 4 hts gX1_init_X1_fix rfl rfl rfl (by decide +kernel) ⟨Nat.le_of_ble_eq_true rfl, Nat.le_of_ble_eq_true rfl⟩) ⟨fun a U g mk q => by obtain ⟨q0, q1, qP, qK, qD⟩ := q; exact ⟨q0, q1, qP, va_K.moved (u := U) (U := U.calling g mk a) (Vm.Alike.refl U.vm) qK, qD⟩, va_recv hKc hPc (ci := 1) (q0 := 0) rfl rfl, fun U hU hW => ⟨rfl, by rw [hU], by rw [hU]; exact hPc, va_K.moved hW.alike hKc, hDc.weaken (fun _ _ _ _ => trivial)⟩⟩ rfl rfl hl.1 rfl (lv_room (Nat.le_of_ble_eq_true rfl)) dX1_init_151 ⟨Nat.le_of_ble_eq_true rfl, Nat.le_of_ble_eq_true rfl⟩) hS (fun q _ h => hFc q h) hFc (fun u t H1 locs ht hvm hw hB hz1 hk1 hS => ?_)
  obtain ⟨hP1, hK1, hD1⟩ := hB
  rw [ht] at hP1
  have hK1 := va_K.moved hvm.symm hK1
  obtain ⟨hP, hD⟩ := va_join (wr := [(q_7, .inl (k_8, 14032, .inl (fun _ => 0))), (q_9, .inl (k_10, 14032, .inl (fun _ => 0))), (q_11, .inl (k_12, 28064, .inl (fun _ => 0)))]) (w1 := [(h0, .inr (1, [.ref q_1, .ref q_3, .ref q_5, .ref q_7, .ref q_9, .ref q_11, .int 0, .int 0])), (q_1, .inl (k_2, 14032, .inl (upd g_68 18 2))), (q_3, .inl (k_4, 14032, .inl (upd g_69 18 4))), (q_5, .inl (k_6, 14032, .inl (upd g_70 18 5)))]) hP hD [3, 4, 5, 6] [0, 1, 2] rfl rfl (by decide) (by decide) hk1 hFc hP1 hD1
  have hK := (hK.sub (tys' := [(k_8, .int), (k_10, .int), (k_12, .int)]) [0, 1, 2] rfl).app hK1
  generalize H1 = H at hP hS ⊢
  obtain ⟨g_72, eg_72⟩ : ∃ y : Nat → Int32, y = upd g_68 18 2 := ⟨_, rfl⟩
  obtain ⟨g_73, eg_73⟩ : ∃ y : Nat → Int32, y = upd g_69 18 4 := ⟨_, rfl⟩
  obtain ⟨g_74, eg_74⟩ : ∃ y : Nat → Int32, y = upd g_70 18 5 := ⟨_, rfl⟩
  have hP : va_P (dC, dI) vwCl [(q_7, .inl (k_8, 14032, .inl (fun _ => 0))), (q_9, .inl (k_10, 14032, .inl (fun _ => 0))), (q_11, .inl (k_12, 28064, .inl (fun _ => 0))), (h0, .inr (1, [.ref q_1, .ref q_3, .ref q_5, .ref q_7, .ref q_9, .ref q_11, .int 0, .int 0])), (q_1, .inl (k_2, 14032, .inl g_72)), (q_3, .inl (k_4, 14032, .inl g_73)), (q_5, .inl (k_6, 14032, .inl g_74))] H := by rw [eg_72, eg_73, eg_74]; exact hP
  have hD : va_D A [(q_7, .inl (k_8, 14032, .inl (fun _ => 0))), (q_9, .inl (k_10, 14032, .inl (fun _ => 0))), (q_11, .inl (k_12, 28064, .inl (fun _ => 0))), (h0, .inr (1, [.ref q_1, .ref q_3, .ref q_5, .ref q_7, .ref q_9, .ref q_11, .int 0, .int 0])), (q_1, .inl (k_2, 14032, .inl g_72)), (q_3, .inl (k_4, 14032, .inl g_73)), (q_5, .inl (k_6, 14032, .inl g_74))] := by rw [eg_72, eg_73, eg_74]; exact hD
  have hK : va_K (dC, dI) vwCl [(k_8, .int), (k_10, .int), (k_12, .int), (k_2, .int), (k_4, .int), (k_6, .int)] s := hK
  refine W.widen (k := 6) (n := 98224) (Nat.le_of_ble_eq_true rfl) (Nat.le_of_ble_eq_true rfl) ?_
  refine lv_aload_n hx hb dX1_init_154 rfl (lv_at hl 2 rfl) ?_
  refine lv_bipush (v := 22) hx hb dX1_init_155 (by decide) ?_
  refine lv_iload_n hx hb dX1_init_157 rfl (lv_at hl 1 rfl) ?_
  refine lv_iadd hx hb dX1_init_158 ?_
  refine W.eq (g2 := F0 m 159 ls [.int 22, .ref h0]) (by rfl) ?_
  refine lv_iconst (v := 2) hx hb dX1_init_159 (by decide) ?_
  refine lv_iconst (v := 4) hx hb dX1_init_160 (by decide) ?_
  refine lv_iload_n hx hb dX1_init_161 rfl (lv_at hl 0 rfl) ?_
  have hPc := hP.sub (ws' := [(h0, .inr (1, [.ref q_1, .ref q_3, .ref q_5, .ref q_7, .ref q_9, .ref q_11, .int 0, .int 0])), (q_1, .inl (k_2, 14032, .inl g_72)), (q_3, .inl (k_4, 14032, .inl g_73)), (q_5, .inl (k_6, 14032, .inl g_74))]) [3, 4, 5, 6] rfl
  have hDc := hD.sub (ws' := [(h0, .inr (1, [.ref q_1, .ref q_3, .ref q_5, .ref q_7, .ref q_9, .ref q_11, .int 0, .int 0])), (q_1, .inl (k_2, 14032, .inl g_72)), (q_3, .inl (k_4, 14032, .inl g_73)), (q_5, .inl (k_6, 14032, .inl g_74))]) [3, 4, 5, 6] (by decide) rfl
  have hKc := hK.sub (tys' := [(k_2, .int), (k_4, .int), (k_6, .int)]) [3, 4, 5] rfl
  have hFc := va_free (wc := [(h0, .inr (1, [.ref q_1, .ref q_3, .ref q_5, .ref q_7, .ref q_9, .ref q_11, .int 0, .int 0])), (q_1, .inl (k_2, 14032, .inl g_72)), (q_3, .inl (k_4, 14032, .inl g_73)), (q_5, .inl (k_6, 14032, .inl g_74))]) hD hS hA [3, 4, 5, 6] rfl
  refine va_callv (va_runV (As := [.int 22, .int 2, .int 4, .int 4]) (rest := []) ⟨hx, hb, hml, hown, hts⟩ (c_X1_fix l dC dI h0 q_1 q_3 q_5 k_2 k_4 k_6 q_7 q_9 q_11 g_72 g_73 g_74 0 0 22 2 4 4 H.size (by decide)) (cwV 4 hts gX1_init_X1_fix rfl rfl rfl (by decide +kernel) ⟨Nat.le_of_ble_eq_true rfl, Nat.le_of_ble_eq_true rfl⟩) ⟨fun a U g mk q => by obtain ⟨q0, q1, qP, qK, qD⟩ := q; exact ⟨q0, q1, qP, va_K.moved (u := U) (U := U.calling g mk a) (Vm.Alike.refl U.vm) qK, qD⟩, va_recv hKc hPc (ci := 1) (q0 := 0) rfl rfl, fun U hU hW => ⟨rfl, by rw [hU], by rw [hU]; exact hPc, va_K.moved hW.alike hKc, hDc.weaken (fun _ _ _ _ => trivial)⟩⟩ rfl rfl hl.1 rfl (lv_room (Nat.le_of_ble_eq_true rfl)) dX1_init_162 ⟨Nat.le_of_ble_eq_true rfl, Nat.le_of_ble_eq_true rfl⟩) hS (fun q _ h => hFc q h) hFc (fun u t H1 locs ht hvm hw hB hz1 hk1 hS => ?_)
  obtain ⟨hP1, hK1, hD1⟩ := hB
  rw [ht] at hP1
  have hK1 := va_K.moved hvm.symm hK1
  obtain ⟨hP, hD⟩ := va_join (wr := [(q_7, .inl (k_8, 14032, .inl (fun _ => 0))), (q_9, .inl (k_10, 14032, .inl (fun _ => 0))), (q_11, .inl (k_12, 28064, .inl (fun _ => 0)))]) (w1 := [(h0, .inr (1, [.ref q_1, .ref q_3, .ref q_5, .ref q_7, .ref q_9, .ref q_11, .int 0, .int 0])), (q_1, .inl (k_2, 14032, .inl (upd g_72 22 2))), (q_3, .inl (k_4, 14032, .inl (upd g_73 22 4))), (q_5, .inl (k_6, 14032, .inl (upd g_74 22 4)))]) hP hD [3, 4, 5, 6] [0, 1, 2] rfl rfl (by decide) (by decide) hk1 hFc hP1 hD1
  have hK := (hK.sub (tys' := [(k_8, .int), (k_10, .int), (k_12, .int)]) [0, 1, 2] rfl).app hK1
  generalize H1 = H at hP hS ⊢
  obtain ⟨g_76, eg_76⟩ : ∃ y : Nat → Int32, y = upd g_72 22 2 := ⟨_, rfl⟩
  obtain ⟨g_77, eg_77⟩ : ∃ y : Nat → Int32, y = upd g_73 22 4 := ⟨_, rfl⟩
  obtain ⟨g_78, eg_78⟩ : ∃ y : Nat → Int32, y = upd g_74 22 4 := ⟨_, rfl⟩
  have hP : va_P (dC, dI) vwCl [(q_7, .inl (k_8, 14032, .inl (fun _ => 0))), (q_9, .inl (k_10, 14032, .inl (fun _ => 0))), (q_11, .inl (k_12, 28064, .inl (fun _ => 0))), (h0, .inr (1, [.ref q_1, .ref q_3, .ref q_5, .ref q_7, .ref q_9, .ref q_11, .int 0, .int 0])), (q_1, .inl (k_2, 14032, .inl g_76)), (q_3, .inl (k_4, 14032, .inl g_77)), (q_5, .inl (k_6, 14032, .inl g_78))] H := by rw [eg_76, eg_77, eg_78]; exact hP
  have hD : va_D A [(q_7, .inl (k_8, 14032, .inl (fun _ => 0))), (q_9, .inl (k_10, 14032, .inl (fun _ => 0))), (q_11, .inl (k_12, 28064, .inl (fun _ => 0))), (h0, .inr (1, [.ref q_1, .ref q_3, .ref q_5, .ref q_7, .ref q_9, .ref q_11, .int 0, .int 0])), (q_1, .inl (k_2, 14032, .inl g_76)), (q_3, .inl (k_4, 14032, .inl g_77)), (q_5, .inl (k_6, 14032, .inl g_78))] := by rw [eg_76, eg_77, eg_78]; exact hD
  have hK : va_K (dC, dI) vwCl [(k_8, .int), (k_10, .int), (k_12, .int), (k_2, .int), (k_4, .int), (k_6, .int)] s := hK
  refine W.widen (k := 6) (n := 98224) (Nat.le_of_ble_eq_true rfl) (Nat.le_of_ble_eq_true rfl) ?_
  refine lv_iinc (v := 1) (lv' := [(1, .int 1), (2, .int 4), (0, .ref h0)]) hx hb dX1_init_165 hl (k := 1) rfl (by decide) (by decide) rfl (fun ls hl => ?_)
  refine lv_goto (tgt := 108) hx hb dX1_init_168 (by decide) ?_
  refine lv_iload_n hx hb dX1_init_108 rfl (lv_at hl 0 rfl) ?_
  refine lv_iconst (v := 4) hx hb dX1_init_109 (by decide) ?_
  refine lv_icmp_ge (tgt := 171) hx hb dX1_init_110 (by decide) (fun cnd_79 => ?_) (fun cnd_79 => ?_)
  · exact absurd cnd_79 (by decide)
  refine lv_iconst (v := 4) hx hb dX1_init_113 (by decide) ?_
  refine lv_iload_n hx hb dX1_init_114 rfl (lv_at hl 0 rfl) ?_
  refine lv_iadd hx hb dX1_init_115 ?_
  refine W.eq (g2 := F0 m 116 ls [.int 5]) (by rfl) ?_
  refine lv_istore_n (lv' := [(2, .int 5), (1, .int 1), (0, .ref h0)]) hx hb dX1_init_116 rfl hl (by decide) rfl (fun ls hl => ?_)
  refine lv_aload_n hx hb dX1_init_117 rfl (lv_at hl 2 rfl) ?_
  refine lv_bipush (v := 10) hx hb dX1_init_118 (by decide) ?_
  refine lv_iload_n hx hb dX1_init_120 rfl (lv_at hl 1 rfl) ?_
  refine lv_iadd hx hb dX1_init_121 ?_
  refine W.eq (g2 := F0 m 122 ls [.int 11, .ref h0]) (by rfl) ?_
  refine lv_iconst (v := 2) hx hb dX1_init_122 (by decide) ?_
  refine lv_iconst (v := 1) hx hb dX1_init_123 (by decide) ?_
  refine lv_iload_n hx hb dX1_init_124 rfl (lv_at hl 0 rfl) ?_
  have hPc := hP.sub (ws' := [(h0, .inr (1, [.ref q_1, .ref q_3, .ref q_5, .ref q_7, .ref q_9, .ref q_11, .int 0, .int 0])), (q_1, .inl (k_2, 14032, .inl g_76)), (q_3, .inl (k_4, 14032, .inl g_77)), (q_5, .inl (k_6, 14032, .inl g_78))]) [3, 4, 5, 6] rfl
  have hDc := hD.sub (ws' := [(h0, .inr (1, [.ref q_1, .ref q_3, .ref q_5, .ref q_7, .ref q_9, .ref q_11, .int 0, .int 0])), (q_1, .inl (k_2, 14032, .inl g_76)), (q_3, .inl (k_4, 14032, .inl g_77)), (q_5, .inl (k_6, 14032, .inl g_78))]) [3, 4, 5, 6] (by decide) rfl
  have hKc := hK.sub (tys' := [(k_2, .int), (k_4, .int), (k_6, .int)]) [3, 4, 5] rfl
  have hFc := va_free (wc := [(h0, .inr (1, [.ref q_1, .ref q_3, .ref q_5, .ref q_7, .ref q_9, .ref q_11, .int 0, .int 0])), (q_1, .inl (k_2, 14032, .inl g_76)), (q_3, .inl (k_4, 14032, .inl g_77)), (q_5, .inl (k_6, 14032, .inl g_78))]) hD hS hA [3, 4, 5, 6] rfl
  refine va_callv (va_runV (As := [.int 11, .int 2, .int 1, .int 5]) (rest := []) ⟨hx, hb, hml, hown, hts⟩ (c_X1_fix l dC dI h0 q_1 q_3 q_5 k_2 k_4 k_6 q_7 q_9 q_11 g_76 g_77 g_78 0 0 11 2 1 5 H.size (by decide)) (cwV 4 hts gX1_init_X1_fix rfl rfl rfl (by decide +kernel) ⟨Nat.le_of_ble_eq_true rfl, Nat.le_of_ble_eq_true rfl⟩) ⟨fun a U g mk q => by obtain ⟨q0, q1, qP, qK, qD⟩ := q; exact ⟨q0, q1, qP, va_K.moved (u := U) (U := U.calling g mk a) (Vm.Alike.refl U.vm) qK, qD⟩, va_recv hKc hPc (ci := 1) (q0 := 0) rfl rfl, fun U hU hW => ⟨rfl, by rw [hU], by rw [hU]; exact hPc, va_K.moved hW.alike hKc, hDc.weaken (fun _ _ _ _ => trivial)⟩⟩ rfl rfl hl.1 rfl (lv_room (Nat.le_of_ble_eq_true rfl)) dX1_init_125 ⟨Nat.le_of_ble_eq_true rfl, Nat.le_of_ble_eq_true rfl⟩) hS (fun q _ h => hFc q h) hFc (fun u t H1 locs ht hvm hw hB hz1 hk1 hS => ?_)
  obtain ⟨hP1, hK1, hD1⟩ := hB
  rw [ht] at hP1
  have hK1 := va_K.moved hvm.symm hK1
  obtain ⟨hP, hD⟩ := va_join (wr := [(q_7, .inl (k_8, 14032, .inl (fun _ => 0))), (q_9, .inl (k_10, 14032, .inl (fun _ => 0))), (q_11, .inl (k_12, 28064, .inl (fun _ => 0)))]) (w1 := [(h0, .inr (1, [.ref q_1, .ref q_3, .ref q_5, .ref q_7, .ref q_9, .ref q_11, .int 0, .int 0])), (q_1, .inl (k_2, 14032, .inl (upd g_76 11 2))), (q_3, .inl (k_4, 14032, .inl (upd g_77 11 1))), (q_5, .inl (k_6, 14032, .inl (upd g_78 11 5)))]) hP hD [3, 4, 5, 6] [0, 1, 2] rfl rfl (by decide) (by decide) hk1 hFc hP1 hD1
  have hK := (hK.sub (tys' := [(k_8, .int), (k_10, .int), (k_12, .int)]) [0, 1, 2] rfl).app hK1
  generalize H1 = H at hP hS ⊢
  obtain ⟨g_81, eg_81⟩ : ∃ y : Nat → Int32, y = upd g_76 11 2 := ⟨_, rfl⟩
  obtain ⟨g_82, eg_82⟩ : ∃ y : Nat → Int32, y = upd g_77 11 1 := ⟨_, rfl⟩
  obtain ⟨g_83, eg_83⟩ : ∃ y : Nat → Int32, y = upd g_78 11 5 := ⟨_, rfl⟩
  have hP : va_P (dC, dI) vwCl [(q_7, .inl (k_8, 14032, .inl (fun _ => 0))), (q_9, .inl (k_10, 14032, .inl (fun _ => 0))), (q_11, .inl (k_12, 28064, .inl (fun _ => 0))), (h0, .inr (1, [.ref q_1, .ref q_3, .ref q_5, .ref q_7, .ref q_9, .ref q_11, .int 0, .int 0])), (q_1, .inl (k_2, 14032, .inl g_81)), (q_3, .inl (k_4, 14032, .inl g_82)), (q_5, .inl (k_6, 14032, .inl g_83))] H := by rw [eg_81, eg_82, eg_83]; exact hP
  have hD : va_D A [(q_7, .inl (k_8, 14032, .inl (fun _ => 0))), (q_9, .inl (k_10, 14032, .inl (fun _ => 0))), (q_11, .inl (k_12, 28064, .inl (fun _ => 0))), (h0, .inr (1, [.ref q_1, .ref q_3, .ref q_5, .ref q_7, .ref q_9, .ref q_11, .int 0, .int 0])), (q_1, .inl (k_2, 14032, .inl g_81)), (q_3, .inl (k_4, 14032, .inl g_82)), (q_5, .inl (k_6, 14032, .inl g_83))] := by rw [eg_81, eg_82, eg_83]; exact hD
  have hK : va_K (dC, dI) vwCl [(k_8, .int), (k_10, .int), (k_12, .int), (k_2, .int), (k_4, .int), (k_6, .int)] s := hK
  refine W.widen (k := 6) (n := 98224) (Nat.le_of_ble_eq_true rfl) (Nat.le_of_ble_eq_true rfl) ?_
  refine lv_aload_n hx hb dX1_init_128 rfl (lv_at hl 2 rfl) ?_
  refine lv_bipush (v := 14) hx hb dX1_init_129 (by decide) ?_
  refine lv_iload_n hx hb dX1_init_131 rfl (lv_at hl 1 rfl) ?_
  refine lv_iadd hx hb dX1_init_132 ?_
  refine W.eq (g2 := F0 m 133 ls [.int 15, .ref h0]) (by rfl) ?_
  refine lv_iconst (v := 2) hx hb dX1_init_133 (by decide) ?_
  refine lv_iconst (v := 1) hx hb dX1_init_134 (by decide) ?_
  refine lv_iload_n hx hb dX1_init_135 rfl (lv_at hl 0 rfl) ?_
  refine lv_iconst (v := 1) hx hb dX1_init_136 (by decide) ?_
  refine lv_iadd hx hb dX1_init_137 ?_
  refine W.eq (g2 := F0 m 138 ls [.int 6, .int 1, .int 2, .int 15, .ref h0]) (by rfl) ?_
  have hPc := hP.sub (ws' := [(h0, .inr (1, [.ref q_1, .ref q_3, .ref q_5, .ref q_7, .ref q_9, .ref q_11, .int 0, .int 0])), (q_1, .inl (k_2, 14032, .inl g_81)), (q_3, .inl (k_4, 14032, .inl g_82)), (q_5, .inl (k_6, 14032, .inl g_83))]) [3, 4, 5, 6] rfl
  have hDc := hD.sub (ws' := [(h0, .inr (1, [.ref q_1, .ref q_3, .ref q_5, .ref q_7, .ref q_9, .ref q_11, .int 0, .int 0])), (q_1, .inl (k_2, 14032, .inl g_81)), (q_3, .inl (k_4, 14032, .inl g_82)), (q_5, .inl (k_6, 14032, .inl g_83))]) [3, 4, 5, 6] (by decide) rfl
  have hKc := hK.sub (tys' := [(k_2, .int), (k_4, .int), (k_6, .int)]) [3, 4, 5] rfl
  have hFc := va_free (wc := [(h0, .inr (1, [.ref q_1, .ref q_3, .ref q_5, .ref q_7, .ref q_9, .ref q_11, .int 0, .int 0])), (q_1, .inl (k_2, 14032, .inl g_81)), (q_3, .inl (k_4, 14032, .inl g_82)), (q_5, .inl (k_6, 14032, .inl g_83))]) hD hS hA [3, 4, 5, 6] rfl
  refine va_callv (va_runV (As := [.int 15, .int 2, .int 1, .int 6]) (rest := []) ⟨hx, hb, hml, hown, hts⟩ (c_X1_fix l dC dI h0 q_1 q_3 q_5 k_2 k_4 k_6 q_7 q_9 q_11 g_81 g_82 g_83 0 0 15 2 1 6 H.size (by decide)) (cwV 4 hts gX1_init_X1_fix rfl rfl rfl (by decide +kernel) ⟨Nat.le_of_ble_eq_true rfl, Nat.le_of_ble_eq_true rfl⟩) ⟨fun a U g mk q => by obtain ⟨q0, q1, qP, qK, qD⟩ := q; exact ⟨q0, q1, qP, va_K.moved (u := U) (U := U.calling g mk a) (Vm.Alike.refl U.vm) qK, qD⟩, va_recv hKc hPc (ci := 1) (q0 := 0) rfl rfl, fun U hU hW => ⟨rfl, by rw [hU], by rw [hU]; exact hPc, va_K.moved hW.alike hKc, hDc.weaken (fun _ _ _ _ => trivial)⟩⟩ rfl rfl hl.1 rfl (lv_room (Nat.le_of_ble_eq_true rfl)) dX1_init_138 ⟨Nat.le_of_ble_eq_true rfl, Nat.le_of_ble_eq_true rfl⟩) hS (fun q _ h => hFc q h) hFc (fun u t H1 locs ht hvm hw hB hz1 hk1 hS => ?_)
  obtain ⟨hP1, hK1, hD1⟩ := hB
  rw [ht] at hP1
  have hK1 := va_K.moved hvm.symm hK1
  obtain ⟨hP, hD⟩ := va_join (wr := [(q_7, .inl (k_8, 14032, .inl (fun _ => 0))), (q_9, .inl (k_10, 14032, .inl (fun _ => 0))), (q_11, .inl (k_12, 28064, .inl (fun _ => 0)))]) (w1 := [(h0, .inr (1, [.ref q_1, .ref q_3, .ref q_5, .ref q_7, .ref q_9, .ref q_11, .int 0, .int 0])), (q_1, .inl (k_2, 14032, .inl (upd g_81 15 2))), (q_3, .inl (k_4, 14032, .inl (upd g_82 15 1))), (q_5, .inl (k_6, 14032, .inl (upd g_83 15 6)))]) hP hD [3, 4, 5, 6] [0, 1, 2] rfl rfl (by decide) (by decide) hk1 hFc hP1 hD1
  have hK := (hK.sub (tys' := [(k_8, .int), (k_10, .int), (k_12, .int)]) [0, 1, 2] rfl).app hK1
  generalize H1 = H at hP hS ⊢
  obtain ⟨g_85, eg_85⟩ : ∃ y : Nat → Int32, y = upd g_81 15 2 := ⟨_, rfl⟩
  obtain ⟨g_86, eg_86⟩ : ∃ y : Nat → Int32, y = upd g_82 15 1 := ⟨_, rfl⟩
  obtain ⟨g_87, eg_87⟩ : ∃ y : Nat → Int32, y = upd g_83 15 6 := ⟨_, rfl⟩
  have hP : va_P (dC, dI) vwCl [(q_7, .inl (k_8, 14032, .inl (fun _ => 0))), (q_9, .inl (k_10, 14032, .inl (fun _ => 0))), (q_11, .inl (k_12, 28064, .inl (fun _ => 0))), (h0, .inr (1, [.ref q_1, .ref q_3, .ref q_5, .ref q_7, .ref q_9, .ref q_11, .int 0, .int 0])), (q_1, .inl (k_2, 14032, .inl g_85)), (q_3, .inl (k_4, 14032, .inl g_86)), (q_5, .inl (k_6, 14032, .inl g_87))] H := by rw [eg_85, eg_86, eg_87]; exact hP
  have hD : va_D A [(q_7, .inl (k_8, 14032, .inl (fun _ => 0))), (q_9, .inl (k_10, 14032, .inl (fun _ => 0))), (q_11, .inl (k_12, 28064, .inl (fun _ => 0))), (h0, .inr (1, [.ref q_1, .ref q_3, .ref q_5, .ref q_7, .ref q_9, .ref q_11, .int 0, .int 0])), (q_1, .inl (k_2, 14032, .inl g_85)), (q_3, .inl (k_4, 14032, .inl g_86)), (q_5, .inl (k_6, 14032, .inl g_87))] := by rw [eg_85, eg_86, eg_87]; exact hD
  have hK : va_K (dC, dI) vwCl [(k_8, .int), (k_10, .int), (k_12, .int), (k_2, .int), (k_4, .int), (k_6, .int)] s := hK
  refine W.widen (k := 6) (n := 98224) (Nat.le_of_ble_eq_true rfl) (Nat.le_of_ble_eq_true rfl) ?_
  refine lv_aload_n hx hb dX1_init_141 rfl (lv_at hl 2 rfl) ?_
  refine lv_bipush (v := 18) hx hb dX1_init_142 (by decide) ?_
  refine lv_iload_n hx hb dX1_init_144 rfl (lv_at hl 1 rfl) ?_
  refine lv_iadd hx hb dX1_init_145 ?_
  refine W.eq (g2 := F0 m 146 ls [.int 19, .ref h0]) (by rfl) ?_
  refine lv_iconst (v := 2) hx hb dX1_init_146 (by decide) ?_
  refine lv_iload_n hx hb dX1_init_147 rfl (lv_at hl 0 rfl) ?_
  refine lv_iload_n hx hb dX1_init_148 rfl (lv_at hl 0 rfl) ?_
  refine lv_iconst (v := 1) hx hb dX1_init_149 (by decide) ?_
  refine lv_iadd hx hb dX1_init_150 ?_
  refine W.eq (g2 := F0 m 151 ls [.int 6, .int 5, .int 2, .int 19, .ref h0]) (by rfl) ?_
  have hPc := hP.sub (ws' := [(h0, .inr (1, [.ref q_1, .ref q_3, .ref q_5, .ref q_7, .ref q_9, .ref q_11, .int 0, .int 0])), (q_1, .inl (k_2, 14032, .inl g_85)), (q_3, .inl (k_4, 14032, .inl g_86)), (q_5, .inl (k_6, 14032, .inl g_87))]) [3, 4, 5, 6] rfl
  have hDc := hD.sub (ws' := [(h0, .inr (1, [.ref q_1, .ref q_3, .ref q_5, .ref q_7, .ref q_9, .ref q_11, .int 0, .int 0])), (q_1, .inl (k_2, 14032, .inl g_85)), (q_3, .inl (k_4, 14032, .inl g_86)), (q_5, .inl (k_6, 14032, .inl g_87))]) [3, 4, 5, 6] (by decide) rfl
  have hKc := hK.sub (tys' := [(k_2, .int), (k_4, .int), (k_6, .int)]) [3, 4, 5] rfl
  have hFc := va_free (wc := [(h0, .inr (1, [.ref q_1, .ref q_3, .ref q_5, .ref q_7, .ref q_9, .ref q_11, .int 0, .int 0])), (q_1, .inl (k_2, 14032, .inl g_85)), (q_3, .inl (k_4, 14032, .inl g_86)), (q_5, .inl (k_6, 14032, .inl g_87))]) hD hS hA [3, 4, 5, 6] rfl
  refine va_callv (va_runV (As := [.int 19, .int 2, .int 5, .int 6]) (rest := []) ⟨hx, hb, hml, hown, hts⟩ (c_X1_fix l dC dI h0 q_1 q_3 q_5 k_2 k_4 k_6 q_7 q_9 q_11 g_85 g_86 g_87 0 0 19 2 5 6 H.size (by decide)) (cwV 4 hts gX1_init_X1_fix rfl rfl rfl (by decide +kernel) ⟨Nat.le_of_ble_eq_true rfl, Nat.le_of_ble_eq_true rfl⟩) ⟨fun a U g mk q => by obtain ⟨q0, q1, qP, qK, qD⟩ := q; exact ⟨q0, q1, qP, va_K.moved (u := U) (U := U.calling g mk a) (Vm.Alike.refl U.vm) qK, qD⟩, va_recv hKc hPc (ci := 1) (q0 := 0) rfl rfl, fun U hU hW => ⟨rfl, by rw [hU], by rw [hU]; exact hPc, va_K.moved hW.alike hKc, hDc.weaken (fun _ _ _ _ => trivial)⟩⟩ rfl rfl hl.1 rfl (lv_room (Nat.le_of_ble_eq_true rfl)) dX1_init_151 ⟨Nat.le_of_ble_eq_true rfl, Nat.le_of_ble_eq_true rfl⟩) hS (fun q _ h => hFc q h) hFc (fun u t H1 locs ht hvm hw hB hz1 hk1 hS => ?_)
  obtain ⟨hP1, hK1, hD1⟩ := hB
  rw [ht] at hP1
  have hK1 := va_K.moved hvm.symm hK1
  obtain ⟨hP, hD⟩ := va_join (wr := [(q_7, .inl (k_8, 14032, .inl (fun _ => 0))), (q_9, .inl (k_10, 14032, .inl (fun _ => 0))), (q_11, .inl (k_12, 28064, .inl (fun _ => 0)))]) (w1 := [(h0, .inr (1, [.ref q_1, .ref q_3, .ref q_5, .ref q_7, .ref q_9, .ref q_11, .int 0, .int 0])), (q_1, .inl (k_2, 14032, .inl (upd g_85 19 2))), (q_3, .inl (k_4, 14032, .inl (upd g_86 19 5))), (q_5, .inl (k_6, 14032, .inl (upd g_87 19 6)))]) hP hD [3, 4, 5, 6] [0, 1, 2] rfl rfl (by decide) (by decide) hk1 hFc hP1 hD1
  have hK := (hK.sub (tys' := [(k_8, .int), (k_10, .int), (k_12, .int)]) [0, 1, 2] rfl).app hK1
  generalize H1 = H at hP hS ⊢
  obtain ⟨g_89, eg_89⟩ : ∃ y : Nat → Int32, y = upd g_85 19 2 := ⟨_, rfl⟩
  obtain ⟨g_90, eg_90⟩ : ∃ y : Nat → Int32, y = upd g_86 19 5 := ⟨_, rfl⟩
  obtain ⟨g_91, eg_91⟩ : ∃ y : Nat → Int32, y = upd g_87 19 6 := ⟨_, rfl⟩
  have hP : va_P (dC, dI) vwCl [(q_7, .inl (k_8, 14032, .inl (fun _ => 0))), (q_9, .inl (k_10, 14032, .inl (fun _ => 0))), (q_11, .inl (k_12, 28064, .inl (fun _ => 0))), (h0, .inr (1, [.ref q_1, .ref q_3, .ref q_5, .ref q_7, .ref q_9, .ref q_11, .int 0, .int 0])), (q_1, .inl (k_2, 14032, .inl g_89)), (q_3, .inl (k_4, 14032, .inl g_90)), (q_5, .inl (k_6, 14032, .inl g_91))] H := by rw [eg_89, eg_90, eg_91]; exact hP
  have hD : va_D A [(q_7, .inl (k_8, 14032, .inl (fun _ => 0))), (q_9, .inl (k_10, 14032, .inl (fun _ => 0))), (q_11, .inl (k_12, 28064, .inl (fun _ => 0))), (h0, .inr (1, [.ref q_1, .ref q_3, .ref q_5, .ref q_7, .ref q_9, .ref q_11, .int 0, .int 0])), (q_1, .inl (k_2, 14032, .inl g_89)), (q_3, .inl (k_4, 14032, .inl g_90)), (q_5, .inl (k_6, 14032, .inl g_91))] := by rw [eg_89, eg_90, eg_91]; exact hD
  have hK : va_K (dC, dI) vwCl [(k_8, .int), (k_10, .int), (k_12, .int), (k_2, .int), (k_4, .int), (k_6, .int)] s := hK
  refine W.widen (k := 6) (n := 98224) (Nat.le_of_ble_eq_true rfl) (Nat.le_of_ble_eq_true rfl) ?_
  refine lv_aload_n hx hb dX1_init_154 rfl (lv_at hl 2 rfl) ?_
  refine lv_bipush (v := 22) hx hb dX1_init_155 (by decide) ?_
  refine lv_iload_n hx hb dX1_init_157 rfl (lv_at hl 1 rfl) ?_
  refine lv_iadd hx hb dX1_init_158 ?_
  refine W.eq (g2 := F0 m 159 ls [.int 23, .ref h0]) (by rfl) ?_
  refine lv_iconst (v := 2) hx hb dX1_init_159 (by decide) ?_
  refine lv_iconst (v := 4) hx hb dX1_init_160 (by decide) ?_
  refine lv_iload_n hx hb dX1_init_161 rfl (lv_at hl 0 rfl) ?_
  have hPc := hP.sub (ws' := [(h0, .inr (1, [.ref q_1, .ref q_3, .ref q_5, .ref q_7, .ref q_9, .ref q_11, .int 0, .int 0])), (q_1, .inl (k_2, 14032, .inl g_89)), (q_3, .inl (k_4, 14032, .inl g_90)), (q_5, .inl (k_6, 14032, .inl g_91))]) [3, 4, 5, 6] rfl
  have hDc := hD.sub (ws' := [(h0, .inr (1, [.ref q_1, .ref q_3, .ref q_5, .ref q_7, .ref q_9, .ref q_11, .int 0, .int 0])), (q_1, .inl (k_2, 14032, .inl g_89)), (q_3, .inl (k_4, 14032, .inl g_90)), (q_5, .inl (k_6, 14032, .inl g_91))]) [3, 4, 5, 6] (by decide) rfl
  have hKc := hK.sub (tys' := [(k_2, .int), (k_4, .int), (k_6, .int)]) [3, 4, 5] rfl
  have hFc := va_free (wc := [(h0, .inr (1, [.ref q_1, .ref q_3, .ref q_5, .ref q_7, .ref q_9, .ref q_11, .int 0, .int 0])), (q_1, .inl (k_2, 14032, .inl g_89)), (q_3, .inl (k_4, 14032, .inl g_90)), (q_5, .inl (k_6, 14032, .inl g_91))]) hD hS hA [3, 4, 5, 6] rfl
  refine va_callv (va_runV (As := [.int 23, .int 2, .int 4, .int 5]) (rest := []) ⟨hx, hb, hml, hown, hts⟩ (c_X1_fix l dC dI h0 q_1 q_3 q_5 k_2 k_4 k_6 q_7 q_9 q_11 g_89 g_90 g_91 0 0 23 2 4 5 H.size (by decide)) (cwV 4 hts gX1_init_X1_fix rfl rfl rfl (by decide +kernel) ⟨Nat.le_of_ble_eq_true rfl, Nat.le_of_ble_eq_true rfl⟩) ⟨fun a U g mk q => by obtain ⟨q0, q1, qP, qK, qD⟩ := q; exact ⟨q0, q1, qP, va_K.moved (u := U) (U := U.calling g mk a) (Vm.Alike.refl U.vm) qK, qD⟩, va_recv hKc hPc (ci := 1) (q0 := 0) rfl rfl, fun U hU hW => ⟨rfl, by rw [hU], by rw [hU]; exact hPc, va_K.moved hW.alike hKc, hDc.weaken (fun _ _ _ _ => trivial)⟩⟩ rfl rfl hl.1 rfl (lv_room (Nat.le_of_ble_eq_true rfl)) dX1_init_162 ⟨Nat.le_of_ble_eq_true rfl, Nat.le_of_ble_eq_true rfl⟩) hS (fun q _ h => hFc q h) hFc (fun u t H1 locs ht hvm hw hB hz1 hk1 hS => ?_)
  obtain ⟨hP1, hK1, hD1⟩ := hB
  rw [ht] at hP1
  have hK1 := va_K.moved hvm.symm hK1
  obtain ⟨hP, hD⟩ := va_join (wr := [(q_7, .inl (k_8, 14032, .inl (fun _ => 0))), (q_9, .inl (k_10, 14032, .inl (fun _ => 0))), (q_11, .inl (k_12, 28064, .inl (fun _ => 0)))]) (w1 := [(h0, .inr (1, [.ref q_1, .ref q_3, .ref q_5, .ref q_7, .ref q_9, .ref q_11, .int 0, .int 0])), (q_1, .inl (k_2, 14032, .inl (upd g_89 23 2))), (q_3, .inl (k_4, 14032, .inl (upd g_90 23 4))), (q_5, .inl (k_6, 14032, .inl (upd g_91 23 5)))]) hP hD [3, 4, 5, 6] [0, 1, 2] rfl rfl (by decide) (by decide) hk1 hFc hP1 hD1
  have hK := (hK.sub (tys' := [(k_8, .int), (k_10, .int), (k_12, .int)]) [0, 1, 2] rfl).app hK1
  generalize H1 = H at hP hS ⊢
  obtain ⟨g_93, eg_93⟩ : ∃ y : Nat → Int32, y = upd g_89 23 2 := ⟨_, rfl⟩
  obtain ⟨g_94, eg_94⟩ : ∃ y : Nat → Int32, y = upd g_90 23 4 := ⟨_, rfl⟩
  obtain ⟨g_95, eg_95⟩ : ∃ y : Nat → Int32, y = upd g_91 23 5 := ⟨_, rfl⟩
  have hP : va_P (dC, dI) vwCl [(q_7, .inl (k_8, 14032, .inl (fun _ => 0))), (q_9, .inl (k_10, 14032, .inl (fun _ => 0))), (q_11, .inl (k_12, 28064, .inl (fun _ => 0))), (h0, .inr (1, [.ref q_1, .ref q_3, .ref q_5, .ref q_7, .ref q_9, .ref q_11, .int 0, .int 0])), (q_1, .inl (k_2, 14032, .inl g_93)), (q_3, .inl (k_4, 14032, .inl g_94)), (q_5, .inl (k_6, 14032, .inl g_95))] H := by rw [eg_93, eg_94, eg_95]; exact hP
  have hD : va_D A [(q_7, .inl (k_8, 14032, .inl (fun _ => 0))), (q_9, .inl (k_10, 14032, .inl (fun _ => 0))), (q_11, .inl (k_12, 28064, .inl (fun _ => 0))), (h0, .inr (1, [.ref q_1, .ref q_3, .ref q_5, .ref q_7, .ref q_9, .ref q_11, .int 0, .int 0])), (q_1, .inl (k_2, 14032, .inl g_93)), (q_3, .inl (k_4, 14032, .inl g_94)), (q_5, .inl (k_6, 14032, .inl g_95))] := by rw [eg_93, eg_94, eg_95]; exact hD
  have hK : va_K (dC, dI) vwCl [(k_8, .int), (k_10, .int), (k_12, .int), (k_2, .int), (k_4, .int), (k_6, .int)] s := hK
  refine W.widen (k := 6) (n := 98224) (Nat.le_of_ble_eq_true rfl) (Nat.le_of_ble_eq_true rfl) ?_
  refine lv_iinc (v := 2) (lv' := [(1, .int 2), (2, .int 5), (0, .ref h0)]) hx hb dX1_init_165 hl (k := 1) rfl (by decide) (by decide) rfl (fun ls hl => ?_)
  refine lv_goto (tgt := 108) hx hb dX1_init_168 (by decide) ?_
  refine lv_iload_n hx hb dX1_init_108 rfl (lv_at hl 0 rfl) ?_
  refine lv_iconst (v := 4) hx hb dX1_init_109 (by decide) ?_
  refine lv_icmp_ge (tgt := 171) hx hb dX1_init_110 (by decide) (fun cnd_96 => ?_) (fun cnd_96 => ?_)
  · exact absurd cnd_96 (by decide)
  refine lv_iconst (v := 4) hx hb dX1_init_113 (by decide) ?_
  refine lv_iload_n hx hb dX1_init_114 rfl (lv_at hl 0 rfl) ?_
  refine lv_iadd hx hb dX1_init_115 ?_
  refine W.eq (g2 := F0 m 116 ls [.int 6]) (by rfl) ?_
  refine lv_istore_n (lv' := [(2, .int 6), (1, .int 2), (0, .ref h0)]) hx hb dX1_init_116 rfl hl (by decide) rfl (fun ls hl => ?_)
  refine lv_aload_n hx hb dX1_init_117 rfl (lv_at hl 2 rfl) ?_
  refine lv_bipush (v := 10) hx hb dX1_init_118 (by decide) ?_
  refine lv_iload_n hx hb dX1_init_120 rfl (lv_at hl 1 rfl) ?_
  refine lv_iadd hx hb dX1_init_121 ?_
  refine W.eq (g2 := F0 m 122 ls [.int 12, .ref h0]) (by rfl) ?_
  refine lv_iconst (v := 2) hx hb dX1_init_122 (by decide) ?_
  refine lv_iconst (v := 1) hx hb dX1_init_123 (by decide) ?_
  refine lv_iload_n hx hb dX1_init_124 rfl (lv_at hl 0 rfl) ?_
  have hPc := hP.sub (ws' := [(h0, .inr (1, [.ref q_1, .ref q_3, .ref q_5, .ref q_7, .ref q_9, .ref q_11, .int 0, .int 0])), (q_1, .inl (k_2, 14032, .inl g_93)), (q_3, .inl (k_4, 14032, .inl g_94)), (q_5, .inl (k_6, 14032, .inl g_95))]) [3, 4, 5, 6] rfl
  have hDc := hD.sub (ws' := [(h0, .inr (1, [.ref q_1, .ref q_3, .ref q_5, .ref q_7, .ref q_9, .ref q_11, .int 0, .int 0])), (q_1, .inl (k_2, 14032, .inl g_93)), (q_3, .inl (k_4, 14032, .inl g_94)), (q_5, .inl (k_6, 14032, .inl g_95))]) [3, 4, 5, 6] (by decide) rfl
  have hKc := hK.sub (tys' := [(k_2, .int), (k_4, .int), (k_6, .int)]) [3, 4, 5] rfl
  have hFc := va_free (wc := [(h0, .inr (1, [.ref q_1, .ref q_3, .ref q_5, .ref q_7, .ref q_9, .ref q_11, .int 0, .int 0])), (q_1, .inl (k_2, 14032, .inl g_93)), (q_3, .inl (k_4, 14032, .inl g_94)), (q_5, .inl (k_6, 14032, .inl g_95))]) hD hS hA [3, 4, 5, 6] rfl
  refine va_callv (va_runV (As := [.int 12, .int 2, .int 1, .int 6]) (rest := []) ⟨hx, hb, hml, hown, hts⟩ (c_X1_fix l dC dI h0 q_1 q_3 q_5 k_2 k_4 k_6 q_7 q_9 q_11 g_93 g_94 g_95 0 0 12 2 1 6 H.size (by decide)) (cwV 4 hts gX1_init_X1_fix rfl rfl rfl (by decide +kernel) ⟨Nat.le_of_ble_eq_true rfl, Nat.le_of_ble_eq_true rfl⟩) ⟨fun a U g mk q => by obtain ⟨q0, q1, qP, qK, qD⟩ := q; exact ⟨q0, q1, qP, va_K.moved (u := U) (U := U.calling g mk a) (Vm.Alike.refl U.vm) qK, qD⟩, va_recv hKc hPc (ci := 1) (q0 := 0) rfl rfl, fun U hU hW => ⟨rfl, by rw [hU], by rw [hU]; exact hPc, va_K.moved hW.alike hKc, hDc.weaken (fun _ _ _ _ => trivial)⟩⟩ rfl rfl hl.1 rfl (lv_room (Nat.le_of_ble_eq_true rfl)) dX1_init_125 ⟨Nat.le_of_ble_eq_true rfl, Nat.le_of_ble_eq_true rfl⟩) hS (fun q _ h => hFc q h) hFc (fun u t H1 locs ht hvm hw hB hz1 hk1 hS => ?_)
  obtain ⟨hP1, hK1, hD1⟩ := hB
  rw [ht] at hP1
  have hK1 := va_K.moved hvm.symm hK1
  obtain ⟨hP, hD⟩ := va_join (wr := [(q_7, .inl (k_8, 14032, .inl (fun _ => 0))), (q_9, .inl (k_10, 14032, .inl (fun _ => 0))), (q_11, .inl (k_12, 28064, .inl (fun _ => 0)))]) (w1 := [(h0, .inr (1, [.ref q_1, .ref q_3, .ref q_5, .ref q_7, .ref q_9, .ref q_11, .int 0, .int 0])), (q_1, .inl (k_2, 14032, .inl (upd g_93 12 2))), (q_3, .inl (k_4, 14032, .inl (upd g_94 12 1))), (q_5, .inl (k_6, 14032, .inl (upd g_95 12 6)))]) hP hD [3, 4, 5, 6] [0, 1, 2] rfl rfl (by decide) (by decide) hk1 hFc hP1 hD1
  have hK := (hK.sub (tys' := [(k_8, .int), (k_10, .int), (k_12, .int)]) [0, 1, 2] rfl).app hK1
  generalize H1 = H at hP hS ⊢
  obtain ⟨g_98, eg_98⟩ : ∃ y : Nat → Int32, y = upd g_93 12 2 := ⟨_, rfl⟩
  obtain ⟨g_99, eg_99⟩ : ∃ y : Nat → Int32, y = upd g_94 12 1 := ⟨_, rfl⟩
  obtain ⟨g_100, eg_100⟩ : ∃ y : Nat → Int32, y = upd g_95 12 6 := ⟨_, rfl⟩
  have hP : va_P (dC, dI) vwCl [(q_7, .inl (k_8, 14032, .inl (fun _ => 0))), (q_9, .inl (k_10, 14032, .inl (fun _ => 0))), (q_11, .inl (k_12, 28064, .inl (fun _ => 0))), (h0, .inr (1, [.ref q_1, .ref q_3, .ref q_5, .ref q_7, .ref q_9, .ref q_11, .int 0, .int 0])), (q_1, .inl (k_2, 14032, .inl g_98)), (q_3, .inl (k_4, 14032, .inl g_99)), (q_5, .inl (k_6, 14032, .inl g_100))] H := by rw [eg_98, eg_99, eg_100]; exact hP
  have hD : va_D A [(q_7, .inl (k_8, 14032, .inl (fun _ => 0))), (q_9, .inl (k_10, 14032, .inl (fun _ => 0))), (q_11, .inl (k_12, 28064, .inl (fun _ => 0))), (h0, .inr (1, [.ref q_1, .ref q_3, .ref q_5, .ref q_7, .ref q_9, .ref q_11, .int 0, .int 0])), (q_1, .inl (k_2, 14032, .inl g_98)), (q_3, .inl (k_4, 14032, .inl g_99)), (q_5, .inl (k_6, 14032, .inl g_100))] := by rw [eg_98, eg_99, eg_100]; exact hD
  have hK : va_K (dC, dI) vwCl [(k_8, .int), (k_10, .int), (k_12, .int), (k_2, .int), (k_4, .int), (k_6, .int)] s := hK
  refine W.widen (k := 6) (n := 98224) (Nat.le_of_ble_eq_true rfl) (Nat.le_of_ble_eq_true rfl) ?_
  refine lv_aload_n hx hb dX1_init_128 rfl (lv_at hl 2 rfl) ?_
  refine lv_bipush (v := 14) hx hb dX1_init_129 (by decide) ?_
  refine lv_iload_n hx hb dX1_init_131 rfl (lv_at hl 1 rfl) ?_
  refine lv_iadd hx hb dX1_init_132 ?_
  refine W.eq (g2 := F0 m 133 ls [.int 16, .ref h0]) (by rfl) ?_
  refine lv_iconst (v := 2) hx hb dX1_init_133 (by decide) ?_
  refine lv_iconst (v := 1) hx hb dX1_init_134 (by decide) ?_
  refine lv_iload_n hx hb dX1_init_135 rfl (lv_at hl 0 rfl) ?_
  refine lv_iconst (v := 1) hx hb dX1_init_136 (by decide) ?_
  refine lv_iadd hx hb dX1_init_137 ?_
  refine W.eq (g2 := F0 m 138 ls [.int 7, .int 1, .int 2, .int 16, .ref h0]) (by rfl) ?_
  have hPc := hP.sub (ws' := [(h0, .inr (1, [.ref q_1, .ref q_3, .ref q_5, .ref q_7, .ref q_9, .ref q_11, .int 0, .int 0])), (q_1, .inl (k_2, 14032, .inl g_98)), (q_3, .inl (k_4, 14032, .inl g_99)), (q_5, .inl (k_6, 14032, .inl g_100))]) [3, 4, 5, 6] rfl
  have hDc := hD.sub (ws' := [(h0, .inr (1, [.ref q_1, .ref q_3, .ref q_5, .ref q_7, .ref q_9, .ref q_11, .int 0, .int 0])), (q_1, .inl (k_2, 14032, .inl g_98)), (q_3, .inl (k_4, 14032, .inl g_99)), (q_5, .inl (k_6, 14032, .inl g_100))]) [3, 4, 5, 6] (by decide) rfl
  have hKc := hK.sub (tys' := [(k_2, .int), (k_4, .int), (k_6, .int)]) [3, 4, 5] rfl
  have hFc := va_free (wc := [(h0, .inr (1, [.ref q_1, .ref q_3, .ref q_5, .ref q_7, .ref q_9, .ref q_11, .int 0, .int 0])), (q_1, .inl (k_2, 14032, .inl g_98)), (q_3, .inl (k_4, 14032, .inl g_99)), (q_5, .inl (k_6, 14032, .inl g_100))]) hD hS hA [3, 4, 5, 6] rfl
  refine va_callv (va_runV (As := [.int 16, .int 2, .int 1, .int 7]) (rest := []) ⟨hx, hb, hml, hown, hts⟩ (c_X1_fix l dC dI h0 q_1 q_3 q_5 k_2 k_4 k_6 q_7 q_9 q_11 g_98 g_99 g_100 0 0 16 2 1 7 H.size (by decide)) (cwV 4 hts gX1_init_X1_fix rfl rfl rfl (by decide +kernel) ⟨Nat.le_of_ble_eq_true rfl, Nat.le_of_ble_eq_true rfl⟩) ⟨fun a U g mk q => by obtain ⟨q0, q1, qP, qK, qD⟩ := q; exact ⟨q0, q1, qP, va_K.moved (u := U) (U := U.calling g mk a) (Vm.Alike.refl U.vm) qK, qD⟩, va_recv hKc hPc (ci := 1) (q0 := 0) rfl rfl, fun U hU hW => ⟨rfl, by rw [hU], by rw [hU]; exact hPc, va_K.moved hW.alike hKc, hDc.weaken (fun _ _ _ _ => trivial)⟩⟩ rfl rfl hl.1 rfl (lv_room (Nat.le_of_ble_eq_true rfl)) dX1_init_138 ⟨Nat.le_of_ble_eq_true rfl, Nat.le_of_ble_eq_true rfl⟩) hS (fun q _ h => hFc q h) hFc (fun u t H1 locs ht hvm hw hB hz1 hk1 hS => ?_)
  obtain ⟨hP1, hK1, hD1⟩ := hB
  rw [ht] at hP1
  have hK1 := va_K.moved hvm.symm hK1
  obtain ⟨hP, hD⟩ := va_join (wr := [(q_7, .inl (k_8, 14032, .inl (fun _ => 0))), (q_9, .inl (k_10, 14032, .inl (fun _ => 0))), (q_11, .inl (k_12, 28064, .inl (fun _ => 0)))]) (w1 := [(h0, .inr (1, [.ref q_1, .ref q_3, .ref q_5, .ref q_7, .ref q_9, .ref q_11, .int 0, .int 0])), (q_1, .inl (k_2, 14032, .inl (upd g_98 16 2))), (q_3, .inl (k_4, 14032, .inl (upd g_99 16 1))), (q_5, .inl (k_6, 14032, .inl (upd g_100 16 7)))]) hP hD [3, 4, 5, 6] [0, 1, 2] rfl rfl (by decide) (by decide) hk1 hFc hP1 hD1
  have hK := (hK.sub (tys' := [(k_8, .int), (k_10, .int), (k_12, .int)]) [0, 1, 2] rfl).app hK1
  generalize H1 = H at hP hS ⊢
  obtain ⟨g_102, eg_102⟩ : ∃ y : Nat → Int32, y = upd g_98 16 2 := ⟨_, rfl⟩
  obtain ⟨g_103, eg_103⟩ : ∃ y : Nat → Int32, y = upd g_99 16 1 := ⟨_, rfl⟩
  obtain ⟨g_104, eg_104⟩ : ∃ y : Nat → Int32, y = upd g_100 16 7 := ⟨_, rfl⟩
  have hP : va_P (dC, dI) vwCl [(q_7, .inl (k_8, 14032, .inl (fun _ => 0))), (q_9, .inl (k_10, 14032, .inl (fun _ => 0))), (q_11, .inl (k_12, 28064, .inl (fun _ => 0))), (h0, .inr (1, [.ref q_1, .ref q_3, .ref q_5, .ref q_7, .ref q_9, .ref q_11, .int 0, .int 0])), (q_1, .inl (k_2, 14032, .inl g_102)), (q_3, .inl (k_4, 14032, .inl g_103)), (q_5, .inl (k_6, 14032, .inl g_104))] H := by rw [eg_102, eg_103, eg_104]; exact hP
  have hD : va_D A [(q_7, .inl (k_8, 14032, .inl (fun _ => 0))), (q_9, .inl (k_10, 14032, .inl (fun _ => 0))), (q_11, .inl (k_12, 28064, .inl (fun _ => 0))), (h0, .inr (1, [.ref q_1, .ref q_3, .ref q_5, .ref q_7, .ref q_9, .ref q_11, .int 0, .int 0])), (q_1, .inl (k_2, 14032, .inl g_102)), (q_3, .inl (k_4, 14032, .inl g_103)), (q_5, .inl (k_6, 14032, .inl g_104))] := by rw [eg_102, eg_103, eg_104]; exact hD
  have hK : va_K (dC, dI) vwCl [(k_8, .int), (k_10, .int), (k_12, .int), (k_2, .int), (k_4, .int), (k_6, .int)] s := hK
  refine W.widen (k := 6) (n := 98224) (Nat.le_of_ble_eq_true rfl) (Nat.le_of_ble_eq_true rfl) ?_
  refine lv_aload_n hx hb dX1_init_141 rfl (lv_at hl 2 rfl) ?_
  refine lv_bipush (v := 18) hx hb dX1_init_142 (by decide) ?_
  refine lv_iload_n hx hb dX1_init_144 rfl (lv_at hl 1 rfl) ?_
  refine lv_iadd hx hb dX1_init_145 ?_
  refine W.eq (g2 := F0 m 146 ls [.int 20, .ref h0]) (by rfl) ?_
  refine lv_iconst (v := 2) hx hb dX1_init_146 (by decide) ?_
  refine lv_iload_n hx hb dX1_init_147 rfl (lv_at hl 0 rfl) ?_
  refine lv_iload_n hx hb dX1_init_148 rfl (lv_at hl 0 rfl) ?_
  refine lv_iconst (v := 1) hx hb dX1_init_149 (by decide) ?_
  refine lv_iadd hx hb dX1_init_150 ?_
  refine W.eq (g2 := F0 m 151 ls [.int 7, .int 6, .int 2, .int 20, .ref h0]) (by rfl) ?_
  have hPc := hP.sub (ws' := [(h0, .inr (1, [.ref q_1, .ref q_3, .ref q_5, .ref q_7, .ref q_9, .ref q_11, .int 0, .int 0])), (q_1, .inl (k_2, 14032, .inl g_102)), (q_3, .inl (k_4, 14032, .inl g_103)), (q_5, .inl (k_6, 14032, .inl g_104))]) [3, 4, 5, 6] rfl
  have hDc := hD.sub (ws' := [(h0, .inr (1, [.ref q_1, .ref q_3, .ref q_5, .ref q_7, .ref q_9, .ref q_11, .int 0, .int 0])), (q_1, .inl (k_2, 14032, .inl g_102)), (q_3, .inl (k_4, 14032, .inl g_103)), (q_5, .inl (k_6, 14032, .inl g_104))]) [3, 4, 5, 6] (by decide) rfl
  have hKc := hK.sub (tys' := [(k_2, .int), (k_4, .int), (k_6, .int)]) [3, 4, 5] rfl
  have hFc := va_free (wc := [(h0, .inr (1, [.ref q_1, .ref q_3, .ref q_5, .ref q_7, .ref q_9, .ref q_11, .int 0, .int 0])), (q_1, .inl (k_2, 14032, .inl g_102)), (q_3, .inl (k_4, 14032, .inl g_103)), (q_5, .inl (k_6, 14032, .inl g_104))]) hD hS hA [3, 4, 5, 6] rfl
  refine va_callv (va_runV (As := [.int 20, .int 2, .int 6, .int 7]) (rest := []) ⟨hx, hb, hml, hown, hts⟩ (c_X1_fix l dC dI h0 q_1 q_3 q_5 k_2 k_4 k_6 q_7 q_9 q_11 g_102 g_103 g_104 0 0 20 2 6 7 H.size (by decide)) (cwV 4 hts gX1_init_X1_fix rfl rfl rfl (by decide +kernel) ⟨Nat.le_of_ble_eq_true rfl, Nat.le_of_ble_eq_true rfl⟩) ⟨fun a U g mk q => by obtain ⟨q0, q1, qP, qK, qD⟩ := q; exact ⟨q0, q1, qP, va_K.moved (u := U) (U := U.calling g mk a) (Vm.Alike.refl U.vm) qK, qD⟩, va_recv hKc hPc (ci := 1) (q0 := 0) rfl rfl, fun U hU hW => ⟨rfl, by rw [hU], by rw [hU]; exact hPc, va_K.moved hW.alike hKc, hDc.weaken (fun _ _ _ _ => trivial)⟩⟩ rfl rfl hl.1 rfl (lv_room (Nat.le_of_ble_eq_true rfl)) dX1_init_151 ⟨Nat.le_of_ble_eq_true rfl, Nat.le_of_ble_eq_true rfl⟩) hS (fun q _ h => hFc q h) hFc (fun u t H1 locs ht hvm hw hB hz1 hk1 hS => ?_)
  obtain ⟨hP1, hK1, hD1⟩ := hB
  rw [ht] at hP1
  have hK1 := va_K.moved hvm.symm hK1
  obtain ⟨hP, hD⟩ := va_join (wr := [(q_7, .inl (k_8, 14032, .inl (fun _ => 0))), (q_9, .inl (k_10, 14032, .inl (fun _ => 0))), (q_11, .inl (k_12, 28064, .inl (fun _ => 0)))]) (w1 := [(h0, .inr (1, [.ref q_1, .ref q_3, .ref q_5, .ref q_7, .ref q_9, .ref q_11, .int 0, .int 0])), (q_1, .inl (k_2, 14032, .inl (upd g_102 20 2))), (q_3, .inl (k_4, 14032, .inl (upd g_103 20 6))), (q_5, .inl (k_6, 14032, .inl (upd g_104 20 7)))]) hP hD [3, 4, 5, 6] [0, 1, 2] rfl rfl (by decide) (by decide) hk1 hFc hP1 hD1
  have hK := (hK.sub (tys' := [(k_8, .int), (k_10, .int), (k_12, .int)]) [0, 1, 2] rfl).app hK1
  generalize H1 = H at hP hS ⊢
  obtain ⟨g_106, eg_106⟩ : ∃ y : Nat → Int32, y = upd g_102 20 2 := ⟨_, rfl⟩
  obtain ⟨g_107, eg_107⟩ : ∃ y : Nat → Int32, y = upd g_103 20 6 := ⟨_, rfl⟩
  obtain ⟨g_108, eg_108⟩ : ∃ y : Nat → Int32, y = upd g_104 20 7 := ⟨_, rfl⟩
  have hP : va_P (dC, dI) vwCl [(q_7, .inl (k_8, 14032, .inl (fun _ => 0))), (q_9, .inl (k_10, 14032, .inl (fun _ => 0))), (q_11, .inl (k_12, 28064, .inl (fun _ => 0))), (h0, .inr (1, [.ref q_1, .ref q_3, .ref q_5, .ref q_7, .ref q_9, .ref q_11, .int 0, .int 0])), (q_1, .inl (k_2, 14032, .inl g_106)), (q_3, .inl (k_4, 14032, .inl g_107)), (q_5, .inl (k_6, 14032, .inl g_108))] H := by rw [eg_106, eg_107, eg_108]; exact hP
  have hD : va_D A [(q_7, .inl (k_8, 14032, .inl (fun _ => 0))), (q_9, .inl (k_10, 14032, .inl (fun _ => 0))), (q_11, .inl (k_12, 28064, .inl (fun _ => 0))), (h0, .inr (1, [.ref q_1, .ref q_3, .ref q_5, .ref q_7, .ref q_9, .ref q_11, .int 0, .int 0])), (q_1, .inl (k_2, 14032, .inl g_106)), (q_3, .inl (k_4, 14032, .inl g_107)), (q_5, .inl (k_6, 14032, .inl g_108))] := by rw [eg_106, eg_107, eg_108]; exact hD
  have hK : va_K (dC, dI) vwCl [(k_8, .int), (k_10, .int), (k_12, .int), (k_2, .int), (k_4, .int), (k_6, .int)] s := hK
  refine W.widen (k := 6) (n := 98224) (Nat.le_of_ble_eq_true rfl) (Nat.le_of_ble_eq_true rfl) ?_
  refine lv_aload_n hx hb dX1_init_154 rfl (lv_at hl 2 rfl) ?_
  refine lv_bipush (v := 22) hx hb dX1_init_155 (by decide) ?_
  refine lv_iload_n hx hb dX1_init_157 rfl (lv_at hl 1 rfl) ?_
  refine lv_iadd hx hb dX1_init_158 ?_
  refine W.eq (g2 := F0 m 159 ls [.int 24, .ref h0]) (by rfl) ?_
  refine lv_iconst (v := 2) hx hb dX1_init_159 (by decide) ?_
  refine lv_iconst (v := 4) hx hb dX1_init_160 (by decide) ?_
  refine lv_iload_n hx hb dX1_init_161 rfl (lv_at hl 0 rfl) ?_
  have hPc := hP.sub (ws' := [(h0, .inr (1, [.ref q_1, .ref q_3, .ref q_5, .ref q_7, .ref q_9, .ref q_11, .int 0, .int 0])), (q_1, .inl (k_2, 14032, .inl g_106)), (q_3, .inl (k_4, 14032, .inl g_107)), (q_5, .inl (k_6, 14032, .inl g_108))]) [3, 4, 5, 6] rfl
  have hDc := hD.sub (ws' := [(h0, .inr (1, [.ref q_1, .ref q_3, .ref q_5, .ref q_7, .ref q_9, .ref q_11, .int 0, .int 0])), (q_1, .inl (k_2, 14032, .inl g_106)), (q_3, .inl (k_4, 14032, .inl g_107)), (q_5, .inl (k_6, 14032, .inl g_108))]) [3, 4, 5, 6] (by decide) rfl
  have hKc := hK.sub (tys' := [(k_2, .int), (k_4, .int), (k_6, .int)]) [3, 4, 5] rfl
  have hFc := va_free (wc := [(h0, .inr (1, [.ref q_1, .ref q_3, .ref q_5, .ref q_7, .ref q_9, .ref q_11, .int 0, .int 0])), (q_1, .inl (k_2, 14032, .inl g_106)), (q_3, .inl (k_4, 14032, .inl g_107)), (q_5, .inl (k_6, 14032, .inl g_108))]) hD hS hA [3, 4, 5, 6] rfl
  refine va_callv (va_runV (As := [.int 24, .int 2, .int 4, .int 6]) (rest := []) ⟨hx, hb, hml, hown, hts⟩ (c_X1_fix l dC dI h0 q_1 q_3 q_5 k_2 k_4 k_6 q_7 q_9 q_11 g_106 g_107 g_108 0 0 24 2 4 6 H.size (by decide)) (cwV 4 hts gX1_init_X1_fix rfl rfl rfl (by decide +kernel) ⟨Nat.le_of_ble_eq_true rfl, Nat.le_of_ble_eq_true rfl⟩) ⟨fun a U g mk q => by obtain ⟨q0, q1, qP, qK, qD⟩ := q; exact ⟨q0, q1, qP, va_K.moved (u := U) (U := U.calling g mk a) (Vm.Alike.refl U.vm) qK, qD⟩, va_recv hKc hPc (ci := 1) (q0 := 0) rfl rfl, fun U hU hW => ⟨rfl, by rw [hU], by rw [hU]; exact hPc, va_K.moved hW.alike hKc, hDc.weaken (fun _ _ _ _ => trivial)⟩⟩ rfl rfl hl.1 rfl (lv_room (Nat.le_of_ble_eq_true rfl)) dX1_init_162 ⟨Nat.le_of_ble_eq_true rfl, Nat.le_of_ble_eq_true rfl⟩) hS (fun q _ h => hFc q h) hFc (fun u t H1 locs ht hvm hw hB hz1 hk1 hS => ?_)
  obtain ⟨hP1, hK1, hD1⟩ := hB
  rw [ht] at hP1
  have hK1 := va_K.moved hvm.symm hK1
  obtain ⟨hP, hD⟩ := va_join (wr := [(q_7, .inl (k_8, 14032, .inl (fun _ => 0))), (q_9, .inl (k_10, 14032, .inl (fun _ => 0))), (q_11, .inl (k_12, 28064, .inl (fun _ => 0)))]) (w1 := [(h0, .inr (1, [.ref q_1, .ref q_3, .ref q_5, .ref q_7, .ref q_9, .ref q_11, .int 0, .int 0])), (q_1, .inl (k_2, 14032, .inl (upd g_106 24 2))), (q_3, .inl (k_4, 14032, .inl (upd g_107 24 4))), (q_5, .inl (k_6, 14032, .inl (upd g_108 24 6)))]) hP hD [3, 4, 5, 6] [0, 1, 2] rfl rfl (by decide) (by decide) hk1 hFc hP1 hD1
  have hK := (hK.sub (tys' := [(k_8, .int), (k_10, .int), (k_12, .int)]) [0, 1, 2] rfl).app hK1
  generalize H1 = H at hP hS ⊢
  obtain ⟨g_110, eg_110⟩ : ∃ y : Nat → Int32, y = upd g_106 24 2 := ⟨_, rfl⟩
  obtain ⟨g_111, eg_111⟩ : ∃ y : Nat → Int32, y = upd g_107 24 4 := ⟨_, rfl⟩
  obtain ⟨g_112, eg_112⟩ : ∃ y : Nat → Int32, y = upd g_108 24 6 := ⟨_, rfl⟩
  have hP : va_P (dC, dI) vwCl [(q_7, .inl (k_8, 14032, .inl (fun _ => 0))), (q_9, .inl (k_10, 14032, .inl (fun _ => 0))), (q_11, .inl (k_12, 28064, .inl (fun _ => 0))), (h0, .inr (1, [.ref q_1, .ref q_3, .ref q_5, .ref q_7, .ref q_9, .ref q_11, .int 0, .int 0])), (q_1, .inl (k_2, 14032, .inl g_110)), (q_3, .inl (k_4, 14032, .inl g_111)), (q_5, .inl (k_6, 14032, .inl g_112))] H := by rw [eg_110, eg_111, eg_112]; exact hP
  have hD : va_D A [(q_7, .inl (k_8, 14032, .inl (fun _ => 0))), (q_9, .inl (k_10, 14032, .inl (fun _ => 0))), (q_11, .inl (k_12, 28064, .inl (fun _ => 0))), (h0, .inr (1, [.ref q_1, .ref q_3, .ref q_5, .ref q_7, .ref q_9, .ref q_11, .int 0, .int 0])), (q_1, .inl (k_2, 14032, .inl g_110)), (q_3, .inl (k_4, 14032, .inl g_111)), (q_5, .inl (k_6, 14032, .inl g_112))] := by rw [eg_110, eg_111, eg_112]; exact hD
  have hK : va_K (dC, dI) vwCl [(k_8, .int), (k_10, .int), (k_12, .int), (k_2, .int), (k_4, .int), (k_6, .int)] s := hK
  refine W.widen (k := 6) (n := 98224) (Nat.le_of_ble_eq_true rfl) (Nat.le_of_ble_eq_true rfl) ?_
  refine lv_iinc (v := 3) (lv' := [(1, .int 3), (2, .int 6), (0, .ref h0)]) hx hb dX1_init_165 hl (k := 1) rfl (by decide) (by decide) rfl (fun ls hl => ?_)
  refine lv_goto (tgt := 108) hx hb dX1_init_168 (by decide) ?_
  refine lv_iload_n hx hb dX1_init_108 rfl (lv_at hl 0 rfl) ?_
  refine lv_iconst (v := 4) hx hb dX1_init_109 (by decide) ?_
  refine lv_icmp_ge (tgt := 171) hx hb dX1_init_110 (by decide) (fun cnd_113 => ?_) (fun cnd_113 => ?_)
  · exact absurd cnd_113 (by decide)
  refine lv_iconst (v := 4) hx hb dX1_init_113 (by decide) ?_
  refine lv_iload_n hx hb dX1_init_114 rfl (lv_at hl 0 rfl) ?_
  refine lv_iadd hx hb dX1_init_115 ?_
  refine W.eq (g2 := F0 m 116 ls [.int 7]) (by rfl) ?_
  refine lv_istore_n (lv' := [(2, .int 7), (1, .int 3), (0, .ref h0)]) hx hb dX1_init_116 rfl hl (by decide) rfl (fun ls hl => ?_)
  refine lv_aload_n hx hb dX1_init_117 rfl (lv_at hl 2 rfl) ?_
  refine lv_bipush (v := 10) hx hb dX1_init_118 (by decide) ?_
  refine lv_iload_n hx hb dX1_init_120 rfl (lv_at hl 1 rfl) ?_
  refine lv_iadd hx hb dX1_init_121 ?_
  refine W.eq (g2 := F0 m 122 ls [.int 13, .ref h0]) (by rfl) ?_
  refine lv_iconst (v := 2) hx hb dX1_init_122 (by decide) ?_
  refine lv_iconst (v := 1) hx hb dX1_init_123 (by decide) ?_
  refine lv_iload_n hx hb dX1_init_124 rfl (lv_at hl 0 rfl) ?_
  have hPc := hP.sub (ws' := [(h0, .inr (1, [.ref q_1, .ref q_3, .ref q_5, .ref q_7, .ref q_9, .ref q_11, .int 0, .int 0])), (q_1, .inl (k_2, 14032, .inl g_110)), (q_3, .inl (k_4, 14032, .inl g_111)), (q_5, .inl (k_6, 14032, .inl g_112))]) [3, 4, 5, 6] rfl
  have hDc := hD.sub (ws' := [(h0, .inr (1, [.ref q_1, .ref q_3, .ref q_5, .ref q_7, .ref q_9, .ref q_11, .int 0, .int 0])), (q_1, .inl (k_2, 14032, .inl g_110)), (q_3, .inl (k_4, 14032, .inl g_111)), (q_5, .inl (k_6, 14032, .inl g_112))]) [3, 4, 5, 6] (by decide) rfl
  have hKc := hK.sub (tys' := [(k_2, .int), (k_4, .int), (k_6, .int)]) [3, 4, 5] rfl
  have hFc := va_free (wc := [(h0, .inr (1, [.ref q_1, .ref q_3, .ref q_5, .ref q_7, .ref q_9, .ref q_11, .int 0, .int 0])), (q_1, .inl (k_2, 14032, .inl g_110)), (q_3, .inl (k_4, 14032, .inl g_111)), (q_5, .inl (k_6, 14032, .inl g_112))]) hD hS hA [3, 4, 5, 6] rfl
  refine va_callv (va_runV (As := [.int 13, .int 2, .int 1, .int 7]) (rest := []) ⟨hx, hb, hml, hown, hts⟩ (c_X1_fix l dC dI h0 q_1 q_3 q_5 k_2 k_4 k_6 q_7 q_9 q_11 g_110 g_111 g_112 0 0 13 2 1 7 H.size (by decide)) (cwV 4 hts gX1_init_X1_fix rfl rfl rfl (by decide +kernel) ⟨Nat.le_of_ble_eq_true rfl, Nat.le_of_ble_eq_true rfl⟩) ⟨fun a U g mk q => by obtain ⟨q0, q1, qP, qK, qD⟩ := q; exact ⟨q0, q1, qP, va_K.moved (u := U) (U := U.calling g mk a) (Vm.Alike.refl U.vm) qK, qD⟩, va_recv hKc hPc (ci := 1) (q0 := 0) rfl rfl, fun U hU hW => ⟨rfl, by rw [hU], by rw [hU]; exact hPc, va_K.moved hW.alike hKc, hDc.weaken (fun _ _ _ _ => trivial)⟩⟩ rfl rfl hl.1 rfl (lv_room (Nat.le_of_ble_eq_true rfl)) dX1_init_125 ⟨Nat.le_of_ble_eq_true rfl, Nat.le_of_ble_eq_true rfl⟩) hS (fun q _ h => hFc q h) hFc (fun u t H1 locs ht hvm hw hB hz1 hk1 hS => ?_)
  obtain ⟨hP1, hK1, hD1⟩ := hB
  rw [ht] at hP1
  have hK1 := va_K.moved hvm.symm hK1
  obtain ⟨hP, hD⟩ := va_join (wr := [(q_7, .inl (k_8, 14032, .inl (fun _ => 0))), (q_9, .inl (k_10, 14032, .inl (fun _ => 0))), (q_11, .inl (k_12, 28064, .inl (fun _ => 0)))]) (w1 := [(h0, .inr (1, [.ref q_1, .ref q_3, .ref q_5, .ref q_7, .ref q_9, .ref q_11, .int 0, .int 0])), (q_1, .inl (k_2, 14032, .inl (upd g_110 13 2))), (q_3, .inl (k_4, 14032, .inl (upd g_111 13 1))), (q_5, .inl (k_6, 14032, .inl (upd g_112 13 7)))]) hP hD [3, 4, 5, 6] [0, 1, 2] rfl rfl (by decide) (by decide) hk1 hFc hP1 hD1
  have hK := (hK.sub (tys' := [(k_8, .int), (k_10, .int), (k_12, .int)]) [0, 1, 2] rfl).app hK1
  generalize H1 = H at hP hS ⊢
  obtain ⟨g_115, eg_115⟩ : ∃ y : Nat → Int32, y = upd g_110 13 2 := ⟨_, rfl⟩
  obtain ⟨g_116, eg_116⟩ : ∃ y : Nat → Int32, y = upd g_111 13 1 := ⟨_, rfl⟩
  obtain ⟨g_117, eg_117⟩ : ∃ y : Nat → Int32, y = upd g_112 13 7 := ⟨_, rfl⟩
  have hP : va_P (dC, dI) vwCl [(q_7, .inl (k_8, 14032, .inl (fun _ => 0))), (q_9, .inl (k_10, 14032, .inl (fun _ => 0))), (q_11, .inl (k_12, 28064, .inl (fun _ => 0))), (h0, .inr (1, [.ref q_1, .ref q_3, .ref q_5, .ref q_7, .ref q_9, .ref q_11, .int 0, .int 0])), (q_1, .inl (k_2, 14032, .inl g_115)), (q_3, .inl (k_4, 14032, .inl g_116)), (q_5, .inl (k_6, 14032, .inl g_117))] H := by rw [eg_115, eg_116, eg_117]; exact hP
  have hD : va_D A [(q_7, .inl (k_8, 14032, .inl (fun _ => 0))), (q_9, .inl (k_10, 14032, .inl (fun _ => 0))), (q_11, .inl (k_12, 28064, .inl (fun _ => 0))), (h0, .inr (1, [.ref q_1, .ref q_3, .ref q_5, .ref q_7, .ref q_9, .ref q_11, .int 0, .int 0])), (q_1, .inl (k_2, 14032, .inl g_115)), (q_3, .inl (k_4, 14032, .inl g_116)), (q_5, .inl (k_6, 14032, .inl g_117))] := by rw [eg_115, eg_116, eg_117]; exact hD
  have hK : va_K (dC, dI) vwCl [(k_8, .int), (k_10, .int), (k_12, .int), (k_2, .int), (k_4, .int), (k_6, .int)] s := hK
  refine W.widen (k := 6) (n := 98224) (Nat.le_of_ble_eq_true rfl) (Nat.le_of_ble_eq_true rfl) ?_
  refine lv_aload_n hx hb dX1_init_128 rfl (lv_at hl 2 rfl) ?_
  refine lv_bipush (v := 14) hx hb dX1_init_129 (by decide) ?_
  refine lv_iload_n hx hb dX1_init_131 rfl (lv_at hl 1 rfl) ?_
  refine lv_iadd hx hb dX1_init_132 ?_
  refine W.eq (g2 := F0 m 133 ls [.int 17, .ref h0]) (by rfl) ?_
  refine lv_iconst (v := 2) hx hb dX1_init_133 (by decide) ?_
  refine lv_iconst (v := 1) hx hb dX1_init_134 (by decide) ?_
  refine lv_iload_n hx hb dX1_init_135 rfl (lv_at hl 0 rfl) ?_
  refine lv_iconst (v := 1) hx hb dX1_init_136 (by decide) ?_
  refine lv_iadd hx hb dX1_init_137 ?_
  refine W.eq (g2 := F0 m 138 ls [.int 8, .int 1, .int 2, .int 17, .ref h0]) (by rfl) ?_
  have hPc := hP.sub (ws' := [(h0, .inr (1, [.ref q_1, .ref q_3, .ref q_5, .ref q_7, .ref q_9, .ref q_11, .int 0, .int 0])), (q_1, .inl (k_2, 14032, .inl g_115)), (q_3, .inl (k_4, 14032, .inl g_116)), (q_5, .inl (k_6, 14032, .inl g_117))]) [3, 4, 5, 6] rfl
  have hDc := hD.sub (ws' := [(h0, .inr (1, [.ref q_1, .ref q_3, .ref q_5, .ref q_7, .ref q_9, .ref q_11, .int 0, .int 0])), (q_1, .inl (k_2, 14032, .inl g_115)), (q_3, .inl (k_4, 14032, .inl g_116)), (q_5, .inl (k_6, 14032, .inl g_117))]) [3, 4, 5, 6] (by decide) rfl
  have hKc := hK.sub (tys' := [(k_2, .int), (k_4, .int), (k_6, .int)]) [3, 4, 5] rfl
  have hFc := va_free (wc := [(h0, .inr (1, [.ref q_1, .ref q_3, .ref q_5, .ref q_7, .ref q_9, .ref q_11, .int 0, .int 0])), (q_1, .inl (k_2, 14032, .inl g_115)), (q_3, .inl (k_4, 14032, .inl g_116)), (q_5, .inl (k_6, 14032, .inl g_117))]) hD hS hA [3, 4, 5, 6] rfl
  refine va_callv (va_runV (As := [.int 17, .int 2, .int 1, .int 8]) (rest := []) ⟨hx, hb, hml, hown, hts⟩ (c_X1_fix l dC dI h0 q_1 q_3 q_5 k_2 k_4 k_6 q_7 q_9 q_11 g_115 g_116 g_117 0 0 17 2 1 8 H.size (by decide)) (cwV 4 hts gX1_init_X1_fix rfl rfl rfl (by decide +kernel) ⟨Nat.le_of_ble_eq_true rfl, Nat.le_of_ble_eq_true rfl⟩) ⟨fun a U g mk q => by obtain ⟨q0, q1, qP, qK, qD⟩ := q; exact ⟨q0, q1, qP, va_K.moved (u := U) (U := U.calling g mk a) (Vm.Alike.refl U.vm) qK, qD⟩, va_recv hKc hPc (ci := 1) (q0 := 0) rfl rfl, fun U hU hW => ⟨rfl, by rw [hU], by rw [hU]; exact hPc, va_K.moved hW.alike hKc, hDc.weaken (fun _ _ _ _ => trivial)⟩⟩ rfl rfl hl.1 rfl (lv_room (Nat.le_of_ble_eq_true rfl)) dX1_init_138 ⟨Nat.le_of_ble_eq_true rfl, Nat.le_of_ble_eq_true rfl⟩) hS (fun q _ h => hFc q h) hFc (fun u t H1 locs ht hvm hw hB hz1 hk1 hS => ?_)
  obtain ⟨hP1, hK1, hD1⟩ := hB
  rw [ht] at hP1
  have hK1 := va_K.moved hvm.symm hK1
  obtain ⟨hP, hD⟩ := va_join (wr := [(q_7, .inl (k_8, 14032, .inl (fun _ => 0))), (q_9, .inl (k_10, 14032, .inl (fun _ => 0))), (q_11, .inl (k_12, 28064, .inl (fun _ => 0)))]) (w1 := [(h0, .inr (1, [.ref q_1, .ref q_3, .ref q_5, .ref q_7, .ref q_9, .ref q_11, .int 0, .int 0])), (q_1, .inl (k_2, 14032, .inl (upd g_115 17 2))), (q_3, .inl (k_4, 14032, .inl (upd g_116 17 1))), (q_5, .inl (k_6, 14032, .inl (upd g_117 17 8)))]) hP hD [3, 4, 5, 6] [0, 1, 2] rfl rfl (by decide) (by decide) hk1 hFc hP1 hD1
  have hK := (hK.sub (tys' := [(k_8, .int), (k_10, .int), (k_12, .int)]) [0, 1, 2] rfl).app hK1
  generalize H1 = H at hP hS ⊢
  obtain ⟨g_119, eg_119⟩ : ∃ y : Nat → Int32, y = upd g_115 17 2 := ⟨_, rfl⟩
  obtain ⟨g_120, eg_120⟩ : ∃ y : Nat → Int32, y = upd g_116 17 1 := ⟨_, rfl⟩
  obtain ⟨g_121, eg_121⟩ : ∃ y : Nat → Int32, y = upd g_117 17 8 := ⟨_, rfl⟩
  have hP : va_P (dC, dI) vwCl [(q_7, .inl (k_8, 14032, .inl (fun _ => 0))), (q_9, .inl (k_10, 14032, .inl (fun _ => 0))), (q_11, .inl (k_12, 28064, .inl (fun _ => 0))), (h0, .inr (1, [.ref q_1, .ref q_3, .ref q_5, .ref q_7, .ref q_9, .ref q_11, .int 0, .int 0])), (q_1, .inl (k_2, 14032, .inl g_119)), (q_3, .inl (k_4, 14032, .inl g_120)), (q_5, .inl (k_6, 14032, .inl g_121))] H := by rw [eg_119, eg_120, eg_121]; exact hP
  have hD : va_D A [(q_7, .inl (k_8, 14032, .inl (fun _ => 0))), (q_9, .inl (k_10, 14032, .inl (fun _ => 0))), (q_11, .inl (k_12, 28064, .inl (fun _ => 0))), (h0, .inr (1, [.ref q_1, .ref q_3, .ref q_5, .ref q_7, .ref q_9, .ref q_11, .int 0, .int 0])), (q_1, .inl (k_2, 14032, .inl g_119)), (q_3, .inl (k_4, 14032, .inl g_120)), (q_5, .inl (k_6, 14032, .inl g_121))] := by rw [eg_119, eg_120, eg_121]; exact hD
  have hK : va_K (dC, dI) vwCl [(k_8, .int), (k_10, .int), (k_12, .int), (k_2, .int), (k_4, .int), (k_6, .int)] s := hK
  refine W.widen (k := 6) (n := 98224) (Nat.le_of_ble_eq_true rfl) (Nat.le_of_ble_eq_true rfl) ?_
  refine lv_aload_n hx hb dX1_init_141 rfl (lv_at hl 2 rfl) ?_
  refine lv_bipush (v := 18) hx hb dX1_init_142 (by decide) ?_
  refine lv_iload_n hx hb dX1_init_144 rfl (lv_at hl 1 rfl) ?_
  refine lv_iadd hx hb dX1_init_145 ?_
  refine W.eq (g2 := F0 m 146 ls [.int 21, .ref h0]) (by rfl) ?_
  refine lv_iconst (v := 2) hx hb dX1_init_146 (by decide) ?_
  refine lv_iload_n hx hb dX1_init_147 rfl (lv_at hl 0 rfl) ?_
  refine lv_iload_n hx hb dX1_init_148 rfl (lv_at hl 0 rfl) ?_
  refine lv_iconst (v := 1) hx hb dX1_init_149 (by decide) ?_
  refine lv_iadd hx hb dX1_init_150 ?_
  refine W.eq (g2 := F0 m 151 ls [.int 8, .int 7, .int 2, .int 21, .ref h0]) (by rfl) ?_
  have hPc := hP.sub (ws' := [(h0, .inr (1, [.ref q_1, .ref q_3, .ref q_5, .ref q_7, .ref q_9, .ref q_11, .int 0, .int 0])), (q_1, .inl (k_2, 14032, .inl g_119)), (q_3, .inl (k_4, 14032, .inl g_120)), (q_5, .inl (k_6, 14032, .inl g_121))]) [3, 4, 5, 6] rfl
  have hDc := hD.sub (ws' := [(h0, .inr (1, [.ref q_1, .ref q_3, .ref q_5, .ref q_7, .ref q_9, .ref q_11, .int 0, .int 0])), (q_1, .inl (k_2, 14032, .inl g_119)), (q_3, .inl (k_4, 14032, .inl g_120)), (q_5, .inl (k_6, 14032, .inl g_121))]) [3, 4, 5, 6] (by decide) rfl
  have hKc := hK.sub (tys' := [(k_2, .int), (k_4, .int), (k_6, .int)]) [3, 4, 5] rfl
  have hFc := va_free (wc := [(h0, .inr (1, [.ref q_1, .ref q_3, .ref q_5, .ref q_7, .ref q_9, .ref q_11, .int 0, .int 0])), (q_1, .inl (k_2, 14032, .inl g_119)), (q_3, .inl (k_4, 14032, .inl g_120)), (q_5, .inl (k_6, 14032, .inl g_121))]) hD hS hA [3, 4, 5, 6] rfl
  refine va_callv (va_runV (As := [.int 21, .int 2, .int 7, .int 8]) (rest := []) ⟨hx, hb, hml, hown, hts⟩ (c_X1_fix l dC dI h0 q_1 q_3 q_5 k_2 k_4 k_6 q_7 q_9 q_11 g_119 g_120 g_121 0 0 21 2 7 8 H.size (by decide)) (cwV 4 hts gX1_init_X1_fix rfl rfl rfl (by decide +kernel) ⟨Nat.le_of_ble_eq_true rfl, Nat.le_of_ble_eq_true rfl⟩) ⟨fun a U g mk q => by obtain ⟨q0, q1, qP, qK, qD⟩ := q; exact ⟨q0, q1, qP, va_K.moved (u := U) (U := U.calling g mk a) (Vm.Alike.refl U.vm) qK, qD⟩, va_recv hKc hPc (ci := 1) (q0 := 0) rfl rfl, fun U hU hW => ⟨rfl, by rw [hU], by rw [hU]; exact hPc, va_K.moved hW.alike hKc, hDc.weaken (fun _ _ _ _ => trivial)⟩⟩ rfl rfl hl.1 rfl (lv_room (Nat.le_of_ble_eq_true rfl)) dX1_init_151 ⟨Nat.le_of_ble_eq_true rfl, Nat.le_of_ble_eq_true rfl⟩) hS (fun q _ h => hFc q h) hFc (fun u t H1 locs ht hvm hw hB hz1 hk1 hS => ?_)
  obtain ⟨hP1, hK1, hD1⟩ := hB
  rw [ht] at hP1
  have hK1 := va_K.moved hvm.symm hK1
  obtain ⟨hP, hD⟩ := va_join (wr := [(q_7, .inl (k_8, 14032, .inl (fun _ => 0))), (q_9, .inl (k_10, 14032, .inl (fun _ => 0))), (q_11, .inl (k_12, 28064, .inl (fun _ => 0)))]) (w1 := [(h0, .inr (1, [.ref q_1, .ref q_3, .ref q_5, .ref q_7, .ref q_9, .ref q_11, .int 0, .int 0])), (q_1, .inl (k_2, 14032, .inl (upd g_119 21 2))), (q_3, .inl (k_4, 14032, .inl (upd g_120 21 7))), (q_5, .inl (k_6, 14032, .inl (upd g_121 21 8)))]) hP hD [3, 4, 5, 6] [0, 1, 2] rfl rfl (by decide) (by decide) hk1 hFc hP1 hD1
  have hK := (hK.sub (tys' := [(k_8, .int), (k_10, .int), (k_12, .int)]) [0, 1, 2] rfl).app hK1
  generalize H1 = H at hP hS ⊢
  obtain ⟨g_123, eg_123⟩ : ∃ y : Nat → Int32, y = upd g_119 21 2 := ⟨_, rfl⟩
  obtain ⟨g_124, eg_124⟩ : ∃ y : Nat → Int32, y = upd g_120 21 7 := ⟨_, rfl⟩
  obtain ⟨g_125, eg_125⟩ : ∃ y : Nat → Int32, y = upd g_121 21 8 := ⟨_, rfl⟩
  have hP : va_P (dC, dI) vwCl [(q_7, .inl (k_8, 14032, .inl (fun _ => 0))), (q_9, .inl (k_10, 14032, .inl (fun _ => 0))), (q_11, .inl (k_12, 28064, .inl (fun _ => 0))), (h0, .inr (1, [.ref q_1, .ref q_3, .ref q_5, .ref q_7, .ref q_9, .ref q_11, .int 0, .int 0])), (q_1, .inl (k_2, 14032, .inl g_123)), (q_3, .inl (k_4, 14032, .inl g_124)), (q_5, .inl (k_6, 14032, .inl g_125))] H := by rw [eg_123, eg_124, eg_125]; exact hP
  have hD : va_D A [(q_7, .inl (k_8, 14032, .inl (fun _ => 0))), (q_9, .inl (k_10, 14032, .inl (fun _ => 0))), (q_11, .inl (k_12, 28064, .inl (fun _ => 0))), (h0, .inr (1, [.ref q_1, .ref q_3, .ref q_5, .ref q_7, .ref q_9, .ref q_11, .int 0, .int 0])), (q_1, .inl (k_2, 14032, .inl g_123)), (q_3, .inl (k_4, 14032, .inl g_124)), (q_5, .inl (k_6, 14032, .inl g_125))] := by rw [eg_123, eg_124, eg_125]; exact hD
  have hK : va_K (dC, dI) vwCl [(k_8, .int), (k_10, .int), (k_12, .int), (k_2, .int), (k_4, .int), (k_6, .int)] s := hK
  refine W.widen (k := 6) (n := 98224) (Nat.le_of_ble_eq_true rfl) (Nat.le_of_ble_eq_true rfl) ?_
  refine lv_aload_n hx hb dX1_init_154 rfl (lv_at hl 2 rfl) ?_
  refine lv_bipush (v := 22) hx hb dX1_init_155 (by decide) ?_
  refine lv_iload_n hx hb dX1_init_157 rfl (lv_at hl 1 rfl) ?_
  refine lv_iadd hx hb dX1_init_158 ?_
  refine W.eq (g2 := F0 m 159 ls [.int 25, .ref h0]) (by rfl) ?_
  refine lv_iconst (v := 2) hx hb dX1_init_159 (by decide) ?_
  refine lv_iconst (v := 4) hx hb dX1_init_160 (by decide) ?_
  refine lv_iload_n hx hb dX1_init_161 rfl (lv_at hl 0 rfl) ?_
  have hPc := hP.sub (ws' := [(h0, .inr (1, [.ref q_1, .ref q_3, .ref q_5, .ref q_7, .ref q_9, .ref q_11, .int 0, .int 0])), (q_1, .inl (k_2, 14032, .inl g_123)), (q_3, .inl (k_4, 14032, .inl g_124)), (q_5, .inl (k_6, 14032, .inl g_125))]) [3, 4, 5, 6] rfl
  have hDc := hD.sub (ws' := [(h0, .inr (1, [.ref q_1, .ref q_3, .ref q_5, .ref q_7, .ref q_9, .ref q_11, .int 0, .int 0])), (q_1, .inl (k_2, 14032, .inl g_123)), (q_3, .inl (k_4, 14032, .inl g_124)), (q_5, .inl (k_6, 14032, .inl g_125))]) [3, 4, 5, 6] (by decide) rfl
  have hKc := hK.sub (tys' := [(k_2, .int), (k_4, .int), (k_6, .int)]) [3, 4, 5] rfl
  have hFc := va_free (wc := [(h0, .inr (1, [.ref q_1, .ref q_3, .ref q_5, .ref q_7, .ref q_9, .ref q_11, .int 0, .int 0])), (q_1, .inl (k_2, 14032, .inl g_123)), (q_3, .inl (k_4, 14032, .inl g_124)), (q_5, .inl (k_6, 14032, .inl g_125))]) hD hS hA [3, 4, 5, 6] rfl
  refine va_callv (va_runV (As := [.int 25, .int 2, .int 4, .int 7]) (rest := []) ⟨hx, hb, hml, hown, hts⟩ (c_X1_fix l dC dI h0 q_1 q_3 q_5 k_2 k_4 k_6 q_7 q_9 q_11 g_123 g_124 g_125 0 0 25 2 4 7 H.size (by decide)) (cwV 4 hts gX1_init_X1_fix rfl rfl rfl (by decide +kernel) ⟨Nat.le_of_ble_eq_true rfl, Nat.le_of_ble_eq_true rfl⟩) ⟨fun a U g mk q => by obtain ⟨q0, q1, qP, qK, qD⟩ := q; exact ⟨q0, q1, qP, va_K.moved (u := U) (U := U.calling g mk a) (Vm.Alike.refl U.vm) qK, qD⟩, va_recv hKc hPc (ci := 1) (q0 := 0) rfl rfl, fun U hU hW => ⟨rfl, by rw [hU], by rw [hU]; exact hPc, va_K.moved hW.alike hKc, hDc.weaken (fun _ _ _ _ => trivial)⟩⟩ rfl rfl hl.1 rfl (lv_room (Nat.le_of_ble_eq_true rfl)) dX1_init_162 ⟨Nat.le_of_ble_eq_true rfl, Nat.le_of_ble_eq_true rfl⟩) hS (fun q _ h => hFc q h) hFc (fun u t H1 locs ht hvm hw hB hz1 hk1 hS => ?_)
  obtain ⟨hP1, hK1, hD1⟩ := hB
  rw [ht] at hP1
  have hK1 := va_K.moved hvm.symm hK1
  obtain ⟨hP, hD⟩ := va_join (wr := [(q_7, .inl (k_8, 14032, .inl (fun _ => 0))), (q_9, .inl (k_10, 14032, .inl (fun _ => 0))), (q_11, .inl (k_12, 28064, .inl (fun _ => 0)))]) (w1 := [(h0, .inr (1, [.ref q_1, .ref q_3, .ref q_5, .ref q_7, .ref q_9, .ref q_11, .int 0, .int 0])), (q_1, .inl (k_2, 14032, .inl (upd g_123 25 2))), (q_3, .inl (k_4, 14032, .inl (upd g_124 25 4))), (q_5, .inl (k_6, 14032, .inl (upd g_125 25 7)))]) hP hD [3, 4, 5, 6] [0, 1, 2] rfl rfl (by decide) (by decide) hk1 hFc hP1 hD1
  have hK := (hK.sub (tys' := [(k_8, .int), (k_10, .int), (k_12, .int)]) [0, 1, 2] rfl).app hK1
  generalize H1 = H at hP hS ⊢
  obtain ⟨g_127, eg_127⟩ : ∃ y : Nat → Int32, y = upd g_123 25 2 := ⟨_, rfl⟩
  obtain ⟨g_128, eg_128⟩ : ∃ y : Nat → Int32, y = upd g_124 25 4 := ⟨_, rfl⟩
  obtain ⟨g_129, eg_129⟩ : ∃ y : Nat → Int32, y = upd g_125 25 7 := ⟨_, rfl⟩
  have hP : va_P (dC, dI) vwCl [(q_7, .inl (k_8, 14032, .inl (fun _ => 0))), (q_9, .inl (k_10, 14032, .inl (fun _ => 0))), (q_11, .inl (k_12, 28064, .inl (fun _ => 0))), (h0, .inr (1, [.ref q_1, .ref q_3, .ref q_5, .ref q_7, .ref q_9, .ref q_11, .int 0, .int 0])), (q_1, .inl (k_2, 14032, .inl g_127)), (q_3, .inl (k_4, 14032, .inl g_128)), (q_5, .inl (k_6, 14032, .inl g_129))] H := by rw [eg_127, eg_128, eg_129]; exact hP
  have hD : va_D A [(q_7, .inl (k_8, 14032, .inl (fun _ => 0))), (q_9, .inl (k_10, 14032, .inl (fun _ => 0))), (q_11, .inl (k_12, 28064, .inl (fun _ => 0))), (h0, .inr (1, [.ref q_1, .ref q_3, .ref q_5, .ref q_7, .ref q_9, .ref q_11, .int 0, .int 0])), (q_1, .inl (k_2, 14032, .inl g_127)), (q_3, .inl (k_4, 14032, .inl g_128)), (q_5, .inl (k_6, 14032, .inl g_129))] := by rw [eg_127, eg_128, eg_129]; exact hD
  have hK : va_K (dC, dI) vwCl [(k_8, .int), (k_10, .int), (k_12, .int), (k_2, .int), (k_4, .int), (k_6, .int)] s := hK
  refine W.widen (k := 6) (n := 98224) (Nat.le_of_ble_eq_true rfl) (Nat.le_of_ble_eq_true rfl) ?_
  refine lv_iinc (v := 4) (lv' := [(1, .int 4), (2, .int 7), (0, .ref h0)]) hx hb dX1_init_165 hl (k := 1) rfl (by decide) (by decide) rfl (fun ls hl => ?_)
  refine lv_goto (tgt := 108) hx hb dX1_init_168 (by decide) ?_
  refine lv_iload_n hx hb dX1_init_108 rfl (lv_at hl 0 rfl) ?_
  refine lv_iconst (v := 4) hx hb dX1_init_109 (by decide) ?_
  refine lv_icmp_ge (tgt := 171) hx hb dX1_init_110 (by decide) (fun cnd_130 => ?_) (fun cnd_130 => ?_)
  rotate_left
  · exact absurd (by decide) cnd_130
  have eq_131 : g_127 = fdK := by first | (rw [eg_127, eg_123, eg_119, eg_115, eg_110, eg_106, eg_102, eg_98, eg_93, eg_89, eg_85, eg_81, eg_76, eg_72, eg_68, eg_64, eg_58, eg_53, eg_48, eg_43, eg_38, eg_33, eg_28, eg_23, eg_18, eg_14] <;> rfl) | (rw [eg_127, eg_123, eg_119, eg_115, eg_110, eg_106, eg_102, eg_98, eg_93, eg_89, eg_85, eg_81, eg_76, eg_72, eg_68, eg_64, eg_58, eg_53, eg_48, eg_43, eg_38, eg_33, eg_28, eg_23, eg_18, eg_14]; simp only [nI_clamp, nI_1]; done) | (simp [eg_127, eg_123, eg_119, eg_115, eg_110, eg_106, eg_102, eg_98, eg_93, eg_89, eg_85, eg_81, eg_76, eg_72, eg_68, eg_64, eg_58, eg_53, eg_48, eg_43, eg_38, eg_33, eg_28, eg_23, eg_18, eg_14]; done)
  have eq_132 : g_128 = fdL := by first | (rw [eg_128, eg_124, eg_120, eg_116, eg_111, eg_107, eg_103, eg_99, eg_94, eg_90, eg_86, eg_82, eg_77, eg_73, eg_69, eg_65, eg_59, eg_54, eg_49, eg_44, eg_39, eg_34, eg_29, eg_24, eg_19, eg_15] <;> rfl) | (rw [eg_128, eg_124, eg_120, eg_116, eg_111, eg_107, eg_103, eg_99, eg_94, eg_90, eg_86, eg_82, eg_77, eg_73, eg_69, eg_65, eg_59, eg_54, eg_49, eg_44, eg_39, eg_34, eg_29, eg_24, eg_19, eg_15]; simp only [nI_clamp, nI_1]; done) | (simp [eg_128, eg_124, eg_120, eg_116, eg_111, eg_107, eg_103, eg_99, eg_94, eg_90, eg_86, eg_82, eg_77, eg_73, eg_69, eg_65, eg_59, eg_54, eg_49, eg_44, eg_39, eg_34, eg_29, eg_24, eg_19, eg_15]; done)
  have eq_133 : g_129 = fdR := by first | (rw [eg_129, eg_125, eg_121, eg_117, eg_112, eg_108, eg_104, eg_100, eg_95, eg_91, eg_87, eg_83, eg_78, eg_74, eg_70, eg_66, eg_60, eg_55, eg_50, eg_45, eg_40, eg_35, eg_30, eg_25, eg_20, eg_16] <;> rfl) | (rw [eg_129, eg_125, eg_121, eg_117, eg_112, eg_108, eg_104, eg_100, eg_95, eg_91, eg_87, eg_83, eg_78, eg_74, eg_70, eg_66, eg_60, eg_55, eg_50, eg_45, eg_40, eg_35, eg_30, eg_25, eg_20, eg_16]; simp only [nI_clamp, nI_1]; done) | (simp [eg_129, eg_125, eg_121, eg_117, eg_112, eg_108, eg_104, eg_100, eg_95, eg_91, eg_87, eg_83, eg_78, eg_74, eg_70, eg_66, eg_60, eg_55, eg_50, eg_45, eg_40, eg_35, eg_30, eg_25, eg_20, eg_16]; done)
  have hP9 : va_P (dC, dI) vwCl [(h0, .inr (1, [.ref q_1, .ref q_3, .ref q_5, .ref q_7, .ref q_9, .ref q_11, .int 0, .int 0])), (q_1, .inl (k_2, 14032, .inl fdK)), (q_3, .inl (k_4, 14032, .inl fdL)), (q_5, .inl (k_6, 14032, .inl fdR)), (q_7, .inl (k_8, 14032, .inl (fun _ => 0))), (q_9, .inl (k_10, 14032, .inl (fun _ => 0))), (q_11, .inl (k_12, 28064, .inl (fun _ => 0)))] H := by have h := hP.sub (ws' := [(h0, .inr (1, [.ref q_1, .ref q_3, .ref q_5, .ref q_7, .ref q_9, .ref q_11, .int 0, .int 0])), (q_1, .inl (k_2, 14032, .inl g_127)), (q_3, .inl (k_4, 14032, .inl g_128)), (q_5, .inl (k_6, 14032, .inl g_129)), (q_7, .inl (k_8, 14032, .inl (fun _ => 0))), (q_9, .inl (k_10, 14032, .inl (fun _ => 0))), (q_11, .inl (k_12, 28064, .inl (fun _ => 0)))]) [3, 4, 5, 6, 0, 1, 2] rfl; rw [eq_131, eq_132, eq_133] at h; exact h
  have hD9 : va_D A [(h0, .inr (1, [.ref q_1, .ref q_3, .ref q_5, .ref q_7, .ref q_9, .ref q_11, .int 0, .int 0])), (q_1, .inl (k_2, 14032, .inl fdK)), (q_3, .inl (k_4, 14032, .inl fdL)), (q_5, .inl (k_6, 14032, .inl fdR)), (q_7, .inl (k_8, 14032, .inl (fun _ => 0))), (q_9, .inl (k_10, 14032, .inl (fun _ => 0))), (q_11, .inl (k_12, 28064, .inl (fun _ => 0)))] := by have h := hD.sub (ws' := [(h0, .inr (1, [.ref q_1, .ref q_3, .ref q_5, .ref q_7, .ref q_9, .ref q_11, .int 0, .int 0])), (q_1, .inl (k_2, 14032, .inl g_127)), (q_3, .inl (k_4, 14032, .inl g_128)), (q_5, .inl (k_6, 14032, .inl g_129)), (q_7, .inl (k_8, 14032, .inl (fun _ => 0))), (q_9, .inl (k_10, 14032, .inl (fun _ => 0))), (q_11, .inl (k_12, 28064, .inl (fun _ => 0)))]) [3, 4, 5, 6, 0, 1, 2] (by decide) rfl; rw [eq_131, eq_132, eq_133] at h; exact h
  have hK9 := hK.sub (tys' := [(k_2, .int), (k_4, .int), (k_6, .int), (k_8, .int), (k_10, .int), (k_12, .int)]) [3, 4, 5, 0, 1, 2] rfl
  refine W.widen (k := 6) (n := 98224) (Nat.le_of_ble_eq_true rfl) (Nat.le_of_ble_eq_true rfl) ?_
  exact W.vret hx hb hr (fun t ht hW => ⟨⟨(), rfl, trivial, q_1, k_2, q_3, k_4, q_5, k_6, q_7, k_8, q_9, k_10, q_11, k_12, by rw [ht]; exact hP9, va_K.moved hW.alike hK9, hAe ▸ hD9⟩, hAe ▸ hS.F ht⟩) (fun q hq => hAe ▸ hS.2.2 q hq) dX1_init_171
