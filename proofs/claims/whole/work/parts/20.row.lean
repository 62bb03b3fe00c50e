def rowAt (f : Nat → Int32) (n : Nat) (i : Int32) : Int32 := if i < 0 then 0 else if nI n ≤ i then 0 else f i.toNatClampNeg &&& 255
set_option maxHeartbeats 4000000 in
set_option maxRecDepth 100000 in
theorem c_X8_clear (l : Launch) (dC : Nat → ClassId) (dI : Nat → Nat → Nat) (h0 a : Nat) (sv ov bv : Int32) (sz : Nat) : Met l yX8_clear wsX8_clear ({ frames := 0, cells := 0, slots := 0, locals := 0 }) (va_Pc [.ref h0] (fun U => U.heap.size = sz ∧ va_P (dC, dI) vwCl [(h0, .inr (8, [.ref a, .int sv, .int ov, .int bv]))] U.heap ∧ va_K (dC, dI) vwCl [] U ∧ va_D (fun _ => True) [(h0, .inr (8, [.ref a, .int sv, .int ov, .int bv]))])) (va_Qv (fun (_ : Unit) => True) (fun (_ : Unit) (t : State) => va_P (dC, dI) vwCl [(h0, .inr (8, [.ref a, .int 0, .int 0, .int 0]))] t.heap ∧ va_K (dC, dI) vwCl [] t ∧ va_D (va_A [(h0, .inr (8, [.ref a, .int sv, .int ov, .int bv]))] sz) [(h0, .inr (8, [.ref a, .int 0, .int 0, .int 0]))]) (va_A [(h0, .inr (8, [.ref a, .int sv, .int ov, .int bv]))] sz)) 0 0 (va_A [(h0, .inr (8, [.ref a, .int sv, .int ov, .int bv]))] sz) := by
  refine Met.ofW (cc := cX8_clear) (maxL := 1) (ret := none) (by decide) rfl ?_
  intro p e s m args below meth c s₁ B hml hv
  obtain ⟨rfl, hsz, hP, hK, hD0⟩ := hv
  have hx := B.exec
  have hb := B.bytes
  have hr := B.returns
  have hts := atoms_spec (ws := wsX8_clear) B.pre
  have hown : s.vm.findClass RX8 = some m.cls := findClass_of_methodNamed B.named
  have hlocks := B.notSynchronized
  subst hsz
  have hD := hD0.self (sz := s.heap.size)
  generalize hAe : va_A [(h0, .inr (8, [.ref a, .int sv, .int ov, .int bv]))] s.heap.size = A at hD ⊢
  have hA : ∀ q : Nat, s.heap.size ≤ q → A q := fun q h => by rw [← hAe]; exact Or.inr h
  have hS : va_S A s.heap s.heap [] := va_S.rf
  have hP : va_P (dC, dI) vwCl [(h0, .inr (8, [.ref a, .int sv, .int ov, .int bv]))] s.heap := hP
  have hD : va_D A [(h0, .inr (8, [.ref a, .int sv, .int ov, .int bv]))] := hD
  have hl := lv_entry ([.ref h0]) (n := 1) (Nat.le_of_ble_eq_true rfl)
  rw [lg_entry_eq]
  generalize (lg_sl ([.ref h0]) ++ List.replicate (1 - (lg_sl ([.ref h0])).length) Slot.unset).toArray = ls at hl ⊢
  have hl : lv_has ls 1 [(0, .ref h0)] := hl
  have hiX8 : ∀ w ∈ wsX80, w ∈ wsX8_clear := by decide +kernel
  refine lv_aload_n hx hb dX8_clear_0 rfl (lv_at hl 0 rfl) ?_
  refine lv_iconst (v := 0) hx hb dX8_clear_1 (by decide) ?_
  refine va_put (D := (dC, dI)) (ci := 8) (v := .int 0) (ty := .int) (C := RX8) (T := TX8) (N := 4) hx hb hts hiX8 tyX8 tyX8_ok nmX8 hown hK hP hD hS 0 rfl rfl 1 (by decide) (hts (.fieldLink RX8 15 "ComboHouse$Row" "size" "I") (by decide +kernel)) (fun _ h9 => h9) rfl (by decide +kernel) rfl rfl (Nat.le_of_ble_eq_true rfl) dX8_clear_2 (fun H locs hP hD hS => ?_)
  have hP : va_P (dC, dI) vwCl [(h0, .inr (8, [.ref a, .int 0, .int ov, .int bv]))] H := hP
  have hD : va_D A [(h0, .inr (8, [.ref a, .int 0, .int ov, .int bv]))] := hD
  refine lv_aload_n hx hb dX8_clear_5 rfl (lv_at hl 0 rfl) ?_
  refine lv_iconst (v := 0) hx hb dX8_clear_6 (by decide) ?_
  refine va_put (D := (dC, dI)) (ci := 8) (v := .int 0) (ty := .int) (C := RX8) (T := TX8) (N := 4) hx hb hts hiX8 tyX8 tyX8_ok nmX8 hown hK hP hD hS 0 rfl rfl 3 (by decide) (hts (.fieldLink RX8 19 "ComboHouse$Row" "bits" "I") (by decide +kernel)) (fun _ h9 => h9) rfl (by decide +kernel) rfl rfl (Nat.le_of_ble_eq_true rfl) dX8_clear_7 (fun H locs hP hD hS => ?_)
  have hP : va_P (dC, dI) vwCl [(h0, .inr (8, [.ref a, .int 0, .int ov, .int 0]))] H := hP
  have hD : va_D A [(h0, .inr (8, [.ref a, .int 0, .int ov, .int 0]))] := hD
  refine lv_aload_n hx hb dX8_clear_10 rfl (lv_at hl 0 rfl) ?_
  refine lv_iconst (v := 0) hx hb dX8_clear_11 (by decide) ?_
  refine va_put (D := (dC, dI)) (ci := 8) (v := .int 0) (ty := .boolean) (C := RX8) (T := TX8) (N := 4) hx hb hts hiX8 tyX8 tyX8_ok nmX8 hown hK hP hD hS 0 rfl rfl 2 (by decide) (hts (.fieldLink RX8 22 "ComboHouse$Row" "over" "Z") (by decide +kernel)) (fun _ h9 => h9) rfl (by decide +kernel) rfl rfl (Nat.le_of_ble_eq_true rfl) dX8_clear_12 (fun H locs hP hD hS => ?_)
  have hP : va_P (dC, dI) vwCl [(h0, .inr (8, [.ref a, .int 0, .int 0, .int 0]))] H := hP
  have hD : va_D A [(h0, .inr (8, [.ref a, .int 0, .int 0, .int 0]))] := hD
  have hP9 : va_P (dC, dI) vwCl [(h0, .inr (8, [.ref a, .int 0, .int 0, .int 0]))] H := by have h := hP.sub (ws' := [(h0, .inr (8, [.ref a, .int 0, .int 0, .int 0]))]) [0] rfl; exact h
  have hD9 : va_D A [(h0, .inr (8, [.ref a, .int 0, .int 0, .int 0]))] := by have h := hD.sub (ws' := [(h0, .inr (8, [.ref a, .int 0, .int 0, .int 0]))]) [0] (by decide) rfl; exact h
  have hK9 := hK.sub (tys' := []) [] rfl
  refine W.widen (k := 0) (n := 0) (Nat.le_of_ble_eq_true rfl) (Nat.le_of_ble_eq_true rfl) ?_
  exact W.vret hx hb hr (fun t ht hW => ⟨⟨(), rfl, trivial, by rw [ht]; exact hP9, va_K.moved hW.alike hK9, hAe ▸ hD9⟩, hAe ▸ hS.F ht⟩) (fun q hq => hAe ▸ hS.2.2 q hq) dX8_clear_15
set_option maxHeartbeats 4000000 in
set_option maxRecDepth 100000 in
theorem c_X8_at (l : Launch) (dC : Nat → ClassId) (dI : Nat → Nat → Nat) (h0 a : Nat) (k : ClassId) (f : Nat → Int32) (n : Nat) (ov bv p1 : Int32) (sz : Nat) (hn : n ≤ 8192) : Met l yX8_at wsX8_at ({ frames := 0, cells := 0, slots := 0, locals := 0 }) (va_Pc [.ref h0, .int p1] (fun U => U.heap.size = sz ∧ va_P (dC, dI) vwCl [(h0, .inr (8, [.ref a, .int (nI n), .int ov, .int bv])), (a, .inl (k, 8192, .inl f))] U.heap ∧ va_K (dC, dI) vwCl [(k, .byte)] U ∧ va_D (fun _ => True) [(h0, .inr (8, [.ref a, .int (nI n), .int ov, .int bv])), (a, .inl (k, 8192, .inl f))])) (va_Qi (fun (r u : Int32) => u = r) (fun (r : Int32) (t : State) => (r = rowAt f n p1) ∧ va_P (dC, dI) vwCl [(h0, .inr (8, [.ref a, .int (nI n), .int ov, .int bv])), (a, .inl (k, 8192, .inl f))] t.heap ∧ va_K (dC, dI) vwCl [(k, .byte)] t ∧ va_D (va_A [(h0, .inr (8, [.ref a, .int (nI n), .int ov, .int bv])), (a, .inl (k, 8192, .inl f))] sz) [(h0, .inr (8, [.ref a, .int (nI n), .int ov, .int bv])), (a, .inl (k, 8192, .inl f))]) (va_A [(h0, .inr (8, [.ref a, .int (nI n), .int ov, .int bv])), (a, .inl (k, 8192, .inl f))] sz)) 0 0 (va_A [(h0, .inr (8, [.ref a, .int (nI n), .int ov, .int bv])), (a, .inl (k, 8192, .inl f))] sz) := by
  refine Met.ofW (cc := cX8_at) (maxL := 2) (ret := (some .int)) (by decide) rfl ?_
  intro p e s m args below meth c s₁ B hml hv
  obtain ⟨rfl, hsz, hP, hK, hD0⟩ := hv
  have hx := B.exec
  have hb := B.bytes
  have hr := B.returns
  have hts := atoms_spec (ws := wsX8_at) B.pre
  have hown : s.vm.findClass RX8 = some m.cls := findClass_of_methodNamed B.named
  have hlocks := B.notSynchronized
  subst hsz
  have hD := hD0.self (sz := s.heap.size)
  generalize hAe : va_A [(h0, .inr (8, [.ref a, .int (nI n), .int ov, .int bv])), (a, .inl (k, 8192, .inl f))] s.heap.size = A at hD ⊢
  have hA : ∀ q : Nat, s.heap.size ≤ q → A q := fun q h => by rw [← hAe]; exact Or.inr h
  have hS : va_S A s.heap s.heap [] := va_S.rf
  have hP : va_P (dC, dI) vwCl [(h0, .inr (8, [.ref a, .int (nI n), .int ov, .int bv])), (a, .inl (k, 8192, .inl f))] s.heap := hP
  have hD : va_D A [(h0, .inr (8, [.ref a, .int (nI n), .int ov, .int bv])), (a, .inl (k, 8192, .inl f))] := hD
  have hl := lv_entry ([.ref h0, .int p1]) (n := 2) (Nat.le_of_ble_eq_true rfl)
  rw [lg_entry_eq]
  generalize (lg_sl ([.ref h0, .int p1]) ++ List.replicate (2 - (lg_sl ([.ref h0, .int p1])).length) Slot.unset).toArray = ls at hl ⊢
  have hl : lv_has ls 2 [(0, .ref h0), (1, .int p1)] := hl
  have hiX8 : ∀ w ∈ wsX80, w ∈ wsX8_at := by decide +kernel
  refine lv_iload_n hx hb dX8_at_0 rfl (lv_at hl 1 rfl) ?_
  refine lv_if_lt (tgt := 25) hx hb dX8_at_1 (by decide) (fun cnd_1 => ?_) (fun cnd_1 => ?_)
  · skip
    refine lv_iconst (v := 0) hx hb dX8_at_25 (by decide) ?_
    have hP9 : va_P (dC, dI) vwCl [(h0, .inr (8, [.ref a, .int (nI n), .int ov, .int bv])), (a, .inl (k, 8192, .inl f))] s.heap := by have h := hP.sub (ws' := [(h0, .inr (8, [.ref a, .int (nI n), .int ov, .int bv])), (a, .inl (k, 8192, .inl f))]) [0, 1] rfl; exact h
    have hD9 : va_D A [(h0, .inr (8, [.ref a, .int (nI n), .int ov, .int bv])), (a, .inl (k, 8192, .inl f))] := by have h := hD.sub (ws' := [(h0, .inr (8, [.ref a, .int (nI n), .int ov, .int bv])), (a, .inl (k, 8192, .inl f))]) [0, 1] (by decide) rfl; exact h
    have hK9 := hK.sub (tys' := [(k, .byte)]) [0] rfl
    refine W.widen (k := 0) (n := 0) (Nat.le_of_ble_eq_true rfl) (Nat.le_of_ble_eq_true rfl) ?_
    have er_2 : (0 : Int32) = rowAt f n p1 := by simp [rowAt, cnd_1]
    exact W.iret (v := 0) hx hb hr (fun t ht hW => ⟨⟨0, 0, rfl, rfl, er_2, by rw [ht]; exact hP9, va_K.moved hW.alike hK9, hAe ▸ hD9⟩, hAe ▸ hS.F ht⟩) (fun q hq => hAe ▸ hS.2.2 q hq) dX8_at_26
  · skip
    refine lv_iload_n hx hb dX8_at_4 rfl (lv_at hl 1 rfl) ?_
    refine lv_aload_n hx hb dX8_at_5 rfl (lv_at hl 0 rfl) ?_
    refine va_get (D := (dC, dI)) (ci := 8) (v := .int (nI n)) (C := RX8) (T := TX8) (N := 4) hx hb hts hiX8 hown hK hP 0 rfl rfl 1 (by decide) (hts (.fieldLink RX8 15 "ComboHouse$Row" "size" "I") (by decide +kernel)) (fun _ h9 => h9) rfl dX8_at_6 ?_
    refine lv_icmp_ge (tgt := 25) hx hb dX8_at_9 (by decide) (fun cnd_3 => ?_) (fun cnd_3 => ?_)
    · skip
      refine lv_iconst (v := 0) hx hb dX8_at_25 (by decide) ?_
      have hP9 : va_P (dC, dI) vwCl [(h0, .inr (8, [.ref a, .int (nI n), .int ov, .int bv])), (a, .inl (k, 8192, .inl f))] s.heap := by have h := hP.sub (ws' := [(h0, .inr (8, [.ref a, .int (nI n), .int ov, .int bv])), (a, .inl (k, 8192, .inl f))]) [0, 1] rfl; exact h
      have hD9 : va_D A [(h0, .inr (8, [.ref a, .int (nI n), .int ov, .int bv])), (a, .inl (k, 8192, .inl f))] := by have h := hD.sub (ws' := [(h0, .inr (8, [.ref a, .int (nI n), .int ov, .int bv])), (a, .inl (k, 8192, .inl f))]) [0, 1] (by decide) rfl; exact h
      have hK9 := hK.sub (tys' := [(k, .byte)]) [0] rfl
      refine W.widen (k := 0) (n := 0) (Nat.le_of_ble_eq_true rfl) (Nat.le_of_ble_eq_true rfl) ?_
      have er_4 : (0 : Int32) = rowAt f n p1 := by simp [rowAt, cnd_1, cnd_3]
      exact W.iret (v := 0) hx hb hr (fun t ht hW => ⟨⟨0, 0, rfl, rfl, er_4, by rw [ht]; exact hP9, va_K.moved hW.alike hK9, hAe ▸ hD9⟩, hAe ▸ hS.F ht⟩) (fun q hq => hAe ▸ hS.2.2 q hq) dX8_at_26
    · skip
      refine lv_aload_n hx hb dX8_at_12 rfl (lv_at hl 0 rfl) ?_
      refine va_get (D := (dC, dI)) (ci := 8) (v := .ref a) (C := RX8) (T := TX8) (N := 4) hx hb hts hiX8 hown hK hP 0 rfl rfl 0 (by decide) (hts (.fieldLink RX8 9 "ComboHouse$Row" "bytes" "[B") (by decide +kernel)) (fun _ h9 => h9) rfl dX8_at_13 ?_
      refine lv_iload_n hx hb dX8_at_16 rfl (lv_at hl 1 rfl) ?_
      refine gz_bald (p1.toNatClampNeg) (by obtain ⟨j, hj1, hj2⟩ := nI_of cnd_1; have h9 := cnd_3; rw [hj2] at h9 ⊢; rw [nI_leI (by omega) (by omega)] at h9; rw [nI_clamp hj1]; omega) (by decide) (by obtain ⟨j, hj1, hj2⟩ := nI_of cnd_1; rw [hj2, nI_clamp hj1]) hx hb hK hP 1 0 rfl rfl dX8_at_17 ?_
      refine lv_sipush (v := 255) hx hb dX8_at_18 (by decide) ?_
      refine lv_iand hx hb dX8_at_21 ?_
      refine lv_goto (tgt := 26) hx hb dX8_at_22 (by decide) ?_
      have hP9 : va_P (dC, dI) vwCl [(h0, .inr (8, [.ref a, .int (nI n), .int ov, .int bv])), (a, .inl (k, 8192, .inl f))] s.heap := by have h := hP.sub (ws' := [(h0, .inr (8, [.ref a, .int (nI n), .int ov, .int bv])), (a, .inl (k, 8192, .inl f))]) [0, 1] rfl; exact h
      have hD9 : va_D A [(h0, .inr (8, [.ref a, .int (nI n), .int ov, .int bv])), (a, .inl (k, 8192, .inl f))] := by have h := hD.sub (ws' := [(h0, .inr (8, [.ref a, .int (nI n), .int ov, .int bv])), (a, .inl (k, 8192, .inl f))]) [0, 1] (by decide) rfl; exact h
      have hK9 := hK.sub (tys' := [(k, .byte)]) [0] rfl
      refine W.widen (k := 0) (n := 0) (Nat.le_of_ble_eq_true rfl) (Nat.le_of_ble_eq_true rfl) ?_
      have er_5 : (((f (p1.toNatClampNeg)) &&& 255) : Int32) = rowAt f n p1 := by simp [rowAt, cnd_1, cnd_3]
      exact W.iret (v := ((f (p1.toNatClampNeg)) &&& 255)) hx hb hr (fun t ht hW => ⟨⟨((f (p1.toNatClampNeg)) &&& 255), ((f (p1.toNatClampNeg)) &&& 255), rfl, rfl, er_5, by rw [ht]; exact hP9, va_K.moved hW.alike hK9, hAe ▸ hD9⟩, hAe ▸ hS.F ht⟩) (fun q hq => hAe ▸ hS.2.2 q hq) dX8_at_26
