set_option maxHeartbeats 4000000 in
set_option maxRecDepth 100000 in
theorem c_X8_put_lt (l : Launch) (dC : Nat → ClassId) (dI : Nat → Nat → Nat) (h0 a : Nat) (k : ClassId) (f : Nat → Int32) (n : Nat) (ov bv p1 : Int32) (sz : Nat) (hn : n < 8192) : Met l yX8_put wsX8_put ({ frames := 0, cells := 0, slots := 0, locals := 0 }) (va_Pc [.ref h0, .int p1] (fun U => U.heap.size = sz ∧ va_P (dC, dI) vwCl [(h0, .inr (8, [.ref a, .int (nI n), .int ov, .int bv])), (a, .inl (k, 8192, .inl f))] U.heap ∧ va_K (dC, dI) vwCl [(k, .byte)] U ∧ va_D (fun _ => True) [(h0, .inr (8, [.ref a, .int (nI n), .int ov, .int bv])), (a, .inl (k, 8192, .inl f))])) (va_Qv (fun (_ : Unit) => True) (fun (_ : Unit) (t : State) => va_P (dC, dI) vwCl [(h0, .inr (8, [.ref a, .int (nI (n + 1)), .int ov, .int bv])), (a, .inl (k, 8192, .inl (upd f n (vp_nar .byte (p1.toInt8.toInt32)))))] t.heap ∧ va_K (dC, dI) vwCl [(k, .byte)] t ∧ va_D (va_A [(h0, .inr (8, [.ref a, .int (nI n), .int ov, .int bv])), (a, .inl (k, 8192, .inl f))] sz) [(h0, .inr (8, [.ref a, .int (nI (n + 1)), .int ov, .int bv])), (a, .inl (k, 8192, .inl (upd f n (vp_nar .byte (p1.toInt8.toInt32)))))]) (va_A [(h0, .inr (8, [.ref a, .int (nI n), .int ov, .int bv])), (a, .inl (k, 8192, .inl f))] sz)) 0 0 (va_A [(h0, .inr (8, [.ref a, .int (nI n), .int ov, .int bv])), (a, .inl (k, 8192, .inl f))] sz) := by
  refine Met.ofW (cc := cX8_put) (maxL := 2) (ret := none) (by decide) rfl ?_
  intro p e s m args below meth c s₁ B hml hv
  obtain ⟨rfl, hsz, hP, hK, hD0⟩ := hv
  have hx := B.exec
  have hb := B.bytes
  have hr := B.returns
  have hts := atoms_spec (ws := wsX8_put) B.pre
  have hown : s.vm.findClass RX8 = some m.cls := findClass_of_methodNamed B.named
  have hlocks := B.notSynchronized
  subst hsz
  have hD := hD0.self (sz := s.heap.size)
  generalize hAe : va_A [(h0, .inr (8, [.ref a, .int (nI n), .int ov, .int bv])), (a, .inl (k, 8192, .inl f))] s.heap.size = A at hD ⊢
  have hA : ∀ q : Nat, s.heap.size ≤ q → A q := fun q h => by rw [← hAe]; exact Or.inr h
  have hS : va_S A s.heap s.heap [] := va_S.rf
  have hP : va_P (dC, dI) vwCl [(h0, .inr (8, [.ref a, .int (nI n), .int ov, .int bv])), (a, .inl (k, 8192, .inl f))] s.heap := hP
  have hD : va_D A [(h0, .inr (8, [.ref a, .int (nI n), .int ov, .int bv])), (a, .inl (k, 8192, .inl f))] := hD
  have hl := lv_entry ([.ref h0, .int p1]) (n := 2) (Nat.le_of_ble_eq_true rfl)
  rw [lg_entry_eq]
  generalize (lg_sl ([.ref h0, .int p1]) ++ List.replicate (2 - (lg_sl ([.ref h0, .int p1])).length) Slot.unset).toArray = ls at hl ⊢
  have hl : lv_has ls 2 [(0, .ref h0), (1, .int p1)] := hl
  have hiX8 : ∀ w ∈ wsX80, w ∈ wsX8_put := by decide +kernel
  refine lv_aload_n hx hb dX8_put_0 rfl (lv_at hl 0 rfl) ?_
  refine va_get (D := (dC, dI)) (ci := 8) (v := .int (nI n)) (C := RX8) (T := TX8) (N := 4) hx hb hts hiX8 hown hK hP 0 rfl rfl 1 (by decide) (hts (.fieldLink RX8 15 "ComboHouse$Row" "size" "I") (by decide +kernel)) (fun _ h9 => h9) rfl dX8_put_1 ?_
  refine lv_sipush (v := 8192) hx hb dX8_put_4 (by decide) ?_
  refine lv_icmp_ge (tgt := 34) hx hb dX8_put_7 (by decide) (fun cnd_1 => ?_) (fun cnd_1 => ?_)
  · exact absurd cnd_1 (by show ¬ nI 8192 ≤ nI n; rw [nI_leI (by omega) (by omega)]; omega)
  refine lv_aload_n hx hb dX8_put_10 rfl (lv_at hl 0 rfl) ?_
  refine va_get (D := (dC, dI)) (ci := 8) (v := .ref a) (C := RX8) (T := TX8) (N := 4) hx hb hts hiX8 hown hK hP 0 rfl rfl 0 (by decide) (hts (.fieldLink RX8 9 "ComboHouse$Row" "bytes" "[B") (by decide +kernel)) (fun _ h9 => h9) rfl dX8_put_11 ?_
  refine lv_aload_n hx hb dX8_put_14 rfl (lv_at hl 0 rfl) ?_
  refine va_get (D := (dC, dI)) (ci := 8) (v := .int (nI n)) (C := RX8) (T := TX8) (N := 4) hx hb hts hiX8 hown hK hP 0 rfl rfl 1 (by decide) (hts (.fieldLink RX8 15 "ComboHouse$Row" "size" "I") (by decide +kernel)) (fun _ h9 => h9) rfl dX8_put_15 ?_
  refine lv_iload_n hx hb dX8_put_18 rfl (lv_at hl 1 rfl) ?_
  obtain ⟨x_2, ex_2⟩ : ∃ y, y = p1.toInt8.toInt32 := ⟨_, rfl⟩
  refine lv_i2b (v := x_2) hx hb dX8_put_19 ex_2.symm ?_
  refine gz_bast (n) (by omega) (by decide) rfl hx hb hK hP hD hS 1 0 rfl rfl dX8_put_20 (fun H locs hP hD hS => ?_)
  obtain ⟨f_3, ef_3⟩ : ∃ g : Nat → Int32, g = upd f (n) (vp_nar .byte (x_2)) := ⟨_, rfl⟩
  have hP : va_P (dC, dI) vwCl [(h0, .inr (8, [.ref a, .int (nI n), .int ov, .int bv])), (a, .inl (k, 8192, .inl f_3))] H := by rw [ef_3]; exact hP
  have hD : va_D A [(h0, .inr (8, [.ref a, .int (nI n), .int ov, .int bv])), (a, .inl (k, 8192, .inl f_3))] := by rw [ef_3]; exact hD
  refine lv_aload_n hx hb dX8_put_21 rfl (lv_at hl 0 rfl) ?_
  refine lv_dup hx hb dX8_put_22 rfl ?_
  refine va_get (D := (dC, dI)) (ci := 8) (v := .int (nI n)) (C := RX8) (T := TX8) (N := 4) hx hb hts hiX8 hown hK hP 0 rfl rfl 1 (by decide) (hts (.fieldLink RX8 15 "ComboHouse$Row" "size" "I") (by decide +kernel)) (fun _ h9 => h9) rfl dX8_put_23 ?_
  refine lv_iconst (v := 1) hx hb dX8_put_26 (by decide) ?_
  refine lv_iadd hx hb dX8_put_27 ?_
  refine lv_topi (fun x_4 ex_4 => ?_)
  refine va_put (D := (dC, dI)) (ci := 8) (v := .int x_4) (ty := .int) (C := RX8) (T := TX8) (N := 4) hx hb hts hiX8 tyX8 tyX8_ok nmX8 hown hK hP hD hS 0 rfl rfl 1 (by decide) (hts (.fieldLink RX8 15 "ComboHouse$Row" "size" "I") (by decide +kernel)) (fun _ h9 => h9) rfl (by decide +kernel) rfl rfl (Nat.le_of_ble_eq_true rfl) dX8_put_28 (fun H locs hP hD hS => ?_)
  have hP : va_P (dC, dI) vwCl [(h0, .inr (8, [.ref a, .int x_4, .int ov, .int bv])), (a, .inl (k, 8192, .inl f_3))] H := hP
  have hD : va_D A [(h0, .inr (8, [.ref a, .int x_4, .int ov, .int bv])), (a, .inl (k, 8192, .inl f_3))] := hD
  refine lv_goto (tgt := 39) hx hb dX8_put_31 (by decide) ?_
  have eq_5 : x_4 = nI (n + 1) := by rw [ex_4]; exact nI_1 n
  have eq_6 : f_3 = upd f n (vp_nar .byte (p1.toInt8.toInt32)) := by first | (rw [ef_3, ex_2] <;> rfl) | (rw [ef_3, ex_2]; simp only [nI_clamp, nI_1]; done) | (simp [ef_3, ex_2]; done)
  have hP9 : va_P (dC, dI) vwCl [(h0, .inr (8, [.ref a, .int (nI (n + 1)), .int ov, .int bv])), (a, .inl (k, 8192, .inl (upd f n (vp_nar .byte (p1.toInt8.toInt32)))))] H := by have h := hP.sub (ws' := [(h0, .inr (8, [.ref a, .int x_4, .int ov, .int bv])), (a, .inl (k, 8192, .inl f_3))]) [0, 1] rfl; rw [eq_5, eq_6] at h; exact h
  have hD9 : va_D A [(h0, .inr (8, [.ref a, .int (nI (n + 1)), .int ov, .int bv])), (a, .inl (k, 8192, .inl (upd f n (vp_nar .byte (p1.toInt8.toInt32)))))] := by have h := hD.sub (ws' := [(h0, .inr (8, [.ref a, .int x_4, .int ov, .int bv])), (a, .inl (k, 8192, .inl f_3))]) [0, 1] (by decide) rfl; rw [eq_5, eq_6] at h; exact h
  have hK9 := hK.sub (tys' := [(k, .byte)]) [0] rfl
  refine W.widen (k := 0) (n := 0) (Nat.le_of_ble_eq_true rfl) (Nat.le_of_ble_eq_true rfl) ?_
  exact W.vret hx hb hr (fun t ht hW => ⟨⟨(), rfl, trivial, by rw [ht]; exact hP9, va_K.moved hW.alike hK9, hAe ▸ hD9⟩, hAe ▸ hS.F ht⟩) (fun q hq => hAe ▸ hS.2.2 q hq) dX8_put_39
set_option maxHeartbeats 4000000 in
set_option maxRecDepth 100000 in
theorem c_X8_copy (l : Launch) (dC : Nat → ClassId) (dI : Nat → Nat → Nat) (h0 a : Nat) (k : ClassId) (f : Nat → Int32) (sv ov bv : Int32) (h1 b : Nat) (k1 : ClassId) (g : Nat → Int32) (n : Nat) (ov1 bv1 : Int32) (sz : Nat) (hn : n ≤ 8192) (hft : ∀ i, i < n → fits .byte (.int (g i)) = true) : Met l yX8_copy wsX8_copy ({ frames := 1, cells := 0, slots := 0, locals := 64 }) (va_Pc [.ref h0, .ref h1] (fun U => U.heap.size = sz ∧ va_P (dC, dI) vwCl [(h0, .inr (8, [.ref a, .int sv, .int ov, .int bv])), (a, .inl (k, 8192, .inl f)), (h1, .inr (8, [.ref b, .int (nI n), .int ov1, .int bv1])), (b, .inl (k1, 8192, .inl g))] U.heap ∧ va_K (dC, dI) vwCl [(k, .byte), (k1, .byte)] U ∧ va_D (fun _ => True) [(h0, .inr (8, [.ref a, .int sv, .int ov, .int bv])), (a, .inl (k, 8192, .inl f)), (h1, .inr (8, [.ref b, .int (nI n), .int ov1, .int bv1])), (b, .inl (k1, 8192, .inl g))])) (va_Qv (fun (_ : Unit) => True) (fun (_ : Unit) (t : State) => va_P (dC, dI) vwCl [(h0, .inr (8, [.ref a, .int (nI n), .int 0, .int 0])), (a, .inl (k, 8192, .inl (va_cpy g f 0 0 n))), (h1, .inr (8, [.ref b, .int (nI n), .int ov1, .int bv1])), (b, .inl (k1, 8192, .inl g))] t.heap ∧ va_K (dC, dI) vwCl [(k, .byte), (k1, .byte)] t ∧ va_D (va_A [(h0, .inr (8, [.ref a, .int sv, .int ov, .int bv])), (a, .inl (k, 8192, .inl f)), (h1, .inr (8, [.ref b, .int (nI n), .int ov1, .int bv1])), (b, .inl (k1, 8192, .inl g))] sz) [(h0, .inr (8, [.ref a, .int (nI n), .int 0, .int 0])), (a, .inl (k, 8192, .inl (va_cpy g f 0 0 n))), (h1, .inr (8, [.ref b, .int (nI n), .int ov1, .int bv1])), (b, .inl (k1, 8192, .inl g))]) (va_A [(h0, .inr (8, [.ref a, .int sv, .int ov, .int bv])), (a, .inl (k, 8192, .inl f)), (h1, .inr (8, [.ref b, .int (nI n), .int ov1, .int bv1])), (b, .inl (k1, 8192, .inl g))] sz)) 0 0 (va_A [(h0, .inr (8, [.ref a, .int sv, .int ov, .int bv])), (a, .inl (k, 8192, .inl f)), (h1, .inr (8, [.ref b, .int (nI n), .int ov1, .int bv1])), (b, .inl (k1, 8192, .inl g))] sz) := by
  refine Met.ofW (cc := cX8_copy) (maxL := 2) (ret := none) (by decide) rfl ?_
  intro p e s m args below meth c s₁ B hml hv
  obtain ⟨rfl, hsz, hP, hK, hD0⟩ := hv
  have hx := B.exec
  have hb := B.bytes
  have hr := B.returns
  have hts := atoms_spec (ws := wsX8_copy) B.pre
  have hown : s.vm.findClass RX8 = some m.cls := findClass_of_methodNamed B.named
  have hlocks := B.notSynchronized
  subst hsz
  have hD := hD0.self (sz := s.heap.size)
  generalize hAe : va_A [(h0, .inr (8, [.ref a, .int sv, .int ov, .int bv])), (a, .inl (k, 8192, .inl f)), (h1, .inr (8, [.ref b, .int (nI n), .int ov1, .int bv1])), (b, .inl (k1, 8192, .inl g))] s.heap.size = A at hD ⊢
  have hA : ∀ q : Nat, s.heap.size ≤ q → A q := fun q h => by rw [← hAe]; exact Or.inr h
  have hS : va_S A s.heap s.heap [] := va_S.rf
  have hP : va_P (dC, dI) vwCl [(h0, .inr (8, [.ref a, .int sv, .int ov, .int bv])), (a, .inl (k, 8192, .inl f)), (h1, .inr (8, [.ref b, .int (nI n), .int ov1, .int bv1])), (b, .inl (k1, 8192, .inl g))] s.heap := hP
  have hD : va_D A [(h0, .inr (8, [.ref a, .int sv, .int ov, .int bv])), (a, .inl (k, 8192, .inl f)), (h1, .inr (8, [.ref b, .int (nI n), .int ov1, .int bv1])), (b, .inl (k1, 8192, .inl g))] := hD
  have hl := lv_entry ([.ref h0, .ref h1]) (n := 2) (Nat.le_of_ble_eq_true rfl)
  rw [lg_entry_eq]
  generalize (lg_sl ([.ref h0, .ref h1]) ++ List.replicate (2 - (lg_sl ([.ref h0, .ref h1])).length) Slot.unset).toArray = ls at hl ⊢
  have hl : lv_has ls 2 [(0, .ref h0), (1, .ref h1)] := hl
  have hiX8 : ∀ w ∈ wsX80, w ∈ wsX8_copy := by decide +kernel
  refine lv_aload_n hx hb dX8_copy_0 rfl (lv_at hl 0 rfl) ?_
  have hPc := hP.sub (ws' := [(h0, .inr (8, [.ref a, .int sv, .int ov, .int bv]))]) [0] rfl
  have hDc := hD.sub (ws' := [(h0, .inr (8, [.ref a, .int sv, .int ov, .int bv]))]) [0] (by decide) rfl
  have hKc := hK.sub (tys' := []) [] rfl
  have hFc := va_free (wc := [(h0, .inr (8, [.ref a, .int sv, .int ov, .int bv]))]) hD hS hA [0] rfl
  refine va_callv (va_runV (As := []) (rest := []) ⟨hx, hb, hml, hown, hts⟩ (c_X8_clear l dC dI h0 a sv ov bv s.heap.size) (cwV 0 hts gX8_copy_X8_clear rfl rfl rfl (by decide +kernel) ⟨Nat.le_of_ble_eq_true rfl, Nat.le_of_ble_eq_true rfl⟩) ⟨fun a U g mk q => by obtain ⟨q0, q1, qP, qK, qD⟩ := q; exact ⟨q0, q1, qP, va_K.moved (u := U) (U := U.calling g mk a) (Vm.Alike.refl U.vm) qK, qD⟩, va_recv hKc hPc (ci := 8) (q0 := 0) rfl rfl, fun U hU hW => ⟨rfl, by rw [hU], by rw [hU]; exact hPc, va_K.moved hW.alike hKc, hDc.weaken (fun _ _ _ _ => trivial)⟩⟩ rfl rfl hl.1 rfl (lv_room (Nat.le_of_ble_eq_true rfl)) dX8_copy_1 ⟨Nat.le_of_ble_eq_true rfl, Nat.le_of_ble_eq_true rfl⟩) hS (fun q _ h => hFc q h) hFc (fun u t H1 locs ht hvm hw hB hz1 hk1 hS => ?_)
  obtain ⟨hP1, hK1, hD1⟩ := hB
  rw [ht] at hP1
  have hK1 := va_K.moved hvm.symm hK1
  obtain ⟨hP, hD⟩ := va_join (wr := [(a, .inl (k, 8192, .inl f)), (h1, .inr (8, [.ref b, .int (nI n), .int ov1, .int bv1])), (b, .inl (k1, 8192, .inl g))]) (w1 := [(h0, .inr (8, [.ref a, .int 0, .int 0, .int 0]))]) hP hD [0] [1, 2, 3] rfl rfl (by decide) (by decide) hk1 hFc hP1 hD1
  have hK := (hK.sub (tys' := [(k, .byte), (k1, .byte)]) [0, 1] rfl).app hK1
  generalize H1 = H at hP hS ⊢
  have hP : va_P (dC, dI) vwCl [(a, .inl (k, 8192, .inl f)), (h1, .inr (8, [.ref b, .int (nI n), .int ov1, .int bv1])), (b, .inl (k1, 8192, .inl g)), (h0, .inr (8, [.ref a, .int 0, .int 0, .int 0]))] H := hP
  have hD : va_D A [(a, .inl (k, 8192, .inl f)), (h1, .inr (8, [.ref b, .int (nI n), .int ov1, .int bv1])), (b, .inl (k1, 8192, .inl g)), (h0, .inr (8, [.ref a, .int 0, .int 0, .int 0]))] := hD
  have hK : va_K (dC, dI) vwCl [(k, .byte), (k1, .byte)] s := hK
  refine W.widen (k := 0) (n := 0) (Nat.le_of_ble_eq_true rfl) (Nat.le_of_ble_eq_true rfl) ?_
  refine lv_aload_n hx hb dX8_copy_4 rfl (lv_at hl 0 rfl) ?_
  refine lv_aload_n hx hb dX8_copy_5 rfl (lv_at hl 1 rfl) ?_
  refine va_get (D := (dC, dI)) (ci := 8) (v := .int (nI n)) (C := RX8) (T := TX8) (N := 4) hx hb hts hiX8 hown hK hP 1 rfl rfl 1 (by decide) (hts (.fieldLink RX8 15 "ComboHouse$Row" "size" "I") (by decide +kernel)) (fun _ h9 => h9) rfl dX8_copy_6 ?_
  refine va_put (D := (dC, dI)) (ci := 8) (v := .int (nI n)) (ty := .int) (C := RX8) (T := TX8) (N := 4) hx hb hts hiX8 tyX8 tyX8_ok nmX8 hown hK hP hD hS 3 rfl rfl 1 (by decide) (hts (.fieldLink RX8 15 "ComboHouse$Row" "size" "I") (by decide +kernel)) (fun _ h9 => h9) rfl (by decide +kernel) rfl rfl (Nat.le_of_ble_eq_true rfl) dX8_copy_9 (fun H locs hP hD hS => ?_)
  have hP : va_P (dC, dI) vwCl [(a, .inl (k, 8192, .inl f)), (h1, .inr (8, [.ref b, .int (nI n), .int ov1, .int bv1])), (b, .inl (k1, 8192, .inl g)), (h0, .inr (8, [.ref a, .int (nI n), .int 0, .int 0]))] H := hP
  have hD : va_D A [(a, .inl (k, 8192, .inl f)), (h1, .inr (8, [.ref b, .int (nI n), .int ov1, .int bv1])), (b, .inl (k1, 8192, .inl g)), (h0, .inr (8, [.ref a, .int (nI n), .int 0, .int 0]))] := hD
  refine lv_aload_n hx hb dX8_copy_12 rfl (lv_at hl 1 rfl) ?_
  refine va_get (D := (dC, dI)) (ci := 8) (v := .ref b) (C := RX8) (T := TX8) (N := 4) hx hb hts hiX8 hown hK hP 1 rfl rfl 0 (by decide) (hts (.fieldLink RX8 9 "ComboHouse$Row" "bytes" "[B") (by decide +kernel)) (fun _ h9 => h9) rfl dX8_copy_13 ?_
  refine lv_iconst (v := 0) hx hb dX8_copy_16 (by decide) ?_
  refine lv_aload_n hx hb dX8_copy_17 rfl (lv_at hl 0 rfl) ?_
  refine va_get (D := (dC, dI)) (ci := 8) (v := .ref a) (C := RX8) (T := TX8) (N := 4) hx hb hts hiX8 hown hK hP 3 rfl rfl 0 (by decide) (hts (.fieldLink RX8 9 "ComboHouse$Row" "bytes" "[B") (by decide +kernel)) (fun _ h9 => h9) rfl dX8_copy_18 ?_
  refine lv_iconst (v := 0) hx hb dX8_copy_21 (by decide) ?_
  refine lv_aload_n hx hb dX8_copy_22 rfl (lv_at hl 0 rfl) ?_
  refine va_get (D := (dC, dI)) (ci := 8) (v := .int (nI n)) (C := RX8) (T := TX8) (N := 4) hx hb hts hiX8 hown hK hP 3 rfl rfl 1 (by decide) (hts (.fieldLink RX8 15 "ComboHouse$Row" "size" "I") (by decide +kernel)) (fun _ h9 => h9) rfl dX8_copy_23 ?_
  refine va_copyi (ty := .byte) hx hb (hml.trans hl.1.symm) hown (hts (.methodLink RX8 29 arraycopyName) (by decide +kernel)) (hts (.native arraycopyName) (by decide +kernel)) (hts (.static arraycopyName) (by decide +kernel)) (hts (.initialized "java/lang/System") (by decide +kernel)) hK hP hD hS 2 0 1 0 rfl rfl rfl rfl rfl (by decide) (by decide) (by exact nI_pos (by omega)) (by rw [sb_cl0, nI_clamp (by omega)]; omega) (by rw [sb_cl0, nI_clamp (by omega)]; omega) (by intro i hi; rw [nI_clamp (by omega)] at hi; rw [sb_cl0, Nat.zero_add]; exact hft i hi) (Nat.le_of_ble_eq_true rfl) (Nat.le_of_ble_eq_true rfl) dX8_copy_26 (fun H locs hP hD hS => ?_)
  obtain ⟨f_2, ef_2⟩ : ∃ y9 : Nat → Int32, y9 = va_cpy g f 0 0 (n) := ⟨_, rfl⟩
  have hP : va_P (dC, dI) vwCl [(a, .inl (k, 8192, .inl f_2)), (h1, .inr (8, [.ref b, .int (nI n), .int ov1, .int bv1])), (b, .inl (k1, 8192, .inl g)), (h0, .inr (8, [.ref a, .int (nI n), .int 0, .int 0]))] H := by rw [ef_2]; rw [sb_cl0, nI_clamp (by omega)] at hP; exact hP
  have hD : va_D A [(a, .inl (k, 8192, .inl f_2)), (h1, .inr (8, [.ref b, .int (nI n), .int ov1, .int bv1])), (b, .inl (k1, 8192, .inl g)), (h0, .inr (8, [.ref a, .int (nI n), .int 0, .int 0]))] := by rw [ef_2]; rw [sb_cl0, nI_clamp (by omega)] at hD; exact hD
  have eq_3 : f_2 = va_cpy g f 0 0 n := by first | (rw [ef_2] <;> rfl) | (rw [ef_2]; simp only [nI_clamp, nI_1]; done) | (simp [ef_2]; done)
  have hP9 : va_P (dC, dI) vwCl [(h0, .inr (8, [.ref a, .int (nI n), .int 0, .int 0])), (a, .inl (k, 8192, .inl (va_cpy g f 0 0 n))), (h1, .inr (8, [.ref b, .int (nI n), .int ov1, .int bv1])), (b, .inl (k1, 8192, .inl g))] H := by have h := hP.sub (ws' := [(h0, .inr (8, [.ref a, .int (nI n), .int 0, .int 0])), (a, .inl (k, 8192, .inl f_2)), (h1, .inr (8, [.ref b, .int (nI n), .int ov1, .int bv1])), (b, .inl (k1, 8192, .inl g))]) [3, 0, 1, 2] rfl; rw [eq_3] at h; exact h
  have hD9 : va_D A [(h0, .inr (8, [.ref a, .int (nI n), .int 0, .int 0])), (a, .inl (k, 8192, .inl (va_cpy g f 0 0 n))), (h1, .inr (8, [.ref b, .int (nI n), .int ov1, .int bv1])), (b, .inl (k1, 8192, .inl g))] := by have h := hD.sub (ws' := [(h0, .inr (8, [.ref a, .int (nI n), .int 0, .int 0])), (a, .inl (k, 8192, .inl f_2)), (h1, .inr (8, [.ref b, .int (nI n), .int ov1, .int bv1])), (b, .inl (k1, 8192, .inl g))]) [3, 0, 1, 2] (by decide) rfl; rw [eq_3] at h; exact h
  have hK9 := hK.sub (tys' := [(k, .byte), (k1, .byte)]) [0, 1] rfl
  refine W.widen (k := 0) (n := 0) (Nat.le_of_ble_eq_true rfl) (Nat.le_of_ble_eq_true rfl) ?_
  exact W.vret hx hb hr (fun t ht hW => ⟨⟨(), rfl, trivial, by rw [ht]; exact hP9, va_K.moved hW.alike hK9, hAe ▸ hD9⟩, hAe ▸ hS.F ht⟩) (fun q hq => hAe ▸ hS.2.2 q hq) dX8_copy_29
