set_option maxHeartbeats 4000000 in
set_option maxRecDepth 100000 in
theorem c_X1_fix (l : Launch) (dC : Nat → ClassId) (dI : Nat → Nat → Nat) (h0 a0 a1 a2 : Nat) (k0 k1 k2 : ClassId) (b3 b4 b5 : Nat) (f0 f1 f2 : Nat → Int32) (v6 v7 : Int32) (j : Nat) (p1 p2 p3 : Int32) (sz : Nat) (hj : j < 14032) : Met l yX1_fix wsX1_fix ({ frames := 0, cells := 0, slots := 0, locals := 0 }) (va_Pc [.ref h0, .int (nI j), .int p1, .int p2, .int p3] (fun U => U.heap.size = sz ∧ va_P (dC, dI) vwCl [(h0, .inr (1, [.ref a0, .ref a1, .ref a2, .ref b3, .ref b4, .ref b5, .int v6, .int v7])), (a0, .inl (k0, 14032, .inl f0)), (a1, .inl (k1, 14032, .inl f1)), (a2, .inl (k2, 14032, .inl f2))] U.heap ∧ va_K (dC, dI) vwCl [(k0, .int), (k1, .int), (k2, .int)] U ∧ va_D (fun _ => True) [(h0, .inr (1, [.ref a0, .ref a1, .ref a2, .ref b3, .ref b4, .ref b5, .int v6, .int v7])), (a0, .inl (k0, 14032, .inl f0)), (a1, .inl (k1, 14032, .inl f1)), (a2, .inl (k2, 14032, .inl f2))])) (va_Qv (fun (_ : Unit) => True) (fun (_ : Unit) (t : State) => va_P (dC, dI) vwCl [(h0, .inr (1, [.ref a0, .ref a1, .ref a2, .ref b3, .ref b4, .ref b5, .int v6, .int v7])), (a0, .inl (k0, 14032, .inl (upd f0 j p1))), (a1, .inl (k1, 14032, .inl (upd f1 j p2))), (a2, .inl (k2, 14032, .inl (upd f2 j p3)))] t.heap ∧ va_K (dC, dI) vwCl [(k0, .int), (k1, .int), (k2, .int)] t ∧ va_D (va_A [(h0, .inr (1, [.ref a0, .ref a1, .ref a2, .ref b3, .ref b4, .ref b5, .int v6, .int v7])), (a0, .inl (k0, 14032, .inl f0)), (a1, .inl (k1, 14032, .inl f1)), (a2, .inl (k2, 14032, .inl f2))] sz) [(h0, .inr (1, [.ref a0, .ref a1, .ref a2, .ref b3, .ref b4, .ref b5, .int v6, .int v7])), (a0, .inl (k0, 14032, .inl (upd f0 j p1))), (a1, .inl (k1, 14032, .inl (upd f1 j p2))), (a2, .inl (k2, 14032, .inl (upd f2 j p3)))]) (va_A [(h0, .inr (1, [.ref a0, .ref a1, .ref a2, .ref b3, .ref b4, .ref b5, .int v6, .int v7])), (a0, .inl (k0, 14032, .inl f0)), (a1, .inl (k1, 14032, .inl f1)), (a2, .inl (k2, 14032, .inl f2))] sz)) 0 0 (va_A [(h0, .inr (1, [.ref a0, .ref a1, .ref a2, .ref b3, .ref b4, .ref b5, .int v6, .int v7])), (a0, .inl (k0, 14032, .inl f0)), (a1, .inl (k1, 14032, .inl f1)), (a2, .inl (k2, 14032, .inl f2))] sz) := by
  refine Met.ofW (cc := cX1_fix) (maxL := 5) (ret := none) (by decide) rfl ?_
  intro p e s m args below meth c s₁ B hml hv
  obtain ⟨rfl, hsz, hP, hK, hD0⟩ := hv
  have hx := B.exec
  have hb := B.bytes
  have hr := B.returns
  have hts := atoms_spec (ws := wsX1_fix) B.pre
  have hown : s.vm.findClass RX1 = some m.cls := findClass_of_methodNamed B.named
  have hlocks := B.notSynchronized
  subst hsz
  have hD := hD0.self (sz := s.heap.size)
  generalize hAe : va_A [(h0, .inr (1, [.ref a0, .ref a1, .ref a2, .ref b3, .ref b4, .ref b5, .int v6, .int v7])), (a0, .inl (k0, 14032, .inl f0)), (a1, .inl (k1, 14032, .inl f1)), (a2, .inl (k2, 14032, .inl f2))] s.heap.size = A at hD ⊢
  have hA : ∀ q : Nat, s.heap.size ≤ q → A q := fun q h => by rw [← hAe]; exact Or.inr h
  have hS : va_S A s.heap s.heap [] := va_S.rf
  have hP : va_P (dC, dI) vwCl [(h0, .inr (1, [.ref a0, .ref a1, .ref a2, .ref b3, .ref b4, .ref b5, .int v6, .int v7])), (a0, .inl (k0, 14032, .inl f0)), (a1, .inl (k1, 14032, .inl f1)), (a2, .inl (k2, 14032, .inl f2))] s.heap := hP
  have hD : va_D A [(h0, .inr (1, [.ref a0, .ref a1, .ref a2, .ref b3, .ref b4, .ref b5, .int v6, .int v7])), (a0, .inl (k0, 14032, .inl f0)), (a1, .inl (k1, 14032, .inl f1)), (a2, .inl (k2, 14032, .inl f2))] := hD
  have hl := lv_entry ([.ref h0, .int (nI j), .int p1, .int p2, .int p3]) (n := 5) (Nat.le_of_ble_eq_true rfl)
  rw [lg_entry_eq]
  generalize (lg_sl ([.ref h0, .int (nI j), .int p1, .int p2, .int p3]) ++ List.replicate (5 - (lg_sl ([.ref h0, .int (nI j), .int p1, .int p2, .int p3])).length) Slot.unset).toArray = ls at hl ⊢
  have hl : lv_has ls 5 [(0, .ref h0), (1, .int (nI j)), (2, .int p1), (3, .int p2), (4, .int p3)] := hl
  have hiX1 : ∀ w ∈ wsX10, w ∈ wsX1_fix := by decide +kernel
  refine lv_aload_n hx hb dX1_fix_0 rfl (lv_at hl 0 rfl) ?_
  refine va_get (D := (dC, dI)) (ci := 1) (v := .ref a0) (C := RX1) (T := TX1) (N := 8) hx hb hts hiX1 hown hK hP 0 rfl rfl 0 (by decide) (hts (.fieldLink RX1 13 "ComboHouse$Finder" "kind" "[I") (by decide +kernel)) (fun _ h9 => h9) rfl dX1_fix_1 ?_
  refine lv_iload_n hx hb dX1_fix_4 rfl (lv_at hl 1 rfl) ?_
  refine lv_iload_n hx hb dX1_fix_5 rfl (lv_at hl 2 rfl) ?_
  refine gz_iast (j) (by omega) (by decide) rfl hx hb hK hP hD hS 1 0 rfl rfl dX1_fix_6 (fun H locs hP hD hS => ?_)
  obtain ⟨f_1, ef_1⟩ : ∃ g : Nat → Int32, g = upd f0 (j) (p1) := ⟨_, rfl⟩
  have hP : va_P (dC, dI) vwCl [(h0, .inr (1, [.ref a0, .ref a1, .ref a2, .ref b3, .ref b4, .ref b5, .int v6, .int v7])), (a0, .inl (k0, 14032, .inl f_1)), (a1, .inl (k1, 14032, .inl f1)), (a2, .inl (k2, 14032, .inl f2))] H := by rw [ef_1]; exact hP
  have hD : va_D A [(h0, .inr (1, [.ref a0, .ref a1, .ref a2, .ref b3, .ref b4, .ref b5, .int v6, .int v7])), (a0, .inl (k0, 14032, .inl f_1)), (a1, .inl (k1, 14032, .inl f1)), (a2, .inl (k2, 14032, .inl f2))] := by rw [ef_1]; exact hD
  refine lv_aload_n hx hb dX1_fix_7 rfl (lv_at hl 0 rfl) ?_
  refine va_get (D := (dC, dI)) (ci := 1) (v := .ref a1) (C := RX1) (T := TX1) (N := 8) hx hb hts hiX1 hown hK hP 0 rfl rfl 1 (by decide) (hts (.fieldLink RX1 17 "ComboHouse$Finder" "left" "[I") (by decide +kernel)) (fun _ h9 => h9) rfl dX1_fix_8 ?_
  refine lv_iload_n hx hb dX1_fix_11 rfl (lv_at hl 1 rfl) ?_
  refine lv_iload_n hx hb dX1_fix_12 rfl (lv_at hl 3 rfl) ?_
  refine gz_iast (j) (by omega) (by decide) rfl hx hb hK hP hD hS 2 1 rfl rfl dX1_fix_13 (fun H locs hP hD hS => ?_)
  obtain ⟨f_2, ef_2⟩ : ∃ g : Nat → Int32, g = upd f1 (j) (p2) := ⟨_, rfl⟩
  have hP : va_P (dC, dI) vwCl [(h0, .inr (1, [.ref a0, .ref a1, .ref a2, .ref b3, .ref b4, .ref b5, .int v6, .int v7])), (a0, .inl (k0, 14032, .inl f_1)), (a1, .inl (k1, 14032, .inl f_2)), (a2, .inl (k2, 14032, .inl f2))] H := by rw [ef_2]; exact hP
  have hD : va_D A [(h0, .inr (1, [.ref a0, .ref a1, .ref a2, .ref b3, .ref b4, .ref b5, .int v6, .int v7])), (a0, .inl (k0, 14032, .inl f_1)), (a1, .inl (k1, 14032, .inl f_2)), (a2, .inl (k2, 14032, .inl f2))] := by rw [ef_2]; exact hD
  refine lv_aload_n hx hb dX1_fix_14 rfl (lv_at hl 0 rfl) ?_
  refine va_get (D := (dC, dI)) (ci := 1) (v := .ref a2) (C := RX1) (T := TX1) (N := 8) hx hb hts hiX1 hown hK hP 0 rfl rfl 2 (by decide) (hts (.fieldLink RX1 20 "ComboHouse$Finder" "right" "[I") (by decide +kernel)) (fun _ h9 => h9) rfl dX1_fix_15 ?_
  refine lv_iload_n hx hb dX1_fix_18 rfl (lv_at hl 1 rfl) ?_
  refine lv_iload hx hb dX1_fix_19 (lv_at hl 4 rfl) ?_
  refine gz_iast (j) (by omega) (by decide) rfl hx hb hK hP hD hS 3 2 rfl rfl dX1_fix_21 (fun H locs hP hD hS => ?_)
  obtain ⟨f_3, ef_3⟩ : ∃ g : Nat → Int32, g = upd f2 (j) (p3) := ⟨_, rfl⟩
  have hP : va_P (dC, dI) vwCl [(h0, .inr (1, [.ref a0, .ref a1, .ref a2, .ref b3, .ref b4, .ref b5, .int v6, .int v7])), (a0, .inl (k0, 14032, .inl f_1)), (a1, .inl (k1, 14032, .inl f_2)), (a2, .inl (k2, 14032, .inl f_3))] H := by rw [ef_3]; exact hP
  have hD : va_D A [(h0, .inr (1, [.ref a0, .ref a1, .ref a2, .ref b3, .ref b4, .ref b5, .int v6, .int v7])), (a0, .inl (k0, 14032, .inl f_1)), (a1, .inl (k1, 14032, .inl f_2)), (a2, .inl (k2, 14032, .inl f_3))] := by rw [ef_3]; exact hD
  have eq_4 : f_1 = upd f0 j p1 := by first | (rw [ef_1] <;> rfl) | (rw [ef_1]; simp only [nI_clamp, nI_1]; done) | (simp [ef_1]; done)
  have eq_5 : f_2 = upd f1 j p2 := by first | (rw [ef_2] <;> rfl) | (rw [ef_2]; simp only [nI_clamp, nI_1]; done) | (simp [ef_2]; done)
  have eq_6 : f_3 = upd f2 j p3 := by first | (rw [ef_3] <;> rfl) | (rw [ef_3]; simp only [nI_clamp, nI_1]; done) | (simp [ef_3]; done)
  have hP9 : va_P (dC, dI) vwCl [(h0, .inr (1, [.ref a0, .ref a1, .ref a2, .ref b3, .ref b4, .ref b5, .int v6, .int v7])), (a0, .inl (k0, 14032, .inl (upd f0 j p1))), (a1, .inl (k1, 14032, .inl (upd f1 j p2))), (a2, .inl (k2, 14032, .inl (upd f2 j p3)))] H := by have h := hP.sub (ws' := [(h0, .inr (1, [.ref a0, .ref a1, .ref a2, .ref b3, .ref b4, .ref b5, .int v6, .int v7])), (a0, .inl (k0, 14032, .inl f_1)), (a1, .inl (k1, 14032, .inl f_2)), (a2, .inl (k2, 14032, .inl f_3))]) [0, 1, 2, 3] rfl; rw [eq_4, eq_5, eq_6] at h; exact h
  have hD9 : va_D A [(h0, .inr (1, [.ref a0, .ref a1, .ref a2, .ref b3, .ref b4, .ref b5, .int v6, .int v7])), (a0, .inl (k0, 14032, .inl (upd f0 j p1))), (a1, .inl (k1, 14032, .inl (upd f1 j p2))), (a2, .inl (k2, 14032, .inl (upd f2 j p3)))] := by have h := hD.sub (ws' := [(h0, .inr (1, [.ref a0, .ref a1, .ref a2, .ref b3, .ref b4, .ref b5, .int v6, .int v7])), (a0, .inl (k0, 14032, .inl f_1)), (a1, .inl (k1, 14032, .inl f_2)), (a2, .inl (k2, 14032, .inl f_3))]) [0, 1, 2, 3] (by decide) rfl; rw [eq_4, eq_5, eq_6] at h; exact h
  have hK9 := hK.sub (tys' := [(k0, .int), (k1, .int), (k2, .int)]) [0, 1, 2] rfl
  refine W.widen (k := 0) (n := 0) (Nat.le_of_ble_eq_true rfl) (Nat.le_of_ble_eq_true rfl) ?_
  exact W.vret hx hb hr (fun t ht hW => ⟨⟨(), rfl, trivial, by rw [ht]; exact hP9, va_K.moved hW.alike hK9, hAe ▸ hD9⟩, hAe ▸ hS.F ht⟩) (fun q hq => hAe ▸ hS.2.2 q hq) dX1_fix_22
