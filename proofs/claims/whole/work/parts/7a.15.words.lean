def tb_WORDS : Nat → Int32 := fun j => ([99, 111, 109, 112, 0, 99, 97, 115, 101, 0, 112, 97, 105, 114, 0, 108, 101, 102, 116, 0, 114, 105, 103, 104, 116, 0, 116, 97, 107, 101, 0, 100, 114, 111, 112, 0, 105, 100, 101, 110, 0, 117, 110, 105, 116, 0, 102, 97, 105, 108, 0, 119, 105, 116, 110, 101, 115, 115, 0, 104, 105, 100, 100, 101, 110, 0, 106, 101, 116, 0, 110, 101, 119, 0] : List Int32).getD j 0
def wiNc (v a b : Int32) : Int32 := if v < a then 0 else if b < v then 0 else 1
def letN (c : Int32) : Int32 := if wiNc c 97 122 = 0 then (if wiNc c 48 57 = 0 then 0 else c - 21) else c - 96
def zcW : Nat → Nat
  | 0 => 0
  | i + 1 => if tb_WORDS i = 0 then zcW i + 1 else zcW i
def tgT : Nat → Nat → Int64
  | 0 => fun _ => 0
  | i + 1 => if tb_WORDS i = 0 then tgT i else vp_updL (tgT i) (zcW i) (64 * tgT i (zcW i) + (letN (tb_WORDS i)).toInt64)
theorem zcW_lt : ∀ i, i < 74 → tb_WORDS i ≠ 0 → zcW i < 14 := by decide +kernel
theorem zcW_le : ∀ i, i < 75 → zcW i < 15 := by decide +kernel
set_option maxHeartbeats 4000000 in
set_option maxRecDepth 100000 in
theorem c_X12_within (l : Launch) (dC : Nat → ClassId) (dI : Nat → Nat → Nat) (p0 p1 p2 : Int32) (sz : Nat) : Met l yX12_within wsX12_within ({ frames := 0, cells := 0, slots := 0, locals := 0 }) (va_Pc [.int p0, .int p1, .int p2] (fun U => U.heap.size = sz ∧ va_P (dC, dI) vwCl [] U.heap ∧ va_K (dC, dI) vwCl [] U ∧ va_D (fun _ => True) [])) (va_Qi (fun (r u : Int32) => u = r) (fun (r : Int32) (t : State) => (r = wiNc p0 p1 p2) ∧ va_P (dC, dI) vwCl [] t.heap ∧ va_K (dC, dI) vwCl [] t ∧ va_D (va_A [] sz) []) (va_A [] sz)) 0 0 (va_A [] sz) := by
  refine Met.ofW (cc := cX12_within) (maxL := 3) (ret := (some .boolean)) (by decide) rfl ?_
  intro p e s m args below meth c s₁ B hml hv
  obtain ⟨rfl, hsz, hP, hK, hD0⟩ := hv
  have hx := B.exec
  have hb := B.bytes
  have hr := B.returns
  have hts := atoms_spec (ws := wsX12_within) B.pre
  have hown : s.vm.findClass RX12 = some m.cls := findClass_of_methodNamed B.named
  have hlocks := B.notSynchronized
  subst hsz
  have hD := hD0.self (sz := s.heap.size)
  generalize hAe : va_A [] s.heap.size = A at hD ⊢
  have hA : ∀ q : Nat, s.heap.size ≤ q → A q := fun q h => by rw [← hAe]; exact Or.inr h
  have hS : va_S A s.heap s.heap [] := va_S.rf
  have hP : va_P (dC, dI) vwCl [] s.heap := hP
  have hD : va_D A [] := hD
  have hl := lv_entry ([.int p0, .int p1, .int p2]) (n := 3) (Nat.le_of_ble_eq_true rfl)
  rw [lg_entry_eq]
  generalize (lg_sl ([.int p0, .int p1, .int p2]) ++ List.replicate (3 - (lg_sl ([.int p0, .int p1, .int p2])).length) Slot.unset).toArray = ls at hl ⊢
  have hl : lv_has ls 3 [(0, .int p0), (1, .int p1), (2, .int p2)] := hl
  refine lv_iload_n hx hb dX12_within_0 rfl (lv_at hl 0 rfl) ?_
  refine lv_iload_n hx hb dX12_within_1 rfl (lv_at hl 1 rfl) ?_
  refine lv_icmp_lt (tgt := 14) hx hb dX12_within_2 (by decide) (fun cnd_1 => ?_) (fun cnd_1 => ?_)
  · skip
    refine lv_iconst (v := 0) hx hb dX12_within_14 (by decide) ?_
    have hP9 : va_P (dC, dI) vwCl [] s.heap := by have h := hP.sub (ws' := []) [] rfl; exact h
    have hD9 : va_D A [] := by have h := hD.sub (ws' := []) [] (by decide) rfl; exact h
    have hK9 := hK.sub (tys' := []) [] rfl
    refine W.widen (k := 0) (n := 0) (Nat.le_of_ble_eq_true rfl) (Nat.le_of_ble_eq_true rfl) ?_
    have er_2 : (0 : Int32) = wiNc p0 p1 p2 := by simp [wiNc, cnd_1]
    exact W.zret (v := 0) hx hb hr rfl (fun t ht hW => ⟨⟨0, 0, rfl, rfl, er_2, by rw [ht]; exact hP9, va_K.moved hW.alike hK9, hAe ▸ hD9⟩, hAe ▸ hS.F ht⟩) (fun q hq => hAe ▸ hS.2.2 q hq) dX12_within_15
  · skip
    refine lv_iload_n hx hb dX12_within_5 rfl (lv_at hl 0 rfl) ?_
    refine lv_iload_n hx hb dX12_within_6 rfl (lv_at hl 2 rfl) ?_
    refine lv_icmp_gt (tgt := 14) hx hb dX12_within_7 (by decide) (fun cnd_3 => ?_) (fun cnd_3 => ?_)
    · skip
      refine lv_iconst (v := 0) hx hb dX12_within_14 (by decide) ?_
      have hP9 : va_P (dC, dI) vwCl [] s.heap := by have h := hP.sub (ws' := []) [] rfl; exact h
      have hD9 : va_D A [] := by have h := hD.sub (ws' := []) [] (by decide) rfl; exact h
      have hK9 := hK.sub (tys' := []) [] rfl
      refine W.widen (k := 0) (n := 0) (Nat.le_of_ble_eq_true rfl) (Nat.le_of_ble_eq_true rfl) ?_
      have er_4 : (0 : Int32) = wiNc p0 p1 p2 := by simp [wiNc, cnd_1, cnd_3]
      exact W.zret (v := 0) hx hb hr rfl (fun t ht hW => ⟨⟨0, 0, rfl, rfl, er_4, by rw [ht]; exact hP9, va_K.moved hW.alike hK9, hAe ▸ hD9⟩, hAe ▸ hS.F ht⟩) (fun q hq => hAe ▸ hS.2.2 q hq) dX12_within_15
    · skip
      refine lv_iconst (v := 1) hx hb dX12_within_10 (by decide) ?_
      refine lv_goto (tgt := 15) hx hb dX12_within_11 (by decide) ?_
      have hP9 : va_P (dC, dI) vwCl [] s.heap := by have h := hP.sub (ws' := []) [] rfl; exact h
      have hD9 : va_D A [] := by have h := hD.sub (ws' := []) [] (by decide) rfl; exact h
      have hK9 := hK.sub (tys' := []) [] rfl
      refine W.widen (k := 0) (n := 0) (Nat.le_of_ble_eq_true rfl) (Nat.le_of_ble_eq_true rfl) ?_
      have er_5 : (1 : Int32) = wiNc p0 p1 p2 := by simp [wiNc, cnd_1, cnd_3]
      exact W.zret (v := 1) hx hb hr rfl (fun t ht hW => ⟨⟨1, 1, rfl, rfl, er_5, by rw [ht]; exact hP9, va_K.moved hW.alike hK9, hAe ▸ hD9⟩, hAe ▸ hS.F ht⟩) (fun q hq => hAe ▸ hS.2.2 q hq) dX12_within_15
set_option maxHeartbeats 4000000 in
set_option maxRecDepth 100000 in
theorem c_X12_letterOf (l : Launch) (dC : Nat → ClassId) (dI : Nat → Nat → Nat) (p0 : Int32) (sz : Nat) : Met l yX12_letterOf wsX12_letterOf ({ frames := 1, cells := 0, slots := 0, locals := 22 }) (va_Pc [.int p0] (fun U => U.heap.size = sz ∧ va_P (dC, dI) vwCl [] U.heap ∧ va_K (dC, dI) vwCl [] U ∧ va_D (fun _ => True) [])) (va_Qi (fun (r u : Int32) => u = r) (fun (r : Int32) (t : State) => (r = letN p0) ∧ va_P (dC, dI) vwCl [] t.heap ∧ va_K (dC, dI) vwCl [] t ∧ va_D (va_A [] sz) []) (va_A [] sz)) 0 0 (va_A [] sz) := by
  refine Met.ofW (cc := cX12_letterOf) (maxL := 1) (ret := (some .int)) (by decide) rfl ?_
  intro p e s m args below meth c s₁ B hml hv
  obtain ⟨rfl, hsz, hP, hK, hD0⟩ := hv
  have hx := B.exec
  have hb := B.bytes
  have hr := B.returns
  have hts := atoms_spec (ws := wsX12_letterOf) B.pre
  have hown : s.vm.findClass RX12 = some m.cls := findClass_of_methodNamed B.named
  have hlocks := B.notSynchronized
  subst hsz
  have hD := hD0.self (sz := s.heap.size)
  generalize hAe : va_A [] s.heap.size = A at hD ⊢
  have hA : ∀ q : Nat, s.heap.size ≤ q → A q := fun q h => by rw [← hAe]; exact Or.inr h
  have hS : va_S A s.heap s.heap [] := va_S.rf
  have hP : va_P (dC, dI) vwCl [] s.heap := hP
  have hD : va_D A [] := hD
  have hl := lv_entry ([.int p0]) (n := 1) (Nat.le_of_ble_eq_true rfl)
  rw [lg_entry_eq]
  generalize (lg_sl ([.int p0]) ++ List.replicate (1 - (lg_sl ([.int p0])).length) Slot.unset).toArray = ls at hl ⊢
  have hl : lv_has ls 1 [(0, .int p0)] := hl
  refine lv_iload_n hx hb dX12_letterOf_0 rfl (lv_at hl 0 rfl) ?_
  refine lv_bipush (v := 97) hx hb dX12_letterOf_1 (by decide) ?_
  refine lv_bipush (v := 122) hx hb dX12_letterOf_3 (by decide) ?_
  have hPc := hP.sub (ws' := []) [] rfl
  have hDc := hD.sub (ws' := []) [] (by decide) rfl
  have hKc := hK.sub (tys' := []) [] rfl
  have hFc := va_free (wc := []) hD hS hA [] rfl
  refine va_calli (va_runS (As := [.int p0, .int 97, .int 122]) (rest := []) ⟨hx, hb, hml, hown, hts⟩ (c_X12_within l dC dI p0 97 122 s.heap.size) (va_cwS 3 hts gX12_letterOf_X12_within rfl rfl rfl (by decide +kernel) ⟨Nat.le_of_ble_eq_true rfl, Nat.le_of_ble_eq_true rfl⟩) ⟨fun a U g mk q => by obtain ⟨q0, q1, qP, qK, qD⟩ := q; exact ⟨q0, q1, qP, va_K.moved (u := U) (U := U.calling g mk a) (Vm.Alike.refl U.vm) qK, qD⟩, fun U hU hW => ⟨rfl, by rw [hU], by rw [hU]; exact hPc, va_K.moved hW.alike hKc, hDc.weaken (fun _ _ _ _ => trivial)⟩⟩ rfl rfl hl.1 rfl (lv_room (Nat.le_of_ble_eq_true rfl)) dX12_letterOf_5 ⟨Nat.le_of_ble_eq_true rfl, Nat.le_of_ble_eq_true rfl⟩) hS (fun q _ h => hFc q h) hFc (fun r_1 u t H1 locs ht hvm hw hB hz1 hk1 hS => ?_)
  obtain rfl : u = r_1 := hw
  obtain ⟨hr_2, hP1, hK1, hD1⟩ := hB
  rw [ht] at hP1
  have hK1 := va_K.moved hvm.symm hK1
  obtain ⟨hP, hD⟩ := va_join (wr := []) (w1 := []) hP hD [] [] rfl rfl (by decide) (by decide) hk1 hFc hP1 hD1
  have hK := (hK.sub (tys' := []) [] rfl).app hK1
  generalize H1 = H at hP hS ⊢
  have hP : va_P (dC, dI) vwCl [] H := hP
  have hD : va_D A [] := hD
  have hK : va_K (dC, dI) vwCl [] s := hK
  refine W.widen (k := 0) (n := 0) (Nat.le_of_ble_eq_true rfl) (Nat.le_of_ble_eq_true rfl) ?_
  subst hr_2
  refine lv_if_eq (tgt := 18) hx hb dX12_letterOf_8 (by decide) (fun cnd_3 => ?_) (fun cnd_3 => ?_)
  · skip
    refine lv_iload_n hx hb dX12_letterOf_18 rfl (lv_at hl 0 rfl) ?_
    refine lv_bipush (v := 48) hx hb dX12_letterOf_19 (by decide) ?_
    refine lv_bipush (v := 57) hx hb dX12_letterOf_21 (by decide) ?_
    have hPc := hP.sub (ws' := []) [] rfl
    have hDc := hD.sub (ws' := []) [] (by decide) rfl
    have hKc := hK.sub (tys' := []) [] rfl
    have hFc := va_free (wc := []) hD hS hA [] rfl
    refine va_calli (va_runS (As := [.int p0, .int 48, .int 57]) (rest := []) ⟨hx, hb, hml, hown, hts⟩ (c_X12_within l dC dI p0 48 57 H.size) (va_cwS 3 hts gX12_letterOf_X12_within rfl rfl rfl (by decide +kernel) ⟨Nat.le_of_ble_eq_true rfl, Nat.le_of_ble_eq_true rfl⟩) ⟨fun a U g mk q => by obtain ⟨q0, q1, qP, qK, qD⟩ := q; exact ⟨q0, q1, qP, va_K.moved (u := U) (U := U.calling g mk a) (Vm.Alike.refl U.vm) qK, qD⟩, fun U hU hW => ⟨rfl, by rw [hU], by rw [hU]; exact hPc, va_K.moved hW.alike hKc, hDc.weaken (fun _ _ _ _ => trivial)⟩⟩ rfl rfl hl.1 rfl (lv_room (Nat.le_of_ble_eq_true rfl)) dX12_letterOf_23 ⟨Nat.le_of_ble_eq_true rfl, Nat.le_of_ble_eq_true rfl⟩) hS (fun q _ h => hFc q h) hFc (fun r_4 u t H1 locs ht hvm hw hB hz1 hk1 hS => ?_)
    obtain rfl : u = r_4 := hw
    obtain ⟨hr_5, hP1, hK1, hD1⟩ := hB
    rw [ht] at hP1
    have hK1 := va_K.moved hvm.symm hK1
    obtain ⟨hP, hD⟩ := va_join (wr := []) (w1 := []) hP hD [] [] rfl rfl (by decide) (by decide) hk1 hFc hP1 hD1
    have hK := (hK.sub (tys' := []) [] rfl).app hK1
    generalize H1 = H at hP hS ⊢
    have hP : va_P (dC, dI) vwCl [] H := hP
    have hD : va_D A [] := hD
    have hK : va_K (dC, dI) vwCl [] s := hK
    refine W.widen (k := 0) (n := 0) (Nat.le_of_ble_eq_true rfl) (Nat.le_of_ble_eq_true rfl) ?_
    subst hr_5
    refine lv_if_eq (tgt := 36) hx hb dX12_letterOf_26 (by decide) (fun cnd_6 => ?_) (fun cnd_6 => ?_)
    · skip
      refine lv_iconst (v := 0) hx hb dX12_letterOf_36 (by decide) ?_
      have hP9 : va_P (dC, dI) vwCl [] H := by have h := hP.sub (ws' := []) [] rfl; exact h
      have hD9 : va_D A [] := by have h := hD.sub (ws' := []) [] (by decide) rfl; exact h
      have hK9 := hK.sub (tys' := []) [] rfl
      refine W.widen (k := 0) (n := 0) (Nat.le_of_ble_eq_true rfl) (Nat.le_of_ble_eq_true rfl) ?_
      have er_7 : (0 : Int32) = letN p0 := by simp [letN, cnd_3, cnd_6]
      exact W.iret (v := 0) hx hb hr (fun t ht hW => ⟨⟨0, 0, rfl, rfl, er_7, by rw [ht]; exact hP9, va_K.moved hW.alike hK9, hAe ▸ hD9⟩, hAe ▸ hS.F ht⟩) (fun q hq => hAe ▸ hS.2.2 q hq) dX12_letterOf_37
    · skip
      refine lv_iload_n hx hb dX12_letterOf_29 rfl (lv_at hl 0 rfl) ?_
      refine lv_bipush (v := 21) hx hb dX12_letterOf_30 (by decide) ?_
      refine lv_isub hx hb dX12_letterOf_32 ?_
      refine lv_goto (tgt := 37) hx hb dX12_letterOf_33 (by decide) ?_
      have hP9 : va_P (dC, dI) vwCl [] H := by have h := hP.sub (ws' := []) [] rfl; exact h
      have hD9 : va_D A [] := by have h := hD.sub (ws' := []) [] (by decide) rfl; exact h
      have hK9 := hK.sub (tys' := []) [] rfl
      refine W.widen (k := 0) (n := 0) (Nat.le_of_ble_eq_true rfl) (Nat.le_of_ble_eq_true rfl) ?_
      have er_8 : ((p0 - 21) : Int32) = letN p0 := by simp [letN, cnd_3, cnd_6]
      exact W.iret (v := (p0 - 21)) hx hb hr (fun t ht hW => ⟨⟨(p0 - 21), (p0 - 21), rfl, rfl, er_8, by rw [ht]; exact hP9, va_K.moved hW.alike hK9, hAe ▸ hD9⟩, hAe ▸ hS.F ht⟩) (fun q hq => hAe ▸ hS.2.2 q hq) dX12_letterOf_37
  · skip
    refine lv_iload_n hx hb dX12_letterOf_11 rfl (lv_at hl 0 rfl) ?_
    refine lv_bipush (v := 96) hx hb dX12_letterOf_12 (by decide) ?_
    refine lv_isub hx hb dX12_letterOf_14 ?_
    refine lv_goto (tgt := 37) hx hb dX12_letterOf_15 (by decide) ?_
    have hP9 : va_P (dC, dI) vwCl [] H := by have h := hP.sub (ws' := []) [] rfl; exact h
    have hD9 : va_D A [] := by have h := hD.sub (ws' := []) [] (by decide) rfl; exact h
    have hK9 := hK.sub (tys' := []) [] rfl
    refine W.widen (k := 0) (n := 0) (Nat.le_of_ble_eq_true rfl) (Nat.le_of_ble_eq_true rfl) ?_
    have er_9 : ((p0 - 96) : Int32) = letN p0 := by simp [letN, cnd_3]
    exact W.iret (v := (p0 - 96)) hx hb hr (fun t ht hW => ⟨⟨(p0 - 96), (p0 - 96), rfl, rfl, er_9, by rw [ht]; exact hP9, va_K.moved hW.alike hK9, hAe ▸ hD9⟩, hAe ▸ hS.F ht⟩) (fun q hq => hAe ▸ hS.2.2 q hq) dX12_letterOf_37
