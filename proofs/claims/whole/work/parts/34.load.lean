def wo_X6_clear : List Cond := [.fieldLink RX6 59 "ComboHouse$Program" "count" "I", .fieldLink RX6 63 "ComboHouse$Program" "hiddens" "I", .fieldLink RX6 66 "ComboHouse$Program" "witness" "I"]
def wf_X6_clear : List Cond := .code yX6_clear cX6_clear 1 none :: (wo_X6_clear ++ wsX60)
theorem hi_X6_clear_X6 : ∀ w ∈ wsX60, w ∈ wf_X6_clear := fun _ h => (List.mem_cons_of_mem _ (List.mem_append_right _ h))
set_option maxHeartbeats 4000000 in
set_option maxRecDepth 100000 in
theorem c_X6_clear_fresh (l : Launch) (dC : Nat → ClassId) (dI : Nat → Nat → Nat) (h0 : Nat) (g1 g2 g3 g4 g5 g6 g7 g8 g9 g10 g11 g12 g13 : Nat) (sz : Nat) : Met l yX6_clear wf_X6_clear ({ frames := 1, cells := 0, slots := 0, locals := 12 }) (va_Pc [.ref h0] (fun U => U.heap.size = sz ∧ va_P (dC, dI) vwCl [(h0, .inr (6, [.int 0, .ref g1, .ref g2, .ref g3, .ref g4, .ref g5, .ref g6, .ref g7, .ref g8, .ref g9, .ref g10, .ref g11, .ref g12, .ref g13, .int 0, .int 0]))] U.heap ∧ va_K (dC, dI) vwCl [] U ∧ va_D (fun _ => True) [(h0, .inr (6, [.int 0, .ref g1, .ref g2, .ref g3, .ref g4, .ref g5, .ref g6, .ref g7, .ref g8, .ref g9, .ref g10, .ref g11, .ref g12, .ref g13, .int 0, .int 0]))])) (va_Qv (fun (_ : Unit) => True) (fun (_ : Unit) (t : State) => va_P (dC, dI) vwCl [(h0, .inr (6, [.int 0, .ref g1, .ref g2, .ref g3, .ref g4, .ref g5, .ref g6, .ref g7, .ref g8, .ref g9, .ref g10, .ref g11, .ref g12, .ref g13, .int 0, .int 0]))] t.heap ∧ va_K (dC, dI) vwCl [] t ∧ va_D (va_A [(h0, .inr (6, [.int 0, .ref g1, .ref g2, .ref g3, .ref g4, .ref g5, .ref g6, .ref g7, .ref g8, .ref g9, .ref g10, .ref g11, .ref g12, .ref g13, .int 0, .int 0]))] sz) [(h0, .inr (6, [.int 0, .ref g1, .ref g2, .ref g3, .ref g4, .ref g5, .ref g6, .ref g7, .ref g8, .ref g9, .ref g10, .ref g11, .ref g12, .ref g13, .int 0, .int 0]))]) (va_A [(h0, .inr (6, [.int 0, .ref g1, .ref g2, .ref g3, .ref g4, .ref g5, .ref g6, .ref g7, .ref g8, .ref g9, .ref g10, .ref g11, .ref g12, .ref g13, .int 0, .int 0]))] sz)) 0 0 (va_A [(h0, .inr (6, [.int 0, .ref g1, .ref g2, .ref g3, .ref g4, .ref g5, .ref g6, .ref g7, .ref g8, .ref g9, .ref g10, .ref g11, .ref g12, .ref g13, .int 0, .int 0]))] sz) := by
  refine Met.ofW (cc := cX6_clear) (maxL := 1) (ret := none) (by decide) rfl ?_
  intro p e s m args below meth c s₁ B hml hv
  obtain ⟨rfl, hsz, hP, hK, hD0⟩ := hv
  have hx := B.exec
  have hb := B.bytes
  have hr := B.returns
  have hts := atoms_spec (ws := wf_X6_clear) B.pre
  have hown : s.vm.findClass RX6 = some m.cls := findClass_of_methodNamed B.named
  have hlocks := B.notSynchronized
  subst hsz
  have hD := hD0.self (sz := s.heap.size)
  generalize hAe : va_A [(h0, .inr (6, [.int 0, .ref g1, .ref g2, .ref g3, .ref g4, .ref g5, .ref g6, .ref g7, .ref g8, .ref g9, .ref g10, .ref g11, .ref g12, .ref g13, .int 0, .int 0]))] s.heap.size = A at hD ⊢
  have hA : ∀ q : Nat, s.heap.size ≤ q → A q := fun q h => by rw [← hAe]; exact Or.inr h
  have hS : va_S A s.heap s.heap [] := va_S.rf
  have hP : va_P (dC, dI) vwCl [(h0, .inr (6, [.int 0, .ref g1, .ref g2, .ref g3, .ref g4, .ref g5, .ref g6, .ref g7, .ref g8, .ref g9, .ref g10, .ref g11, .ref g12, .ref g13, .int 0, .int 0]))] s.heap := hP
  have hD : va_D A [(h0, .inr (6, [.int 0, .ref g1, .ref g2, .ref g3, .ref g4, .ref g5, .ref g6, .ref g7, .ref g8, .ref g9, .ref g10, .ref g11, .ref g12, .ref g13, .int 0, .int 0]))] := hD
  have hl := lv_entry ([.ref h0]) (n := 1) (Nat.le_of_ble_eq_true rfl)
  rw [lg_entry_eq]
  generalize (lg_sl ([.ref h0]) ++ List.replicate (1 - (lg_sl ([.ref h0])).length) Slot.unset).toArray = ls at hl ⊢
  have hl : lv_has ls 1 [(0, .ref h0)] := hl
  have hiX6 := hi_X6_clear_X6
  refine lv_aload_n hx hb dX6_clear_0 rfl (lv_at hl 0 rfl) ?_
  refine lv_iconst (v := 0) hx hb dX6_clear_1 (by decide) ?_
  refine va_put (D := (dC, dI)) (ci := 6) (v := .int 0) (ty := .int) (C := RX6) (T := TX6) (N := 16) hx hb hts hiX6 tyX6 tyX6_ok nmX6 hown hK hP hD hS 0 rfl rfl 0 (by decide) (hts (.fieldLink RX6 59 "ComboHouse$Program" "count" "I") (by decide +kernel)) (fun _ h9 => h9) rfl (by decide +kernel) rfl rfl (Nat.le_of_ble_eq_true rfl) dX6_clear_2 (fun H locs hP hD hS => ?_)
  have hP : va_P (dC, dI) vwCl [(h0, .inr (6, [.int 0, .ref g1, .ref g2, .ref g3, .ref g4, .ref g5, .ref g6, .ref g7, .ref g8, .ref g9, .ref g10, .ref g11, .ref g12, .ref g13, .int 0, .int 0]))] H := hP
  have hD : va_D A [(h0, .inr (6, [.int 0, .ref g1, .ref g2, .ref g3, .ref g4, .ref g5, .ref g6, .ref g7, .ref g8, .ref g9, .ref g10, .ref g11, .ref g12, .ref g13, .int 0, .int 0]))] := hD
  refine lv_aload_n hx hb dX6_clear_5 rfl (lv_at hl 0 rfl) ?_
  refine lv_iconst (v := 0) hx hb dX6_clear_6 (by decide) ?_
  refine va_put (D := (dC, dI)) (ci := 6) (v := .int 0) (ty := .int) (C := RX6) (T := TX6) (N := 16) hx hb hts hiX6 tyX6 tyX6_ok nmX6 hown hK hP hD hS 0 rfl rfl 15 (by decide) (hts (.fieldLink RX6 63 "ComboHouse$Program" "hiddens" "I") (by decide +kernel)) (fun _ h9 => h9) rfl (by decide +kernel) rfl rfl (Nat.le_of_ble_eq_true rfl) dX6_clear_7 (fun H locs hP hD hS => ?_)
  have hP : va_P (dC, dI) vwCl [(h0, .inr (6, [.int 0, .ref g1, .ref g2, .ref g3, .ref g4, .ref g5, .ref g6, .ref g7, .ref g8, .ref g9, .ref g10, .ref g11, .ref g12, .ref g13, .int 0, .int 0]))] H := hP
  have hD : va_D A [(h0, .inr (6, [.int 0, .ref g1, .ref g2, .ref g3, .ref g4, .ref g5, .ref g6, .ref g7, .ref g8, .ref g9, .ref g10, .ref g11, .ref g12, .ref g13, .int 0, .int 0]))] := hD
  refine lv_aload_n hx hb dX6_clear_10 rfl (lv_at hl 0 rfl) ?_
  refine lv_iconst (v := 0) hx hb dX6_clear_11 (by decide) ?_
  refine va_put (D := (dC, dI)) (ci := 6) (v := .int 0) (ty := .int) (C := RX6) (T := TX6) (N := 16) hx hb hts hiX6 tyX6 tyX6_ok nmX6 hown hK hP hD hS 0 rfl rfl 14 (by decide) (hts (.fieldLink RX6 66 "ComboHouse$Program" "witness" "I") (by decide +kernel)) (fun _ h9 => h9) rfl (by decide +kernel) rfl rfl (Nat.le_of_ble_eq_true rfl) dX6_clear_12 (fun H locs hP hD hS => ?_)
  have hP : va_P (dC, dI) vwCl [(h0, .inr (6, [.int 0, .ref g1, .ref g2, .ref g3, .ref g4, .ref g5, .ref g6, .ref g7, .ref g8, .ref g9, .ref g10, .ref g11, .ref g12, .ref g13, .int 0, .int 0]))] H := hP
  have hD : va_D A [(h0, .inr (6, [.int 0, .ref g1, .ref g2, .ref g3, .ref g4, .ref g5, .ref g6, .ref g7, .ref g8, .ref g9, .ref g10, .ref g11, .ref g12, .ref g13, .int 0, .int 0]))] := hD
  have hP9 : va_P (dC, dI) vwCl [(h0, .inr (6, [.int 0, .ref g1, .ref g2, .ref g3, .ref g4, .ref g5, .ref g6, .ref g7, .ref g8, .ref g9, .ref g10, .ref g11, .ref g12, .ref g13, .int 0, .int 0]))] H := by have h := hP.sub (ws' := [(h0, .inr (6, [.int 0, .ref g1, .ref g2, .ref g3, .ref g4, .ref g5, .ref g6, .ref g7, .ref g8, .ref g9, .ref g10, .ref g11, .ref g12, .ref g13, .int 0, .int 0]))]) [0] rfl; exact h
  have hD9 : va_D A [(h0, .inr (6, [.int 0, .ref g1, .ref g2, .ref g3, .ref g4, .ref g5, .ref g6, .ref g7, .ref g8, .ref g9, .ref g10, .ref g11, .ref g12, .ref g13, .int 0, .int 0]))] := by have h := hD.sub (ws' := [(h0, .inr (6, [.int 0, .ref g1, .ref g2, .ref g3, .ref g4, .ref g5, .ref g6, .ref g7, .ref g8, .ref g9, .ref g10, .ref g11, .ref g12, .ref g13, .int 0, .int 0]))]) [0] (by decide) rfl; exact h
  have hK9 := hK.sub (tys' := []) [] rfl
  refine W.widen (k := 0) (n := 0) (Nat.le_of_ble_eq_true rfl) (Nat.le_of_ble_eq_true rfl) ?_
  exact W.vret hx hb hr (fun t ht hW => ⟨⟨(), rfl, trivial, by rw [ht]; exact hP9, va_K.moved hW.alike hK9, hAe ▸ hD9⟩, hAe ▸ hS.F ht⟩) (fun q hq => hAe ▸ hS.2.2 q hq) dX6_clear_15
def wo_X3_readBits : List Cond := [.fieldLink RX3 47 "ComboHouse$Loader" "fault" "I", .fieldLink RX3 44 "ComboHouse$Loader" "end" "I", .fieldLink RX3 37 "ComboHouse$Loader" "at" "I"]
def wf_X3_readBits : List Cond := .code yX3_readBits cX3_readBits 4 (some .int) :: (wo_X3_readBits ++ wsX30)
theorem hi_X3_readBits_X3 : ∀ w ∈ wsX30, w ∈ wf_X3_readBits := fun _ h => (List.mem_cons_of_mem _ (List.mem_append_right _ h))
set_option maxHeartbeats 4000000 in
set_option maxRecDepth 100000 in
theorem c_X3_readBits_fresh (l : Launch) (dC : Nat → ClassId) (dI : Nat → Nat → Nat) (h0 o1 o2 o3 : Nat) (sz : Nat) : Met l yX3_readBits wf_X3_readBits ({ frames := 1, cells := 0, slots := 0, locals := 12 }) (va_Pc [.ref h0, .int 1] (fun U => U.heap.size = sz ∧ va_P (dC, dI) vwCl [(h0, .inr (3, [.ref o1, .ref o2, .ref o3, .int 0, .int 0, .int 0]))] U.heap ∧ va_K (dC, dI) vwCl [] U ∧ va_D (fun _ => True) [(h0, .inr (3, [.ref o1, .ref o2, .ref o3, .int 0, .int 0, .int 0]))])) (va_Qi (fun (r u : Int32) => u = r) (fun (r : Int32) (t : State) => (r = 0) ∧ va_P (dC, dI) vwCl [(h0, .inr (3, [.ref o1, .ref o2, .ref o3, .int 0, .int 0, .int 1]))] t.heap ∧ va_K (dC, dI) vwCl [] t ∧ va_D (va_A [(h0, .inr (3, [.ref o1, .ref o2, .ref o3, .int 0, .int 0, .int 0]))] sz) [(h0, .inr (3, [.ref o1, .ref o2, .ref o3, .int 0, .int 0, .int 1]))]) (va_A [(h0, .inr (3, [.ref o1, .ref o2, .ref o3, .int 0, .int 0, .int 0]))] sz)) 0 0 (va_A [(h0, .inr (3, [.ref o1, .ref o2, .ref o3, .int 0, .int 0, .int 0]))] sz) := by
  refine Met.ofW (cc := cX3_readBits) (maxL := 4) (ret := (some .int)) (by decide) rfl ?_
  intro p e s m args below meth c s₁ B hml hv
  obtain ⟨rfl, hsz, hP, hK, hD0⟩ := hv
  have hx := B.exec
  have hb := B.bytes
  have hr := B.returns
  have hts := atoms_spec (ws := wf_X3_readBits) B.pre
  have hown : s.vm.findClass RX3 = some m.cls := findClass_of_methodNamed B.named
  have hlocks := B.notSynchronized
  subst hsz
  have hD := hD0.self (sz := s.heap.size)
  generalize hAe : va_A [(h0, .inr (3, [.ref o1, .ref o2, .ref o3, .int 0, .int 0, .int 0]))] s.heap.size = A at hD ⊢
  have hA : ∀ q : Nat, s.heap.size ≤ q → A q := fun q h => by rw [← hAe]; exact Or.inr h
  have hS : va_S A s.heap s.heap [] := va_S.rf
  have hP : va_P (dC, dI) vwCl [(h0, .inr (3, [.ref o1, .ref o2, .ref o3, .int 0, .int 0, .int 0]))] s.heap := hP
  have hD : va_D A [(h0, .inr (3, [.ref o1, .ref o2, .ref o3, .int 0, .int 0, .int 0]))] := hD
  have hl := lv_entry ([.ref h0, .int 1]) (n := 4) (Nat.le_of_ble_eq_true rfl)
  rw [lg_entry_eq]
  generalize (lg_sl ([.ref h0, .int 1]) ++ List.replicate (4 - (lg_sl ([.ref h0, .int 1])).length) Slot.unset).toArray = ls at hl ⊢
  have hl : lv_has ls 4 [(0, .ref h0), (1, .int 1)] := hl
  have hiX3 := hi_X3_readBits_X3
  refine lv_aload_n hx hb dX3_readBits_0 rfl (lv_at hl 0 rfl) ?_
  refine va_get (D := (dC, dI)) (ci := 3) (v := .int 0) (C := RX3) (T := TX3) (N := 6) hx hb hts hiX3 hown hK hP 0 rfl rfl 5 (by decide) (hts (.fieldLink RX3 47 "ComboHouse$Loader" "fault" "I") (by decide +kernel)) (fun _ h9 => h9) rfl dX3_readBits_1 ?_
  refine lv_if_ne (tgt := 25) hx hb dX3_readBits_4 (by decide) (fun cnd_1 => ?_) (fun cnd_1 => ?_)
  · exact absurd rfl cnd_1
  refine lv_aload_n hx hb dX3_readBits_7 rfl (lv_at hl 0 rfl) ?_
  refine va_get (D := (dC, dI)) (ci := 3) (v := .int 0) (C := RX3) (T := TX3) (N := 6) hx hb hts hiX3 hown hK hP 0 rfl rfl 4 (by decide) (hts (.fieldLink RX3 44 "ComboHouse$Loader" "end" "I") (by decide +kernel)) (fun _ h9 => h9) rfl dX3_readBits_8 ?_
  refine lv_aload_n hx hb dX3_readBits_11 rfl (lv_at hl 0 rfl) ?_
  refine va_get (D := (dC, dI)) (ci := 3) (v := .int 0) (C := RX3) (T := TX3) (N := 6) hx hb hts hiX3 hown hK hP 0 rfl rfl 3 (by decide) (hts (.fieldLink RX3 37 "ComboHouse$Loader" "at" "I") (by decide +kernel)) (fun _ h9 => h9) rfl dX3_readBits_12 ?_
  refine lv_isub hx hb dX3_readBits_15 ?_
  refine W.eq (g2 := F0 m 16 ls [.int 0]) (by rfl) ?_
  refine lv_iload_n hx hb dX3_readBits_16 rfl (lv_at hl 1 rfl) ?_
  refine lv_icmp_ge (tgt := 25) hx hb dX3_readBits_17 (by decide) (fun cnd_2 => ?_) (fun cnd_2 => ?_)
  · exact absurd cnd_2 (by decide)
  refine lv_aload_n hx hb dX3_readBits_20 rfl (lv_at hl 0 rfl) ?_
  refine lv_iconst (v := 1) hx hb dX3_readBits_21 (by decide) ?_
  refine va_put (D := (dC, dI)) (ci := 3) (v := .int 1) (ty := .int) (C := RX3) (T := TX3) (N := 6) hx hb hts hiX3 tyX3 tyX3_ok nmX3 hown hK hP hD hS 0 rfl rfl 5 (by decide) (hts (.fieldLink RX3 47 "ComboHouse$Loader" "fault" "I") (by decide +kernel)) (fun _ h9 => h9) rfl (by decide +kernel) rfl rfl (Nat.le_of_ble_eq_true rfl) dX3_readBits_22 (fun H locs hP hD hS => ?_)
  have hP : va_P (dC, dI) vwCl [(h0, .inr (3, [.ref o1, .ref o2, .ref o3, .int 0, .int 0, .int 1]))] H := hP
  have hD : va_D A [(h0, .inr (3, [.ref o1, .ref o2, .ref o3, .int 0, .int 0, .int 1]))] := hD
  refine lv_aload_n hx hb dX3_readBits_25 rfl (lv_at hl 0 rfl) ?_
  refine va_get (D := (dC, dI)) (ci := 3) (v := .int 1) (C := RX3) (T := TX3) (N := 6) hx hb hts hiX3 hown hK hP 0 rfl rfl 5 (by decide) (hts (.fieldLink RX3 47 "ComboHouse$Loader" "fault" "I") (by decide +kernel)) (fun _ h9 => h9) rfl dX3_readBits_26 ?_
  refine lv_if_eq (tgt := 34) hx hb dX3_readBits_29 (by decide) (fun cnd_3 => ?_) (fun cnd_3 => ?_)
  · exact absurd cnd_3 (by decide)
  refine lv_iconst (v := 0) hx hb dX3_readBits_32 (by decide) ?_
  have hP9 : va_P (dC, dI) vwCl [(h0, .inr (3, [.ref o1, .ref o2, .ref o3, .int 0, .int 0, .int 1]))] H := by have h := hP.sub (ws' := [(h0, .inr (3, [.ref o1, .ref o2, .ref o3, .int 0, .int 0, .int 1]))]) [0] rfl; exact h
  have hD9 : va_D A [(h0, .inr (3, [.ref o1, .ref o2, .ref o3, .int 0, .int 0, .int 1]))] := by have h := hD.sub (ws' := [(h0, .inr (3, [.ref o1, .ref o2, .ref o3, .int 0, .int 0, .int 1]))]) [0] (by decide) rfl; exact h
  have hK9 := hK.sub (tys' := []) [] rfl
  refine W.widen (k := 0) (n := 0) (Nat.le_of_ble_eq_true rfl) (Nat.le_of_ble_eq_true rfl) ?_
  have er_4 : (0 : Int32) = 0 := by first | rfl | (simp; done)
  exact W.iret (v := 0) hx hb hr (fun t ht hW => ⟨⟨0, 0, rfl, rfl, er_4, by rw [ht]; exact hP9, va_K.moved hW.alike hK9, hAe ▸ hD9⟩, hAe ▸ hS.F ht⟩) (fun q hq => hAe ▸ hS.2.2 q hq) dX3_readBits_33
def wo_X3_readNatural : List Cond := [.fieldLink RX3 37 "ComboHouse$Loader" "at" "I", .fieldLink RX3 44 "ComboHouse$Loader" "end" "I"]
def wf_X3_readNatural : List Cond := .code yX3_readNatural cX3_readNatural 4 (some .int) :: ((wo_X3_readNatural ++ (wsV RX3 80 RX3 yX3_readBits wf_X3_readBits)) ++ wsX30)
set_option maxRecDepth 100000 in
theorem gf_X3_readNatural_0 : GoodIn wf_X3_readNatural (wsV RX3 80 RX3 yX3_readBits wf_X3_readBits) := goodIn_sub (fun _ h => (List.mem_cons_of_mem _ (List.mem_append_left _ (List.mem_append_right _ h)))) (by decide +kernel)
theorem hi_X3_readNatural_X3 : ∀ w ∈ wsX30, w ∈ wf_X3_readNatural := fun _ h => (List.mem_cons_of_mem _ (List.mem_append_right _ h))
set_option maxHeartbeats 4000000 in
set_option maxRecDepth 100000 in
theorem c_X3_readNatural_fresh (l : Launch) (dC : Nat → ClassId) (dI : Nat → Nat → Nat) (h0 o1 o2 o3 : Nat) (sz : Nat) : Met l yX3_readNatural wf_X3_readNatural ({ frames := 2, cells := 0, slots := 0, locals := 35 }) (va_Pc [.ref h0] (fun U => U.heap.size = sz ∧ va_P (dC, dI) vwCl [(h0, .inr (3, [.ref o1, .ref o2, .ref o3, .int 0, .int 0, .int 0]))] U.heap ∧ va_K (dC, dI) vwCl [] U ∧ va_D (fun _ => True) [(h0, .inr (3, [.ref o1, .ref o2, .ref o3, .int 0, .int 0, .int 0]))])) (va_Qi (fun (r u : Int32) => u = r) (fun (r : Int32) (t : State) => (r = 1) ∧ va_P (dC, dI) vwCl [(h0, .inr (3, [.ref o1, .ref o2, .ref o3, .int 0, .int 0, .int 1]))] t.heap ∧ va_K (dC, dI) vwCl [] t ∧ va_D (va_A [(h0, .inr (3, [.ref o1, .ref o2, .ref o3, .int 0, .int 0, .int 0]))] sz) [(h0, .inr (3, [.ref o1, .ref o2, .ref o3, .int 0, .int 0, .int 1]))]) (va_A [(h0, .inr (3, [.ref o1, .ref o2, .ref o3, .int 0, .int 0, .int 0]))] sz)) 0 0 (va_A [(h0, .inr (3, [.ref o1, .ref o2, .ref o3, .int 0, .int 0, .int 0]))] sz) := by
  refine Met.ofW (cc := cX3_readNatural) (maxL := 4) (ret := (some .int)) (by decide) rfl ?_
  intro p e s m args below meth c s₁ B hml hv
  obtain ⟨rfl, hsz, hP, hK, hD0⟩ := hv
  have hx := B.exec
  have hb := B.bytes
  have hr := B.returns
  have hts := atoms_spec (ws := wf_X3_readNatural) B.pre
  have hown : s.vm.findClass RX3 = some m.cls := findClass_of_methodNamed B.named
  have hlocks := B.notSynchronized
  subst hsz
  have hD := hD0.self (sz := s.heap.size)
  generalize hAe : va_A [(h0, .inr (3, [.ref o1, .ref o2, .ref o3, .int 0, .int 0, .int 0]))] s.heap.size = A at hD ⊢
  have hA : ∀ q : Nat, s.heap.size ≤ q → A q := fun q h => by rw [← hAe]; exact Or.inr h
  have hS : va_S A s.heap s.heap [] := va_S.rf
  have hP : va_P (dC, dI) vwCl [(h0, .inr (3, [.ref o1, .ref o2, .ref o3, .int 0, .int 0, .int 0]))] s.heap := hP
  have hD : va_D A [(h0, .inr (3, [.ref o1, .ref o2, .ref o3, .int 0, .int 0, .int 0]))] := hD
  have hl := lv_entry ([.ref h0]) (n := 4) (Nat.le_of_ble_eq_true rfl)
  rw [lg_entry_eq]
  generalize (lg_sl ([.ref h0]) ++ List.replicate (4 - (lg_sl ([.ref h0])).length) Slot.unset).toArray = ls at hl ⊢
  have hl : lv_has ls 4 [(0, .ref h0)] := hl
  have hiX3 := hi_X3_readNatural_X3
  refine lv_iconst (v := 0) hx hb dX3_readNatural_0 (by decide) ?_
  refine lv_istore_n (lv' := [(1, .int 0), (0, .ref h0)]) hx hb dX3_readNatural_1 rfl hl (by decide) rfl (fun ls hl => ?_)
  refine lv_aload_n hx hb dX3_readNatural_2 rfl (lv_at hl 1 rfl) ?_
  refine va_get (D := (dC, dI)) (ci := 3) (v := .int 0) (C := RX3) (T := TX3) (N := 6) hx hb hts hiX3 hown hK hP 0 rfl rfl 3 (by decide) (hts (.fieldLink RX3 37 "ComboHouse$Loader" "at" "I") (by decide +kernel)) (fun _ h9 => h9) rfl dX3_readNatural_3 ?_
  refine lv_aload_n hx hb dX3_readNatural_6 rfl (lv_at hl 1 rfl) ?_
  refine va_get (D := (dC, dI)) (ci := 3) (v := .int 0) (C := RX3) (T := TX3) (N := 6) hx hb hts hiX3 hown hK hP 0 rfl rfl 4 (by decide) (hts (.fieldLink RX3 44 "ComboHouse$Loader" "end" "I") (by decide +kernel)) (fun _ h9 => h9) rfl dX3_readNatural_7 ?_
  refine lv_icmp_ge (tgt := 44) hx hb dX3_readNatural_10 (by decide) (fun cnd_1 => ?_) (fun cnd_1 => ?_)
  rotate_left
  · exact absurd (by decide) cnd_1
  refine lv_aload_n hx hb dX3_readNatural_44 rfl (lv_at hl 1 rfl) ?_
  refine lv_iconst (v := 1) hx hb dX3_readNatural_45 (by decide) ?_
  have hPc := hP.sub (ws' := [(h0, .inr (3, [.ref o1, .ref o2, .ref o3, .int 0, .int 0, .int 0]))]) [0] rfl
  have hDc := hD.sub (ws' := [(h0, .inr (3, [.ref o1, .ref o2, .ref o3, .int 0, .int 0, .int 0]))]) [0] (by decide) rfl
  have hKc := hK.sub (tys' := []) [] rfl
  have hFc := va_free (wc := [(h0, .inr (3, [.ref o1, .ref o2, .ref o3, .int 0, .int 0, .int 0]))]) hD hS hA [0] rfl
  refine va_calli (va_runV (As := [.int 1]) (rest := []) ⟨hx, hb, hml, hown, hts⟩ (c_X3_readBits_fresh l dC dI h0 o1 o2 o3 s.heap.size) (cwV 1 hts gf_X3_readNatural_0 rfl rfl rfl (by decide +kernel) ⟨Nat.le_of_ble_eq_true rfl, Nat.le_of_ble_eq_true rfl⟩) ⟨fun a U g mk q => by obtain ⟨q0, q1, qP, qK, qD⟩ := q; exact ⟨q0, q1, qP, va_K.moved (u := U) (U := U.calling g mk a) (Vm.Alike.refl U.vm) qK, qD⟩, va_recv hKc hPc (ci := 3) (q0 := 0) rfl rfl, fun U hU hW => ⟨rfl, by rw [hU], by rw [hU]; exact hPc, va_K.moved hW.alike hKc, hDc.weaken (fun _ _ _ _ => trivial)⟩⟩ rfl rfl hl.1 rfl (lv_room (Nat.le_of_ble_eq_true rfl)) dX3_readNatural_46 ⟨Nat.le_of_ble_eq_true rfl, Nat.le_of_ble_eq_true rfl⟩) hS (fun q _ h => hFc q h) hFc (fun r_2 u t H1 locs ht hvm hw hB hz1 hk1 hS => ?_)
  obtain rfl : u = r_2 := hw
  obtain ⟨hr_3, hP1, hK1, hD1⟩ := hB
  rw [ht] at hP1
  have hK1 := va_K.moved hvm.symm hK1
  obtain ⟨hP, hD⟩ := va_join (wr := []) (w1 := [(h0, .inr (3, [.ref o1, .ref o2, .ref o3, .int 0, .int 0, .int 1]))]) hP hD [0] [] rfl rfl (by decide) (by decide) hk1 hFc hP1 hD1
  have hK := (hK.sub (tys' := []) [] rfl).app hK1
  generalize H1 = H at hP hS ⊢
  have hP : va_P (dC, dI) vwCl [(h0, .inr (3, [.ref o1, .ref o2, .ref o3, .int 0, .int 0, .int 1]))] H := hP
  have hD : va_D A [(h0, .inr (3, [.ref o1, .ref o2, .ref o3, .int 0, .int 0, .int 1]))] := hD
  have hK : va_K (dC, dI) vwCl [] s := hK
  refine W.widen (k := 0) (n := 0) (Nat.le_of_ble_eq_true rfl) (Nat.le_of_ble_eq_true rfl) ?_
  subst hr_3
  refine lv_pop hx hb dX3_readNatural_49 rfl ?_
  refine lv_iconst (v := 1) hx hb dX3_readNatural_50 (by decide) ?_
  refine lv_istore_n (lv' := [(2, .int 1), (1, .int 0), (0, .ref h0)]) hx hb dX3_readNatural_51 rfl hl (by decide) rfl (fun ls hl => ?_)
  refine lv_iconst (v := 0) hx hb dX3_readNatural_52 (by decide) ?_
  refine lv_istore_n (lv' := [(3, .int 0), (2, .int 1), (1, .int 0), (0, .ref h0)]) hx hb dX3_readNatural_53 rfl hl (by decide) rfl (fun ls hl => ?_)
  refine lv_iload_n hx hb dX3_readNatural_54 rfl (lv_at hl 0 rfl) ?_
  refine lv_iload_n hx hb dX3_readNatural_55 rfl (lv_at hl 2 rfl) ?_
  refine lv_icmp_ge (tgt := 96) hx hb dX3_readNatural_56 (by decide) (fun cnd_4 => ?_) (fun cnd_4 => ?_)
  rotate_left
  · exact absurd (by decide) cnd_4
  refine lv_iload_n hx hb dX3_readNatural_96 rfl (lv_at hl 1 rfl) ?_
  have hP9 : va_P (dC, dI) vwCl [(h0, .inr (3, [.ref o1, .ref o2, .ref o3, .int 0, .int 0, .int 1]))] H := by have h := hP.sub (ws' := [(h0, .inr (3, [.ref o1, .ref o2, .ref o3, .int 0, .int 0, .int 1]))]) [0] rfl; exact h
  have hD9 : va_D A [(h0, .inr (3, [.ref o1, .ref o2, .ref o3, .int 0, .int 0, .int 1]))] := by have h := hD.sub (ws' := [(h0, .inr (3, [.ref o1, .ref o2, .ref o3, .int 0, .int 0, .int 1]))]) [0] (by decide) rfl; exact h
  have hK9 := hK.sub (tys' := []) [] rfl
  refine W.widen (k := 0) (n := 0) (Nat.le_of_ble_eq_true rfl) (Nat.le_of_ble_eq_true rfl) ?_
  have er_5 : (1 : Int32) = 1 := by first | rfl | (simp; done)
  exact W.iret (v := 1) hx hb hr (fun t ht hW => ⟨⟨1, 1, rfl, rfl, er_5, by rw [ht]; exact hP9, va_K.moved hW.alike hK9, hAe ▸ hD9⟩, hAe ▸ hS.F ht⟩) (fun q hq => hAe ▸ hS.2.2 q hq) dX3_readNatural_97
def wo_X3_readProgram : List Cond := [.fieldLink RX3 15 "ComboHouse$Loader" "program" "LComboHouse$Program;", .fieldLink RX3 24 "ComboHouse$Program" "bytes" "LComboHouse$Row;", .fieldLink RX3 34 "ComboHouse$Loader" "row" "LComboHouse$Row;", .fieldLink RX3 37 "ComboHouse$Loader" "at" "I", .fieldLink RX3 41 "ComboHouse$Row" "size" "I", .fieldLink RX3 44 "ComboHouse$Loader" "end" "I", .fieldLink RX3 47 "ComboHouse$Loader" "fault" "I"]
def wf_X3_readProgram : List Cond := .code yX3_readProgram cX3_readProgram 5 (some .int) :: ((((((wo_X3_readProgram ++ (wsV RX3 19 RX6 yX6_clear wf_X6_clear)) ++ (wsV RX3 28 RX8 yX8_copy wsX8_copy)) ++ (wsV RX3 50 RX3 yX3_readNatural wf_X3_readNatural)) ++ wsX30) ++ wsX60) ++ wsX80)
set_option maxRecDepth 100000 in
theorem gf_X3_readProgram_0 : GoodIn wf_X3_readProgram (wsV RX3 19 RX6 yX6_clear wf_X6_clear) := goodIn_sub (fun _ h => (List.mem_cons_of_mem _ (List.mem_append_left _ (List.mem_append_left _ (List.mem_append_left _ (List.mem_append_left _ (List.mem_append_left _ (List.mem_append_right _ h)))))))) (by decide +kernel)
set_option maxRecDepth 100000 in
theorem gf_X3_readProgram_1 : GoodIn wf_X3_readProgram (wsV RX3 28 RX8 yX8_copy wsX8_copy) := goodIn_sub (fun _ h => (List.mem_cons_of_mem _ (List.mem_append_left _ (List.mem_append_left _ (List.mem_append_left _ (List.mem_append_left _ (List.mem_append_right _ h))))))) (by decide +kernel)
set_option maxRecDepth 100000 in
theorem gf_X3_readProgram_2 : GoodIn wf_X3_readProgram (wsV RX3 50 RX3 yX3_readNatural wf_X3_readNatural) := goodIn_sub (fun _ h => (List.mem_cons_of_mem _ (List.mem_append_left _ (List.mem_append_left _ (List.mem_append_left _ (List.mem_append_right _ h)))))) (by decide +kernel)
theorem hi_X3_readProgram_X3 : ∀ w ∈ wsX30, w ∈ wf_X3_readProgram := fun _ h => (List.mem_cons_of_mem _ (List.mem_append_left _ (List.mem_append_left _ (List.mem_append_right _ h))))
theorem hi_X3_readProgram_X6 : ∀ w ∈ wsX60, w ∈ wf_X3_readProgram := fun _ h => (List.mem_cons_of_mem _ (List.mem_append_left _ (List.mem_append_right _ h)))
theorem hi_X3_readProgram_X8 : ∀ w ∈ wsX80, w ∈ wf_X3_readProgram := fun _ h => (List.mem_cons_of_mem _ (List.mem_append_right _ h))
set_option maxHeartbeats 4000000 in
set_option maxRecDepth 100000 in
theorem c_X3_readProgram_fresh (l : Launch) (dC : Nat → ClassId) (dI : Nat → Nat → Nat) (h0 o1 h1 h2 : Nat) (g1 g2 g3 g4 g5 g6 g7 g8 g9 g10 g11 g12 g13 : Nat) (b0 b1 : Nat) (k0 k1 : ClassId) (sz : Nat) : Met l yX3_readProgram wf_X3_readProgram ({ frames := 3, cells := 0, slots := 0, locals := 85 }) (va_Pc [.ref h0, .ref h1, .ref h2] (fun U => U.heap.size = sz ∧ va_P (dC, dI) vwCl [(h0, .inr (3, [.ref o1, .null, .null, .int 0, .int 0, .int 0])), (h2, .inr (6, [.int 0, .ref g1, .ref g2, .ref g3, .ref g4, .ref g5, .ref g6, .ref g7, .ref g8, .ref g9, .ref g10, .ref g11, .ref g12, .ref g13, .int 0, .int 0])), (g12, .inr (8, [.ref b1, .int 0, .int 0, .int 0])), (b1, .inl (k1, 8192, .inl (fun _ => 0))), (h1, .inr (8, [.ref b0, .int 0, .int 0, .int 0])), (b0, .inl (k0, 8192, .inl (fun _ => 0)))] U.heap ∧ va_K (dC, dI) vwCl [(k1, .byte), (k0, .byte)] U ∧ va_D (fun _ => True) [(h0, .inr (3, [.ref o1, .null, .null, .int 0, .int 0, .int 0])), (h2, .inr (6, [.int 0, .ref g1, .ref g2, .ref g3, .ref g4, .ref g5, .ref g6, .ref g7, .ref g8, .ref g9, .ref g10, .ref g11, .ref g12, .ref g13, .int 0, .int 0])), (g12, .inr (8, [.ref b1, .int 0, .int 0, .int 0])), (b1, .inl (k1, 8192, .inl (fun _ => 0))), (h1, .inr (8, [.ref b0, .int 0, .int 0, .int 0])), (b0, .inl (k0, 8192, .inl (fun _ => 0)))])) (va_Qi (fun (r u : Int32) => u = r) (fun (r : Int32) (t : State) => (r = 1) ∧ va_P (dC, dI) vwCl [(h0, .inr (3, [.ref o1, .ref h2, .ref g12, .int 0, .int 0, .int 1])), (h1, .inr (8, [.ref b0, .int 0, .int 0, .int 0])), (b0, .inl (k0, 8192, .inl (fun _ => 0)))] t.heap ∧ va_K (dC, dI) vwCl [(k0, .byte)] t ∧ va_D (va_A [(h0, .inr (3, [.ref o1, .null, .null, .int 0, .int 0, .int 0])), (h2, .inr (6, [.int 0, .ref g1, .ref g2, .ref g3, .ref g4, .ref g5, .ref g6, .ref g7, .ref g8, .ref g9, .ref g10, .ref g11, .ref g12, .ref g13, .int 0, .int 0])), (g12, .inr (8, [.ref b1, .int 0, .int 0, .int 0])), (b1, .inl (k1, 8192, .inl (fun _ => 0))), (h1, .inr (8, [.ref b0, .int 0, .int 0, .int 0])), (b0, .inl (k0, 8192, .inl (fun _ => 0)))] sz) [(h0, .inr (3, [.ref o1, .ref h2, .ref g12, .int 0, .int 0, .int 1])), (h1, .inr (8, [.ref b0, .int 0, .int 0, .int 0])), (b0, .inl (k0, 8192, .inl (fun _ => 0)))]) (va_A [(h0, .inr (3, [.ref o1, .null, .null, .int 0, .int 0, .int 0])), (h2, .inr (6, [.int 0, .ref g1, .ref g2, .ref g3, .ref g4, .ref g5, .ref g6, .ref g7, .ref g8, .ref g9, .ref g10, .ref g11, .ref g12, .ref g13, .int 0, .int 0])), (g12, .inr (8, [.ref b1, .int 0, .int 0, .int 0])), (b1, .inl (k1, 8192, .inl (fun _ => 0))), (h1, .inr (8, [.ref b0, .int 0, .int 0, .int 0])), (b0, .inl (k0, 8192, .inl (fun _ => 0)))] sz)) 0 0 (va_A [(h0, .inr (3, [.ref o1, .null, .null, .int 0, .int 0, .int 0])), (h2, .inr (6, [.int 0, .ref g1, .ref g2, .ref g3, .ref g4, .ref g5, .ref g6, .ref g7, .ref g8, .ref g9, .ref g10, .ref g11, .ref g12, .ref g13, .int 0, .int 0])), (g12, .inr (8, [.ref b1, .int 0, .int 0, .int 0])), (b1, .inl (k1, 8192, .inl (fun _ => 0))), (h1, .inr (8, [.ref b0, .int 0, .int 0, .int 0])), (b0, .inl (k0, 8192, .inl (fun _ => 0)))] sz) := by
  refine Met.ofW (cc := cX3_readProgram) (maxL := 5) (ret := (some .int)) (by decide) rfl ?_
  intro p e s m args below meth c s₁ B hml hv
  obtain ⟨rfl, hsz, hP, hK, hD0⟩ := hv
  have hx := B.exec
  have hb := B.bytes
  have hr := B.returns
  have hts := atoms_spec (ws := wf_X3_readProgram) B.pre
  have hown : s.vm.findClass RX3 = some m.cls := findClass_of_methodNamed B.named
  have hlocks := B.notSynchronized
  subst hsz
  have hD := hD0.self (sz := s.heap.size)
  generalize hAe : va_A [(h0, .inr (3, [.ref o1, .null, .null, .int 0, .int 0, .int 0])), (h2, .inr (6, [.int 0, .ref g1, .ref g2, .ref g3, .ref g4, .ref g5, .ref g6, .ref g7, .ref g8, .ref g9, .ref g10, .ref g11, .ref g12, .ref g13, .int 0, .int 0])), (g12, .inr (8, [.ref b1, .int 0, .int 0, .int 0])), (b1, .inl (k1, 8192, .inl (fun _ => 0))), (h1, .inr (8, [.ref b0, .int 0, .int 0, .int 0])), (b0, .inl (k0, 8192, .inl (fun _ => 0)))] s.heap.size = A at hD ⊢
  have hA : ∀ q : Nat, s.heap.size ≤ q → A q := fun q h => by rw [← hAe]; exact Or.inr h
  have hS : va_S A s.heap s.heap [] := va_S.rf
  have hP : va_P (dC, dI) vwCl [(h0, .inr (3, [.ref o1, .null, .null, .int 0, .int 0, .int 0])), (h2, .inr (6, [.int 0, .ref g1, .ref g2, .ref g3, .ref g4, .ref g5, .ref g6, .ref g7, .ref g8, .ref g9, .ref g10, .ref g11, .ref g12, .ref g13, .int 0, .int 0])), (g12, .inr (8, [.ref b1, .int 0, .int 0, .int 0])), (b1, .inl (k1, 8192, .inl (fun _ => 0))), (h1, .inr (8, [.ref b0, .int 0, .int 0, .int 0])), (b0, .inl (k0, 8192, .inl (fun _ => 0)))] s.heap := hP
  have hD : va_D A [(h0, .inr (3, [.ref o1, .null, .null, .int 0, .int 0, .int 0])), (h2, .inr (6, [.int 0, .ref g1, .ref g2, .ref g3, .ref g4, .ref g5, .ref g6, .ref g7, .ref g8, .ref g9, .ref g10, .ref g11, .ref g12, .ref g13, .int 0, .int 0])), (g12, .inr (8, [.ref b1, .int 0, .int 0, .int 0])), (b1, .inl (k1, 8192, .inl (fun _ => 0))), (h1, .inr (8, [.ref b0, .int 0, .int 0, .int 0])), (b0, .inl (k0, 8192, .inl (fun _ => 0)))] := hD
  have hl := lv_entry ([.ref h0, .ref h1, .ref h2]) (n := 5) (Nat.le_of_ble_eq_true rfl)
  rw [lg_entry_eq]
  generalize (lg_sl ([.ref h0, .ref h1, .ref h2]) ++ List.replicate (5 - (lg_sl ([.ref h0, .ref h1, .ref h2])).length) Slot.unset).toArray = ls at hl ⊢
  have hl : lv_has ls 5 [(0, .ref h0), (1, .ref h1), (2, .ref h2)] := hl
  have hiX3 := hi_X3_readProgram_X3
  have hiX6 := hi_X3_readProgram_X6
  have hiX8 := hi_X3_readProgram_X8
  refine lv_aload_n hx hb dX3_readProgram_0 rfl (lv_at hl 0 rfl) ?_
  refine lv_aload_n hx hb dX3_readProgram_1 rfl (lv_at hl 2 rfl) ?_
  refine va_put (D := (dC, dI)) (ci := 3) (v := .ref h2) (ty := .object "ComboHouse$Program") (C := RX3) (T := TX3) (N := 6) hx hb hts hiX3 tyX3 tyX3_ok nmX3 hown hK hP hD hS 0 rfl rfl 1 (by decide) (hts (.fieldLink RX3 15 "ComboHouse$Loader" "program" "LComboHouse$Program;") (by decide +kernel)) (fun _ h9 => h9) rfl (by decide +kernel) rfl rfl (Nat.le_of_ble_eq_true rfl) dX3_readProgram_2 (fun H locs hP hD hS => ?_)
  have hP : va_P (dC, dI) vwCl [(h0, .inr (3, [.ref o1, .ref h2, .null, .int 0, .int 0, .int 0])), (h2, .inr (6, [.int 0, .ref g1, .ref g2, .ref g3, .ref g4, .ref g5, .ref g6, .ref g7, .ref g8, .ref g9, .ref g10, .ref g11, .ref g12, .ref g13, .int 0, .int 0])), (g12, .inr (8, [.ref b1, .int 0, .int 0, .int 0])), (b1, .inl (k1, 8192, .inl (fun _ => 0))), (h1, .inr (8, [.ref b0, .int 0, .int 0, .int 0])), (b0, .inl (k0, 8192, .inl (fun _ => 0)))] H := hP
  have hD : va_D A [(h0, .inr (3, [.ref o1, .ref h2, .null, .int 0, .int 0, .int 0])), (h2, .inr (6, [.int 0, .ref g1, .ref g2, .ref g3, .ref g4, .ref g5, .ref g6, .ref g7, .ref g8, .ref g9, .ref g10, .ref g11, .ref g12, .ref g13, .int 0, .int 0])), (g12, .inr (8, [.ref b1, .int 0, .int 0, .int 0])), (b1, .inl (k1, 8192, .inl (fun _ => 0))), (h1, .inr (8, [.ref b0, .int 0, .int 0, .int 0])), (b0, .inl (k0, 8192, .inl (fun _ => 0)))] := hD
  refine lv_aload_n hx hb dX3_readProgram_5 rfl (lv_at hl 0 rfl) ?_
  refine va_get (D := (dC, dI)) (ci := 3) (v := .ref h2) (C := RX3) (T := TX3) (N := 6) hx hb hts hiX3 hown hK hP 0 rfl rfl 1 (by decide) (hts (.fieldLink RX3 15 "ComboHouse$Loader" "program" "LComboHouse$Program;") (by decide +kernel)) (fun _ h9 => h9) rfl dX3_readProgram_6 ?_
  have hPc := hP.sub (ws' := [(h2, .inr (6, [.int 0, .ref g1, .ref g2, .ref g3, .ref g4, .ref g5, .ref g6, .ref g7, .ref g8, .ref g9, .ref g10, .ref g11, .ref g12, .ref g13, .int 0, .int 0]))]) [1] rfl
  have hDc := hD.sub (ws' := [(h2, .inr (6, [.int 0, .ref g1, .ref g2, .ref g3, .ref g4, .ref g5, .ref g6, .ref g7, .ref g8, .ref g9, .ref g10, .ref g11, .ref g12, .ref g13, .int 0, .int 0]))]) [1] (by decide) rfl
  have hKc := hK.sub (tys' := []) [] rfl
  have hFc := va_free (wc := [(h2, .inr (6, [.int 0, .ref g1, .ref g2, .ref g3, .ref g4, .ref g5, .ref g6, .ref g7, .ref g8, .ref g9, .ref g10, .ref g11, .ref g12, .ref g13, .int 0, .int 0]))]) hD hS hA [1] rfl
  refine va_callv (va_runV (As := []) (rest := []) ⟨hx, hb, hml, hown, hts⟩ (c_X6_clear_fresh l dC dI h2 g1 g2 g3 g4 g5 g6 g7 g8 g9 g10 g11 g12 g13 H.size) (cwV 0 hts gf_X3_readProgram_0 rfl rfl rfl (by decide +kernel) ⟨Nat.le_of_ble_eq_true rfl, Nat.le_of_ble_eq_true rfl⟩) ⟨fun a U g mk q => by obtain ⟨q0, q1, qP, qK, qD⟩ := q; exact ⟨q0, q1, qP, va_K.moved (u := U) (U := U.calling g mk a) (Vm.Alike.refl U.vm) qK, qD⟩, va_recv hKc hPc (ci := 6) (q0 := 0) rfl rfl, fun U hU hW => ⟨rfl, by rw [hU], by rw [hU]; exact hPc, va_K.moved hW.alike hKc, hDc.weaken (fun _ _ _ _ => trivial)⟩⟩ rfl rfl hl.1 rfl (lv_room (Nat.le_of_ble_eq_true rfl)) dX3_readProgram_9 ⟨Nat.le_of_ble_eq_true rfl, Nat.le_of_ble_eq_true rfl⟩) hS (fun q _ h => hFc q h) hFc (fun u t H1 locs ht hvm hw hB hz1 hk1 hS => ?_)
  obtain ⟨hP1, hK1, hD1⟩ := hB
  rw [ht] at hP1
  have hK1 := va_K.moved hvm.symm hK1
  obtain ⟨hP, hD⟩ := va_join (wr := [(h0, .inr (3, [.ref o1, .ref h2, .null, .int 0, .int 0, .int 0])), (g12, .inr (8, [.ref b1, .int 0, .int 0, .int 0])), (b1, .inl (k1, 8192, .inl (fun _ => 0))), (h1, .inr (8, [.ref b0, .int 0, .int 0, .int 0])), (b0, .inl (k0, 8192, .inl (fun _ => 0)))]) (w1 := [(h2, .inr (6, [.int 0, .ref g1, .ref g2, .ref g3, .ref g4, .ref g5, .ref g6, .ref g7, .ref g8, .ref g9, .ref g10, .ref g11, .ref g12, .ref g13, .int 0, .int 0]))]) hP hD [1] [0, 2, 3, 4, 5] rfl rfl (by decide) (by decide) hk1 hFc hP1 hD1
  have hK := (hK.sub (tys' := [(k1, .byte), (k0, .byte)]) [0, 1] rfl).app hK1
  generalize H1 = H at hP hS ⊢
  have hP : va_P (dC, dI) vwCl [(h0, .inr (3, [.ref o1, .ref h2, .null, .int 0, .int 0, .int 0])), (g12, .inr (8, [.ref b1, .int 0, .int 0, .int 0])), (b1, .inl (k1, 8192, .inl (fun _ => 0))), (h1, .inr (8, [.ref b0, .int 0, .int 0, .int 0])), (b0, .inl (k0, 8192, .inl (fun _ => 0))), (h2, .inr (6, [.int 0, .ref g1, .ref g2, .ref g3, .ref g4, .ref g5, .ref g6, .ref g7, .ref g8, .ref g9, .ref g10, .ref g11, .ref g12, .ref g13, .int 0, .int 0]))] H := hP
  have hD : va_D A [(h0, .inr (3, [.ref o1, .ref h2, .null, .int 0, .int 0, .int 0])), (g12, .inr (8, [.ref b1, .int 0, .int 0, .int 0])), (b1, .inl (k1, 8192, .inl (fun _ => 0))), (h1, .inr (8, [.ref b0, .int 0, .int 0, .int 0])), (b0, .inl (k0, 8192, .inl (fun _ => 0))), (h2, .inr (6, [.int 0, .ref g1, .ref g2, .ref g3, .ref g4, .ref g5, .ref g6, .ref g7, .ref g8, .ref g9, .ref g10, .ref g11, .ref g12, .ref g13, .int 0, .int 0]))] := hD
  have hK : va_K (dC, dI) vwCl [(k1, .byte), (k0, .byte)] s := hK
  refine W.widen (k := 0) (n := 0) (Nat.le_of_ble_eq_true rfl) (Nat.le_of_ble_eq_true rfl) ?_
  refine lv_aload_n hx hb dX3_readProgram_12 rfl (lv_at hl 0 rfl) ?_
  refine va_get (D := (dC, dI)) (ci := 3) (v := .ref h2) (C := RX3) (T := TX3) (N := 6) hx hb hts hiX3 hown hK hP 0 rfl rfl 1 (by decide) (hts (.fieldLink RX3 15 "ComboHouse$Loader" "program" "LComboHouse$Program;") (by decide +kernel)) (fun _ h9 => h9) rfl dX3_readProgram_13 ?_
  refine va_get (D := (dC, dI)) (ci := 6) (v := .ref g12) (C := RX6) (T := TX6) (N := 16) hx hb hts hiX6 hown hK hP 5 rfl rfl 12 (by decide) (hts (.fieldLink RX3 24 "ComboHouse$Program" "bytes" "LComboHouse$Row;") (by decide +kernel)) (fun _ h9 => h9) rfl dX3_readProgram_16 ?_
  refine lv_aload_n hx hb dX3_readProgram_19 rfl (lv_at hl 1 rfl) ?_
  have hPc := hP.sub (ws' := [(g12, .inr (8, [.ref b1, .int 0, .int 0, .int 0])), (b1, .inl (k1, 8192, .inl (fun _ => 0))), (h1, .inr (8, [.ref b0, .int 0, .int 0, .int 0])), (b0, .inl (k0, 8192, .inl (fun _ => 0)))]) [1, 2, 3, 4] rfl
  have hDc := hD.sub (ws' := [(g12, .inr (8, [.ref b1, .int 0, .int 0, .int 0])), (b1, .inl (k1, 8192, .inl (fun _ => 0))), (h1, .inr (8, [.ref b0, .int 0, .int 0, .int 0])), (b0, .inl (k0, 8192, .inl (fun _ => 0)))]) [1, 2, 3, 4] (by decide) rfl
  have hKc := hK.sub (tys' := [(k1, .byte), (k0, .byte)]) [0, 1] rfl
  have hFc := va_free (wc := [(g12, .inr (8, [.ref b1, .int 0, .int 0, .int 0])), (b1, .inl (k1, 8192, .inl (fun _ => 0))), (h1, .inr (8, [.ref b0, .int 0, .int 0, .int 0])), (b0, .inl (k0, 8192, .inl (fun _ => 0)))]) hD hS hA [1, 2, 3, 4] rfl
  refine va_callv (va_runV (As := [.ref h1]) (rest := []) ⟨hx, hb, hml, hown, hts⟩ (c_X8_copy l dC dI g12 b1 k1 (fun _ => 0) 0 0 0 h1 b0 k0 (fun _ => 0) 0 0 0 H.size (by decide) (fun i hi => absurd hi (Nat.not_lt_zero i))) (cwV 1 hts gf_X3_readProgram_1 rfl rfl rfl (by decide +kernel) ⟨Nat.le_of_ble_eq_true rfl, Nat.le_of_ble_eq_true rfl⟩) ⟨fun a U g mk q => by obtain ⟨q0, q1, qP, qK, qD⟩ := q; exact ⟨q0, q1, qP, va_K.moved (u := U) (U := U.calling g mk a) (Vm.Alike.refl U.vm) qK, qD⟩, va_recv hKc hPc (ci := 8) (q0 := 0) rfl rfl, fun U hU hW => ⟨rfl, by rw [hU], by rw [hU]; exact hPc, va_K.moved hW.alike hKc, hDc.weaken (fun _ _ _ _ => trivial)⟩⟩ rfl rfl hl.1 rfl (lv_room (Nat.le_of_ble_eq_true rfl)) dX3_readProgram_20 ⟨Nat.le_of_ble_eq_true rfl, Nat.le_of_ble_eq_true rfl⟩) hS (fun q _ h => hFc q h) hFc (fun u t H1 locs ht hvm hw hB hz1 hk1 hS => ?_)
  obtain ⟨hP1, hK1, hD1⟩ := hB
  rw [ht] at hP1
  have hK1 := va_K.moved hvm.symm hK1
  obtain ⟨hP, hD⟩ := va_join (wr := [(h0, .inr (3, [.ref o1, .ref h2, .null, .int 0, .int 0, .int 0])), (h2, .inr (6, [.int 0, .ref g1, .ref g2, .ref g3, .ref g4, .ref g5, .ref g6, .ref g7, .ref g8, .ref g9, .ref g10, .ref g11, .ref g12, .ref g13, .int 0, .int 0]))]) (w1 := [(g12, .inr (8, [.ref b1, .int 0, .int 0, .int 0])), (b1, .inl (k1, 8192, .inl (va_cpy (fun _ => 0) (fun _ => 0) 0 0 0))), (h1, .inr (8, [.ref b0, .int 0, .int 0, .int 0])), (b0, .inl (k0, 8192, .inl ((fun _ => 0))))]) hP hD [1, 2, 3, 4] [0, 5] rfl rfl (by decide) (by decide) hk1 hFc hP1 hD1
  have hK := (hK.sub (tys' := []) [] rfl).app hK1
  generalize H1 = H at hP hS ⊢
  obtain ⟨g_3, eg_3⟩ : ∃ y : Nat → Int32, y = va_cpy (fun _ => 0) (fun _ => 0) 0 0 0 := ⟨_, rfl⟩
  obtain ⟨g_4, eg_4⟩ : ∃ y : Nat → Int32, y = (fun _ => 0) := ⟨_, rfl⟩
  have hP : va_P (dC, dI) vwCl [(h0, .inr (3, [.ref o1, .ref h2, .null, .int 0, .int 0, .int 0])), (h2, .inr (6, [.int 0, .ref g1, .ref g2, .ref g3, .ref g4, .ref g5, .ref g6, .ref g7, .ref g8, .ref g9, .ref g10, .ref g11, .ref g12, .ref g13, .int 0, .int 0])), (g12, .inr (8, [.ref b1, .int 0, .int 0, .int 0])), (b1, .inl (k1, 8192, .inl g_3)), (h1, .inr (8, [.ref b0, .int 0, .int 0, .int 0])), (b0, .inl (k0, 8192, .inl g_4))] H := by rw [eg_3, eg_4]; exact hP
  have hD : va_D A [(h0, .inr (3, [.ref o1, .ref h2, .null, .int 0, .int 0, .int 0])), (h2, .inr (6, [.int 0, .ref g1, .ref g2, .ref g3, .ref g4, .ref g5, .ref g6, .ref g7, .ref g8, .ref g9, .ref g10, .ref g11, .ref g12, .ref g13, .int 0, .int 0])), (g12, .inr (8, [.ref b1, .int 0, .int 0, .int 0])), (b1, .inl (k1, 8192, .inl g_3)), (h1, .inr (8, [.ref b0, .int 0, .int 0, .int 0])), (b0, .inl (k0, 8192, .inl g_4))] := by rw [eg_3, eg_4]; exact hD
  have hK : va_K (dC, dI) vwCl [(k1, .byte), (k0, .byte)] s := hK
  refine W.widen (k := 0) (n := 0) (Nat.le_of_ble_eq_true rfl) (Nat.le_of_ble_eq_true rfl) ?_
  refine lv_aload_n hx hb dX3_readProgram_23 rfl (lv_at hl 0 rfl) ?_
  refine lv_aload_n hx hb dX3_readProgram_24 rfl (lv_at hl 0 rfl) ?_
  refine va_get (D := (dC, dI)) (ci := 3) (v := .ref h2) (C := RX3) (T := TX3) (N := 6) hx hb hts hiX3 hown hK hP 0 rfl rfl 1 (by decide) (hts (.fieldLink RX3 15 "ComboHouse$Loader" "program" "LComboHouse$Program;") (by decide +kernel)) (fun _ h9 => h9) rfl dX3_readProgram_25 ?_
  refine va_get (D := (dC, dI)) (ci := 6) (v := .ref g12) (C := RX6) (T := TX6) (N := 16) hx hb hts hiX6 hown hK hP 1 rfl rfl 12 (by decide) (hts (.fieldLink RX3 24 "ComboHouse$Program" "bytes" "LComboHouse$Row;") (by decide +kernel)) (fun _ h9 => h9) rfl dX3_readProgram_28 ?_
  refine va_put (D := (dC, dI)) (ci := 3) (v := .ref g12) (ty := .object "ComboHouse$Row") (C := RX3) (T := TX3) (N := 6) hx hb hts hiX3 tyX3 tyX3_ok nmX3 hown hK hP hD hS 0 rfl rfl 2 (by decide) (hts (.fieldLink RX3 34 "ComboHouse$Loader" "row" "LComboHouse$Row;") (by decide +kernel)) (fun _ h9 => h9) rfl (by decide +kernel) rfl rfl (Nat.le_of_ble_eq_true rfl) dX3_readProgram_31 (fun H locs hP hD hS => ?_)
  have hP : va_P (dC, dI) vwCl [(h0, .inr (3, [.ref o1, .ref h2, .ref g12, .int 0, .int 0, .int 0])), (h2, .inr (6, [.int 0, .ref g1, .ref g2, .ref g3, .ref g4, .ref g5, .ref g6, .ref g7, .ref g8, .ref g9, .ref g10, .ref g11, .ref g12, .ref g13, .int 0, .int 0])), (g12, .inr (8, [.ref b1, .int 0, .int 0, .int 0])), (b1, .inl (k1, 8192, .inl g_3)), (h1, .inr (8, [.ref b0, .int 0, .int 0, .int 0])), (b0, .inl (k0, 8192, .inl g_4))] H := hP
  have hD : va_D A [(h0, .inr (3, [.ref o1, .ref h2, .ref g12, .int 0, .int 0, .int 0])), (h2, .inr (6, [.int 0, .ref g1, .ref g2, .ref g3, .ref g4, .ref g5, .ref g6, .ref g7, .ref g8, .ref g9, .ref g10, .ref g11, .ref g12, .ref g13, .int 0, .int 0])), (g12, .inr (8, [.ref b1, .int 0, .int 0, .int 0])), (b1, .inl (k1, 8192, .inl g_3)), (h1, .inr (8, [.ref b0, .int 0, .int 0, .int 0])), (b0, .inl (k0, 8192, .inl g_4))] := hD
  refine lv_aload_n hx hb dX3_readProgram_34 rfl (lv_at hl 0 rfl) ?_
  refine lv_iconst (v := 0) hx hb dX3_readProgram_35 (by decide) ?_
  refine va_put (D := (dC, dI)) (ci := 3) (v := .int 0) (ty := .int) (C := RX3) (T := TX3) (N := 6) hx hb hts hiX3 tyX3 tyX3_ok nmX3 hown hK hP hD hS 0 rfl rfl 3 (by decide) (hts (.fieldLink RX3 37 "ComboHouse$Loader" "at" "I") (by decide +kernel)) (fun _ h9 => h9) rfl (by decide +kernel) rfl rfl (Nat.le_of_ble_eq_true rfl) dX3_readProgram_36 (fun H locs hP hD hS => ?_)
  have hP : va_P (dC, dI) vwCl [(h0, .inr (3, [.ref o1, .ref h2, .ref g12, .int 0, .int 0, .int 0])), (h2, .inr (6, [.int 0, .ref g1, .ref g2, .ref g3, .ref g4, .ref g5, .ref g6, .ref g7, .ref g8, .ref g9, .ref g10, .ref g11, .ref g12, .ref g13, .int 0, .int 0])), (g12, .inr (8, [.ref b1, .int 0, .int 0, .int 0])), (b1, .inl (k1, 8192, .inl g_3)), (h1, .inr (8, [.ref b0, .int 0, .int 0, .int 0])), (b0, .inl (k0, 8192, .inl g_4))] H := hP
  have hD : va_D A [(h0, .inr (3, [.ref o1, .ref h2, .ref g12, .int 0, .int 0, .int 0])), (h2, .inr (6, [.int 0, .ref g1, .ref g2, .ref g3, .ref g4, .ref g5, .ref g6, .ref g7, .ref g8, .ref g9, .ref g10, .ref g11, .ref g12, .ref g13, .int 0, .int 0])), (g12, .inr (8, [.ref b1, .int 0, .int 0, .int 0])), (b1, .inl (k1, 8192, .inl g_3)), (h1, .inr (8, [.ref b0, .int 0, .int 0, .int 0])), (b0, .inl (k0, 8192, .inl g_4))] := hD
  refine lv_aload_n hx hb dX3_readProgram_39 rfl (lv_at hl 0 rfl) ?_
  refine lv_bipush (v := 8) hx hb dX3_readProgram_40 (by decide) ?_
  refine lv_aload_n hx hb dX3_readProgram_42 rfl (lv_at hl 0 rfl) ?_
  refine va_get (D := (dC, dI)) (ci := 3) (v := .ref g12) (C := RX3) (T := TX3) (N := 6) hx hb hts hiX3 hown hK hP 0 rfl rfl 2 (by decide) (hts (.fieldLink RX3 34 "ComboHouse$Loader" "row" "LComboHouse$Row;") (by decide +kernel)) (fun _ h9 => h9) rfl dX3_readProgram_43 ?_
  refine va_get (D := (dC, dI)) (ci := 8) (v := .int 0) (C := RX8) (T := TX8) (N := 4) hx hb hts hiX8 hown hK hP 2 rfl rfl 1 (by decide) (hts (.fieldLink RX3 41 "ComboHouse$Row" "size" "I") (by decide +kernel)) (fun _ h9 => h9) rfl dX3_readProgram_46 ?_
  refine lv_imul hx hb dX3_readProgram_49 ?_
  refine W.eq (g2 := F0 m 50 ls [.int 0, .ref h0]) (by rfl) ?_
  refine va_put (D := (dC, dI)) (ci := 3) (v := .int 0) (ty := .int) (C := RX3) (T := TX3) (N := 6) hx hb hts hiX3 tyX3 tyX3_ok nmX3 hown hK hP hD hS 0 rfl rfl 4 (by decide) (hts (.fieldLink RX3 44 "ComboHouse$Loader" "end" "I") (by decide +kernel)) (fun _ h9 => h9) rfl (by decide +kernel) rfl rfl (Nat.le_of_ble_eq_true rfl) dX3_readProgram_50 (fun H locs hP hD hS => ?_)
  have hP : va_P (dC, dI) vwCl [(h0, .inr (3, [.ref o1, .ref h2, .ref g12, .int 0, .int 0, .int 0])), (h2, .inr (6, [.int 0, .ref g1, .ref g2, .ref g3, .ref g4, .ref g5, .ref g6, .ref g7, .ref g8, .ref g9, .ref g10, .ref g11, .ref g12, .ref g13, .int 0, .int 0])), (g12, .inr (8, [.ref b1, .int 0, .int 0, .int 0])), (b1, .inl (k1, 8192, .inl g_3)), (h1, .inr (8, [.ref b0, .int 0, .int 0, .int 0])), (b0, .inl (k0, 8192, .inl g_4))] H := hP
  have hD : va_D A [(h0, .inr (3, [.ref o1, .ref h2, .ref g12, .int 0, .int 0, .int 0])), (h2, .inr (6, [.int 0, .ref g1, .ref g2, .ref g3, .ref g4, .ref g5, .ref g6, .ref g7, .ref g8, .ref g9, .ref g10, .ref g11, .ref g12, .ref g13, .int 0, .int 0])), (g12, .inr (8, [.ref b1, .int 0, .int 0, .int 0])), (b1, .inl (k1, 8192, .inl g_3)), (h1, .inr (8, [.ref b0, .int 0, .int 0, .int 0])), (b0, .inl (k0, 8192, .inl g_4))] := hD
  refine lv_aload_n hx hb dX3_readProgram_53 rfl (lv_at hl 0 rfl) ?_
  refine lv_iconst (v := 0) hx hb dX3_readProgram_54 (by decide) ?_
  refine va_put (D := (dC, dI)) (ci := 3) (v := .int 0) (ty := .int) (C := RX3) (T := TX3) (N := 6) hx hb hts hiX3 tyX3 tyX3_ok nmX3 hown hK hP hD hS 0 rfl rfl 5 (by decide) (hts (.fieldLink RX3 47 "ComboHouse$Loader" "fault" "I") (by decide +kernel)) (fun _ h9 => h9) rfl (by decide +kernel) rfl rfl (Nat.le_of_ble_eq_true rfl) dX3_readProgram_55 (fun H locs hP hD hS => ?_)
  have hP : va_P (dC, dI) vwCl [(h0, .inr (3, [.ref o1, .ref h2, .ref g12, .int 0, .int 0, .int 0])), (h2, .inr (6, [.int 0, .ref g1, .ref g2, .ref g3, .ref g4, .ref g5, .ref g6, .ref g7, .ref g8, .ref g9, .ref g10, .ref g11, .ref g12, .ref g13, .int 0, .int 0])), (g12, .inr (8, [.ref b1, .int 0, .int 0, .int 0])), (b1, .inl (k1, 8192, .inl g_3)), (h1, .inr (8, [.ref b0, .int 0, .int 0, .int 0])), (b0, .inl (k0, 8192, .inl g_4))] H := hP
  have hD : va_D A [(h0, .inr (3, [.ref o1, .ref h2, .ref g12, .int 0, .int 0, .int 0])), (h2, .inr (6, [.int 0, .ref g1, .ref g2, .ref g3, .ref g4, .ref g5, .ref g6, .ref g7, .ref g8, .ref g9, .ref g10, .ref g11, .ref g12, .ref g13, .int 0, .int 0])), (g12, .inr (8, [.ref b1, .int 0, .int 0, .int 0])), (b1, .inl (k1, 8192, .inl g_3)), (h1, .inr (8, [.ref b0, .int 0, .int 0, .int 0])), (b0, .inl (k0, 8192, .inl g_4))] := hD
  refine lv_aload_n hx hb dX3_readProgram_58 rfl (lv_at hl 0 rfl) ?_
  have hPc := hP.sub (ws' := [(h0, .inr (3, [.ref o1, .ref h2, .ref g12, .int 0, .int 0, .int 0]))]) [0] rfl
  have hDc := hD.sub (ws' := [(h0, .inr (3, [.ref o1, .ref h2, .ref g12, .int 0, .int 0, .int 0]))]) [0] (by decide) rfl
  have hKc := hK.sub (tys' := []) [] rfl
  have hFc := va_free (wc := [(h0, .inr (3, [.ref o1, .ref h2, .ref g12, .int 0, .int 0, .int 0]))]) hD hS hA [0] rfl
  refine va_calli (va_runV (As := []) (rest := []) ⟨hx, hb, hml, hown, hts⟩ (c_X3_readNatural_fresh l dC dI h0 o1 h2 g12 H.size) (cwV 0 hts gf_X3_readProgram_2 rfl rfl rfl (by decide +kernel) ⟨Nat.le_of_ble_eq_true rfl, Nat.le_of_ble_eq_true rfl⟩) ⟨fun a U g mk q => by obtain ⟨q0, q1, qP, qK, qD⟩ := q; exact ⟨q0, q1, qP, va_K.moved (u := U) (U := U.calling g mk a) (Vm.Alike.refl U.vm) qK, qD⟩, va_recv hKc hPc (ci := 3) (q0 := 0) rfl rfl, fun U hU hW => ⟨rfl, by rw [hU], by rw [hU]; exact hPc, va_K.moved hW.alike hKc, hDc.weaken (fun _ _ _ _ => trivial)⟩⟩ rfl rfl hl.1 rfl (lv_room (Nat.le_of_ble_eq_true rfl)) dX3_readProgram_59 ⟨Nat.le_of_ble_eq_true rfl, Nat.le_of_ble_eq_true rfl⟩) hS (fun q _ h => hFc q h) hFc (fun r_5 u t H1 locs ht hvm hw hB hz1 hk1 hS => ?_)
  obtain rfl : u = r_5 := hw
  obtain ⟨hr_6, hP1, hK1, hD1⟩ := hB
  rw [ht] at hP1
  have hK1 := va_K.moved hvm.symm hK1
  obtain ⟨hP, hD⟩ := va_join (wr := [(h2, .inr (6, [.int 0, .ref g1, .ref g2, .ref g3, .ref g4, .ref g5, .ref g6, .ref g7, .ref g8, .ref g9, .ref g10, .ref g11, .ref g12, .ref g13, .int 0, .int 0])), (g12, .inr (8, [.ref b1, .int 0, .int 0, .int 0])), (b1, .inl (k1, 8192, .inl g_3)), (h1, .inr (8, [.ref b0, .int 0, .int 0, .int 0])), (b0, .inl (k0, 8192, .inl g_4))]) (w1 := [(h0, .inr (3, [.ref o1, .ref h2, .ref g12, .int 0, .int 0, .int 1]))]) hP hD [0] [1, 2, 3, 4, 5] rfl rfl (by decide) (by decide) hk1 hFc hP1 hD1
  have hK := (hK.sub (tys' := [(k1, .byte), (k0, .byte)]) [0, 1] rfl).app hK1
  generalize H1 = H at hP hS ⊢
  have hP : va_P (dC, dI) vwCl [(h2, .inr (6, [.int 0, .ref g1, .ref g2, .ref g3, .ref g4, .ref g5, .ref g6, .ref g7, .ref g8, .ref g9, .ref g10, .ref g11, .ref g12, .ref g13, .int 0, .int 0])), (g12, .inr (8, [.ref b1, .int 0, .int 0, .int 0])), (b1, .inl (k1, 8192, .inl g_3)), (h1, .inr (8, [.ref b0, .int 0, .int 0, .int 0])), (b0, .inl (k0, 8192, .inl g_4)), (h0, .inr (3, [.ref o1, .ref h2, .ref g12, .int 0, .int 0, .int 1]))] H := hP
  have hD : va_D A [(h2, .inr (6, [.int 0, .ref g1, .ref g2, .ref g3, .ref g4, .ref g5, .ref g6, .ref g7, .ref g8, .ref g9, .ref g10, .ref g11, .ref g12, .ref g13, .int 0, .int 0])), (g12, .inr (8, [.ref b1, .int 0, .int 0, .int 0])), (b1, .inl (k1, 8192, .inl g_3)), (h1, .inr (8, [.ref b0, .int 0, .int 0, .int 0])), (b0, .inl (k0, 8192, .inl g_4)), (h0, .inr (3, [.ref o1, .ref h2, .ref g12, .int 0, .int 0, .int 1]))] := hD
  have hK : va_K (dC, dI) vwCl [(k1, .byte), (k0, .byte)] s := hK
  refine W.widen (k := 0) (n := 0) (Nat.le_of_ble_eq_true rfl) (Nat.le_of_ble_eq_true rfl) ?_
  subst hr_6
  refine lv_istore_n (lv' := [(3, .int 1), (0, .ref h0), (1, .ref h1), (2, .ref h2)]) hx hb dX3_readProgram_62 rfl hl (by decide) rfl (fun ls hl => ?_)
  refine lv_aload_n hx hb dX3_readProgram_63 rfl (lv_at hl 1 rfl) ?_
  refine va_get (D := (dC, dI)) (ci := 3) (v := .int 1) (C := RX3) (T := TX3) (N := 6) hx hb hts hiX3 hown hK hP 5 rfl rfl 5 (by decide) (hts (.fieldLink RX3 47 "ComboHouse$Loader" "fault" "I") (by decide +kernel)) (fun _ h9 => h9) rfl dX3_readProgram_64 ?_
  refine lv_if_ne (tgt := 82) hx hb dX3_readProgram_67 (by decide) (fun cnd_7 => ?_) (fun cnd_7 => ?_)
  rotate_left
  · exact absurd cnd_7 (by decide)
  refine lv_iconst (v := 0) hx hb dX3_readProgram_82 (by decide) ?_
  refine lv_istore (lv' := [(4, .int 0), (3, .int 1), (0, .ref h0), (1, .ref h1), (2, .ref h2)]) hx hb dX3_readProgram_83 hl (by decide) rfl (fun ls hl => ?_)
  refine lv_iload hx hb dX3_readProgram_85 (lv_at hl 0 rfl) ?_
  refine lv_iload_n hx hb dX3_readProgram_87 rfl (lv_at hl 1 rfl) ?_
  refine lv_icmp_ge (tgt := 108) hx hb dX3_readProgram_88 (by decide) (fun cnd_8 => ?_) (fun cnd_8 => ?_)
  · exact absurd cnd_8 (by decide)
  refine lv_aload_n hx hb dX3_readProgram_91 rfl (lv_at hl 2 rfl) ?_
  refine va_get (D := (dC, dI)) (ci := 3) (v := .int 1) (C := RX3) (T := TX3) (N := 6) hx hb hts hiX3 hown hK hP 5 rfl rfl 5 (by decide) (hts (.fieldLink RX3 47 "ComboHouse$Loader" "fault" "I") (by decide +kernel)) (fun _ h9 => h9) rfl dX3_readProgram_92 ?_
  refine lv_if_ne (tgt := 108) hx hb dX3_readProgram_95 (by decide) (fun cnd_9 => ?_) (fun cnd_9 => ?_)
  rotate_left
  · exact absurd cnd_9 (by decide)
  refine lv_aload_n hx hb dX3_readProgram_108 rfl (lv_at hl 2 rfl) ?_
  refine va_get (D := (dC, dI)) (ci := 3) (v := .int 1) (C := RX3) (T := TX3) (N := 6) hx hb hts hiX3 hown hK hP 5 rfl rfl 5 (by decide) (hts (.fieldLink RX3 47 "ComboHouse$Loader" "fault" "I") (by decide +kernel)) (fun _ h9 => h9) rfl dX3_readProgram_109 ?_
  refine lv_if_eq (tgt := 120) hx hb dX3_readProgram_112 (by decide) (fun cnd_10 => ?_) (fun cnd_10 => ?_)
  · exact absurd cnd_10 (by decide)
  refine lv_aload_n hx hb dX3_readProgram_115 rfl (lv_at hl 2 rfl) ?_
  refine va_get (D := (dC, dI)) (ci := 3) (v := .int 1) (C := RX3) (T := TX3) (N := 6) hx hb hts hiX3 hown hK hP 5 rfl rfl 5 (by decide) (hts (.fieldLink RX3 47 "ComboHouse$Loader" "fault" "I") (by decide +kernel)) (fun _ h9 => h9) rfl dX3_readProgram_116 ?_
  have eq_11 : g_4 = fun _ => 0 := by first | (rw [eg_4] <;> rfl) | (rw [eg_4]; simp only [nI_clamp, nI_1]; done) | (simp [eg_4]; done)
  have hP9 : va_P (dC, dI) vwCl [(h0, .inr (3, [.ref o1, .ref h2, .ref g12, .int 0, .int 0, .int 1])), (h1, .inr (8, [.ref b0, .int 0, .int 0, .int 0])), (b0, .inl (k0, 8192, .inl (fun _ => 0)))] H := by have h := hP.sub (ws' := [(h0, .inr (3, [.ref o1, .ref h2, .ref g12, .int 0, .int 0, .int 1])), (h1, .inr (8, [.ref b0, .int 0, .int 0, .int 0])), (b0, .inl (k0, 8192, .inl g_4))]) [5, 3, 4] rfl; rw [eq_11] at h; exact h
  have hD9 : va_D A [(h0, .inr (3, [.ref o1, .ref h2, .ref g12, .int 0, .int 0, .int 1])), (h1, .inr (8, [.ref b0, .int 0, .int 0, .int 0])), (b0, .inl (k0, 8192, .inl (fun _ => 0)))] := by have h := hD.sub (ws' := [(h0, .inr (3, [.ref o1, .ref h2, .ref g12, .int 0, .int 0, .int 1])), (h1, .inr (8, [.ref b0, .int 0, .int 0, .int 0])), (b0, .inl (k0, 8192, .inl g_4))]) [5, 3, 4] (by decide) rfl; rw [eq_11] at h; exact h
  have hK9 := hK.sub (tys' := [(k0, .byte)]) [1] rfl
  refine W.widen (k := 0) (n := 0) (Nat.le_of_ble_eq_true rfl) (Nat.le_of_ble_eq_true rfl) ?_
  have er_12 : (1 : Int32) = 1 := by first | rfl | (simp; done)
  exact W.iret (v := 1) hx hb hr (fun t ht hW => ⟨⟨1, 1, rfl, rfl, er_12, by rw [ht]; exact hP9, va_K.moved hW.alike hK9, hAe ▸ hD9⟩, hAe ▸ hS.F ht⟩) (fun q hq => hAe ▸ hS.2.2 q hq) dX3_readProgram_119
def wo_X11_load : List Cond := [.fieldLink RX11 57 "ComboHouse" "loader" "LComboHouse$Loader;", .fieldLink RX11 10 "ComboHouse" "tape" "LComboHouse$Row;", .fieldLink RX11 75 "ComboHouse" "draft" "LComboHouse$Program;", .fieldLink RX11 105 "ComboHouse" "loadError" "I"]
def wf_X11_load : List Cond := .code yX11_load cX11_load 2 (some .int) :: (((wo_X11_load ++ (wsV RX11 101 RX3 yX3_readProgram wf_X3_readProgram)) ++ (wsV RX11 98 RX8 yX8_clear wsX8_clear)) ++ wsX110)
set_option maxRecDepth 100000 in
theorem gf_X11_load_0 : GoodIn wf_X11_load (wsV RX11 101 RX3 yX3_readProgram wf_X3_readProgram) := goodIn_sub (fun _ h => (List.mem_cons_of_mem _ (List.mem_append_left _ (List.mem_append_left _ (List.mem_append_right _ h))))) (by decide +kernel)
set_option maxRecDepth 100000 in
theorem gf_X11_load_1 : GoodIn wf_X11_load (wsV RX11 98 RX8 yX8_clear wsX8_clear) := goodIn_sub (fun _ h => (List.mem_cons_of_mem _ (List.mem_append_left _ (List.mem_append_right _ h)))) (by decide +kernel)
theorem hi_X11_load_X11 : ∀ w ∈ wsX110, w ∈ wf_X11_load := fun _ h => (List.mem_cons_of_mem _ (List.mem_append_right _ h))
set_option maxHeartbeats 4000000 in
set_option maxRecDepth 100000 in
theorem c_X11_load_fresh (l : Launch) (dC : Nat → ClassId) (dI : Nat → Nat → Nat) (h0 x0 x1 x2 x3 x4 x5 x6 x7 x8 x9 x10 : Nat) (o1 : Nat) (g1 g2 g3 g4 g5 g6 g7 g8 g9 g10 g11 g12 g13 : Nat) (b0 b1 : Nat) (k0 k1 : ClassId) (sz : Nat) : Met l yX11_load wf_X11_load ({ frames := 4, cells := 0, slots := 0, locals := 109 }) (va_Pc [.ref h0] (fun U => U.heap.size = sz ∧ va_P (dC, dI) vwCl [(h0, .inr (11, [.ref x0, .ref x1, .ref x2, .ref x3, .ref x4, .ref x5, .ref x6, .ref x7, .ref x8, .ref x9, .ref x10, .int 0, .int 0, .int 0, .int 0, .int 0, .int 0])), (x7, .inr (3, [.ref o1, .null, .null, .int 0, .int 0, .int 0])), (x10, .inr (6, [.int 0, .ref g1, .ref g2, .ref g3, .ref g4, .ref g5, .ref g6, .ref g7, .ref g8, .ref g9, .ref g10, .ref g11, .ref g12, .ref g13, .int 0, .int 0])), (g12, .inr (8, [.ref b1, .int 0, .int 0, .int 0])), (b1, .inl (k1, 8192, .inl (fun _ => 0))), (x0, .inr (8, [.ref b0, .int 0, .int 0, .int 0])), (b0, .inl (k0, 8192, .inl (fun _ => 0)))] U.heap ∧ va_K (dC, dI) vwCl [(k1, .byte), (k0, .byte)] U ∧ va_D (fun _ => True) [(h0, .inr (11, [.ref x0, .ref x1, .ref x2, .ref x3, .ref x4, .ref x5, .ref x6, .ref x7, .ref x8, .ref x9, .ref x10, .int 0, .int 0, .int 0, .int 0, .int 0, .int 0])), (x7, .inr (3, [.ref o1, .null, .null, .int 0, .int 0, .int 0])), (x10, .inr (6, [.int 0, .ref g1, .ref g2, .ref g3, .ref g4, .ref g5, .ref g6, .ref g7, .ref g8, .ref g9, .ref g10, .ref g11, .ref g12, .ref g13, .int 0, .int 0])), (g12, .inr (8, [.ref b1, .int 0, .int 0, .int 0])), (b1, .inl (k1, 8192, .inl (fun _ => 0))), (x0, .inr (8, [.ref b0, .int 0, .int 0, .int 0])), (b0, .inl (k0, 8192, .inl (fun _ => 0)))])) (va_Qi (fun (r u : Int32) => u = r) (fun (r : Int32) (t : State) => (r = 1) ∧ va_P (dC, dI) vwCl [] t.heap ∧ va_K (dC, dI) vwCl [] t ∧ va_D (va_A [(h0, .inr (11, [.ref x0, .ref x1, .ref x2, .ref x3, .ref x4, .ref x5, .ref x6, .ref x7, .ref x8, .ref x9, .ref x10, .int 0, .int 0, .int 0, .int 0, .int 0, .int 0])), (x7, .inr (3, [.ref o1, .null, .null, .int 0, .int 0, .int 0])), (x10, .inr (6, [.int 0, .ref g1, .ref g2, .ref g3, .ref g4, .ref g5, .ref g6, .ref g7, .ref g8, .ref g9, .ref g10, .ref g11, .ref g12, .ref g13, .int 0, .int 0])), (g12, .inr (8, [.ref b1, .int 0, .int 0, .int 0])), (b1, .inl (k1, 8192, .inl (fun _ => 0))), (x0, .inr (8, [.ref b0, .int 0, .int 0, .int 0])), (b0, .inl (k0, 8192, .inl (fun _ => 0)))] sz) []) (va_A [(h0, .inr (11, [.ref x0, .ref x1, .ref x2, .ref x3, .ref x4, .ref x5, .ref x6, .ref x7, .ref x8, .ref x9, .ref x10, .int 0, .int 0, .int 0, .int 0, .int 0, .int 0])), (x7, .inr (3, [.ref o1, .null, .null, .int 0, .int 0, .int 0])), (x10, .inr (6, [.int 0, .ref g1, .ref g2, .ref g3, .ref g4, .ref g5, .ref g6, .ref g7, .ref g8, .ref g9, .ref g10, .ref g11, .ref g12, .ref g13, .int 0, .int 0])), (g12, .inr (8, [.ref b1, .int 0, .int 0, .int 0])), (b1, .inl (k1, 8192, .inl (fun _ => 0))), (x0, .inr (8, [.ref b0, .int 0, .int 0, .int 0])), (b0, .inl (k0, 8192, .inl (fun _ => 0)))] sz)) 0 0 (va_A [(h0, .inr (11, [.ref x0, .ref x1, .ref x2, .ref x3, .ref x4, .ref x5, .ref x6, .ref x7, .ref x8, .ref x9, .ref x10, .int 0, .int 0, .int 0, .int 0, .int 0, .int 0])), (x7, .inr (3, [.ref o1, .null, .null, .int 0, .int 0, .int 0])), (x10, .inr (6, [.int 0, .ref g1, .ref g2, .ref g3, .ref g4, .ref g5, .ref g6, .ref g7, .ref g8, .ref g9, .ref g10, .ref g11, .ref g12, .ref g13, .int 0, .int 0])), (g12, .inr (8, [.ref b1, .int 0, .int 0, .int 0])), (b1, .inl (k1, 8192, .inl (fun _ => 0))), (x0, .inr (8, [.ref b0, .int 0, .int 0, .int 0])), (b0, .inl (k0, 8192, .inl (fun _ => 0)))] sz) := by
  refine Met.ofW (cc := cX11_load) (maxL := 2) (ret := (some .int)) (by decide) rfl ?_
  intro p e s m args below meth c s₁ B hml hv
  obtain ⟨rfl, hsz, hP, hK, hD0⟩ := hv
  have hx := B.exec
  have hb := B.bytes
  have hr := B.returns
  have hts := atoms_spec (ws := wf_X11_load) B.pre
  have hown : s.vm.findClass RX11 = some m.cls := findClass_of_methodNamed B.named
  have hlocks := B.notSynchronized
  subst hsz
  have hD := hD0.self (sz := s.heap.size)
  generalize hAe : va_A [(h0, .inr (11, [.ref x0, .ref x1, .ref x2, .ref x3, .ref x4, .ref x5, .ref x6, .ref x7, .ref x8, .ref x9, .ref x10, .int 0, .int 0, .int 0, .int 0, .int 0, .int 0])), (x7, .inr (3, [.ref o1, .null, .null, .int 0, .int 0, .int 0])), (x10, .inr (6, [.int 0, .ref g1, .ref g2, .ref g3, .ref g4, .ref g5, .ref g6, .ref g7, .ref g8, .ref g9, .ref g10, .ref g11, .ref g12, .ref g13, .int 0, .int 0])), (g12, .inr (8, [.ref b1, .int 0, .int 0, .int 0])), (b1, .inl (k1, 8192, .inl (fun _ => 0))), (x0, .inr (8, [.ref b0, .int 0, .int 0, .int 0])), (b0, .inl (k0, 8192, .inl (fun _ => 0)))] s.heap.size = A at hD ⊢
  have hA : ∀ q : Nat, s.heap.size ≤ q → A q := fun q h => by rw [← hAe]; exact Or.inr h
  have hS : va_S A s.heap s.heap [] := va_S.rf
  have hP : va_P (dC, dI) vwCl [(h0, .inr (11, [.ref x0, .ref x1, .ref x2, .ref x3, .ref x4, .ref x5, .ref x6, .ref x7, .ref x8, .ref x9, .ref x10, .int 0, .int 0, .int 0, .int 0, .int 0, .int 0])), (x7, .inr (3, [.ref o1, .null, .null, .int 0, .int 0, .int 0])), (x10, .inr (6, [.int 0, .ref g1, .ref g2, .ref g3, .ref g4, .ref g5, .ref g6, .ref g7, .ref g8, .ref g9, .ref g10, .ref g11, .ref g12, .ref g13, .int 0, .int 0])), (g12, .inr (8, [.ref b1, .int 0, .int 0, .int 0])), (b1, .inl (k1, 8192, .inl (fun _ => 0))), (x0, .inr (8, [.ref b0, .int 0, .int 0, .int 0])), (b0, .inl (k0, 8192, .inl (fun _ => 0)))] s.heap := hP
  have hD : va_D A [(h0, .inr (11, [.ref x0, .ref x1, .ref x2, .ref x3, .ref x4, .ref x5, .ref x6, .ref x7, .ref x8, .ref x9, .ref x10, .int 0, .int 0, .int 0, .int 0, .int 0, .int 0])), (x7, .inr (3, [.ref o1, .null, .null, .int 0, .int 0, .int 0])), (x10, .inr (6, [.int 0, .ref g1, .ref g2, .ref g3, .ref g4, .ref g5, .ref g6, .ref g7, .ref g8, .ref g9, .ref g10, .ref g11, .ref g12, .ref g13, .int 0, .int 0])), (g12, .inr (8, [.ref b1, .int 0, .int 0, .int 0])), (b1, .inl (k1, 8192, .inl (fun _ => 0))), (x0, .inr (8, [.ref b0, .int 0, .int 0, .int 0])), (b0, .inl (k0, 8192, .inl (fun _ => 0)))] := hD
  have hl := lv_entry ([.ref h0]) (n := 2) (Nat.le_of_ble_eq_true rfl)
  rw [lg_entry_eq]
  generalize (lg_sl ([.ref h0]) ++ List.replicate (2 - (lg_sl ([.ref h0])).length) Slot.unset).toArray = ls at hl ⊢
  have hl : lv_has ls 2 [(0, .ref h0)] := hl
  have hiX11 := hi_X11_load_X11
  refine lv_aload_n hx hb dX11_load_0 rfl (lv_at hl 0 rfl) ?_
  refine lv_aload_n hx hb dX11_load_1 rfl (lv_at hl 0 rfl) ?_
  refine va_get (D := (dC, dI)) (ci := 11) (v := .ref x7) (C := RX11) (T := TX11) (N := 17) hx hb hts hiX11 hown hK hP 0 rfl rfl 7 (by decide) (hts (.fieldLink RX11 57 "ComboHouse" "loader" "LComboHouse$Loader;") (by decide +kernel)) (fun _ h9 => h9) rfl dX11_load_2 ?_
  refine lv_aload_n hx hb dX11_load_5 rfl (lv_at hl 0 rfl) ?_
  refine va_get (D := (dC, dI)) (ci := 11) (v := .ref x0) (C := RX11) (T := TX11) (N := 17) hx hb hts hiX11 hown hK hP 0 rfl rfl 0 (by decide) (hts (.fieldLink RX11 10 "ComboHouse" "tape" "LComboHouse$Row;") (by decide +kernel)) (fun _ h9 => h9) rfl dX11_load_6 ?_
  refine lv_aload_n hx hb dX11_load_9 rfl (lv_at hl 0 rfl) ?_
  refine va_get (D := (dC, dI)) (ci := 11) (v := .ref x10) (C := RX11) (T := TX11) (N := 17) hx hb hts hiX11 hown hK hP 0 rfl rfl 10 (by decide) (hts (.fieldLink RX11 75 "ComboHouse" "draft" "LComboHouse$Program;") (by decide +kernel)) (fun _ h9 => h9) rfl dX11_load_10 ?_
  have hPc := hP.sub (ws' := [(x7, .inr (3, [.ref o1, .null, .null, .int 0, .int 0, .int 0])), (x10, .inr (6, [.int 0, .ref g1, .ref g2, .ref g3, .ref g4, .ref g5, .ref g6, .ref g7, .ref g8, .ref g9, .ref g10, .ref g11, .ref g12, .ref g13, .int 0, .int 0])), (g12, .inr (8, [.ref b1, .int 0, .int 0, .int 0])), (b1, .inl (k1, 8192, .inl (fun _ => 0))), (x0, .inr (8, [.ref b0, .int 0, .int 0, .int 0])), (b0, .inl (k0, 8192, .inl (fun _ => 0)))]) [1, 2, 3, 4, 5, 6] rfl
  have hDc := hD.sub (ws' := [(x7, .inr (3, [.ref o1, .null, .null, .int 0, .int 0, .int 0])), (x10, .inr (6, [.int 0, .ref g1, .ref g2, .ref g3, .ref g4, .ref g5, .ref g6, .ref g7, .ref g8, .ref g9, .ref g10, .ref g11, .ref g12, .ref g13, .int 0, .int 0])), (g12, .inr (8, [.ref b1, .int 0, .int 0, .int 0])), (b1, .inl (k1, 8192, .inl (fun _ => 0))), (x0, .inr (8, [.ref b0, .int 0, .int 0, .int 0])), (b0, .inl (k0, 8192, .inl (fun _ => 0)))]) [1, 2, 3, 4, 5, 6] (by decide) rfl
  have hKc := hK.sub (tys' := [(k1, .byte), (k0, .byte)]) [0, 1] rfl
  have hFc := va_free (wc := [(x7, .inr (3, [.ref o1, .null, .null, .int 0, .int 0, .int 0])), (x10, .inr (6, [.int 0, .ref g1, .ref g2, .ref g3, .ref g4, .ref g5, .ref g6, .ref g7, .ref g8, .ref g9, .ref g10, .ref g11, .ref g12, .ref g13, .int 0, .int 0])), (g12, .inr (8, [.ref b1, .int 0, .int 0, .int 0])), (b1, .inl (k1, 8192, .inl (fun _ => 0))), (x0, .inr (8, [.ref b0, .int 0, .int 0, .int 0])), (b0, .inl (k0, 8192, .inl (fun _ => 0)))]) hD hS hA [1, 2, 3, 4, 5, 6] rfl
  refine va_calli (va_runV (As := [.ref x0, .ref x10]) (rest := [.ref h0]) ⟨hx, hb, hml, hown, hts⟩ (c_X3_readProgram_fresh l dC dI x7 o1 x0 x10 g1 g2 g3 g4 g5 g6 g7 g8 g9 g10 g11 g12 g13 b0 b1 k0 k1 s.heap.size) (cwV 2 hts gf_X11_load_0 rfl rfl rfl (by decide +kernel) ⟨Nat.le_of_ble_eq_true rfl, Nat.le_of_ble_eq_true rfl⟩) ⟨fun a U g mk q => by obtain ⟨q0, q1, qP, qK, qD⟩ := q; exact ⟨q0, q1, qP, va_K.moved (u := U) (U := U.calling g mk a) (Vm.Alike.refl U.vm) qK, qD⟩, va_recv hKc hPc (ci := 3) (q0 := 0) rfl rfl, fun U hU hW => ⟨rfl, by rw [hU], by rw [hU]; exact hPc, va_K.moved hW.alike hKc, hDc.weaken (fun _ _ _ _ => trivial)⟩⟩ rfl rfl hl.1 rfl (lv_room (Nat.le_of_ble_eq_true rfl)) dX11_load_13 ⟨Nat.le_of_ble_eq_true rfl, Nat.le_of_ble_eq_true rfl⟩) hS (fun q _ h => hFc q h) hFc (fun r_1 u t H1 locs ht hvm hw hB hz1 hk1 hS => ?_)
  obtain rfl : u = r_1 := hw
  obtain ⟨hr_2, hP1, hK1, hD1⟩ := hB
  rw [ht] at hP1
  have hK1 := va_K.moved hvm.symm hK1
  obtain ⟨hP, hD⟩ := va_join (wr := [(h0, .inr (11, [.ref x0, .ref x1, .ref x2, .ref x3, .ref x4, .ref x5, .ref x6, .ref x7, .ref x8, .ref x9, .ref x10, .int 0, .int 0, .int 0, .int 0, .int 0, .int 0]))]) (w1 := [(x7, .inr (3, [.ref o1, .ref x10, .ref g12, .int 0, .int 0, .int 1])), (x0, .inr (8, [.ref b0, .int 0, .int 0, .int 0])), (b0, .inl (k0, 8192, .inl (fun _ => 0)))]) hP hD [1, 2, 3, 4, 5, 6] [0] rfl rfl (by decide) (by decide) hk1 hFc hP1 hD1
  have hK := (hK.sub (tys' := []) [] rfl).app hK1
  generalize H1 = H at hP hS ⊢
  have hP : va_P (dC, dI) vwCl [(h0, .inr (11, [.ref x0, .ref x1, .ref x2, .ref x3, .ref x4, .ref x5, .ref x6, .ref x7, .ref x8, .ref x9, .ref x10, .int 0, .int 0, .int 0, .int 0, .int 0, .int 0])), (x7, .inr (3, [.ref o1, .ref x10, .ref g12, .int 0, .int 0, .int 1])), (x0, .inr (8, [.ref b0, .int 0, .int 0, .int 0])), (b0, .inl (k0, 8192, .inl (fun _ => 0)))] H := hP
  have hD : va_D A [(h0, .inr (11, [.ref x0, .ref x1, .ref x2, .ref x3, .ref x4, .ref x5, .ref x6, .ref x7, .ref x8, .ref x9, .ref x10, .int 0, .int 0, .int 0, .int 0, .int 0, .int 0])), (x7, .inr (3, [.ref o1, .ref x10, .ref g12, .int 0, .int 0, .int 1])), (x0, .inr (8, [.ref b0, .int 0, .int 0, .int 0])), (b0, .inl (k0, 8192, .inl (fun _ => 0)))] := hD
  have hK : va_K (dC, dI) vwCl [(k0, .byte)] s := hK
  refine W.widen (k := 0) (n := 0) (Nat.le_of_ble_eq_true rfl) (Nat.le_of_ble_eq_true rfl) ?_
  subst hr_2
  refine va_put (D := (dC, dI)) (ci := 11) (v := .int 1) (ty := .int) (C := RX11) (T := TX11) (N := 17) hx hb hts hiX11 tyX11 tyX11_ok nmX11 hown hK hP hD hS 0 rfl rfl 11 (by decide) (hts (.fieldLink RX11 105 "ComboHouse" "loadError" "I") (by decide +kernel)) (fun _ h9 => h9) rfl (by decide +kernel) rfl rfl (Nat.le_of_ble_eq_true rfl) dX11_load_16 (fun H locs hP hD hS => ?_)
  have hP : va_P (dC, dI) vwCl [(h0, .inr (11, [.ref x0, .ref x1, .ref x2, .ref x3, .ref x4, .ref x5, .ref x6, .ref x7, .ref x8, .ref x9, .ref x10, .int 1, .int 0, .int 0, .int 0, .int 0, .int 0])), (x7, .inr (3, [.ref o1, .ref x10, .ref g12, .int 0, .int 0, .int 1])), (x0, .inr (8, [.ref b0, .int 0, .int 0, .int 0])), (b0, .inl (k0, 8192, .inl (fun _ => 0)))] H := hP
  have hD : va_D A [(h0, .inr (11, [.ref x0, .ref x1, .ref x2, .ref x3, .ref x4, .ref x5, .ref x6, .ref x7, .ref x8, .ref x9, .ref x10, .int 1, .int 0, .int 0, .int 0, .int 0, .int 0])), (x7, .inr (3, [.ref o1, .ref x10, .ref g12, .int 0, .int 0, .int 1])), (x0, .inr (8, [.ref b0, .int 0, .int 0, .int 0])), (b0, .inl (k0, 8192, .inl (fun _ => 0)))] := hD
  refine lv_aload_n hx hb dX11_load_19 rfl (lv_at hl 0 rfl) ?_
  refine va_get (D := (dC, dI)) (ci := 11) (v := .ref x0) (C := RX11) (T := TX11) (N := 17) hx hb hts hiX11 hown hK hP 0 rfl rfl 0 (by decide) (hts (.fieldLink RX11 10 "ComboHouse" "tape" "LComboHouse$Row;") (by decide +kernel)) (fun _ h9 => h9) rfl dX11_load_20 ?_
  have hPc := hP.sub (ws' := [(x0, .inr (8, [.ref b0, .int 0, .int 0, .int 0]))]) [2] rfl
  have hDc := hD.sub (ws' := [(x0, .inr (8, [.ref b0, .int 0, .int 0, .int 0]))]) [2] (by decide) rfl
  have hKc := hK.sub (tys' := []) [] rfl
  have hFc := va_free (wc := [(x0, .inr (8, [.ref b0, .int 0, .int 0, .int 0]))]) hD hS hA [2] rfl
  refine va_callv (va_runV (As := []) (rest := []) ⟨hx, hb, hml, hown, hts⟩ (c_X8_clear l dC dI x0 b0 0 0 0 H.size) (cwV 0 hts gf_X11_load_1 rfl rfl rfl (by decide +kernel) ⟨Nat.le_of_ble_eq_true rfl, Nat.le_of_ble_eq_true rfl⟩) ⟨fun a U g mk q => by obtain ⟨q0, q1, qP, qK, qD⟩ := q; exact ⟨q0, q1, qP, va_K.moved (u := U) (U := U.calling g mk a) (Vm.Alike.refl U.vm) qK, qD⟩, va_recv hKc hPc (ci := 8) (q0 := 0) rfl rfl, fun U hU hW => ⟨rfl, by rw [hU], by rw [hU]; exact hPc, va_K.moved hW.alike hKc, hDc.weaken (fun _ _ _ _ => trivial)⟩⟩ rfl rfl hl.1 rfl (lv_room (Nat.le_of_ble_eq_true rfl)) dX11_load_23 ⟨Nat.le_of_ble_eq_true rfl, Nat.le_of_ble_eq_true rfl⟩) hS (fun q _ h => hFc q h) hFc (fun u t H1 locs ht hvm hw hB hz1 hk1 hS => ?_)
  obtain ⟨hP1, hK1, hD1⟩ := hB
  rw [ht] at hP1
  have hK1 := va_K.moved hvm.symm hK1
  obtain ⟨hP, hD⟩ := va_join (wr := [(h0, .inr (11, [.ref x0, .ref x1, .ref x2, .ref x3, .ref x4, .ref x5, .ref x6, .ref x7, .ref x8, .ref x9, .ref x10, .int 1, .int 0, .int 0, .int 0, .int 0, .int 0])), (x7, .inr (3, [.ref o1, .ref x10, .ref g12, .int 0, .int 0, .int 1])), (b0, .inl (k0, 8192, .inl (fun _ => 0)))]) (w1 := [(x0, .inr (8, [.ref b0, .int 0, .int 0, .int 0]))]) hP hD [2] [0, 1, 3] rfl rfl (by decide) (by decide) hk1 hFc hP1 hD1
  have hK := (hK.sub (tys' := [(k0, .byte)]) [0] rfl).app hK1
  generalize H1 = H at hP hS ⊢
  have hP : va_P (dC, dI) vwCl [(h0, .inr (11, [.ref x0, .ref x1, .ref x2, .ref x3, .ref x4, .ref x5, .ref x6, .ref x7, .ref x8, .ref x9, .ref x10, .int 1, .int 0, .int 0, .int 0, .int 0, .int 0])), (x7, .inr (3, [.ref o1, .ref x10, .ref g12, .int 0, .int 0, .int 1])), (b0, .inl (k0, 8192, .inl (fun _ => 0))), (x0, .inr (8, [.ref b0, .int 0, .int 0, .int 0]))] H := hP
  have hD : va_D A [(h0, .inr (11, [.ref x0, .ref x1, .ref x2, .ref x3, .ref x4, .ref x5, .ref x6, .ref x7, .ref x8, .ref x9, .ref x10, .int 1, .int 0, .int 0, .int 0, .int 0, .int 0])), (x7, .inr (3, [.ref o1, .ref x10, .ref g12, .int 0, .int 0, .int 1])), (b0, .inl (k0, 8192, .inl (fun _ => 0))), (x0, .inr (8, [.ref b0, .int 0, .int 0, .int 0]))] := hD
  have hK : va_K (dC, dI) vwCl [(k0, .byte)] s := hK
  refine W.widen (k := 0) (n := 0) (Nat.le_of_ble_eq_true rfl) (Nat.le_of_ble_eq_true rfl) ?_
  refine lv_aload_n hx hb dX11_load_26 rfl (lv_at hl 0 rfl) ?_
  refine va_get (D := (dC, dI)) (ci := 11) (v := .int 1) (C := RX11) (T := TX11) (N := 17) hx hb hts hiX11 hown hK hP 0 rfl rfl 11 (by decide) (hts (.fieldLink RX11 105 "ComboHouse" "loadError" "I") (by decide +kernel)) (fun _ h9 => h9) rfl dX11_load_27 ?_
  refine lv_if_ne (tgt := 76) hx hb dX11_load_30 (by decide) (fun cnd_4 => ?_) (fun cnd_4 => ?_)
  rotate_left
  · exact absurd cnd_4 (by decide)
  refine lv_aload_n hx hb dX11_load_76 rfl (lv_at hl 0 rfl) ?_
  refine va_get (D := (dC, dI)) (ci := 11) (v := .int 1) (C := RX11) (T := TX11) (N := 17) hx hb hts hiX11 hown hK hP 0 rfl rfl 11 (by decide) (hts (.fieldLink RX11 105 "ComboHouse" "loadError" "I") (by decide +kernel)) (fun _ h9 => h9) rfl dX11_load_77 ?_
  have hP9 : va_P (dC, dI) vwCl [] H := by have h := hP.sub (ws' := []) [] rfl; exact h
  have hD9 : va_D A [] := by have h := hD.sub (ws' := []) [] (by decide) rfl; exact h
  have hK9 := hK.sub (tys' := []) [] rfl
  refine W.widen (k := 0) (n := 0) (Nat.le_of_ble_eq_true rfl) (Nat.le_of_ble_eq_true rfl) ?_
  have er_5 : (1 : Int32) = 1 := by first | rfl | (simp; done)
  exact W.iret (v := 1) hx hb hr (fun t ht hW => ⟨⟨1, 1, rfl, rfl, er_5, by rw [ht]; exact hP9, va_K.moved hW.alike hK9, hAe ▸ hD9⟩, hAe ▸ hS.F ht⟩) (fun q hq => hAe ▸ hS.2.2 q hq) dX11_load_80
