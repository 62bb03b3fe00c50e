def wo_X9_refuse : List Cond := [.fieldLink RX9 49 "ComboHouse$Speech" "fault" "I", .fieldLink RX9 45 "ComboHouse$Speech" "place" "I"]
def wf_X9_refuse : List Cond := .code yX9_refuse cX9_refuse 3 (some .int) :: (wo_X9_refuse ++ wsX90)
theorem hi_X9_refuse_X9 : ∀ w ∈ wsX90, w ∈ wf_X9_refuse := fun _ h => (List.mem_cons_of_mem _ (List.mem_append_right _ h))
set_option maxHeartbeats 4000000 in
set_option maxRecDepth 100000 in
theorem c_X9_refuse_fresh (l : Launch) (dC : Nat → ClassId) (dI : Nat → Nat → Nat) (h0 : Nat) (s1 s2 s3 s4 s5 s6 s9 s10 : Nat) (sz : Nat) : Met l yX9_refuse wf_X9_refuse ({ frames := 1, cells := 0, slots := 0, locals := 12 }) (va_Pc [.ref h0, .int 1, .int 0] (fun U => U.heap.size = sz ∧ va_P (dC, dI) vwCl [(h0, .inr (9, [.int 0, .ref s1, .ref s2, .ref s3, .ref s4, .ref s5, .ref s6, .int 0, .int 0, .ref s9, .ref s10, .int 0, .int 0, .int 0, .long 0, .int ((-1)), .int 0]))] U.heap ∧ va_K (dC, dI) vwCl [] U ∧ va_D (fun _ => True) [(h0, .inr (9, [.int 0, .ref s1, .ref s2, .ref s3, .ref s4, .ref s5, .ref s6, .int 0, .int 0, .ref s9, .ref s10, .int 0, .int 0, .int 0, .long 0, .int ((-1)), .int 0]))])) (va_Qi (fun (r u : Int32) => u = r) (fun (r : Int32) (t : State) => (r = -1) ∧ va_P (dC, dI) vwCl [(h0, .inr (9, [.int 0, .ref s1, .ref s2, .ref s3, .ref s4, .ref s5, .ref s6, .int 0, .int 0, .ref s9, .ref s10, .int 0, .int 0, .int 0, .long 0, .int ((-1)), .int 1]))] t.heap ∧ va_K (dC, dI) vwCl [] t ∧ va_D (va_A [(h0, .inr (9, [.int 0, .ref s1, .ref s2, .ref s3, .ref s4, .ref s5, .ref s6, .int 0, .int 0, .ref s9, .ref s10, .int 0, .int 0, .int 0, .long 0, .int ((-1)), .int 0]))] sz) [(h0, .inr (9, [.int 0, .ref s1, .ref s2, .ref s3, .ref s4, .ref s5, .ref s6, .int 0, .int 0, .ref s9, .ref s10, .int 0, .int 0, .int 0, .long 0, .int ((-1)), .int 1]))]) (va_A [(h0, .inr (9, [.int 0, .ref s1, .ref s2, .ref s3, .ref s4, .ref s5, .ref s6, .int 0, .int 0, .ref s9, .ref s10, .int 0, .int 0, .int 0, .long 0, .int ((-1)), .int 0]))] sz)) 0 0 (va_A [(h0, .inr (9, [.int 0, .ref s1, .ref s2, .ref s3, .ref s4, .ref s5, .ref s6, .int 0, .int 0, .ref s9, .ref s10, .int 0, .int 0, .int 0, .long 0, .int ((-1)), .int 0]))] sz) := by
  refine Met.ofW (cc := cX9_refuse) (maxL := 3) (ret := (some .int)) (by decide) rfl ?_
  intro p e s m args below meth c s₁ B hml hv
  obtain ⟨rfl, hsz, hP, hK, hD0⟩ := hv
  have hx := B.exec
  have hb := B.bytes
  have hr := B.returns
  have hts := atoms_spec (ws := wf_X9_refuse) B.pre
  have hown : s.vm.findClass RX9 = some m.cls := findClass_of_methodNamed B.named
  have hlocks := B.notSynchronized
  subst hsz
  have hD := hD0.self (sz := s.heap.size)
  generalize hAe : va_A [(h0, .inr (9, [.int 0, .ref s1, .ref s2, .ref s3, .ref s4, .ref s5, .ref s6, .int 0, .int 0, .ref s9, .ref s10, .int 0, .int 0, .int 0, .long 0, .int ((-1)), .int 0]))] s.heap.size = A at hD ⊢
  have hA : ∀ q : Nat, s.heap.size ≤ q → A q := fun q h => by rw [← hAe]; exact Or.inr h
  have hS : va_S A s.heap s.heap [] := va_S.rf
  have hP : va_P (dC, dI) vwCl [(h0, .inr (9, [.int 0, .ref s1, .ref s2, .ref s3, .ref s4, .ref s5, .ref s6, .int 0, .int 0, .ref s9, .ref s10, .int 0, .int 0, .int 0, .long 0, .int ((-1)), .int 0]))] s.heap := hP
  have hD : va_D A [(h0, .inr (9, [.int 0, .ref s1, .ref s2, .ref s3, .ref s4, .ref s5, .ref s6, .int 0, .int 0, .ref s9, .ref s10, .int 0, .int 0, .int 0, .long 0, .int ((-1)), .int 0]))] := hD
  have hl := lv_entry ([.ref h0, .int 1, .int 0]) (n := 3) (Nat.le_of_ble_eq_true rfl)
  rw [lg_entry_eq]
  generalize (lg_sl ([.ref h0, .int 1, .int 0]) ++ List.replicate (3 - (lg_sl ([.ref h0, .int 1, .int 0])).length) Slot.unset).toArray = ls at hl ⊢
  have hl : lv_has ls 3 [(0, .ref h0), (1, .int 1), (2, .int 0)] := hl
  have hiX9 := hi_X9_refuse_X9
  refine lv_aload_n hx hb dX9_refuse_0 rfl (lv_at hl 0 rfl) ?_
  refine lv_iload_n hx hb dX9_refuse_1 rfl (lv_at hl 1 rfl) ?_
  refine va_put (D := (dC, dI)) (ci := 9) (v := .int 1) (ty := .int) (C := RX9) (T := TX9) (N := 17) hx hb hts hiX9 tyX9 tyX9_ok nmX9 hown hK hP hD hS 0 rfl rfl 16 (by decide) (hts (.fieldLink RX9 49 "ComboHouse$Speech" "fault" "I") (by decide +kernel)) (fun _ h9 => h9) rfl (by decide +kernel) rfl rfl (Nat.le_of_ble_eq_true rfl) dX9_refuse_2 (fun H locs hP hD hS => ?_)
  have hP : va_P (dC, dI) vwCl [(h0, .inr (9, [.int 0, .ref s1, .ref s2, .ref s3, .ref s4, .ref s5, .ref s6, .int 0, .int 0, .ref s9, .ref s10, .int 0, .int 0, .int 0, .long 0, .int ((-1)), .int 1]))] H := hP
  have hD : va_D A [(h0, .inr (9, [.int 0, .ref s1, .ref s2, .ref s3, .ref s4, .ref s5, .ref s6, .int 0, .int 0, .ref s9, .ref s10, .int 0, .int 0, .int 0, .long 0, .int ((-1)), .int 1]))] := hD
  refine lv_aload_n hx hb dX9_refuse_5 rfl (lv_at hl 0 rfl) ?_
  refine lv_iload_n hx hb dX9_refuse_6 rfl (lv_at hl 2 rfl) ?_
  refine va_put (D := (dC, dI)) (ci := 9) (v := .int 0) (ty := .int) (C := RX9) (T := TX9) (N := 17) hx hb hts hiX9 tyX9 tyX9_ok nmX9 hown hK hP hD hS 0 rfl rfl 0 (by decide) (hts (.fieldLink RX9 45 "ComboHouse$Speech" "place" "I") (by decide +kernel)) (fun _ h9 => h9) rfl (by decide +kernel) rfl rfl (Nat.le_of_ble_eq_true rfl) dX9_refuse_7 (fun H locs hP hD hS => ?_)
  have hP : va_P (dC, dI) vwCl [(h0, .inr (9, [.int 0, .ref s1, .ref s2, .ref s3, .ref s4, .ref s5, .ref s6, .int 0, .int 0, .ref s9, .ref s10, .int 0, .int 0, .int 0, .long 0, .int ((-1)), .int 1]))] H := hP
  have hD : va_D A [(h0, .inr (9, [.int 0, .ref s1, .ref s2, .ref s3, .ref s4, .ref s5, .ref s6, .int 0, .int 0, .ref s9, .ref s10, .int 0, .int 0, .int 0, .long 0, .int ((-1)), .int 1]))] := hD
  refine lv_iconst (v := -1) hx hb dX9_refuse_10 (by decide) ?_
  have hP9 : va_P (dC, dI) vwCl [(h0, .inr (9, [.int 0, .ref s1, .ref s2, .ref s3, .ref s4, .ref s5, .ref s6, .int 0, .int 0, .ref s9, .ref s10, .int 0, .int 0, .int 0, .long 0, .int ((-1)), .int 1]))] H := by have h := hP.sub (ws' := [(h0, .inr (9, [.int 0, .ref s1, .ref s2, .ref s3, .ref s4, .ref s5, .ref s6, .int 0, .int 0, .ref s9, .ref s10, .int 0, .int 0, .int 0, .long 0, .int ((-1)), .int 1]))]) [0] rfl; exact h
  have hD9 : va_D A [(h0, .inr (9, [.int 0, .ref s1, .ref s2, .ref s3, .ref s4, .ref s5, .ref s6, .int 0, .int 0, .ref s9, .ref s10, .int 0, .int 0, .int 0, .long 0, .int ((-1)), .int 1]))] := by have h := hD.sub (ws' := [(h0, .inr (9, [.int 0, .ref s1, .ref s2, .ref s3, .ref s4, .ref s5, .ref s6, .int 0, .int 0, .ref s9, .ref s10, .int 0, .int 0, .int 0, .long 0, .int ((-1)), .int 1]))]) [0] (by decide) rfl; exact h
  have hK9 := hK.sub (tys' := []) [] rfl
  refine W.widen (k := 0) (n := 0) (Nat.le_of_ble_eq_true rfl) (Nat.le_of_ble_eq_true rfl) ?_
  have er_1 : ((-1) : Int32) = -1 := by first | rfl | (simp; done)
  exact W.iret (v := (-1)) hx hb hr (fun t ht hW => ⟨⟨(-1), (-1), rfl, rfl, er_1, by rw [ht]; exact hP9, va_K.moved hW.alike hK9, hAe ▸ hD9⟩, hAe ▸ hS.F ht⟩) (fun q hq => hAe ▸ hS.2.2 q hq) dX9_refuse_11
def wo_X9_nextWord : List Cond := [.fieldLink RX9 103 "ComboHouse$Speech" "name" "J", .fieldLink RX9 126 "ComboHouse$Speech" "code" "I", .fieldLink RX9 52 "ComboHouse$Speech" "to" "I", .fieldLink RX9 107 "ComboHouse$Speech" "from" "I", .fieldLink RX9 32 "ComboHouse$Speech" "text" "LComboHouse$Row;", .fieldLink RX9 129 "ComboHouse$Row" "size" "I", .fieldLink RX9 100 "ComboHouse$Speech" "kind" "I"]
def wf_X9_nextWord : List Cond := .code yX9_nextWord cX9_nextWord 2 none :: ((wo_X9_nextWord ++ wsX80) ++ wsX90)
theorem hi_X9_nextWord_X8 : ∀ w ∈ wsX80, w ∈ wf_X9_nextWord := fun _ h => (List.mem_cons_of_mem _ (List.mem_append_left _ (List.mem_append_right _ h)))
theorem hi_X9_nextWord_X9 : ∀ w ∈ wsX90, w ∈ wf_X9_nextWord := fun _ h => (List.mem_cons_of_mem _ (List.mem_append_right _ h))
set_option maxHeartbeats 4000000 in
set_option maxRecDepth 100000 in
theorem c_X9_nextWord_fresh (l : Launch) (dC : Nat → ClassId) (dI : Nat → Nat → Nat) (h0 : Nat) (s1 s2 s3 s4 s5 s6 s9 s10 : Nat) (b0 : Nat) (sz : Nat) : Met l yX9_nextWord wf_X9_nextWord ({ frames := 1, cells := 0, slots := 0, locals := 12 }) (va_Pc [.ref h0] (fun U => U.heap.size = sz ∧ va_P (dC, dI) vwCl [(h0, .inr (9, [.int 0, .ref s1, .ref s2, .ref s3, .ref s4, .ref s5, .ref s6, .int 0, .int 0, .ref s9, .ref s10, .int 0, .int 0, .int 0, .long 0, .int 0, .int 0])), (s9, .inr (8, [.ref b0, .int 0, .int 0, .int 0]))] U.heap ∧ va_K (dC, dI) vwCl [] U ∧ va_D (fun _ => True) [(h0, .inr (9, [.int 0, .ref s1, .ref s2, .ref s3, .ref s4, .ref s5, .ref s6, .int 0, .int 0, .ref s9, .ref s10, .int 0, .int 0, .int 0, .long 0, .int 0, .int 0])), (s9, .inr (8, [.ref b0, .int 0, .int 0, .int 0]))])) (va_Qv (fun (_ : Unit) => True) (fun (_ : Unit) (t : State) => va_P (dC, dI) vwCl [(h0, .inr (9, [.int 0, .ref s1, .ref s2, .ref s3, .ref s4, .ref s5, .ref s6, .int 0, .int 0, .ref s9, .ref s10, .int 0, .int 0, .int 0, .long 0, .int ((-1)), .int 0])), (s9, .inr (8, [.ref b0, .int 0, .int 0, .int 0]))] t.heap ∧ va_K (dC, dI) vwCl [] t ∧ va_D (va_A [(h0, .inr (9, [.int 0, .ref s1, .ref s2, .ref s3, .ref s4, .ref s5, .ref s6, .int 0, .int 0, .ref s9, .ref s10, .int 0, .int 0, .int 0, .long 0, .int 0, .int 0])), (s9, .inr (8, [.ref b0, .int 0, .int 0, .int 0]))] sz) [(h0, .inr (9, [.int 0, .ref s1, .ref s2, .ref s3, .ref s4, .ref s5, .ref s6, .int 0, .int 0, .ref s9, .ref s10, .int 0, .int 0, .int 0, .long 0, .int ((-1)), .int 0])), (s9, .inr (8, [.ref b0, .int 0, .int 0, .int 0]))]) (va_A [(h0, .inr (9, [.int 0, .ref s1, .ref s2, .ref s3, .ref s4, .ref s5, .ref s6, .int 0, .int 0, .ref s9, .ref s10, .int 0, .int 0, .int 0, .long 0, .int 0, .int 0])), (s9, .inr (8, [.ref b0, .int 0, .int 0, .int 0]))] sz)) 0 0 (va_A [(h0, .inr (9, [.int 0, .ref s1, .ref s2, .ref s3, .ref s4, .ref s5, .ref s6, .int 0, .int 0, .ref s9, .ref s10, .int 0, .int 0, .int 0, .long 0, .int 0, .int 0])), (s9, .inr (8, [.ref b0, .int 0, .int 0, .int 0]))] sz) := by
  refine Met.ofW (cc := cX9_nextWord) (maxL := 2) (ret := none) (by decide) rfl ?_
  intro p e s m args below meth c s₁ B hml hv
  obtain ⟨rfl, hsz, hP, hK, hD0⟩ := hv
  have hx := B.exec
  have hb := B.bytes
  have hr := B.returns
  have hts := atoms_spec (ws := wf_X9_nextWord) B.pre
  have hown : s.vm.findClass RX9 = some m.cls := findClass_of_methodNamed B.named
  have hlocks := B.notSynchronized
  subst hsz
  have hD := hD0.self (sz := s.heap.size)
  generalize hAe : va_A [(h0, .inr (9, [.int 0, .ref s1, .ref s2, .ref s3, .ref s4, .ref s5, .ref s6, .int 0, .int 0, .ref s9, .ref s10, .int 0, .int 0, .int 0, .long 0, .int 0, .int 0])), (s9, .inr (8, [.ref b0, .int 0, .int 0, .int 0]))] s.heap.size = A at hD ⊢
  have hA : ∀ q : Nat, s.heap.size ≤ q → A q := fun q h => by rw [← hAe]; exact Or.inr h
  have hS : va_S A s.heap s.heap [] := va_S.rf
  have hP : va_P (dC, dI) vwCl [(h0, .inr (9, [.int 0, .ref s1, .ref s2, .ref s3, .ref s4, .ref s5, .ref s6, .int 0, .int 0, .ref s9, .ref s10, .int 0, .int 0, .int 0, .long 0, .int 0, .int 0])), (s9, .inr (8, [.ref b0, .int 0, .int 0, .int 0]))] s.heap := hP
  have hD : va_D A [(h0, .inr (9, [.int 0, .ref s1, .ref s2, .ref s3, .ref s4, .ref s5, .ref s6, .int 0, .int 0, .ref s9, .ref s10, .int 0, .int 0, .int 0, .long 0, .int 0, .int 0])), (s9, .inr (8, [.ref b0, .int 0, .int 0, .int 0]))] := hD
  have hl := lv_entry ([.ref h0]) (n := 2) (Nat.le_of_ble_eq_true rfl)
  rw [lg_entry_eq]
  generalize (lg_sl ([.ref h0]) ++ List.replicate (2 - (lg_sl ([.ref h0])).length) Slot.unset).toArray = ls at hl ⊢
  have hl : lv_has ls 2 [(0, .ref h0)] := hl
  have hiX8 := hi_X9_nextWord_X8
  have hiX9 := hi_X9_nextWord_X9
  refine lv_aload_n hx hb dX9_nextWord_0 rfl (lv_at hl 0 rfl) ?_
  refine lv_lconst (v := 0) hx hb dX9_nextWord_1 rfl ?_
  refine va_put (D := (dC, dI)) (ci := 9) (v := .long 0) (ty := .long) (C := RX9) (T := TX9) (N := 17) hx hb hts hiX9 tyX9 tyX9_ok nmX9 hown hK hP hD hS 0 rfl rfl 14 (by decide) (hts (.fieldLink RX9 103 "ComboHouse$Speech" "name" "J") (by decide +kernel)) (fun _ h9 => h9) rfl (by decide +kernel) rfl rfl (Nat.le_of_ble_eq_true rfl) dX9_nextWord_2 (fun H locs hP hD hS => ?_)
  have hP : va_P (dC, dI) vwCl [(h0, .inr (9, [.int 0, .ref s1, .ref s2, .ref s3, .ref s4, .ref s5, .ref s6, .int 0, .int 0, .ref s9, .ref s10, .int 0, .int 0, .int 0, .long 0, .int 0, .int 0])), (s9, .inr (8, [.ref b0, .int 0, .int 0, .int 0]))] H := hP
  have hD : va_D A [(h0, .inr (9, [.int 0, .ref s1, .ref s2, .ref s3, .ref s4, .ref s5, .ref s6, .int 0, .int 0, .ref s9, .ref s10, .int 0, .int 0, .int 0, .long 0, .int 0, .int 0])), (s9, .inr (8, [.ref b0, .int 0, .int 0, .int 0]))] := hD
  refine lv_aload_n hx hb dX9_nextWord_5 rfl (lv_at hl 0 rfl) ?_
  refine lv_iconst (v := -1) hx hb dX9_nextWord_6 (by decide) ?_
  refine va_put (D := (dC, dI)) (ci := 9) (v := .int ((-1))) (ty := .int) (C := RX9) (T := TX9) (N := 17) hx hb hts hiX9 tyX9 tyX9_ok nmX9 hown hK hP hD hS 0 rfl rfl 15 (by decide) (hts (.fieldLink RX9 126 "ComboHouse$Speech" "code" "I") (by decide +kernel)) (fun _ h9 => h9) rfl (by decide +kernel) rfl rfl (Nat.le_of_ble_eq_true rfl) dX9_nextWord_7 (fun H locs hP hD hS => ?_)
  have hP : va_P (dC, dI) vwCl [(h0, .inr (9, [.int 0, .ref s1, .ref s2, .ref s3, .ref s4, .ref s5, .ref s6, .int 0, .int 0, .ref s9, .ref s10, .int 0, .int 0, .int 0, .long 0, .int ((-1)), .int 0])), (s9, .inr (8, [.ref b0, .int 0, .int 0, .int 0]))] H := hP
  have hD : va_D A [(h0, .inr (9, [.int 0, .ref s1, .ref s2, .ref s3, .ref s4, .ref s5, .ref s6, .int 0, .int 0, .ref s9, .ref s10, .int 0, .int 0, .int 0, .long 0, .int ((-1)), .int 0])), (s9, .inr (8, [.ref b0, .int 0, .int 0, .int 0]))] := hD
  refine lv_aload_n hx hb dX9_nextWord_10 rfl (lv_at hl 0 rfl) ?_
  refine lv_aload_n hx hb dX9_nextWord_11 rfl (lv_at hl 0 rfl) ?_
  refine va_get (D := (dC, dI)) (ci := 9) (v := .int 0) (C := RX9) (T := TX9) (N := 17) hx hb hts hiX9 hown hK hP 0 rfl rfl 13 (by decide) (hts (.fieldLink RX9 52 "ComboHouse$Speech" "to" "I") (by decide +kernel)) (fun _ h9 => h9) rfl dX9_nextWord_12 ?_
  refine va_put (D := (dC, dI)) (ci := 9) (v := .int 0) (ty := .int) (C := RX9) (T := TX9) (N := 17) hx hb hts hiX9 tyX9 tyX9_ok nmX9 hown hK hP hD hS 0 rfl rfl 12 (by decide) (hts (.fieldLink RX9 107 "ComboHouse$Speech" "from" "I") (by decide +kernel)) (fun _ h9 => h9) rfl (by decide +kernel) rfl rfl (Nat.le_of_ble_eq_true rfl) dX9_nextWord_15 (fun H locs hP hD hS => ?_)
  have hP : va_P (dC, dI) vwCl [(h0, .inr (9, [.int 0, .ref s1, .ref s2, .ref s3, .ref s4, .ref s5, .ref s6, .int 0, .int 0, .ref s9, .ref s10, .int 0, .int 0, .int 0, .long 0, .int ((-1)), .int 0])), (s9, .inr (8, [.ref b0, .int 0, .int 0, .int 0]))] H := hP
  have hD : va_D A [(h0, .inr (9, [.int 0, .ref s1, .ref s2, .ref s3, .ref s4, .ref s5, .ref s6, .int 0, .int 0, .ref s9, .ref s10, .int 0, .int 0, .int 0, .long 0, .int ((-1)), .int 0])), (s9, .inr (8, [.ref b0, .int 0, .int 0, .int 0]))] := hD
  refine lv_aload_n hx hb dX9_nextWord_18 rfl (lv_at hl 0 rfl) ?_
  refine va_get (D := (dC, dI)) (ci := 9) (v := .int 0) (C := RX9) (T := TX9) (N := 17) hx hb hts hiX9 hown hK hP 0 rfl rfl 12 (by decide) (hts (.fieldLink RX9 107 "ComboHouse$Speech" "from" "I") (by decide +kernel)) (fun _ h9 => h9) rfl dX9_nextWord_19 ?_
  refine lv_aload_n hx hb dX9_nextWord_22 rfl (lv_at hl 0 rfl) ?_
  refine va_get (D := (dC, dI)) (ci := 9) (v := .ref s9) (C := RX9) (T := TX9) (N := 17) hx hb hts hiX9 hown hK hP 0 rfl rfl 9 (by decide) (hts (.fieldLink RX9 32 "ComboHouse$Speech" "text" "LComboHouse$Row;") (by decide +kernel)) (fun _ h9 => h9) rfl dX9_nextWord_23 ?_
  refine va_get (D := (dC, dI)) (ci := 8) (v := .int 0) (C := RX8) (T := TX8) (N := 4) hx hb hts hiX8 hown hK hP 1 rfl rfl 1 (by decide) (hts (.fieldLink RX9 129 "ComboHouse$Row" "size" "I") (by decide +kernel)) (fun _ h9 => h9) rfl dX9_nextWord_26 ?_
  refine lv_icmp_ge (tgt := 77) hx hb dX9_nextWord_29 (by decide) (fun cnd_1 => ?_) (fun cnd_1 => ?_)
  rotate_left
  · exact absurd (by decide) cnd_1
  refine lv_aload_n hx hb dX9_nextWord_77 rfl (lv_at hl 0 rfl) ?_
  refine lv_aload_n hx hb dX9_nextWord_78 rfl (lv_at hl 0 rfl) ?_
  refine va_get (D := (dC, dI)) (ci := 9) (v := .int 0) (C := RX9) (T := TX9) (N := 17) hx hb hts hiX9 hown hK hP 0 rfl rfl 12 (by decide) (hts (.fieldLink RX9 107 "ComboHouse$Speech" "from" "I") (by decide +kernel)) (fun _ h9 => h9) rfl dX9_nextWord_79 ?_
  refine va_put (D := (dC, dI)) (ci := 9) (v := .int 0) (ty := .int) (C := RX9) (T := TX9) (N := 17) hx hb hts hiX9 tyX9 tyX9_ok nmX9 hown hK hP hD hS 0 rfl rfl 13 (by decide) (hts (.fieldLink RX9 52 "ComboHouse$Speech" "to" "I") (by decide +kernel)) (fun _ h9 => h9) rfl (by decide +kernel) rfl rfl (Nat.le_of_ble_eq_true rfl) dX9_nextWord_82 (fun H locs hP hD hS => ?_)
  have hP : va_P (dC, dI) vwCl [(h0, .inr (9, [.int 0, .ref s1, .ref s2, .ref s3, .ref s4, .ref s5, .ref s6, .int 0, .int 0, .ref s9, .ref s10, .int 0, .int 0, .int 0, .long 0, .int ((-1)), .int 0])), (s9, .inr (8, [.ref b0, .int 0, .int 0, .int 0]))] H := hP
  have hD : va_D A [(h0, .inr (9, [.int 0, .ref s1, .ref s2, .ref s3, .ref s4, .ref s5, .ref s6, .int 0, .int 0, .ref s9, .ref s10, .int 0, .int 0, .int 0, .long 0, .int ((-1)), .int 0])), (s9, .inr (8, [.ref b0, .int 0, .int 0, .int 0]))] := hD
  refine lv_aload_n hx hb dX9_nextWord_85 rfl (lv_at hl 0 rfl) ?_
  refine va_get (D := (dC, dI)) (ci := 9) (v := .int 0) (C := RX9) (T := TX9) (N := 17) hx hb hts hiX9 hown hK hP 0 rfl rfl 12 (by decide) (hts (.fieldLink RX9 107 "ComboHouse$Speech" "from" "I") (by decide +kernel)) (fun _ h9 => h9) rfl dX9_nextWord_86 ?_
  refine lv_aload_n hx hb dX9_nextWord_89 rfl (lv_at hl 0 rfl) ?_
  refine va_get (D := (dC, dI)) (ci := 9) (v := .ref s9) (C := RX9) (T := TX9) (N := 17) hx hb hts hiX9 hown hK hP 0 rfl rfl 9 (by decide) (hts (.fieldLink RX9 32 "ComboHouse$Speech" "text" "LComboHouse$Row;") (by decide +kernel)) (fun _ h9 => h9) rfl dX9_nextWord_90 ?_
  refine va_get (D := (dC, dI)) (ci := 8) (v := .int 0) (C := RX8) (T := TX8) (N := 4) hx hb hts hiX8 hown hK hP 1 rfl rfl 1 (by decide) (hts (.fieldLink RX9 129 "ComboHouse$Row" "size" "I") (by decide +kernel)) (fun _ h9 => h9) rfl dX9_nextWord_93 ?_
  refine lv_icmp_lt (tgt := 105) hx hb dX9_nextWord_96 (by decide) (fun cnd_2 => ?_) (fun cnd_2 => ?_)
  · exact absurd cnd_2 (by decide)
  refine lv_aload_n hx hb dX9_nextWord_99 rfl (lv_at hl 0 rfl) ?_
  refine lv_iconst (v := 0) hx hb dX9_nextWord_100 (by decide) ?_
  refine va_put (D := (dC, dI)) (ci := 9) (v := .int 0) (ty := .int) (C := RX9) (T := TX9) (N := 17) hx hb hts hiX9 tyX9 tyX9_ok nmX9 hown hK hP hD hS 0 rfl rfl 11 (by decide) (hts (.fieldLink RX9 100 "ComboHouse$Speech" "kind" "I") (by decide +kernel)) (fun _ h9 => h9) rfl (by decide +kernel) rfl rfl (Nat.le_of_ble_eq_true rfl) dX9_nextWord_101 (fun H locs hP hD hS => ?_)
  have hP : va_P (dC, dI) vwCl [(h0, .inr (9, [.int 0, .ref s1, .ref s2, .ref s3, .ref s4, .ref s5, .ref s6, .int 0, .int 0, .ref s9, .ref s10, .int 0, .int 0, .int 0, .long 0, .int ((-1)), .int 0])), (s9, .inr (8, [.ref b0, .int 0, .int 0, .int 0]))] H := hP
  have hD : va_D A [(h0, .inr (9, [.int 0, .ref s1, .ref s2, .ref s3, .ref s4, .ref s5, .ref s6, .int 0, .int 0, .ref s9, .ref s10, .int 0, .int 0, .int 0, .long 0, .int ((-1)), .int 0])), (s9, .inr (8, [.ref b0, .int 0, .int 0, .int 0]))] := hD
  have hP9 : va_P (dC, dI) vwCl [(h0, .inr (9, [.int 0, .ref s1, .ref s2, .ref s3, .ref s4, .ref s5, .ref s6, .int 0, .int 0, .ref s9, .ref s10, .int 0, .int 0, .int 0, .long 0, .int ((-1)), .int 0])), (s9, .inr (8, [.ref b0, .int 0, .int 0, .int 0]))] H := by have h := hP.sub (ws' := [(h0, .inr (9, [.int 0, .ref s1, .ref s2, .ref s3, .ref s4, .ref s5, .ref s6, .int 0, .int 0, .ref s9, .ref s10, .int 0, .int 0, .int 0, .long 0, .int ((-1)), .int 0])), (s9, .inr (8, [.ref b0, .int 0, .int 0, .int 0]))]) [0, 1] rfl; exact h
  have hD9 : va_D A [(h0, .inr (9, [.int 0, .ref s1, .ref s2, .ref s3, .ref s4, .ref s5, .ref s6, .int 0, .int 0, .ref s9, .ref s10, .int 0, .int 0, .int 0, .long 0, .int ((-1)), .int 0])), (s9, .inr (8, [.ref b0, .int 0, .int 0, .int 0]))] := by have h := hD.sub (ws' := [(h0, .inr (9, [.int 0, .ref s1, .ref s2, .ref s3, .ref s4, .ref s5, .ref s6, .int 0, .int 0, .ref s9, .ref s10, .int 0, .int 0, .int 0, .long 0, .int ((-1)), .int 0])), (s9, .inr (8, [.ref b0, .int 0, .int 0, .int 0]))]) [0, 1] (by decide) rfl; exact h
  have hK9 := hK.sub (tys' := []) [] rfl
  refine W.widen (k := 0) (n := 0) (Nat.le_of_ble_eq_true rfl) (Nat.le_of_ble_eq_true rfl) ?_
  exact W.vret hx hb hr (fun t ht hW => ⟨⟨(), rfl, trivial, by rw [ht]; exact hP9, va_K.moved hW.alike hK9, hAe ▸ hD9⟩, hAe ▸ hS.F ht⟩) (fun q hq => hAe ▸ hS.2.2 q hq) dX9_nextWord_104
def wo_X9_readDefinition : List Cond := [.fieldLink RX9 100 "ComboHouse$Speech" "kind" "I", .fieldLink RX9 55 "ComboHouse$Speech" "nameCount" "I", .fieldLink RX9 103 "ComboHouse$Speech" "name" "J", .fieldLink RX9 107 "ComboHouse$Speech" "from" "I"]
def wf_X9_readDefinition : List Cond := .code yX9_readDefinition cX9_readDefinition 4 (some .boolean) :: (((wo_X9_readDefinition ++ (wsV RX9 97 RX9 yX9_nextWord wf_X9_nextWord)) ++ (wsV RX9 110 RX9 yX9_refuse wf_X9_refuse)) ++ wsX90)
set_option maxRecDepth 100000 in
theorem gf_X9_readDefinition_0 : GoodIn wf_X9_readDefinition (wsV RX9 97 RX9 yX9_nextWord wf_X9_nextWord) := goodIn_sub (fun _ h => (List.mem_cons_of_mem _ (List.mem_append_left _ (List.mem_append_left _ (List.mem_append_right _ h))))) (by decide +kernel)
set_option maxRecDepth 100000 in
theorem gf_X9_readDefinition_1 : GoodIn wf_X9_readDefinition (wsV RX9 110 RX9 yX9_refuse wf_X9_refuse) := goodIn_sub (fun _ h => (List.mem_cons_of_mem _ (List.mem_append_left _ (List.mem_append_right _ h)))) (by decide +kernel)
theorem hi_X9_readDefinition_X9 : ∀ w ∈ wsX90, w ∈ wf_X9_readDefinition := fun _ h => (List.mem_cons_of_mem _ (List.mem_append_right _ h))
set_option maxHeartbeats 4000000 in
set_option maxRecDepth 100000 in
theorem c_X9_readDefinition_fresh (l : Launch) (dC : Nat → ClassId) (dI : Nat → Nat → Nat) (h0 : Nat) (s1 s2 s3 s4 s5 s6 s9 s10 : Nat) (b0 : Nat) (sz : Nat) : Met l yX9_readDefinition wf_X9_readDefinition ({ frames := 2, cells := 0, slots := 0, locals := 34 }) (va_Pc [.ref h0] (fun U => U.heap.size = sz ∧ va_P (dC, dI) vwCl [(h0, .inr (9, [.int 0, .ref s1, .ref s2, .ref s3, .ref s4, .ref s5, .ref s6, .int 0, .int 0, .ref s9, .ref s10, .int 0, .int 0, .int 0, .long 0, .int 0, .int 0])), (s9, .inr (8, [.ref b0, .int 0, .int 0, .int 0]))] U.heap ∧ va_K (dC, dI) vwCl [] U ∧ va_D (fun _ => True) [(h0, .inr (9, [.int 0, .ref s1, .ref s2, .ref s3, .ref s4, .ref s5, .ref s6, .int 0, .int 0, .ref s9, .ref s10, .int 0, .int 0, .int 0, .long 0, .int 0, .int 0])), (s9, .inr (8, [.ref b0, .int 0, .int 0, .int 0]))])) (va_Qi (fun (r u : Int32) => u = r) (fun (r : Int32) (t : State) => (r = 0) ∧ va_P (dC, dI) vwCl [(h0, .inr (9, [.int 0, .ref s1, .ref s2, .ref s3, .ref s4, .ref s5, .ref s6, .int 0, .int 0, .ref s9, .ref s10, .int 0, .int 0, .int 0, .long 0, .int ((-1)), .int 1])), (s9, .inr (8, [.ref b0, .int 0, .int 0, .int 0]))] t.heap ∧ va_K (dC, dI) vwCl [] t ∧ va_D (va_A [(h0, .inr (9, [.int 0, .ref s1, .ref s2, .ref s3, .ref s4, .ref s5, .ref s6, .int 0, .int 0, .ref s9, .ref s10, .int 0, .int 0, .int 0, .long 0, .int 0, .int 0])), (s9, .inr (8, [.ref b0, .int 0, .int 0, .int 0]))] sz) [(h0, .inr (9, [.int 0, .ref s1, .ref s2, .ref s3, .ref s4, .ref s5, .ref s6, .int 0, .int 0, .ref s9, .ref s10, .int 0, .int 0, .int 0, .long 0, .int ((-1)), .int 1])), (s9, .inr (8, [.ref b0, .int 0, .int 0, .int 0]))]) (va_A [(h0, .inr (9, [.int 0, .ref s1, .ref s2, .ref s3, .ref s4, .ref s5, .ref s6, .int 0, .int 0, .ref s9, .ref s10, .int 0, .int 0, .int 0, .long 0, .int 0, .int 0])), (s9, .inr (8, [.ref b0, .int 0, .int 0, .int 0]))] sz)) 0 0 (va_A [(h0, .inr (9, [.int 0, .ref s1, .ref s2, .ref s3, .ref s4, .ref s5, .ref s6, .int 0, .int 0, .ref s9, .ref s10, .int 0, .int 0, .int 0, .long 0, .int 0, .int 0])), (s9, .inr (8, [.ref b0, .int 0, .int 0, .int 0]))] sz) := by
  refine Met.ofW (cc := cX9_readDefinition) (maxL := 4) (ret := (some .boolean)) (by decide) rfl ?_
  intro p e s m args below meth c s₁ B hml hv
  obtain ⟨rfl, hsz, hP, hK, hD0⟩ := hv
  have hx := B.exec
  have hb := B.bytes
  have hr := B.returns
  have hts := atoms_spec (ws := wf_X9_readDefinition) B.pre
  have hown : s.vm.findClass RX9 = some m.cls := findClass_of_methodNamed B.named
  have hlocks := B.notSynchronized
  subst hsz
  have hD := hD0.self (sz := s.heap.size)
  generalize hAe : va_A [(h0, .inr (9, [.int 0, .ref s1, .ref s2, .ref s3, .ref s4, .ref s5, .ref s6, .int 0, .int 0, .ref s9, .ref s10, .int 0, .int 0, .int 0, .long 0, .int 0, .int 0])), (s9, .inr (8, [.ref b0, .int 0, .int 0, .int 0]))] s.heap.size = A at hD ⊢
  have hA : ∀ q : Nat, s.heap.size ≤ q → A q := fun q h => by rw [← hAe]; exact Or.inr h
  have hS : va_S A s.heap s.heap [] := va_S.rf
  have hP : va_P (dC, dI) vwCl [(h0, .inr (9, [.int 0, .ref s1, .ref s2, .ref s3, .ref s4, .ref s5, .ref s6, .int 0, .int 0, .ref s9, .ref s10, .int 0, .int 0, .int 0, .long 0, .int 0, .int 0])), (s9, .inr (8, [.ref b0, .int 0, .int 0, .int 0]))] s.heap := hP
  have hD : va_D A [(h0, .inr (9, [.int 0, .ref s1, .ref s2, .ref s3, .ref s4, .ref s5, .ref s6, .int 0, .int 0, .ref s9, .ref s10, .int 0, .int 0, .int 0, .long 0, .int 0, .int 0])), (s9, .inr (8, [.ref b0, .int 0, .int 0, .int 0]))] := hD
  have hl := lv_entry ([.ref h0]) (n := 4) (Nat.le_of_ble_eq_true rfl)
  rw [lg_entry_eq]
  generalize (lg_sl ([.ref h0]) ++ List.replicate (4 - (lg_sl ([.ref h0])).length) Slot.unset).toArray = ls at hl ⊢
  have hl : lv_has ls 4 [(0, .ref h0)] := hl
  have hiX9 := hi_X9_readDefinition_X9
  refine lv_aload_n hx hb dX9_readDefinition_0 rfl (lv_at hl 0 rfl) ?_
  have hPc := hP.sub (ws' := [(h0, .inr (9, [.int 0, .ref s1, .ref s2, .ref s3, .ref s4, .ref s5, .ref s6, .int 0, .int 0, .ref s9, .ref s10, .int 0, .int 0, .int 0, .long 0, .int 0, .int 0])), (s9, .inr (8, [.ref b0, .int 0, .int 0, .int 0]))]) [0, 1] rfl
  have hDc := hD.sub (ws' := [(h0, .inr (9, [.int 0, .ref s1, .ref s2, .ref s3, .ref s4, .ref s5, .ref s6, .int 0, .int 0, .ref s9, .ref s10, .int 0, .int 0, .int 0, .long 0, .int 0, .int 0])), (s9, .inr (8, [.ref b0, .int 0, .int 0, .int 0]))]) [0, 1] (by decide) rfl
  have hKc := hK.sub (tys' := []) [] rfl
  have hFc := va_free (wc := [(h0, .inr (9, [.int 0, .ref s1, .ref s2, .ref s3, .ref s4, .ref s5, .ref s6, .int 0, .int 0, .ref s9, .ref s10, .int 0, .int 0, .int 0, .long 0, .int 0, .int 0])), (s9, .inr (8, [.ref b0, .int 0, .int 0, .int 0]))]) hD hS hA [0, 1] rfl
  refine va_callv (va_runV (As := []) (rest := []) ⟨hx, hb, hml, hown, hts⟩ (c_X9_nextWord_fresh l dC dI h0 s1 s2 s3 s4 s5 s6 s9 s10 b0 s.heap.size) (cwV 0 hts gf_X9_readDefinition_0 rfl rfl rfl (by decide +kernel) ⟨Nat.le_of_ble_eq_true rfl, Nat.le_of_ble_eq_true rfl⟩) ⟨fun a U g mk q => by obtain ⟨q0, q1, qP, qK, qD⟩ := q; exact ⟨q0, q1, qP, va_K.moved (u := U) (U := U.calling g mk a) (Vm.Alike.refl U.vm) qK, qD⟩, va_recv hKc hPc (ci := 9) (q0 := 0) rfl rfl, fun U hU hW => ⟨rfl, by rw [hU], by rw [hU]; exact hPc, va_K.moved hW.alike hKc, hDc.weaken (fun _ _ _ _ => trivial)⟩⟩ rfl rfl hl.1 rfl (lv_room (Nat.le_of_ble_eq_true rfl)) dX9_readDefinition_1 ⟨Nat.le_of_ble_eq_true rfl, Nat.le_of_ble_eq_true rfl⟩) hS (fun q _ h => hFc q h) hFc (fun u t H1 locs ht hvm hw hB hz1 hk1 hS => ?_)
  obtain ⟨hP1, hK1, hD1⟩ := hB
  rw [ht] at hP1
  have hK1 := va_K.moved hvm.symm hK1
  obtain ⟨hP, hD⟩ := va_join (wr := []) (w1 := [(h0, .inr (9, [.int 0, .ref s1, .ref s2, .ref s3, .ref s4, .ref s5, .ref s6, .int 0, .int 0, .ref s9, .ref s10, .int 0, .int 0, .int 0, .long 0, .int ((-1)), .int 0])), (s9, .inr (8, [.ref b0, .int 0, .int 0, .int 0]))]) hP hD [0, 1] [] rfl rfl (by decide) (by decide) hk1 hFc hP1 hD1
  have hK := (hK.sub (tys' := []) [] rfl).app hK1
  generalize H1 = H at hP hS ⊢
  have hP : va_P (dC, dI) vwCl [(h0, .inr (9, [.int 0, .ref s1, .ref s2, .ref s3, .ref s4, .ref s5, .ref s6, .int 0, .int 0, .ref s9, .ref s10, .int 0, .int 0, .int 0, .long 0, .int ((-1)), .int 0])), (s9, .inr (8, [.ref b0, .int 0, .int 0, .int 0]))] H := hP
  have hD : va_D A [(h0, .inr (9, [.int 0, .ref s1, .ref s2, .ref s3, .ref s4, .ref s5, .ref s6, .int 0, .int 0, .ref s9, .ref s10, .int 0, .int 0, .int 0, .long 0, .int ((-1)), .int 0])), (s9, .inr (8, [.ref b0, .int 0, .int 0, .int 0]))] := hD
  have hK : va_K (dC, dI) vwCl [] s := hK
  refine W.widen (k := 0) (n := 0) (Nat.le_of_ble_eq_true rfl) (Nat.le_of_ble_eq_true rfl) ?_
  refine lv_aload_n hx hb dX9_readDefinition_4 rfl (lv_at hl 0 rfl) ?_
  refine va_get (D := (dC, dI)) (ci := 9) (v := .int 0) (C := RX9) (T := TX9) (N := 17) hx hb hts hiX9 hown hK hP 0 rfl rfl 11 (by decide) (hts (.fieldLink RX9 100 "ComboHouse$Speech" "kind" "I") (by decide +kernel)) (fun _ h9 => h9) rfl dX9_readDefinition_5 ?_
  refine lv_if_ne (tgt := 20) hx hb dX9_readDefinition_8 (by decide) (fun cnd_2 => ?_) (fun cnd_2 => ?_)
  · exact absurd rfl cnd_2
  refine lv_aload_n hx hb dX9_readDefinition_11 rfl (lv_at hl 0 rfl) ?_
  refine va_get (D := (dC, dI)) (ci := 9) (v := .int 0) (C := RX9) (T := TX9) (N := 17) hx hb hts hiX9 hown hK hP 0 rfl rfl 7 (by decide) (hts (.fieldLink RX9 55 "ComboHouse$Speech" "nameCount" "I") (by decide +kernel)) (fun _ h9 => h9) rfl dX9_readDefinition_12 ?_
  refine lv_if_le (tgt := 20) hx hb dX9_readDefinition_15 (by decide) (fun cnd_3 => ?_) (fun cnd_3 => ?_)
  rotate_left
  · exact absurd (by decide) cnd_3
  refine lv_aload_n hx hb dX9_readDefinition_20 rfl (lv_at hl 0 rfl) ?_
  refine va_get (D := (dC, dI)) (ci := 9) (v := .long 0) (C := RX9) (T := TX9) (N := 17) hx hb hts hiX9 hown hK hP 0 rfl rfl 14 (by decide) (hts (.fieldLink RX9 103 "ComboHouse$Speech" "name" "J") (by decide +kernel)) (fun _ h9 => h9) rfl dX9_readDefinition_21 ?_
  refine lv_lstore_n (lv' := [(1, .long 0), (0, .ref h0)]) hx hb dX9_readDefinition_24 rfl hl (by decide) rfl (fun ls hl => ?_)
  refine lv_lload_n hx hb dX9_readDefinition_25 rfl (lv_at hl 0 rfl) ?_
  refine lv_lconst (v := 0) hx hb dX9_readDefinition_26 rfl ?_
  refine W.lcmp hx hb dX9_readDefinition_27 ?_
  refine W.eq (g2 := F0 m 28 ls [.int 0]) (by rfl) ?_
  refine lv_if_ne (tgt := 43) hx hb dX9_readDefinition_28 (by decide) (fun cnd_4 => ?_) (fun cnd_4 => ?_)
  · exact absurd rfl cnd_4
  refine lv_aload_n hx hb dX9_readDefinition_31 rfl (lv_at hl 1 rfl) ?_
  refine lv_iconst (v := 1) hx hb dX9_readDefinition_32 (by decide) ?_
  refine lv_aload_n hx hb dX9_readDefinition_33 rfl (lv_at hl 1 rfl) ?_
  refine va_get (D := (dC, dI)) (ci := 9) (v := .int 0) (C := RX9) (T := TX9) (N := 17) hx hb hts hiX9 hown hK hP 0 rfl rfl 12 (by decide) (hts (.fieldLink RX9 107 "ComboHouse$Speech" "from" "I") (by decide +kernel)) (fun _ h9 => h9) rfl dX9_readDefinition_34 ?_
  have hPc := hP.sub (ws' := [(h0, .inr (9, [.int 0, .ref s1, .ref s2, .ref s3, .ref s4, .ref s5, .ref s6, .int 0, .int 0, .ref s9, .ref s10, .int 0, .int 0, .int 0, .long 0, .int ((-1)), .int 0]))]) [0] rfl
  have hDc := hD.sub (ws' := [(h0, .inr (9, [.int 0, .ref s1, .ref s2, .ref s3, .ref s4, .ref s5, .ref s6, .int 0, .int 0, .ref s9, .ref s10, .int 0, .int 0, .int 0, .long 0, .int ((-1)), .int 0]))]) [0] (by decide) rfl
  have hKc := hK.sub (tys' := []) [] rfl
  have hFc := va_free (wc := [(h0, .inr (9, [.int 0, .ref s1, .ref s2, .ref s3, .ref s4, .ref s5, .ref s6, .int 0, .int 0, .ref s9, .ref s10, .int 0, .int 0, .int 0, .long 0, .int ((-1)), .int 0]))]) hD hS hA [0] rfl
  refine va_calli (va_runV (As := [.int 1, .int 0]) (rest := []) ⟨hx, hb, hml, hown, hts⟩ (c_X9_refuse_fresh l dC dI h0 s1 s2 s3 s4 s5 s6 s9 s10 H.size) (cwV 2 hts gf_X9_readDefinition_1 rfl rfl rfl (by decide +kernel) ⟨Nat.le_of_ble_eq_true rfl, Nat.le_of_ble_eq_true rfl⟩) ⟨fun a U g mk q => by obtain ⟨q0, q1, qP, qK, qD⟩ := q; exact ⟨q0, q1, qP, va_K.moved (u := U) (U := U.calling g mk a) (Vm.Alike.refl U.vm) qK, qD⟩, va_recv hKc hPc (ci := 9) (q0 := 0) rfl rfl, fun U hU hW => ⟨rfl, by rw [hU], by rw [hU]; exact hPc, va_K.moved hW.alike hKc, hDc.weaken (fun _ _ _ _ => trivial)⟩⟩ rfl rfl hl.1 rfl (lv_room (Nat.le_of_ble_eq_true rfl)) dX9_readDefinition_37 ⟨Nat.le_of_ble_eq_true rfl, Nat.le_of_ble_eq_true rfl⟩) hS (fun q _ h => hFc q h) hFc (fun r_5 u t H1 locs ht hvm hw hB hz1 hk1 hS => ?_)
  obtain rfl : u = r_5 := hw
  obtain ⟨hr_6, hP1, hK1, hD1⟩ := hB
  rw [ht] at hP1
  have hK1 := va_K.moved hvm.symm hK1
  obtain ⟨hP, hD⟩ := va_join (wr := [(s9, .inr (8, [.ref b0, .int 0, .int 0, .int 0]))]) (w1 := [(h0, .inr (9, [.int 0, .ref s1, .ref s2, .ref s3, .ref s4, .ref s5, .ref s6, .int 0, .int 0, .ref s9, .ref s10, .int 0, .int 0, .int 0, .long 0, .int ((-1)), .int 1]))]) hP hD [0] [1] rfl rfl (by decide) (by decide) hk1 hFc hP1 hD1
  have hK := (hK.sub (tys' := []) [] rfl).app hK1
  generalize H1 = H at hP hS ⊢
  have hP : va_P (dC, dI) vwCl [(s9, .inr (8, [.ref b0, .int 0, .int 0, .int 0])), (h0, .inr (9, [.int 0, .ref s1, .ref s2, .ref s3, .ref s4, .ref s5, .ref s6, .int 0, .int 0, .ref s9, .ref s10, .int 0, .int 0, .int 0, .long 0, .int ((-1)), .int 1]))] H := hP
  have hD : va_D A [(s9, .inr (8, [.ref b0, .int 0, .int 0, .int 0])), (h0, .inr (9, [.int 0, .ref s1, .ref s2, .ref s3, .ref s4, .ref s5, .ref s6, .int 0, .int 0, .ref s9, .ref s10, .int 0, .int 0, .int 0, .long 0, .int ((-1)), .int 1]))] := hD
  have hK : va_K (dC, dI) vwCl [] s := hK
  refine W.widen (k := 0) (n := 0) (Nat.le_of_ble_eq_true rfl) (Nat.le_of_ble_eq_true rfl) ?_
  subst hr_6
  refine lv_pop hx hb dX9_readDefinition_40 rfl ?_
  refine lv_iconst (v := 0) hx hb dX9_readDefinition_41 (by decide) ?_
  have hP9 : va_P (dC, dI) vwCl [(h0, .inr (9, [.int 0, .ref s1, .ref s2, .ref s3, .ref s4, .ref s5, .ref s6, .int 0, .int 0, .ref s9, .ref s10, .int 0, .int 0, .int 0, .long 0, .int ((-1)), .int 1])), (s9, .inr (8, [.ref b0, .int 0, .int 0, .int 0]))] H := by have h := hP.sub (ws' := [(h0, .inr (9, [.int 0, .ref s1, .ref s2, .ref s3, .ref s4, .ref s5, .ref s6, .int 0, .int 0, .ref s9, .ref s10, .int 0, .int 0, .int 0, .long 0, .int ((-1)), .int 1])), (s9, .inr (8, [.ref b0, .int 0, .int 0, .int 0]))]) [1, 0] rfl; exact h
  have hD9 : va_D A [(h0, .inr (9, [.int 0, .ref s1, .ref s2, .ref s3, .ref s4, .ref s5, .ref s6, .int 0, .int 0, .ref s9, .ref s10, .int 0, .int 0, .int 0, .long 0, .int ((-1)), .int 1])), (s9, .inr (8, [.ref b0, .int 0, .int 0, .int 0]))] := by have h := hD.sub (ws' := [(h0, .inr (9, [.int 0, .ref s1, .ref s2, .ref s3, .ref s4, .ref s5, .ref s6, .int 0, .int 0, .ref s9, .ref s10, .int 0, .int 0, .int 0, .long 0, .int ((-1)), .int 1])), (s9, .inr (8, [.ref b0, .int 0, .int 0, .int 0]))]) [1, 0] (by decide) rfl; exact h
  have hK9 := hK.sub (tys' := []) [] rfl
  refine W.widen (k := 0) (n := 0) (Nat.le_of_ble_eq_true rfl) (Nat.le_of_ble_eq_true rfl) ?_
  have er_7 : (0 : Int32) = 0 := by first | rfl | (simp; done)
  exact W.zret (v := 0) hx hb hr rfl (fun t ht hW => ⟨⟨0, 0, rfl, rfl, er_7, by rw [ht]; exact hP9, va_K.moved hW.alike hK9, hAe ▸ hD9⟩, hAe ▸ hS.F ht⟩) (fun q hq => hAe ▸ hS.2.2 q hq) dX9_readDefinition_42
def wo_X9_tell : List Cond := [.fieldLink RX9 32 "ComboHouse$Speech" "text" "LComboHouse$Row;", .fieldLink RX9 36 "ComboHouse$Speech" "program" "LComboHouse$Program;", .fieldLink RX9 45 "ComboHouse$Speech" "place" "I", .fieldLink RX9 49 "ComboHouse$Speech" "fault" "I", .fieldLink RX9 52 "ComboHouse$Speech" "to" "I", .fieldLink RX9 55 "ComboHouse$Speech" "nameCount" "I", .fieldLink RX9 25 "ComboHouse$Speech" "head" "[I"]
def wf_X9_tell : List Cond := .code yX9_tell cX9_tell 7 (some .int) :: (((((wo_X9_tell ++ (wsV RX9 40 RX6 yX6_clear wf_X6_clear)) ++ (wsV RX9 58 RX9 yX9_readDefinition wf_X9_readDefinition)) ++ wsX50) ++ wsX80) ++ wsX90)
set_option maxRecDepth 100000 in
theorem gf_X9_tell_0 : GoodIn wf_X9_tell (wsV RX9 40 RX6 yX6_clear wf_X6_clear) := goodIn_sub (fun _ h => (List.mem_cons_of_mem _ (List.mem_append_left _ (List.mem_append_left _ (List.mem_append_left _ (List.mem_append_left _ (List.mem_append_right _ h))))))) (by decide +kernel)
set_option maxRecDepth 100000 in
theorem gf_X9_tell_1 : GoodIn wf_X9_tell (wsV RX9 58 RX9 yX9_readDefinition wf_X9_readDefinition) := goodIn_sub (fun _ h => (List.mem_cons_of_mem _ (List.mem_append_left _ (List.mem_append_left _ (List.mem_append_left _ (List.mem_append_right _ h)))))) (by decide +kernel)
theorem hi_X9_tell_X5 : ∀ w ∈ wsX50, w ∈ wf_X9_tell := fun _ h => (List.mem_cons_of_mem _ (List.mem_append_left _ (List.mem_append_left _ (List.mem_append_right _ h))))
theorem hi_X9_tell_X8 : ∀ w ∈ wsX80, w ∈ wf_X9_tell := fun _ h => (List.mem_cons_of_mem _ (List.mem_append_left _ (List.mem_append_right _ h)))
theorem hi_X9_tell_X9 : ∀ w ∈ wsX90, w ∈ wf_X9_tell := fun _ h => (List.mem_cons_of_mem _ (List.mem_append_right _ h))
set_option maxHeartbeats 4000000 in
set_option maxRecDepth 100000 in
theorem c_X9_tell_fresh (l : Launch) (dC : Nat → ClassId) (dI : Nat → Nat → Nat) (h0 : Nat) (s1 s2 s3 s4 s5 s6 : Nat) (h1 h2 h3 : Nat) (g1 g2 g3 g4 g5 g6 g7 g8 g9 g10 g11 g12 g13 : Nat) (b0 : Nat) (k0 : ClassId) (sz : Nat) : Met l yX9_tell wf_X9_tell ({ frames := 3, cells := 0, slots := 0, locals := 57 }) (va_Pc [.ref h0, .ref h1, .ref h2, .ref h3] (fun U => U.heap.size = sz ∧ va_P (dC, dI) vwCl [(h0, .inr (9, [.int 0, .ref s1, .ref s2, .ref s3, .ref s4, .ref s5, .ref s6, .int 0, .int 0, .null, .null, .int 0, .int 0, .int 0, .long 0, .int 0, .int 0])), (s6, .inl (k0, 512, .inl (fun _ => 0))), (h1, .inr (8, [.ref b0, .int 0, .int 0, .int 0])), (h2, .inr (6, [.int 0, .ref g1, .ref g2, .ref g3, .ref g4, .ref g5, .ref g6, .ref g7, .ref g8, .ref g9, .ref g10, .ref g11, .ref g12, .ref g13, .int 0, .int 0]))] U.heap ∧ va_K (dC, dI) vwCl [(k0, .int)] U ∧ va_D (fun _ => True) [(h0, .inr (9, [.int 0, .ref s1, .ref s2, .ref s3, .ref s4, .ref s5, .ref s6, .int 0, .int 0, .null, .null, .int 0, .int 0, .int 0, .long 0, .int 0, .int 0])), (s6, .inl (k0, 512, .inl (fun _ => 0))), (h1, .inr (8, [.ref b0, .int 0, .int 0, .int 0])), (h2, .inr (6, [.int 0, .ref g1, .ref g2, .ref g3, .ref g4, .ref g5, .ref g6, .ref g7, .ref g8, .ref g9, .ref g10, .ref g11, .ref g12, .ref g13, .int 0, .int 0]))])) (va_Qi (fun (r u : Int32) => u = r) (fun (r : Int32) (t : State) => (r = 1) ∧ va_P (dC, dI) vwCl [(h0, .inr (9, [.int 0, .ref s1, .ref s2, .ref s3, .ref s4, .ref s5, .ref s6, .int 0, .int 0, .ref h1, .ref h2, .int 0, .int 0, .int 0, .long 0, .int ((-1)), .int 1])), (h1, .inr (8, [.ref b0, .int 0, .int 0, .int 0]))] t.heap ∧ va_K (dC, dI) vwCl [] t ∧ va_D (va_A [(h0, .inr (9, [.int 0, .ref s1, .ref s2, .ref s3, .ref s4, .ref s5, .ref s6, .int 0, .int 0, .null, .null, .int 0, .int 0, .int 0, .long 0, .int 0, .int 0])), (s6, .inl (k0, 512, .inl (fun _ => 0))), (h1, .inr (8, [.ref b0, .int 0, .int 0, .int 0])), (h2, .inr (6, [.int 0, .ref g1, .ref g2, .ref g3, .ref g4, .ref g5, .ref g6, .ref g7, .ref g8, .ref g9, .ref g10, .ref g11, .ref g12, .ref g13, .int 0, .int 0]))] sz) [(h0, .inr (9, [.int 0, .ref s1, .ref s2, .ref s3, .ref s4, .ref s5, .ref s6, .int 0, .int 0, .ref h1, .ref h2, .int 0, .int 0, .int 0, .long 0, .int ((-1)), .int 1])), (h1, .inr (8, [.ref b0, .int 0, .int 0, .int 0]))]) (va_A [(h0, .inr (9, [.int 0, .ref s1, .ref s2, .ref s3, .ref s4, .ref s5, .ref s6, .int 0, .int 0, .null, .null, .int 0, .int 0, .int 0, .long 0, .int 0, .int 0])), (s6, .inl (k0, 512, .inl (fun _ => 0))), (h1, .inr (8, [.ref b0, .int 0, .int 0, .int 0])), (h2, .inr (6, [.int 0, .ref g1, .ref g2, .ref g3, .ref g4, .ref g5, .ref g6, .ref g7, .ref g8, .ref g9, .ref g10, .ref g11, .ref g12, .ref g13, .int 0, .int 0]))] sz)) 0 0 (va_A [(h0, .inr (9, [.int 0, .ref s1, .ref s2, .ref s3, .ref s4, .ref s5, .ref s6, .int 0, .int 0, .null, .null, .int 0, .int 0, .int 0, .long 0, .int 0, .int 0])), (s6, .inl (k0, 512, .inl (fun _ => 0))), (h1, .inr (8, [.ref b0, .int 0, .int 0, .int 0])), (h2, .inr (6, [.int 0, .ref g1, .ref g2, .ref g3, .ref g4, .ref g5, .ref g6, .ref g7, .ref g8, .ref g9, .ref g10, .ref g11, .ref g12, .ref g13, .int 0, .int 0]))] sz) := by
  refine Met.ofW (cc := cX9_tell) (maxL := 7) (ret := (some .int)) (by decide) rfl ?_
  intro p e s m args below meth c s₁ B hml hv
  obtain ⟨rfl, hsz, hP, hK, hD0⟩ := hv
  have hx := B.exec
  have hb := B.bytes
  have hr := B.returns
  have hts := atoms_spec (ws := wf_X9_tell) B.pre
  have hown : s.vm.findClass RX9 = some m.cls := findClass_of_methodNamed B.named
  have hlocks := B.notSynchronized
  subst hsz
  have hD := hD0.self (sz := s.heap.size)
  generalize hAe : va_A [(h0, .inr (9, [.int 0, .ref s1, .ref s2, .ref s3, .ref s4, .ref s5, .ref s6, .int 0, .int 0, .null, .null, .int 0, .int 0, .int 0, .long 0, .int 0, .int 0])), (s6, .inl (k0, 512, .inl (fun _ => 0))), (h1, .inr (8, [.ref b0, .int 0, .int 0, .int 0])), (h2, .inr (6, [.int 0, .ref g1, .ref g2, .ref g3, .ref g4, .ref g5, .ref g6, .ref g7, .ref g8, .ref g9, .ref g10, .ref g11, .ref g12, .ref g13, .int 0, .int 0]))] s.heap.size = A at hD ⊢
  have hA : ∀ q : Nat, s.heap.size ≤ q → A q := fun q h => by rw [← hAe]; exact Or.inr h
  have hS : va_S A s.heap s.heap [] := va_S.rf
  have hP : va_P (dC, dI) vwCl [(h0, .inr (9, [.int 0, .ref s1, .ref s2, .ref s3, .ref s4, .ref s5, .ref s6, .int 0, .int 0, .null, .null, .int 0, .int 0, .int 0, .long 0, .int 0, .int 0])), (s6, .inl (k0, 512, .inl (fun _ => 0))), (h1, .inr (8, [.ref b0, .int 0, .int 0, .int 0])), (h2, .inr (6, [.int 0, .ref g1, .ref g2, .ref g3, .ref g4, .ref g5, .ref g6, .ref g7, .ref g8, .ref g9, .ref g10, .ref g11, .ref g12, .ref g13, .int 0, .int 0]))] s.heap := hP
  have hD : va_D A [(h0, .inr (9, [.int 0, .ref s1, .ref s2, .ref s3, .ref s4, .ref s5, .ref s6, .int 0, .int 0, .null, .null, .int 0, .int 0, .int 0, .long 0, .int 0, .int 0])), (s6, .inl (k0, 512, .inl (fun _ => 0))), (h1, .inr (8, [.ref b0, .int 0, .int 0, .int 0])), (h2, .inr (6, [.int 0, .ref g1, .ref g2, .ref g3, .ref g4, .ref g5, .ref g6, .ref g7, .ref g8, .ref g9, .ref g10, .ref g11, .ref g12, .ref g13, .int 0, .int 0]))] := hD
  have hl := lv_entry ([.ref h0, .ref h1, .ref h2, .ref h3]) (n := 7) (Nat.le_of_ble_eq_true rfl)
  rw [lg_entry_eq]
  generalize (lg_sl ([.ref h0, .ref h1, .ref h2, .ref h3]) ++ List.replicate (7 - (lg_sl ([.ref h0, .ref h1, .ref h2, .ref h3])).length) Slot.unset).toArray = ls at hl ⊢
  have hl : lv_has ls 7 [(0, .ref h0), (1, .ref h1), (2, .ref h2), (3, .ref h3)] := hl
  have hiX5 := hi_X9_tell_X5
  have hiX8 := hi_X9_tell_X8
  have hiX9 := hi_X9_tell_X9
  refine lv_aload_n hx hb dX9_tell_0 rfl (lv_at hl 0 rfl) ?_
  refine lv_aload_n hx hb dX9_tell_1 rfl (lv_at hl 1 rfl) ?_
  refine va_put (D := (dC, dI)) (ci := 9) (v := .ref h1) (ty := .object "ComboHouse$Row") (C := RX9) (T := TX9) (N := 17) hx hb hts hiX9 tyX9 tyX9_ok nmX9 hown hK hP hD hS 0 rfl rfl 9 (by decide) (hts (.fieldLink RX9 32 "ComboHouse$Speech" "text" "LComboHouse$Row;") (by decide +kernel)) (fun _ h9 => h9) rfl (by decide +kernel) rfl rfl (Nat.le_of_ble_eq_true rfl) dX9_tell_2 (fun H locs hP hD hS => ?_)
  have hP : va_P (dC, dI) vwCl [(h0, .inr (9, [.int 0, .ref s1, .ref s2, .ref s3, .ref s4, .ref s5, .ref s6, .int 0, .int 0, .ref h1, .null, .int 0, .int 0, .int 0, .long 0, .int 0, .int 0])), (s6, .inl (k0, 512, .inl (fun _ => 0))), (h1, .inr (8, [.ref b0, .int 0, .int 0, .int 0])), (h2, .inr (6, [.int 0, .ref g1, .ref g2, .ref g3, .ref g4, .ref g5, .ref g6, .ref g7, .ref g8, .ref g9, .ref g10, .ref g11, .ref g12, .ref g13, .int 0, .int 0]))] H := hP
  have hD : va_D A [(h0, .inr (9, [.int 0, .ref s1, .ref s2, .ref s3, .ref s4, .ref s5, .ref s6, .int 0, .int 0, .ref h1, .null, .int 0, .int 0, .int 0, .long 0, .int 0, .int 0])), (s6, .inl (k0, 512, .inl (fun _ => 0))), (h1, .inr (8, [.ref b0, .int 0, .int 0, .int 0])), (h2, .inr (6, [.int 0, .ref g1, .ref g2, .ref g3, .ref g4, .ref g5, .ref g6, .ref g7, .ref g8, .ref g9, .ref g10, .ref g11, .ref g12, .ref g13, .int 0, .int 0]))] := hD
  refine lv_aload_n hx hb dX9_tell_5 rfl (lv_at hl 0 rfl) ?_
  refine lv_aload_n hx hb dX9_tell_6 rfl (lv_at hl 2 rfl) ?_
  refine va_put (D := (dC, dI)) (ci := 9) (v := .ref h2) (ty := .object "ComboHouse$Program") (C := RX9) (T := TX9) (N := 17) hx hb hts hiX9 tyX9 tyX9_ok nmX9 hown hK hP hD hS 0 rfl rfl 10 (by decide) (hts (.fieldLink RX9 36 "ComboHouse$Speech" "program" "LComboHouse$Program;") (by decide +kernel)) (fun _ h9 => h9) rfl (by decide +kernel) rfl rfl (Nat.le_of_ble_eq_true rfl) dX9_tell_7 (fun H locs hP hD hS => ?_)
  have hP : va_P (dC, dI) vwCl [(h0, .inr (9, [.int 0, .ref s1, .ref s2, .ref s3, .ref s4, .ref s5, .ref s6, .int 0, .int 0, .ref h1, .ref h2, .int 0, .int 0, .int 0, .long 0, .int 0, .int 0])), (s6, .inl (k0, 512, .inl (fun _ => 0))), (h1, .inr (8, [.ref b0, .int 0, .int 0, .int 0])), (h2, .inr (6, [.int 0, .ref g1, .ref g2, .ref g3, .ref g4, .ref g5, .ref g6, .ref g7, .ref g8, .ref g9, .ref g10, .ref g11, .ref g12, .ref g13, .int 0, .int 0]))] H := hP
  have hD : va_D A [(h0, .inr (9, [.int 0, .ref s1, .ref s2, .ref s3, .ref s4, .ref s5, .ref s6, .int 0, .int 0, .ref h1, .ref h2, .int 0, .int 0, .int 0, .long 0, .int 0, .int 0])), (s6, .inl (k0, 512, .inl (fun _ => 0))), (h1, .inr (8, [.ref b0, .int 0, .int 0, .int 0])), (h2, .inr (6, [.int 0, .ref g1, .ref g2, .ref g3, .ref g4, .ref g5, .ref g6, .ref g7, .ref g8, .ref g9, .ref g10, .ref g11, .ref g12, .ref g13, .int 0, .int 0]))] := hD
  refine lv_aload_n hx hb dX9_tell_10 rfl (lv_at hl 0 rfl) ?_
  refine va_get (D := (dC, dI)) (ci := 9) (v := .ref h2) (C := RX9) (T := TX9) (N := 17) hx hb hts hiX9 hown hK hP 0 rfl rfl 10 (by decide) (hts (.fieldLink RX9 36 "ComboHouse$Speech" "program" "LComboHouse$Program;") (by decide +kernel)) (fun _ h9 => h9) rfl dX9_tell_11 ?_
  have hPc := hP.sub (ws' := [(h2, .inr (6, [.int 0, .ref g1, .ref g2, .ref g3, .ref g4, .ref g5, .ref g6, .ref g7, .ref g8, .ref g9, .ref g10, .ref g11, .ref g12, .ref g13, .int 0, .int 0]))]) [3] rfl
  have hDc := hD.sub (ws' := [(h2, .inr (6, [.int 0, .ref g1, .ref g2, .ref g3, .ref g4, .ref g5, .ref g6, .ref g7, .ref g8, .ref g9, .ref g10, .ref g11, .ref g12, .ref g13, .int 0, .int 0]))]) [3] (by decide) rfl
  have hKc := hK.sub (tys' := []) [] rfl
  have hFc := va_free (wc := [(h2, .inr (6, [.int 0, .ref g1, .ref g2, .ref g3, .ref g4, .ref g5, .ref g6, .ref g7, .ref g8, .ref g9, .ref g10, .ref g11, .ref g12, .ref g13, .int 0, .int 0]))]) hD hS hA [3] rfl
  refine va_callv (va_runV (As := []) (rest := []) ⟨hx, hb, hml, hown, hts⟩ (c_X6_clear_fresh l dC dI h2 g1 g2 g3 g4 g5 g6 g7 g8 g9 g10 g11 g12 g13 H.size) (cwV 0 hts gf_X9_tell_0 rfl rfl rfl (by decide +kernel) ⟨Nat.le_of_ble_eq_true rfl, Nat.le_of_ble_eq_true rfl⟩) ⟨fun a U g mk q => by obtain ⟨q0, q1, qP, qK, qD⟩ := q; exact ⟨q0, q1, qP, va_K.moved (u := U) (U := U.calling g mk a) (Vm.Alike.refl U.vm) qK, qD⟩, va_recv hKc hPc (ci := 6) (q0 := 0) rfl rfl, fun U hU hW => ⟨rfl, by rw [hU], by rw [hU]; exact hPc, va_K.moved hW.alike hKc, hDc.weaken (fun _ _ _ _ => trivial)⟩⟩ rfl rfl hl.1 rfl (lv_room (Nat.le_of_ble_eq_true rfl)) dX9_tell_14 ⟨Nat.le_of_ble_eq_true rfl, Nat.le_of_ble_eq_true rfl⟩) hS (fun q _ h => hFc q h) hFc (fun u t H1 locs ht hvm hw hB hz1 hk1 hS => ?_)
  obtain ⟨hP1, hK1, hD1⟩ := hB
  rw [ht] at hP1
  have hK1 := va_K.moved hvm.symm hK1
  obtain ⟨hP, hD⟩ := va_join (wr := [(h0, .inr (9, [.int 0, .ref s1, .ref s2, .ref s3, .ref s4, .ref s5, .ref s6, .int 0, .int 0, .ref h1, .ref h2, .int 0, .int 0, .int 0, .long 0, .int 0, .int 0])), (s6, .inl (k0, 512, .inl (fun _ => 0))), (h1, .inr (8, [.ref b0, .int 0, .int 0, .int 0]))]) (w1 := [(h2, .inr (6, [.int 0, .ref g1, .ref g2, .ref g3, .ref g4, .ref g5, .ref g6, .ref g7, .ref g8, .ref g9, .ref g10, .ref g11, .ref g12, .ref g13, .int 0, .int 0]))]) hP hD [3] [0, 1, 2] rfl rfl (by decide) (by decide) hk1 hFc hP1 hD1
  have hK := (hK.sub (tys' := [(k0, .int)]) [0] rfl).app hK1
  generalize H1 = H at hP hS ⊢
  have hP : va_P (dC, dI) vwCl [(h0, .inr (9, [.int 0, .ref s1, .ref s2, .ref s3, .ref s4, .ref s5, .ref s6, .int 0, .int 0, .ref h1, .ref h2, .int 0, .int 0, .int 0, .long 0, .int 0, .int 0])), (s6, .inl (k0, 512, .inl (fun _ => 0))), (h1, .inr (8, [.ref b0, .int 0, .int 0, .int 0])), (h2, .inr (6, [.int 0, .ref g1, .ref g2, .ref g3, .ref g4, .ref g5, .ref g6, .ref g7, .ref g8, .ref g9, .ref g10, .ref g11, .ref g12, .ref g13, .int 0, .int 0]))] H := hP
  have hD : va_D A [(h0, .inr (9, [.int 0, .ref s1, .ref s2, .ref s3, .ref s4, .ref s5, .ref s6, .int 0, .int 0, .ref h1, .ref h2, .int 0, .int 0, .int 0, .long 0, .int 0, .int 0])), (s6, .inl (k0, 512, .inl (fun _ => 0))), (h1, .inr (8, [.ref b0, .int 0, .int 0, .int 0])), (h2, .inr (6, [.int 0, .ref g1, .ref g2, .ref g3, .ref g4, .ref g5, .ref g6, .ref g7, .ref g8, .ref g9, .ref g10, .ref g11, .ref g12, .ref g13, .int 0, .int 0]))] := hD
  have hK : va_K (dC, dI) vwCl [(k0, .int)] s := hK
  refine W.widen (k := 0) (n := 0) (Nat.le_of_ble_eq_true rfl) (Nat.le_of_ble_eq_true rfl) ?_
  refine lv_aload_n hx hb dX9_tell_17 rfl (lv_at hl 0 rfl) ?_
  refine lv_iconst (v := 0) hx hb dX9_tell_18 (by decide) ?_
  refine va_put (D := (dC, dI)) (ci := 9) (v := .int 0) (ty := .int) (C := RX9) (T := TX9) (N := 17) hx hb hts hiX9 tyX9 tyX9_ok nmX9 hown hK hP hD hS 0 rfl rfl 0 (by decide) (hts (.fieldLink RX9 45 "ComboHouse$Speech" "place" "I") (by decide +kernel)) (fun _ h9 => h9) rfl (by decide +kernel) rfl rfl (Nat.le_of_ble_eq_true rfl) dX9_tell_19 (fun H locs hP hD hS => ?_)
  have hP : va_P (dC, dI) vwCl [(h0, .inr (9, [.int 0, .ref s1, .ref s2, .ref s3, .ref s4, .ref s5, .ref s6, .int 0, .int 0, .ref h1, .ref h2, .int 0, .int 0, .int 0, .long 0, .int 0, .int 0])), (s6, .inl (k0, 512, .inl (fun _ => 0))), (h1, .inr (8, [.ref b0, .int 0, .int 0, .int 0])), (h2, .inr (6, [.int 0, .ref g1, .ref g2, .ref g3, .ref g4, .ref g5, .ref g6, .ref g7, .ref g8, .ref g9, .ref g10, .ref g11, .ref g12, .ref g13, .int 0, .int 0]))] H := hP
  have hD : va_D A [(h0, .inr (9, [.int 0, .ref s1, .ref s2, .ref s3, .ref s4, .ref s5, .ref s6, .int 0, .int 0, .ref h1, .ref h2, .int 0, .int 0, .int 0, .long 0, .int 0, .int 0])), (s6, .inl (k0, 512, .inl (fun _ => 0))), (h1, .inr (8, [.ref b0, .int 0, .int 0, .int 0])), (h2, .inr (6, [.int 0, .ref g1, .ref g2, .ref g3, .ref g4, .ref g5, .ref g6, .ref g7, .ref g8, .ref g9, .ref g10, .ref g11, .ref g12, .ref g13, .int 0, .int 0]))] := hD
  refine lv_aload_n hx hb dX9_tell_22 rfl (lv_at hl 0 rfl) ?_
  refine lv_iconst (v := 0) hx hb dX9_tell_23 (by decide) ?_
  refine va_put (D := (dC, dI)) (ci := 9) (v := .int 0) (ty := .int) (C := RX9) (T := TX9) (N := 17) hx hb hts hiX9 tyX9 tyX9_ok nmX9 hown hK hP hD hS 0 rfl rfl 16 (by decide) (hts (.fieldLink RX9 49 "ComboHouse$Speech" "fault" "I") (by decide +kernel)) (fun _ h9 => h9) rfl (by decide +kernel) rfl rfl (Nat.le_of_ble_eq_true rfl) dX9_tell_24 (fun H locs hP hD hS => ?_)
  have hP : va_P (dC, dI) vwCl [(h0, .inr (9, [.int 0, .ref s1, .ref s2, .ref s3, .ref s4, .ref s5, .ref s6, .int 0, .int 0, .ref h1, .ref h2, .int 0, .int 0, .int 0, .long 0, .int 0, .int 0])), (s6, .inl (k0, 512, .inl (fun _ => 0))), (h1, .inr (8, [.ref b0, .int 0, .int 0, .int 0])), (h2, .inr (6, [.int 0, .ref g1, .ref g2, .ref g3, .ref g4, .ref g5, .ref g6, .ref g7, .ref g8, .ref g9, .ref g10, .ref g11, .ref g12, .ref g13, .int 0, .int 0]))] H := hP
  have hD : va_D A [(h0, .inr (9, [.int 0, .ref s1, .ref s2, .ref s3, .ref s4, .ref s5, .ref s6, .int 0, .int 0, .ref h1, .ref h2, .int 0, .int 0, .int 0, .long 0, .int 0, .int 0])), (s6, .inl (k0, 512, .inl (fun _ => 0))), (h1, .inr (8, [.ref b0, .int 0, .int 0, .int 0])), (h2, .inr (6, [.int 0, .ref g1, .ref g2, .ref g3, .ref g4, .ref g5, .ref g6, .ref g7, .ref g8, .ref g9, .ref g10, .ref g11, .ref g12, .ref g13, .int 0, .int 0]))] := hD
  refine lv_aload_n hx hb dX9_tell_27 rfl (lv_at hl 0 rfl) ?_
  refine lv_iconst (v := 0) hx hb dX9_tell_28 (by decide) ?_
  refine va_put (D := (dC, dI)) (ci := 9) (v := .int 0) (ty := .int) (C := RX9) (T := TX9) (N := 17) hx hb hts hiX9 tyX9 tyX9_ok nmX9 hown hK hP hD hS 0 rfl rfl 13 (by decide) (hts (.fieldLink RX9 52 "ComboHouse$Speech" "to" "I") (by decide +kernel)) (fun _ h9 => h9) rfl (by decide +kernel) rfl rfl (Nat.le_of_ble_eq_true rfl) dX9_tell_29 (fun H locs hP hD hS => ?_)
  have hP : va_P (dC, dI) vwCl [(h0, .inr (9, [.int 0, .ref s1, .ref s2, .ref s3, .ref s4, .ref s5, .ref s6, .int 0, .int 0, .ref h1, .ref h2, .int 0, .int 0, .int 0, .long 0, .int 0, .int 0])), (s6, .inl (k0, 512, .inl (fun _ => 0))), (h1, .inr (8, [.ref b0, .int 0, .int 0, .int 0])), (h2, .inr (6, [.int 0, .ref g1, .ref g2, .ref g3, .ref g4, .ref g5, .ref g6, .ref g7, .ref g8, .ref g9, .ref g10, .ref g11, .ref g12, .ref g13, .int 0, .int 0]))] H := hP
  have hD : va_D A [(h0, .inr (9, [.int 0, .ref s1, .ref s2, .ref s3, .ref s4, .ref s5, .ref s6, .int 0, .int 0, .ref h1, .ref h2, .int 0, .int 0, .int 0, .long 0, .int 0, .int 0])), (s6, .inl (k0, 512, .inl (fun _ => 0))), (h1, .inr (8, [.ref b0, .int 0, .int 0, .int 0])), (h2, .inr (6, [.int 0, .ref g1, .ref g2, .ref g3, .ref g4, .ref g5, .ref g6, .ref g7, .ref g8, .ref g9, .ref g10, .ref g11, .ref g12, .ref g13, .int 0, .int 0]))] := hD
  refine lv_aload_n hx hb dX9_tell_32 rfl (lv_at hl 0 rfl) ?_
  refine lv_iconst (v := 0) hx hb dX9_tell_33 (by decide) ?_
  refine va_put (D := (dC, dI)) (ci := 9) (v := .int 0) (ty := .int) (C := RX9) (T := TX9) (N := 17) hx hb hts hiX9 tyX9 tyX9_ok nmX9 hown hK hP hD hS 0 rfl rfl 7 (by decide) (hts (.fieldLink RX9 55 "ComboHouse$Speech" "nameCount" "I") (by decide +kernel)) (fun _ h9 => h9) rfl (by decide +kernel) rfl rfl (Nat.le_of_ble_eq_true rfl) dX9_tell_34 (fun H locs hP hD hS => ?_)
  have hP : va_P (dC, dI) vwCl [(h0, .inr (9, [.int 0, .ref s1, .ref s2, .ref s3, .ref s4, .ref s5, .ref s6, .int 0, .int 0, .ref h1, .ref h2, .int 0, .int 0, .int 0, .long 0, .int 0, .int 0])), (s6, .inl (k0, 512, .inl (fun _ => 0))), (h1, .inr (8, [.ref b0, .int 0, .int 0, .int 0])), (h2, .inr (6, [.int 0, .ref g1, .ref g2, .ref g3, .ref g4, .ref g5, .ref g6, .ref g7, .ref g8, .ref g9, .ref g10, .ref g11, .ref g12, .ref g13, .int 0, .int 0]))] H := hP
  have hD : va_D A [(h0, .inr (9, [.int 0, .ref s1, .ref s2, .ref s3, .ref s4, .ref s5, .ref s6, .int 0, .int 0, .ref h1, .ref h2, .int 0, .int 0, .int 0, .long 0, .int 0, .int 0])), (s6, .inl (k0, 512, .inl (fun _ => 0))), (h1, .inr (8, [.ref b0, .int 0, .int 0, .int 0])), (h2, .inr (6, [.int 0, .ref g1, .ref g2, .ref g3, .ref g4, .ref g5, .ref g6, .ref g7, .ref g8, .ref g9, .ref g10, .ref g11, .ref g12, .ref g13, .int 0, .int 0]))] := hD
  refine lv_iconst (v := 0) hx hb dX9_tell_37 (by decide) ?_
  refine lv_istore (lv' := [(4, .int 0), (0, .ref h0), (1, .ref h1), (2, .ref h2), (3, .ref h3)]) hx hb dX9_tell_38 hl (by decide) rfl (fun ls hl => ?_)
  have loop_2 : ∀ (n : Nat) (j : Nat) (g : Nat → Int32), (j ≤ 512) → 512 - j < n → ∀ (H : Heap) (locs : List Loc), va_K (dC, dI) vwCl [(k0, .int)] s → va_P (dC, dI) vwCl [(h0, .inr (9, [.int 0, .ref s1, .ref s2, .ref s3, .ref s4, .ref s5, .ref s6, .int 0, .int 0, .ref h1, .ref h2, .int 0, .int 0, .int 0, .long 0, .int 0, .int 0])), (s6, .inl (k0, 512, .inl g)), (h1, .inr (8, [.ref b0, .int 0, .int 0, .int 0])), (h2, .inr (6, [.int 0, .ref g1, .ref g2, .ref g3, .ref g4, .ref g5, .ref g6, .ref g7, .ref g8, .ref g9, .ref g10, .ref g11, .ref g12, .ref g13, .int 0, .int 0]))] H → va_D A [(h0, .inr (9, [.int 0, .ref s1, .ref s2, .ref s3, .ref s4, .ref s5, .ref s6, .int 0, .int 0, .ref h1, .ref h2, .int 0, .int 0, .int 0, .long 0, .int 0, .int 0])), (s6, .inl (k0, 512, .inl g)), (h1, .inr (8, [.ref b0, .int 0, .int 0, .int 0])), (h2, .inr (6, [.int 0, .ref g1, .ref g2, .ref g3, .ref g4, .ref g5, .ref g6, .ref g7, .ref g8, .ref g9, .ref g10, .ref g11, .ref g12, .ref g13, .int 0, .int 0]))] → va_S A s.heap H locs → ∀ (ls : Array Slot), lv_has ls 7 [(0, .ref h0), (1, .ref h1), (2, .ref h2), (3, .ref h3), (4, .int (nI j))] → W p l e (headSpec wf_X9_tell ({ frames := 3, cells := 0, slots := 0, locals := 57 })).room s m [.ref h0, .ref h1, .ref h2, .ref h3].toArray below meth c H locs 0 0 (MQ below (va_Qi (fun (r u : Int32) => u = r) (fun (r : Int32) (t : State) => (r = 1) ∧ va_P (dC, dI) vwCl [(h0, .inr (9, [.int 0, .ref s1, .ref s2, .ref s3, .ref s4, .ref s5, .ref s6, .int 0, .int 0, .ref h1, .ref h2, .int 0, .int 0, .int 0, .long 0, .int ((-1)), .int 1])), (h1, .inr (8, [.ref b0, .int 0, .int 0, .int 0]))] t.heap ∧ va_K (dC, dI) vwCl [] t ∧ va_D A [(h0, .inr (9, [.int 0, .ref s1, .ref s2, .ref s3, .ref s4, .ref s5, .ref s6, .int 0, .int 0, .ref h1, .ref h2, .int 0, .int 0, .int 0, .long 0, .int ((-1)), .int 1])), (h1, .inr (8, [.ref b0, .int 0, .int 0, .int 0]))]) A) [.ref h0, .ref h1, .ref h2, .ref h3].toArray s 0 0 A) (F0 m 40 ls []) := by
    intro n
    induction n with
    | zero =>
      intro j g hj hm; exact absurd hm (Nat.not_lt_zero _)
    | succ n loop_2_ih =>
      intro j g hj loop_2_hm H locs hK hP hD hS ls hl
      refine lv_iload hx hb dX9_tell_40 (lv_at hl 4 rfl) ?_
      refine lv_sipush (v := 512) hx hb dX9_tell_42 (by decide) ?_
      refine lv_icmp_ge (tgt := 62) hx hb dX9_tell_45 (by decide) (fun cnd_3 => ?_) (fun cnd_3 => ?_)
      · skip
        refine lv_iconst (v := 1) hx hb dX9_tell_62 (by decide) ?_
        refine lv_istore (lv' := [(4, .int 1), (0, .ref h0), (1, .ref h1), (2, .ref h2), (3, .ref h3)]) hx hb dX9_tell_63 hl (by decide) rfl (fun ls hl => ?_)
        refine lv_iconst (v := 0) hx hb dX9_tell_65 (by decide) ?_
        refine lv_istore (lv' := [(5, .int 0), (4, .int 1), (0, .ref h0), (1, .ref h1), (2, .ref h2), (3, .ref h3)]) hx hb dX9_tell_66 hl (by decide) rfl (fun ls hl => ?_)
        refine lv_iload hx hb dX9_tell_68 (lv_at hl 0 rfl) ?_
        refine lv_sipush (v := 8192) hx hb dX9_tell_70 (by decide) ?_
        refine lv_icmp_ge (tgt := 93) hx hb dX9_tell_73 (by decide) (fun cnd_4 => ?_) (fun cnd_4 => ?_)
        · exact absurd cnd_4 (by decide)
        refine lv_iload hx hb dX9_tell_76 (lv_at hl 1 rfl) ?_
        refine lv_if_eq (tgt := 93) hx hb dX9_tell_78 (by decide) (fun cnd_5 => ?_) (fun cnd_5 => ?_)
        · exact absurd cnd_5 (by decide)
        refine lv_aload_n hx hb dX9_tell_81 rfl (lv_at hl 2 rfl) ?_
        have hPc := hP.sub (ws' := [(h0, .inr (9, [.int 0, .ref s1, .ref s2, .ref s3, .ref s4, .ref s5, .ref s6, .int 0, .int 0, .ref h1, .ref h2, .int 0, .int 0, .int 0, .long 0, .int 0, .int 0])), (h1, .inr (8, [.ref b0, .int 0, .int 0, .int 0]))]) [0, 2] rfl
        have hDc := hD.sub (ws' := [(h0, .inr (9, [.int 0, .ref s1, .ref s2, .ref s3, .ref s4, .ref s5, .ref s6, .int 0, .int 0, .ref h1, .ref h2, .int 0, .int 0, .int 0, .long 0, .int 0, .int 0])), (h1, .inr (8, [.ref b0, .int 0, .int 0, .int 0]))]) [0, 2] (by decide) rfl
        have hKc := hK.sub (tys' := []) [] rfl
        have hFc := va_free (wc := [(h0, .inr (9, [.int 0, .ref s1, .ref s2, .ref s3, .ref s4, .ref s5, .ref s6, .int 0, .int 0, .ref h1, .ref h2, .int 0, .int 0, .int 0, .long 0, .int 0, .int 0])), (h1, .inr (8, [.ref b0, .int 0, .int 0, .int 0]))]) hD hS hA [0, 2] rfl
        refine va_calli (va_runV (As := []) (rest := []) ⟨hx, hb, hml, hown, hts⟩ (c_X9_readDefinition_fresh l dC dI h0 s1 s2 s3 s4 s5 s6 h1 h2 b0 H.size) (cwV 0 hts gf_X9_tell_1 rfl rfl rfl (by decide +kernel) ⟨Nat.le_of_ble_eq_true rfl, Nat.le_of_ble_eq_true rfl⟩) ⟨fun a U g mk q => by obtain ⟨q0, q1, qP, qK, qD⟩ := q; exact ⟨q0, q1, qP, va_K.moved (u := U) (U := U.calling g mk a) (Vm.Alike.refl U.vm) qK, qD⟩, va_recv hKc hPc (ci := 9) (q0 := 0) rfl rfl, fun U hU hW => ⟨rfl, by rw [hU], by rw [hU]; exact hPc, va_K.moved hW.alike hKc, hDc.weaken (fun _ _ _ _ => trivial)⟩⟩ rfl rfl hl.1 rfl (lv_room (Nat.le_of_ble_eq_true rfl)) dX9_tell_82 ⟨Nat.le_of_ble_eq_true rfl, Nat.le_of_ble_eq_true rfl⟩) hS (fun q _ h => hFc q h) hFc (fun r_6 u t H1 locs ht hvm hw hB hz1 hk1 hS => ?_)
        obtain rfl : u = r_6 := hw
        obtain ⟨hr_7, hP1, hK1, hD1⟩ := hB
        rw [ht] at hP1
        have hK1 := va_K.moved hvm.symm hK1
        obtain ⟨hP, hD⟩ := va_join (wr := [(s6, .inl (k0, 512, .inl g)), (h2, .inr (6, [.int 0, .ref g1, .ref g2, .ref g3, .ref g4, .ref g5, .ref g6, .ref g7, .ref g8, .ref g9, .ref g10, .ref g11, .ref g12, .ref g13, .int 0, .int 0]))]) (w1 := [(h0, .inr (9, [.int 0, .ref s1, .ref s2, .ref s3, .ref s4, .ref s5, .ref s6, .int 0, .int 0, .ref h1, .ref h2, .int 0, .int 0, .int 0, .long 0, .int ((-1)), .int 1])), (h1, .inr (8, [.ref b0, .int 0, .int 0, .int 0]))]) hP hD [0, 2] [1, 3] rfl rfl (by decide) (by decide) hk1 hFc hP1 hD1
        have hK := (hK.sub (tys' := [(k0, .int)]) [0] rfl).app hK1
        generalize H1 = H at hP hS ⊢
        have hP : va_P (dC, dI) vwCl [(s6, .inl (k0, 512, .inl g)), (h2, .inr (6, [.int 0, .ref g1, .ref g2, .ref g3, .ref g4, .ref g5, .ref g6, .ref g7, .ref g8, .ref g9, .ref g10, .ref g11, .ref g12, .ref g13, .int 0, .int 0])), (h0, .inr (9, [.int 0, .ref s1, .ref s2, .ref s3, .ref s4, .ref s5, .ref s6, .int 0, .int 0, .ref h1, .ref h2, .int 0, .int 0, .int 0, .long 0, .int ((-1)), .int 1])), (h1, .inr (8, [.ref b0, .int 0, .int 0, .int 0]))] H := hP
        have hD : va_D A [(s6, .inl (k0, 512, .inl g)), (h2, .inr (6, [.int 0, .ref g1, .ref g2, .ref g3, .ref g4, .ref g5, .ref g6, .ref g7, .ref g8, .ref g9, .ref g10, .ref g11, .ref g12, .ref g13, .int 0, .int 0])), (h0, .inr (9, [.int 0, .ref s1, .ref s2, .ref s3, .ref s4, .ref s5, .ref s6, .int 0, .int 0, .ref h1, .ref h2, .int 0, .int 0, .int 0, .long 0, .int ((-1)), .int 1])), (h1, .inr (8, [.ref b0, .int 0, .int 0, .int 0]))] := hD
        have hK : va_K (dC, dI) vwCl [(k0, .int)] s := hK
        refine W.widen (k := 0) (n := 0) (Nat.le_of_ble_eq_true rfl) (Nat.le_of_ble_eq_true rfl) ?_
        subst hr_7
        refine lv_istore (lv' := [(4, .int 0), (5, .int 0), (0, .ref h0), (1, .ref h1), (2, .ref h2), (3, .ref h3)]) hx hb dX9_tell_85 hl (by decide) rfl (fun ls hl => ?_)
        refine lv_iinc (v := 1) (lv' := [(5, .int 1), (4, .int 0), (0, .ref h0), (1, .ref h1), (2, .ref h2), (3, .ref h3)]) hx hb dX9_tell_87 hl (k := 1) rfl (by decide) (by decide) rfl (fun ls hl => ?_)
        refine lv_goto (tgt := 68) hx hb dX9_tell_90 (by decide) ?_
        refine lv_iload hx hb dX9_tell_68 (lv_at hl 0 rfl) ?_
        refine lv_sipush (v := 8192) hx hb dX9_tell_70 (by decide) ?_
        refine lv_icmp_ge (tgt := 93) hx hb dX9_tell_73 (by decide) (fun cnd_8 => ?_) (fun cnd_8 => ?_)
        · exact absurd cnd_8 (by decide)
        refine lv_iload hx hb dX9_tell_76 (lv_at hl 1 rfl) ?_
        refine lv_if_eq (tgt := 93) hx hb dX9_tell_78 (by decide) (fun cnd_9 => ?_) (fun cnd_9 => ?_)
        rotate_left
        · exact absurd (by decide) cnd_9
        refine lv_aload_n hx hb dX9_tell_93 rfl (lv_at hl 2 rfl) ?_
        refine va_get (D := (dC, dI)) (ci := 9) (v := .int 1) (C := RX9) (T := TX9) (N := 17) hx hb hts hiX9 hown hK hP 2 rfl rfl 16 (by decide) (hts (.fieldLink RX9 49 "ComboHouse$Speech" "fault" "I") (by decide +kernel)) (fun _ h9 => h9) rfl dX9_tell_94 ?_
        refine lv_if_eq (tgt := 105) hx hb dX9_tell_97 (by decide) (fun cnd_10 => ?_) (fun cnd_10 => ?_)
        · exact absurd cnd_10 (by decide)
        refine lv_aload_n hx hb dX9_tell_100 rfl (lv_at hl 2 rfl) ?_
        refine va_get (D := (dC, dI)) (ci := 9) (v := .int 1) (C := RX9) (T := TX9) (N := 17) hx hb hts hiX9 hown hK hP 2 rfl rfl 16 (by decide) (hts (.fieldLink RX9 49 "ComboHouse$Speech" "fault" "I") (by decide +kernel)) (fun _ h9 => h9) rfl dX9_tell_101 ?_
        have hP9 : va_P (dC, dI) vwCl [(h0, .inr (9, [.int 0, .ref s1, .ref s2, .ref s3, .ref s4, .ref s5, .ref s6, .int 0, .int 0, .ref h1, .ref h2, .int 0, .int 0, .int 0, .long 0, .int ((-1)), .int 1])), (h1, .inr (8, [.ref b0, .int 0, .int 0, .int 0]))] H := by have h := hP.sub (ws' := [(h0, .inr (9, [.int 0, .ref s1, .ref s2, .ref s3, .ref s4, .ref s5, .ref s6, .int 0, .int 0, .ref h1, .ref h2, .int 0, .int 0, .int 0, .long 0, .int ((-1)), .int 1])), (h1, .inr (8, [.ref b0, .int 0, .int 0, .int 0]))]) [2, 3] rfl; exact h
        have hD9 : va_D A [(h0, .inr (9, [.int 0, .ref s1, .ref s2, .ref s3, .ref s4, .ref s5, .ref s6, .int 0, .int 0, .ref h1, .ref h2, .int 0, .int 0, .int 0, .long 0, .int ((-1)), .int 1])), (h1, .inr (8, [.ref b0, .int 0, .int 0, .int 0]))] := by have h := hD.sub (ws' := [(h0, .inr (9, [.int 0, .ref s1, .ref s2, .ref s3, .ref s4, .ref s5, .ref s6, .int 0, .int 0, .ref h1, .ref h2, .int 0, .int 0, .int 0, .long 0, .int ((-1)), .int 1])), (h1, .inr (8, [.ref b0, .int 0, .int 0, .int 0]))]) [2, 3] (by decide) rfl; exact h
        have hK9 := hK.sub (tys' := []) [] rfl
        refine W.widen (k := 0) (n := 0) (Nat.le_of_ble_eq_true rfl) (Nat.le_of_ble_eq_true rfl) ?_
        have er_11 : (1 : Int32) = 1 := by first | rfl | (simp; done)
        exact W.iret (v := 1) hx hb hr (fun t ht hW => ⟨⟨1, 1, rfl, rfl, er_11, by rw [ht]; exact hP9, va_K.moved hW.alike hK9, hAe ▸ hD9⟩, hAe ▸ hS.F ht⟩) (fun q hq => hAe ▸ hS.2.2 q hq) dX9_tell_104
      · skip
        refine lv_aload_n hx hb dX9_tell_48 rfl (lv_at hl 0 rfl) ?_
        refine va_get (D := (dC, dI)) (ci := 9) (v := .ref s6) (C := RX9) (T := TX9) (N := 17) hx hb hts hiX9 hown hK hP 0 rfl rfl 6 (by decide) (hts (.fieldLink RX9 25 "ComboHouse$Speech" "head" "[I") (by decide +kernel)) (fun _ h9 => h9) rfl dX9_tell_49 ?_
        refine lv_iload hx hb dX9_tell_52 (lv_at hl 4 rfl) ?_
        refine lv_iconst (v := -1) hx hb dX9_tell_54 (by decide) ?_
        refine gz_iast (j) (by have h9 : ¬ nI 512 ≤ nI j := cnd_3; rw [nI_leI (by omega) (by omega)] at h9; omega) (by decide) rfl hx hb hK hP hD hS 1 0 rfl rfl dX9_tell_55 (fun H locs hP hD hS => ?_)
        obtain ⟨f_12, ef_12⟩ : ∃ y9 : Nat → Int32, y9 = upd g (j) ((-1)) := ⟨_, rfl⟩
        have hP : va_P (dC, dI) vwCl [(h0, .inr (9, [.int 0, .ref s1, .ref s2, .ref s3, .ref s4, .ref s5, .ref s6, .int 0, .int 0, .ref h1, .ref h2, .int 0, .int 0, .int 0, .long 0, .int 0, .int 0])), (s6, .inl (k0, 512, .inl f_12)), (h1, .inr (8, [.ref b0, .int 0, .int 0, .int 0])), (h2, .inr (6, [.int 0, .ref g1, .ref g2, .ref g3, .ref g4, .ref g5, .ref g6, .ref g7, .ref g8, .ref g9, .ref g10, .ref g11, .ref g12, .ref g13, .int 0, .int 0]))] H := by rw [ef_12]; exact hP
        have hD : va_D A [(h0, .inr (9, [.int 0, .ref s1, .ref s2, .ref s3, .ref s4, .ref s5, .ref s6, .int 0, .int 0, .ref h1, .ref h2, .int 0, .int 0, .int 0, .long 0, .int 0, .int 0])), (s6, .inl (k0, 512, .inl f_12)), (h1, .inr (8, [.ref b0, .int 0, .int 0, .int 0])), (h2, .inr (6, [.int 0, .ref g1, .ref g2, .ref g3, .ref g4, .ref g5, .ref g6, .ref g7, .ref g8, .ref g9, .ref g10, .ref g11, .ref g12, .ref g13, .int 0, .int 0]))] := by rw [ef_12]; exact hD
        obtain ⟨x_13, ex_13⟩ : ∃ y : Int32, y = nI j + 1 := ⟨_, rfl⟩
        refine lv_iinc (v := x_13) (lv' := [(4, .int x_13), (0, .ref h0), (1, .ref h1), (2, .ref h2), (3, .ref h3)]) hx hb dX9_tell_56 hl (k := 4) rfl (by rw [ex_13]; rfl) (by decide) rfl (fun ls hl => ?_)
        refine lv_goto (tgt := 40) hx hb dX9_tell_59 (by decide) ?_
        have hP9 : va_P (dC, dI) vwCl [(h0, .inr (9, [.int 0, .ref s1, .ref s2, .ref s3, .ref s4, .ref s5, .ref s6, .int 0, .int 0, .ref h1, .ref h2, .int 0, .int 0, .int 0, .long 0, .int 0, .int 0])), (s6, .inl (k0, 512, .inl f_12)), (h1, .inr (8, [.ref b0, .int 0, .int 0, .int 0])), (h2, .inr (6, [.int 0, .ref g1, .ref g2, .ref g3, .ref g4, .ref g5, .ref g6, .ref g7, .ref g8, .ref g9, .ref g10, .ref g11, .ref g12, .ref g13, .int 0, .int 0]))] H := by have h := hP.sub (ws' := [(h0, .inr (9, [.int 0, .ref s1, .ref s2, .ref s3, .ref s4, .ref s5, .ref s6, .int 0, .int 0, .ref h1, .ref h2, .int 0, .int 0, .int 0, .long 0, .int 0, .int 0])), (s6, .inl (k0, 512, .inl f_12)), (h1, .inr (8, [.ref b0, .int 0, .int 0, .int 0])), (h2, .inr (6, [.int 0, .ref g1, .ref g2, .ref g3, .ref g4, .ref g5, .ref g6, .ref g7, .ref g8, .ref g9, .ref g10, .ref g11, .ref g12, .ref g13, .int 0, .int 0]))]) [0, 1, 2, 3] rfl; exact h
        have hD9 : va_D A [(h0, .inr (9, [.int 0, .ref s1, .ref s2, .ref s3, .ref s4, .ref s5, .ref s6, .int 0, .int 0, .ref h1, .ref h2, .int 0, .int 0, .int 0, .long 0, .int 0, .int 0])), (s6, .inl (k0, 512, .inl f_12)), (h1, .inr (8, [.ref b0, .int 0, .int 0, .int 0])), (h2, .inr (6, [.int 0, .ref g1, .ref g2, .ref g3, .ref g4, .ref g5, .ref g6, .ref g7, .ref g8, .ref g9, .ref g10, .ref g11, .ref g12, .ref g13, .int 0, .int 0]))] := by have h := hD.sub (ws' := [(h0, .inr (9, [.int 0, .ref s1, .ref s2, .ref s3, .ref s4, .ref s5, .ref s6, .int 0, .int 0, .ref h1, .ref h2, .int 0, .int 0, .int 0, .long 0, .int 0, .int 0])), (s6, .inl (k0, 512, .inl f_12)), (h1, .inr (8, [.ref b0, .int 0, .int 0, .int 0])), (h2, .inr (6, [.int 0, .ref g1, .ref g2, .ref g3, .ref g4, .ref g5, .ref g6, .ref g7, .ref g8, .ref g9, .ref g10, .ref g11, .ref g12, .ref g13, .int 0, .int 0]))]) [0, 1, 2, 3] (by decide) rfl; exact h
        have hK9 := hK.sub (tys' := [(k0, .int)]) [0] rfl
        have el_14 : (x_13 : Int32) = nI (j + 1) := by rw [ex_13]; exact nI_1 j
        have hl9 : lv_has ls 7 [(0, .ref h0), (1, .ref h1), (2, .ref h2), (3, .ref h3), (4, .int (nI (j + 1)))] := by have h := lv_sub (l' := [(0, .ref h0), (1, .ref h1), (2, .ref h2), (3, .ref h3), (4, .int x_13)]) hl [1, 2, 3, 4, 0] rfl; rw [el_14] at h; exact h
        exact loop_2_ih (j + 1) f_12 (by have h9 : ¬ nI 512 ≤ nI j := cnd_3; rw [nI_leI (by omega) (by omega)] at h9; omega) (by have h9 : ¬ nI 512 ≤ nI j := cnd_3; rw [nI_leI (by omega) (by omega)] at h9; omega) H locs hK9 hP9 hD9 hS ls hl9
  have hP9 : va_P (dC, dI) vwCl [(h0, .inr (9, [.int 0, .ref s1, .ref s2, .ref s3, .ref s4, .ref s5, .ref s6, .int 0, .int 0, .ref h1, .ref h2, .int 0, .int 0, .int 0, .long 0, .int 0, .int 0])), (s6, .inl (k0, 512, .inl (((fun _ => 0))))), (h1, .inr (8, [.ref b0, .int 0, .int 0, .int 0])), (h2, .inr (6, [.int 0, .ref g1, .ref g2, .ref g3, .ref g4, .ref g5, .ref g6, .ref g7, .ref g8, .ref g9, .ref g10, .ref g11, .ref g12, .ref g13, .int 0, .int 0]))] H := by have h := hP.sub (ws' := [(h0, .inr (9, [.int 0, .ref s1, .ref s2, .ref s3, .ref s4, .ref s5, .ref s6, .int 0, .int 0, .ref h1, .ref h2, .int 0, .int 0, .int 0, .long 0, .int 0, .int 0])), (s6, .inl (k0, 512, .inl (fun _ => 0))), (h1, .inr (8, [.ref b0, .int 0, .int 0, .int 0])), (h2, .inr (6, [.int 0, .ref g1, .ref g2, .ref g3, .ref g4, .ref g5, .ref g6, .ref g7, .ref g8, .ref g9, .ref g10, .ref g11, .ref g12, .ref g13, .int 0, .int 0]))]) [0, 1, 2, 3] rfl; exact h
  have hD9 : va_D A [(h0, .inr (9, [.int 0, .ref s1, .ref s2, .ref s3, .ref s4, .ref s5, .ref s6, .int 0, .int 0, .ref h1, .ref h2, .int 0, .int 0, .int 0, .long 0, .int 0, .int 0])), (s6, .inl (k0, 512, .inl (((fun _ => 0))))), (h1, .inr (8, [.ref b0, .int 0, .int 0, .int 0])), (h2, .inr (6, [.int 0, .ref g1, .ref g2, .ref g3, .ref g4, .ref g5, .ref g6, .ref g7, .ref g8, .ref g9, .ref g10, .ref g11, .ref g12, .ref g13, .int 0, .int 0]))] := by have h := hD.sub (ws' := [(h0, .inr (9, [.int 0, .ref s1, .ref s2, .ref s3, .ref s4, .ref s5, .ref s6, .int 0, .int 0, .ref h1, .ref h2, .int 0, .int 0, .int 0, .long 0, .int 0, .int 0])), (s6, .inl (k0, 512, .inl (fun _ => 0))), (h1, .inr (8, [.ref b0, .int 0, .int 0, .int 0])), (h2, .inr (6, [.int 0, .ref g1, .ref g2, .ref g3, .ref g4, .ref g5, .ref g6, .ref g7, .ref g8, .ref g9, .ref g10, .ref g11, .ref g12, .ref g13, .int 0, .int 0]))]) [0, 1, 2, 3] (by decide) rfl; exact h
  have hK9 := hK.sub (tys' := [(k0, .int)]) [0] rfl
  have hl9 : lv_has ls 7 [(0, .ref h0), (1, .ref h1), (2, .ref h2), (3, .ref h3), (4, .int (nI 0))] := by have h := lv_sub (l' := [(0, .ref h0), (1, .ref h1), (2, .ref h2), (3, .ref h3), (4, .int 0)]) hl [1, 2, 3, 4, 0] rfl; rw [show (nI 0 : Int32) = (0) from rfl]; exact h
  exact loop_2 (512 - 0 + 1) 0 ((fun _ => 0)) (Nat.zero_le _) (Nat.lt_succ_self _) H locs hK9 hP9 hD9 hS ls hl9
def wo_X11_say : List Cond := [.fieldLink RX11 64 "ComboHouse" "speech" "LComboHouse$Speech;", .fieldLink RX11 10 "ComboHouse" "tape" "LComboHouse$Row;", .fieldLink RX11 75 "ComboHouse" "draft" "LComboHouse$Program;", .fieldLink RX11 19 "ComboHouse" "pen" "LComboHouse$Row;", .fieldLink RX11 251 "ComboHouse$Speech" "place" "I", .fieldLink RX11 254 "ComboHouse" "place" "I"]
def wf_X11_say : List Cond := .code yX11_say cX11_say 2 (some .int) :: ((((wo_X11_say ++ (wsV RX11 247 RX9 yX9_tell wf_X9_tell)) ++ (wsV RX11 98 RX8 yX8_clear wsX8_clear)) ++ wsX110) ++ wsX90)
set_option maxRecDepth 100000 in
theorem gf_X11_say_0 : GoodIn wf_X11_say (wsV RX11 247 RX9 yX9_tell wf_X9_tell) := goodIn_sub (fun _ h => (List.mem_cons_of_mem _ (List.mem_append_left _ (List.mem_append_left _ (List.mem_append_left _ (List.mem_append_right _ h)))))) (by decide +kernel)
set_option maxRecDepth 100000 in
theorem gf_X11_say_1 : GoodIn wf_X11_say (wsV RX11 98 RX8 yX8_clear wsX8_clear) := goodIn_sub (fun _ h => (List.mem_cons_of_mem _ (List.mem_append_left _ (List.mem_append_left _ (List.mem_append_right _ h))))) (by decide +kernel)
theorem hi_X11_say_X11 : ∀ w ∈ wsX110, w ∈ wf_X11_say := fun _ h => (List.mem_cons_of_mem _ (List.mem_append_left _ (List.mem_append_right _ h)))
theorem hi_X11_say_X9 : ∀ w ∈ wsX90, w ∈ wf_X11_say := fun _ h => (List.mem_cons_of_mem _ (List.mem_append_right _ h))
set_option maxHeartbeats 4000000 in
set_option maxRecDepth 100000 in
theorem c_X11_say_fresh (l : Launch) (dC : Nat → ClassId) (dI : Nat → Nat → Nat) (h0 x0 x1 x2 x3 x4 x5 x6 x7 x8 x9 x10 : Nat) (s1 s2 s3 s4 s5 s6 : Nat) (g1 g2 g3 g4 g5 g6 g7 g8 g9 g10 g11 g12 g13 : Nat) (b0 : Nat) (k0 : ClassId) (sz : Nat) : Met l yX11_say wf_X11_say ({ frames := 4, cells := 0, slots := 0, locals := 83 }) (va_Pc [.ref h0] (fun U => U.heap.size = sz ∧ va_P (dC, dI) vwCl [(h0, .inr (11, [.ref x0, .ref x1, .ref x2, .ref x3, .ref x4, .ref x5, .ref x6, .ref x7, .ref x8, .ref x9, .ref x10, .int 0, .int 0, .int 0, .int 0, .int 0, .int 0])), (x8, .inr (9, [.int 0, .ref s1, .ref s2, .ref s3, .ref s4, .ref s5, .ref s6, .int 0, .int 0, .null, .null, .int 0, .int 0, .int 0, .long 0, .int 0, .int 0])), (s6, .inl (k0, 512, .inl (fun _ => 0))), (x0, .inr (8, [.ref b0, .int 0, .int 0, .int 0])), (x10, .inr (6, [.int 0, .ref g1, .ref g2, .ref g3, .ref g4, .ref g5, .ref g6, .ref g7, .ref g8, .ref g9, .ref g10, .ref g11, .ref g12, .ref g13, .int 0, .int 0]))] U.heap ∧ va_K (dC, dI) vwCl [(k0, .int)] U ∧ va_D (fun _ => True) [(h0, .inr (11, [.ref x0, .ref x1, .ref x2, .ref x3, .ref x4, .ref x5, .ref x6, .ref x7, .ref x8, .ref x9, .ref x10, .int 0, .int 0, .int 0, .int 0, .int 0, .int 0])), (x8, .inr (9, [.int 0, .ref s1, .ref s2, .ref s3, .ref s4, .ref s5, .ref s6, .int 0, .int 0, .null, .null, .int 0, .int 0, .int 0, .long 0, .int 0, .int 0])), (s6, .inl (k0, 512, .inl (fun _ => 0))), (x0, .inr (8, [.ref b0, .int 0, .int 0, .int 0])), (x10, .inr (6, [.int 0, .ref g1, .ref g2, .ref g3, .ref g4, .ref g5, .ref g6, .ref g7, .ref g8, .ref g9, .ref g10, .ref g11, .ref g12, .ref g13, .int 0, .int 0]))])) (va_Qi (fun (r u : Int32) => u = r) (fun (r : Int32) (t : State) => (r = 1) ∧ va_P (dC, dI) vwCl [] t.heap ∧ va_K (dC, dI) vwCl [] t ∧ va_D (va_A [(h0, .inr (11, [.ref x0, .ref x1, .ref x2, .ref x3, .ref x4, .ref x5, .ref x6, .ref x7, .ref x8, .ref x9, .ref x10, .int 0, .int 0, .int 0, .int 0, .int 0, .int 0])), (x8, .inr (9, [.int 0, .ref s1, .ref s2, .ref s3, .ref s4, .ref s5, .ref s6, .int 0, .int 0, .null, .null, .int 0, .int 0, .int 0, .long 0, .int 0, .int 0])), (s6, .inl (k0, 512, .inl (fun _ => 0))), (x0, .inr (8, [.ref b0, .int 0, .int 0, .int 0])), (x10, .inr (6, [.int 0, .ref g1, .ref g2, .ref g3, .ref g4, .ref g5, .ref g6, .ref g7, .ref g8, .ref g9, .ref g10, .ref g11, .ref g12, .ref g13, .int 0, .int 0]))] sz) []) (va_A [(h0, .inr (11, [.ref x0, .ref x1, .ref x2, .ref x3, .ref x4, .ref x5, .ref x6, .ref x7, .ref x8, .ref x9, .ref x10, .int 0, .int 0, .int 0, .int 0, .int 0, .int 0])), (x8, .inr (9, [.int 0, .ref s1, .ref s2, .ref s3, .ref s4, .ref s5, .ref s6, .int 0, .int 0, .null, .null, .int 0, .int 0, .int 0, .long 0, .int 0, .int 0])), (s6, .inl (k0, 512, .inl (fun _ => 0))), (x0, .inr (8, [.ref b0, .int 0, .int 0, .int 0])), (x10, .inr (6, [.int 0, .ref g1, .ref g2, .ref g3, .ref g4, .ref g5, .ref g6, .ref g7, .ref g8, .ref g9, .ref g10, .ref g11, .ref g12, .ref g13, .int 0, .int 0]))] sz)) 0 0 (va_A [(h0, .inr (11, [.ref x0, .ref x1, .ref x2, .ref x3, .ref x4, .ref x5, .ref x6, .ref x7, .ref x8, .ref x9, .ref x10, .int 0, .int 0, .int 0, .int 0, .int 0, .int 0])), (x8, .inr (9, [.int 0, .ref s1, .ref s2, .ref s3, .ref s4, .ref s5, .ref s6, .int 0, .int 0, .null, .null, .int 0, .int 0, .int 0, .long 0, .int 0, .int 0])), (s6, .inl (k0, 512, .inl (fun _ => 0))), (x0, .inr (8, [.ref b0, .int 0, .int 0, .int 0])), (x10, .inr (6, [.int 0, .ref g1, .ref g2, .ref g3, .ref g4, .ref g5, .ref g6, .ref g7, .ref g8, .ref g9, .ref g10, .ref g11, .ref g12, .ref g13, .int 0, .int 0]))] sz) := by
  refine Met.ofW (cc := cX11_say) (maxL := 2) (ret := (some .int)) (by decide) rfl ?_
  intro p e s m args below meth c s₁ B hml hv
  obtain ⟨rfl, hsz, hP, hK, hD0⟩ := hv
  have hx := B.exec
  have hb := B.bytes
  have hr := B.returns
  have hts := atoms_spec (ws := wf_X11_say) B.pre
  have hown : s.vm.findClass RX11 = some m.cls := findClass_of_methodNamed B.named
  have hlocks := B.notSynchronized
  subst hsz
  have hD := hD0.self (sz := s.heap.size)
  generalize hAe : va_A [(h0, .inr (11, [.ref x0, .ref x1, .ref x2, .ref x3, .ref x4, .ref x5, .ref x6, .ref x7, .ref x8, .ref x9, .ref x10, .int 0, .int 0, .int 0, .int 0, .int 0, .int 0])), (x8, .inr (9, [.int 0, .ref s1, .ref s2, .ref s3, .ref s4, .ref s5, .ref s6, .int 0, .int 0, .null, .null, .int 0, .int 0, .int 0, .long 0, .int 0, .int 0])), (s6, .inl (k0, 512, .inl (fun _ => 0))), (x0, .inr (8, [.ref b0, .int 0, .int 0, .int 0])), (x10, .inr (6, [.int 0, .ref g1, .ref g2, .ref g3, .ref g4, .ref g5, .ref g6, .ref g7, .ref g8, .ref g9, .ref g10, .ref g11, .ref g12, .ref g13, .int 0, .int 0]))] s.heap.size = A at hD ⊢
  have hA : ∀ q : Nat, s.heap.size ≤ q → A q := fun q h => by rw [← hAe]; exact Or.inr h
  have hS : va_S A s.heap s.heap [] := va_S.rf
  have hP : va_P (dC, dI) vwCl [(h0, .inr (11, [.ref x0, .ref x1, .ref x2, .ref x3, .ref x4, .ref x5, .ref x6, .ref x7, .ref x8, .ref x9, .ref x10, .int 0, .int 0, .int 0, .int 0, .int 0, .int 0])), (x8, .inr (9, [.int 0, .ref s1, .ref s2, .ref s3, .ref s4, .ref s5, .ref s6, .int 0, .int 0, .null, .null, .int 0, .int 0, .int 0, .long 0, .int 0, .int 0])), (s6, .inl (k0, 512, .inl (fun _ => 0))), (x0, .inr (8, [.ref b0, .int 0, .int 0, .int 0])), (x10, .inr (6, [.int 0, .ref g1, .ref g2, .ref g3, .ref g4, .ref g5, .ref g6, .ref g7, .ref g8, .ref g9, .ref g10, .ref g11, .ref g12, .ref g13, .int 0, .int 0]))] s.heap := hP
  have hD : va_D A [(h0, .inr (11, [.ref x0, .ref x1, .ref x2, .ref x3, .ref x4, .ref x5, .ref x6, .ref x7, .ref x8, .ref x9, .ref x10, .int 0, .int 0, .int 0, .int 0, .int 0, .int 0])), (x8, .inr (9, [.int 0, .ref s1, .ref s2, .ref s3, .ref s4, .ref s5, .ref s6, .int 0, .int 0, .null, .null, .int 0, .int 0, .int 0, .long 0, .int 0, .int 0])), (s6, .inl (k0, 512, .inl (fun _ => 0))), (x0, .inr (8, [.ref b0, .int 0, .int 0, .int 0])), (x10, .inr (6, [.int 0, .ref g1, .ref g2, .ref g3, .ref g4, .ref g5, .ref g6, .ref g7, .ref g8, .ref g9, .ref g10, .ref g11, .ref g12, .ref g13, .int 0, .int 0]))] := hD
  have hl := lv_entry ([.ref h0]) (n := 2) (Nat.le_of_ble_eq_true rfl)
  rw [lg_entry_eq]
  generalize (lg_sl ([.ref h0]) ++ List.replicate (2 - (lg_sl ([.ref h0])).length) Slot.unset).toArray = ls at hl ⊢
  have hl : lv_has ls 2 [(0, .ref h0)] := hl
  have hiX11 := hi_X11_say_X11
  have hiX9 := hi_X11_say_X9
  refine lv_aload_n hx hb dX11_say_0 rfl (lv_at hl 0 rfl) ?_
  refine va_get (D := (dC, dI)) (ci := 11) (v := .ref x8) (C := RX11) (T := TX11) (N := 17) hx hb hts hiX11 hown hK hP 0 rfl rfl 8 (by decide) (hts (.fieldLink RX11 64 "ComboHouse" "speech" "LComboHouse$Speech;") (by decide +kernel)) (fun _ h9 => h9) rfl dX11_say_1 ?_
  refine lv_aload_n hx hb dX11_say_4 rfl (lv_at hl 0 rfl) ?_
  refine va_get (D := (dC, dI)) (ci := 11) (v := .ref x0) (C := RX11) (T := TX11) (N := 17) hx hb hts hiX11 hown hK hP 0 rfl rfl 0 (by decide) (hts (.fieldLink RX11 10 "ComboHouse" "tape" "LComboHouse$Row;") (by decide +kernel)) (fun _ h9 => h9) rfl dX11_say_5 ?_
  refine lv_aload_n hx hb dX11_say_8 rfl (lv_at hl 0 rfl) ?_
  refine va_get (D := (dC, dI)) (ci := 11) (v := .ref x10) (C := RX11) (T := TX11) (N := 17) hx hb hts hiX11 hown hK hP 0 rfl rfl 10 (by decide) (hts (.fieldLink RX11 75 "ComboHouse" "draft" "LComboHouse$Program;") (by decide +kernel)) (fun _ h9 => h9) rfl dX11_say_9 ?_
  refine lv_aload_n hx hb dX11_say_12 rfl (lv_at hl 0 rfl) ?_
  refine va_get (D := (dC, dI)) (ci := 11) (v := .ref x2) (C := RX11) (T := TX11) (N := 17) hx hb hts hiX11 hown hK hP 0 rfl rfl 2 (by decide) (hts (.fieldLink RX11 19 "ComboHouse" "pen" "LComboHouse$Row;") (by decide +kernel)) (fun _ h9 => h9) rfl dX11_say_13 ?_
  have hPc := hP.sub (ws' := [(x8, .inr (9, [.int 0, .ref s1, .ref s2, .ref s3, .ref s4, .ref s5, .ref s6, .int 0, .int 0, .null, .null, .int 0, .int 0, .int 0, .long 0, .int 0, .int 0])), (s6, .inl (k0, 512, .inl (fun _ => 0))), (x0, .inr (8, [.ref b0, .int 0, .int 0, .int 0])), (x10, .inr (6, [.int 0, .ref g1, .ref g2, .ref g3, .ref g4, .ref g5, .ref g6, .ref g7, .ref g8, .ref g9, .ref g10, .ref g11, .ref g12, .ref g13, .int 0, .int 0]))]) [1, 2, 3, 4] rfl
  have hDc := hD.sub (ws' := [(x8, .inr (9, [.int 0, .ref s1, .ref s2, .ref s3, .ref s4, .ref s5, .ref s6, .int 0, .int 0, .null, .null, .int 0, .int 0, .int 0, .long 0, .int 0, .int 0])), (s6, .inl (k0, 512, .inl (fun _ => 0))), (x0, .inr (8, [.ref b0, .int 0, .int 0, .int 0])), (x10, .inr (6, [.int 0, .ref g1, .ref g2, .ref g3, .ref g4, .ref g5, .ref g6, .ref g7, .ref g8, .ref g9, .ref g10, .ref g11, .ref g12, .ref g13, .int 0, .int 0]))]) [1, 2, 3, 4] (by decide) rfl
  have hKc := hK.sub (tys' := [(k0, .int)]) [0] rfl
  have hFc := va_free (wc := [(x8, .inr (9, [.int 0, .ref s1, .ref s2, .ref s3, .ref s4, .ref s5, .ref s6, .int 0, .int 0, .null, .null, .int 0, .int 0, .int 0, .long 0, .int 0, .int 0])), (s6, .inl (k0, 512, .inl (fun _ => 0))), (x0, .inr (8, [.ref b0, .int 0, .int 0, .int 0])), (x10, .inr (6, [.int 0, .ref g1, .ref g2, .ref g3, .ref g4, .ref g5, .ref g6, .ref g7, .ref g8, .ref g9, .ref g10, .ref g11, .ref g12, .ref g13, .int 0, .int 0]))]) hD hS hA [1, 2, 3, 4] rfl
  refine va_calli (va_runV (As := [.ref x0, .ref x10, .ref x2]) (rest := []) ⟨hx, hb, hml, hown, hts⟩ (c_X9_tell_fresh l dC dI x8 s1 s2 s3 s4 s5 s6 x0 x10 x2 g1 g2 g3 g4 g5 g6 g7 g8 g9 g10 g11 g12 g13 b0 k0 s.heap.size) (cwV 3 hts gf_X11_say_0 rfl rfl rfl (by decide +kernel) ⟨Nat.le_of_ble_eq_true rfl, Nat.le_of_ble_eq_true rfl⟩) ⟨fun a U g mk q => by obtain ⟨q0, q1, qP, qK, qD⟩ := q; exact ⟨q0, q1, qP, va_K.moved (u := U) (U := U.calling g mk a) (Vm.Alike.refl U.vm) qK, qD⟩, va_recv hKc hPc (ci := 9) (q0 := 0) rfl rfl, fun U hU hW => ⟨rfl, by rw [hU], by rw [hU]; exact hPc, va_K.moved hW.alike hKc, hDc.weaken (fun _ _ _ _ => trivial)⟩⟩ rfl rfl hl.1 rfl (lv_room (Nat.le_of_ble_eq_true rfl)) dX11_say_16 ⟨Nat.le_of_ble_eq_true rfl, Nat.le_of_ble_eq_true rfl⟩) hS (fun q _ h => hFc q h) hFc (fun r_1 u t H1 locs ht hvm hw hB hz1 hk1 hS => ?_)
  obtain rfl : u = r_1 := hw
  obtain ⟨hr_2, hP1, hK1, hD1⟩ := hB
  rw [ht] at hP1
  have hK1 := va_K.moved hvm.symm hK1
  obtain ⟨hP, hD⟩ := va_join (wr := [(h0, .inr (11, [.ref x0, .ref x1, .ref x2, .ref x3, .ref x4, .ref x5, .ref x6, .ref x7, .ref x8, .ref x9, .ref x10, .int 0, .int 0, .int 0, .int 0, .int 0, .int 0]))]) (w1 := [(x8, .inr (9, [.int 0, .ref s1, .ref s2, .ref s3, .ref s4, .ref s5, .ref s6, .int 0, .int 0, .ref x0, .ref x10, .int 0, .int 0, .int 0, .long 0, .int ((-1)), .int 1])), (x0, .inr (8, [.ref b0, .int 0, .int 0, .int 0]))]) hP hD [1, 2, 3, 4] [0] rfl rfl (by decide) (by decide) hk1 hFc hP1 hD1
  have hK := (hK.sub (tys' := []) [] rfl).app hK1
  generalize H1 = H at hP hS ⊢
  have hP : va_P (dC, dI) vwCl [(h0, .inr (11, [.ref x0, .ref x1, .ref x2, .ref x3, .ref x4, .ref x5, .ref x6, .ref x7, .ref x8, .ref x9, .ref x10, .int 0, .int 0, .int 0, .int 0, .int 0, .int 0])), (x8, .inr (9, [.int 0, .ref s1, .ref s2, .ref s3, .ref s4, .ref s5, .ref s6, .int 0, .int 0, .ref x0, .ref x10, .int 0, .int 0, .int 0, .long 0, .int ((-1)), .int 1])), (x0, .inr (8, [.ref b0, .int 0, .int 0, .int 0]))] H := hP
  have hD : va_D A [(h0, .inr (11, [.ref x0, .ref x1, .ref x2, .ref x3, .ref x4, .ref x5, .ref x6, .ref x7, .ref x8, .ref x9, .ref x10, .int 0, .int 0, .int 0, .int 0, .int 0, .int 0])), (x8, .inr (9, [.int 0, .ref s1, .ref s2, .ref s3, .ref s4, .ref s5, .ref s6, .int 0, .int 0, .ref x0, .ref x10, .int 0, .int 0, .int 0, .long 0, .int ((-1)), .int 1])), (x0, .inr (8, [.ref b0, .int 0, .int 0, .int 0]))] := hD
  have hK : va_K (dC, dI) vwCl [] s := hK
  refine W.widen (k := 0) (n := 0) (Nat.le_of_ble_eq_true rfl) (Nat.le_of_ble_eq_true rfl) ?_
  subst hr_2
  refine lv_istore_n (lv' := [(1, .int 1), (0, .ref h0)]) hx hb dX11_say_19 rfl hl (by decide) rfl (fun ls hl => ?_)
  refine lv_aload_n hx hb dX11_say_20 rfl (lv_at hl 1 rfl) ?_
  refine lv_aload_n hx hb dX11_say_21 rfl (lv_at hl 1 rfl) ?_
  refine va_get (D := (dC, dI)) (ci := 11) (v := .ref x8) (C := RX11) (T := TX11) (N := 17) hx hb hts hiX11 hown hK hP 0 rfl rfl 8 (by decide) (hts (.fieldLink RX11 64 "ComboHouse" "speech" "LComboHouse$Speech;") (by decide +kernel)) (fun _ h9 => h9) rfl dX11_say_22 ?_
  refine va_get (D := (dC, dI)) (ci := 9) (v := .int 0) (C := RX9) (T := TX9) (N := 17) hx hb hts hiX9 hown hK hP 1 rfl rfl 0 (by decide) (hts (.fieldLink RX11 251 "ComboHouse$Speech" "place" "I") (by decide +kernel)) (fun _ h9 => h9) rfl dX11_say_25 ?_
  refine va_put (D := (dC, dI)) (ci := 11) (v := .int 0) (ty := .int) (C := RX11) (T := TX11) (N := 17) hx hb hts hiX11 tyX11 tyX11_ok nmX11 hown hK hP hD hS 0 rfl rfl 16 (by decide) (hts (.fieldLink RX11 254 "ComboHouse" "place" "I") (by decide +kernel)) (fun _ h9 => h9) rfl (by decide +kernel) rfl rfl (Nat.le_of_ble_eq_true rfl) dX11_say_28 (fun H locs hP hD hS => ?_)
  have hP : va_P (dC, dI) vwCl [(h0, .inr (11, [.ref x0, .ref x1, .ref x2, .ref x3, .ref x4, .ref x5, .ref x6, .ref x7, .ref x8, .ref x9, .ref x10, .int 0, .int 0, .int 0, .int 0, .int 0, .int 0])), (x8, .inr (9, [.int 0, .ref s1, .ref s2, .ref s3, .ref s4, .ref s5, .ref s6, .int 0, .int 0, .ref x0, .ref x10, .int 0, .int 0, .int 0, .long 0, .int ((-1)), .int 1])), (x0, .inr (8, [.ref b0, .int 0, .int 0, .int 0]))] H := hP
  have hD : va_D A [(h0, .inr (11, [.ref x0, .ref x1, .ref x2, .ref x3, .ref x4, .ref x5, .ref x6, .ref x7, .ref x8, .ref x9, .ref x10, .int 0, .int 0, .int 0, .int 0, .int 0, .int 0])), (x8, .inr (9, [.int 0, .ref s1, .ref s2, .ref s3, .ref s4, .ref s5, .ref s6, .int 0, .int 0, .ref x0, .ref x10, .int 0, .int 0, .int 0, .long 0, .int ((-1)), .int 1])), (x0, .inr (8, [.ref b0, .int 0, .int 0, .int 0]))] := hD
  refine lv_aload_n hx hb dX11_say_31 rfl (lv_at hl 1 rfl) ?_
  refine va_get (D := (dC, dI)) (ci := 11) (v := .ref x0) (C := RX11) (T := TX11) (N := 17) hx hb hts hiX11 hown hK hP 0 rfl rfl 0 (by decide) (hts (.fieldLink RX11 10 "ComboHouse" "tape" "LComboHouse$Row;") (by decide +kernel)) (fun _ h9 => h9) rfl dX11_say_32 ?_
  have hPc := hP.sub (ws' := [(x0, .inr (8, [.ref b0, .int 0, .int 0, .int 0]))]) [2] rfl
  have hDc := hD.sub (ws' := [(x0, .inr (8, [.ref b0, .int 0, .int 0, .int 0]))]) [2] (by decide) rfl
  have hKc := hK.sub (tys' := []) [] rfl
  have hFc := va_free (wc := [(x0, .inr (8, [.ref b0, .int 0, .int 0, .int 0]))]) hD hS hA [2] rfl
  refine va_callv (va_runV (As := []) (rest := []) ⟨hx, hb, hml, hown, hts⟩ (c_X8_clear l dC dI x0 b0 0 0 0 H.size) (cwV 0 hts gf_X11_say_1 rfl rfl rfl (by decide +kernel) ⟨Nat.le_of_ble_eq_true rfl, Nat.le_of_ble_eq_true rfl⟩) ⟨fun a U g mk q => by obtain ⟨q0, q1, qP, qK, qD⟩ := q; exact ⟨q0, q1, qP, va_K.moved (u := U) (U := U.calling g mk a) (Vm.Alike.refl U.vm) qK, qD⟩, va_recv hKc hPc (ci := 8) (q0 := 0) rfl rfl, fun U hU hW => ⟨rfl, by rw [hU], by rw [hU]; exact hPc, va_K.moved hW.alike hKc, hDc.weaken (fun _ _ _ _ => trivial)⟩⟩ rfl rfl hl.1 rfl (lv_room (Nat.le_of_ble_eq_true rfl)) dX11_say_35 ⟨Nat.le_of_ble_eq_true rfl, Nat.le_of_ble_eq_true rfl⟩) hS (fun q _ h => hFc q h) hFc (fun u t H1 locs ht hvm hw hB hz1 hk1 hS => ?_)
  obtain ⟨hP1, hK1, hD1⟩ := hB
  rw [ht] at hP1
  have hK1 := va_K.moved hvm.symm hK1
  obtain ⟨hP, hD⟩ := va_join (wr := [(h0, .inr (11, [.ref x0, .ref x1, .ref x2, .ref x3, .ref x4, .ref x5, .ref x6, .ref x7, .ref x8, .ref x9, .ref x10, .int 0, .int 0, .int 0, .int 0, .int 0, .int 0])), (x8, .inr (9, [.int 0, .ref s1, .ref s2, .ref s3, .ref s4, .ref s5, .ref s6, .int 0, .int 0, .ref x0, .ref x10, .int 0, .int 0, .int 0, .long 0, .int ((-1)), .int 1]))]) (w1 := [(x0, .inr (8, [.ref b0, .int 0, .int 0, .int 0]))]) hP hD [2] [0, 1] rfl rfl (by decide) (by decide) hk1 hFc hP1 hD1
  have hK := (hK.sub (tys' := []) [] rfl).app hK1
  generalize H1 = H at hP hS ⊢
  have hP : va_P (dC, dI) vwCl [(h0, .inr (11, [.ref x0, .ref x1, .ref x2, .ref x3, .ref x4, .ref x5, .ref x6, .ref x7, .ref x8, .ref x9, .ref x10, .int 0, .int 0, .int 0, .int 0, .int 0, .int 0])), (x8, .inr (9, [.int 0, .ref s1, .ref s2, .ref s3, .ref s4, .ref s5, .ref s6, .int 0, .int 0, .ref x0, .ref x10, .int 0, .int 0, .int 0, .long 0, .int ((-1)), .int 1])), (x0, .inr (8, [.ref b0, .int 0, .int 0, .int 0]))] H := hP
  have hD : va_D A [(h0, .inr (11, [.ref x0, .ref x1, .ref x2, .ref x3, .ref x4, .ref x5, .ref x6, .ref x7, .ref x8, .ref x9, .ref x10, .int 0, .int 0, .int 0, .int 0, .int 0, .int 0])), (x8, .inr (9, [.int 0, .ref s1, .ref s2, .ref s3, .ref s4, .ref s5, .ref s6, .int 0, .int 0, .ref x0, .ref x10, .int 0, .int 0, .int 0, .long 0, .int ((-1)), .int 1])), (x0, .inr (8, [.ref b0, .int 0, .int 0, .int 0]))] := hD
  have hK : va_K (dC, dI) vwCl [] s := hK
  refine W.widen (k := 0) (n := 0) (Nat.le_of_ble_eq_true rfl) (Nat.le_of_ble_eq_true rfl) ?_
  refine lv_iload_n hx hb dX11_say_38 rfl (lv_at hl 0 rfl) ?_
  refine lv_if_ne (tgt := 47) hx hb dX11_say_39 (by decide) (fun cnd_4 => ?_) (fun cnd_4 => ?_)
  rotate_left
  · exact absurd cnd_4 (by decide)
  refine lv_iload_n hx hb dX11_say_47 rfl (lv_at hl 0 rfl) ?_
  have hP9 : va_P (dC, dI) vwCl [] H := by have h := hP.sub (ws' := []) [] rfl; exact h
  have hD9 : va_D A [] := by have h := hD.sub (ws' := []) [] (by decide) rfl; exact h
  have hK9 := hK.sub (tys' := []) [] rfl
  refine W.widen (k := 0) (n := 0) (Nat.le_of_ble_eq_true rfl) (Nat.le_of_ble_eq_true rfl) ?_
  have er_5 : (1 : Int32) = 1 := by first | rfl | (simp; done)
  exact W.iret (v := 1) hx hb hr (fun t ht hW => ⟨⟨1, 1, rfl, rfl, er_5, by rw [ht]; exact hP9, va_K.moved hW.alike hK9, hAe ▸ hD9⟩, hAe ▸ hS.F ht⟩) (fun q hq => hAe ▸ hS.2.2 q hq) dX11_say_48
