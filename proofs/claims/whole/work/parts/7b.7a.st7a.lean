/-! ===== the start: the premises ===== -/
set_option maxRecDepth 100000 in
theorem tbr_200 : (((flatC (Jvm.Cond.and given_1 narrow_1)).drop 7).take 42) = (List.range 42).map (fun j => Cond.eq (.elem (.static "ComboHouse$Jets" "SOURCE" "[I") (.int (Int32.ofNat j))) (.int (xt_X2_SOURCE j))) := by decide +kernel
theorem tbi_200 (j : Nat) (hj : j < 42) : Cond.eq (.elem (.static "ComboHouse$Jets" "SOURCE" "[I") (.int (Int32.ofNat j))) (.int (xt_X2_SOURCE j)) ∈ flatC (Jvm.Cond.and given_1 narrow_1) := by
  have h : Cond.eq (.elem (.static "ComboHouse$Jets" "SOURCE" "[I") (.int (Int32.ofNat j))) (.int (xt_X2_SOURCE j)) ∈ (List.range 42).map (fun j => Cond.eq (.elem (.static "ComboHouse$Jets" "SOURCE" "[I") (.int (Int32.ofNat j))) (.int (xt_X2_SOURCE j))) := List.mem_map.mpr ⟨j, List.mem_range.mpr hj, rfl⟩
  rw [← tbr_200] at h
  exact List.mem_of_mem_drop (List.mem_of_mem_take h)
set_option maxRecDepth 100000 in
theorem tbr_201 : (((flatC (Jvm.Cond.and given_1 narrow_1)).drop 52).take 42) = (List.range 42).map (fun j => Cond.eq (.elem (.static "ComboHouse$Jets" "TARGET" "[I") (.int (Int32.ofNat j))) (.int (xt_X2_TARGET j))) := by decide +kernel
theorem tbi_201 (j : Nat) (hj : j < 42) : Cond.eq (.elem (.static "ComboHouse$Jets" "TARGET" "[I") (.int (Int32.ofNat j))) (.int (xt_X2_TARGET j)) ∈ flatC (Jvm.Cond.and given_1 narrow_1) := by
  have h : Cond.eq (.elem (.static "ComboHouse$Jets" "TARGET" "[I") (.int (Int32.ofNat j))) (.int (xt_X2_TARGET j)) ∈ (List.range 42).map (fun j => Cond.eq (.elem (.static "ComboHouse$Jets" "TARGET" "[I") (.int (Int32.ofNat j))) (.int (xt_X2_TARGET j))) := List.mem_map.mpr ⟨j, List.mem_range.mpr hj, rfl⟩
  rw [← tbr_201] at h
  exact List.mem_of_mem_drop (List.mem_of_mem_take h)
set_option maxRecDepth 100000 in
theorem tbr_202 : (((flatC (Jvm.Cond.and given_1 narrow_1)).drop 116).take 8) = (List.range 8).map (fun j => Cond.eq (.elem (.static "ComboHouse$Roots" "START" "[I") (.int (Int32.ofNat j))) (.int (xt_X7_START j))) := by decide +kernel
theorem tbi_202 (j : Nat) (hj : j < 8) : Cond.eq (.elem (.static "ComboHouse$Roots" "START" "[I") (.int (Int32.ofNat j))) (.int (xt_X7_START j)) ∈ flatC (Jvm.Cond.and given_1 narrow_1) := by
  have h : Cond.eq (.elem (.static "ComboHouse$Roots" "START" "[I") (.int (Int32.ofNat j))) (.int (xt_X7_START j)) ∈ (List.range 8).map (fun j => Cond.eq (.elem (.static "ComboHouse$Roots" "START" "[I") (.int (Int32.ofNat j))) (.int (xt_X7_START j))) := List.mem_map.mpr ⟨j, List.mem_range.mpr hj, rfl⟩
  rw [← tbr_202] at h
  exact List.mem_of_mem_drop (List.mem_of_mem_take h)
set_option maxRecDepth 100000 in
theorem tbr_203 : (((flatC (Jvm.Cond.and given_1 narrow_1)).drop 127).take 64) = (List.range 64).map (fun j => Cond.eq (.elem (.static "ComboHouse$Roots" "K" "[I") (.int (Int32.ofNat j))) (.int (xt_X7_K j))) := by decide +kernel
theorem tbi_203 (j : Nat) (hj : j < 64) : Cond.eq (.elem (.static "ComboHouse$Roots" "K" "[I") (.int (Int32.ofNat j))) (.int (xt_X7_K j)) ∈ flatC (Jvm.Cond.and given_1 narrow_1) := by
  have h : Cond.eq (.elem (.static "ComboHouse$Roots" "K" "[I") (.int (Int32.ofNat j))) (.int (xt_X7_K j)) ∈ (List.range 64).map (fun j => Cond.eq (.elem (.static "ComboHouse$Roots" "K" "[I") (.int (Int32.ofNat j))) (.int (xt_X7_K j))) := List.mem_map.mpr ⟨j, List.mem_range.mpr hj, rfl⟩
  rw [← tbr_203] at h
  exact List.mem_of_mem_drop (List.mem_of_mem_take h)
set_option maxRecDepth 100000 in
theorem tbr_204 : (((flatC (Jvm.Cond.and given_1 narrow_1)).drop 97).take 14) = (List.range 14).map (fun j => Cond.eq (.elem (.static "ComboHouse$Speech" "TONGUE" "[J") (.int (Int32.ofNat j))) (.long (xt_X9_TONGUE j))) := by decide +kernel
theorem tbi_204 (j : Nat) (hj : j < 14) : Cond.eq (.elem (.static "ComboHouse$Speech" "TONGUE" "[J") (.int (Int32.ofNat j))) (.long (xt_X9_TONGUE j)) ∈ flatC (Jvm.Cond.and given_1 narrow_1) := by
  have h : Cond.eq (.elem (.static "ComboHouse$Speech" "TONGUE" "[J") (.int (Int32.ofNat j))) (.long (xt_X9_TONGUE j)) ∈ (List.range 14).map (fun j => Cond.eq (.elem (.static "ComboHouse$Speech" "TONGUE" "[J") (.int (Int32.ofNat j))) (.long (xt_X9_TONGUE j))) := List.mem_map.mpr ⟨j, List.mem_range.mpr hj, rfl⟩
  rw [← tbr_204] at h
  exact List.mem_of_mem_drop (List.mem_of_mem_take h)
set_option maxRecDepth 100000 in
theorem tbr_205 : (((flatC (Jvm.Cond.and given_1 narrow_1)).drop 199).take 74) = (List.range 74).map (fun j => Cond.eq (.elem (.static "ComboHouseModel" "WORDS" "[I") (.int (Int32.ofNat j))) (.int (xt_X12_WORDS j))) := by decide +kernel
theorem tbi_205 (j : Nat) (hj : j < 74) : Cond.eq (.elem (.static "ComboHouseModel" "WORDS" "[I") (.int (Int32.ofNat j))) (.int (xt_X12_WORDS j)) ∈ flatC (Jvm.Cond.and given_1 narrow_1) := by
  have h : Cond.eq (.elem (.static "ComboHouseModel" "WORDS" "[I") (.int (Int32.ofNat j))) (.int (xt_X12_WORDS j)) ∈ (List.range 74).map (fun j => Cond.eq (.elem (.static "ComboHouseModel" "WORDS" "[I") (.int (Int32.ofNat j))) (.int (xt_X12_WORDS j))) := List.mem_map.mpr ⟨j, List.mem_range.mpr hj, rfl⟩
  rw [← tbr_205] at h
  exact List.mem_of_mem_drop (List.mem_of_mem_take h)
set_option maxRecDepth 100000 in
theorem tbr_206 : (((flatC (Jvm.Cond.and given_1 narrow_1)).drop 287).take 64) = (List.range 64).map (fun j => Cond.eq (.elem (.static "ComboHouseModel" "K" "[I") (.int (Int32.ofNat j))) (.int (xt_X12_K j))) := by decide +kernel
theorem tbi_206 (j : Nat) (hj : j < 64) : Cond.eq (.elem (.static "ComboHouseModel" "K" "[I") (.int (Int32.ofNat j))) (.int (xt_X12_K j)) ∈ flatC (Jvm.Cond.and given_1 narrow_1) := by
  have h : Cond.eq (.elem (.static "ComboHouseModel" "K" "[I") (.int (Int32.ofNat j))) (.int (xt_X12_K j)) ∈ (List.range 64).map (fun j => Cond.eq (.elem (.static "ComboHouseModel" "K" "[I") (.int (Int32.ofNat j))) (.int (xt_X12_K j))) := List.mem_map.mpr ⟨j, List.mem_range.mpr hj, rfl⟩
  rw [← tbr_206] at h
  exact List.mem_of_mem_drop (List.mem_of_mem_take h)
set_option maxRecDepth 100000 in
theorem tbr_207 : (((flatC (Jvm.Cond.and given_1 narrow_1)).drop 276).take 8) = (List.range 8).map (fun j => Cond.eq (.elem (.static "ComboHouseModel" "F" "[I") (.int (Int32.ofNat j))) (.int (xt_X12_F j))) := by decide +kernel
theorem tbi_207 (j : Nat) (hj : j < 8) : Cond.eq (.elem (.static "ComboHouseModel" "F" "[I") (.int (Int32.ofNat j))) (.int (xt_X12_F j)) ∈ flatC (Jvm.Cond.and given_1 narrow_1) := by
  have h : Cond.eq (.elem (.static "ComboHouseModel" "F" "[I") (.int (Int32.ofNat j))) (.int (xt_X12_F j)) ∈ (List.range 8).map (fun j => Cond.eq (.elem (.static "ComboHouseModel" "F" "[I") (.int (Int32.ofNat j))) (.int (xt_X12_F j))) := List.mem_map.mpr ⟨j, List.mem_range.mpr hj, rfl⟩
  rw [← tbr_207] at h
  exact List.mem_of_mem_drop (List.mem_of_mem_take h)
set_option maxRecDepth 100000 in
theorem tbr_w0 : (((flatC (Jvm.Cond.and given_1 narrow_1)).drop 199).take 74) = (List.range 74).map (fun j => Cond.eq (.elem (.static "ComboHouseModel" "WORDS" "[I") (.int (Int32.ofNat j))) (.int (tb_WORDS j))) := by decide +kernel
theorem tbi_w0 (j : Nat) (hj : j < 74) : Cond.eq (.elem (.static "ComboHouseModel" "WORDS" "[I") (.int (Int32.ofNat j))) (.int (tb_WORDS j)) ∈ flatC (Jvm.Cond.and given_1 narrow_1) := by
  have h : Cond.eq (.elem (.static "ComboHouseModel" "WORDS" "[I") (.int (Int32.ofNat j))) (.int (tb_WORDS j)) ∈ (List.range 74).map (fun j => Cond.eq (.elem (.static "ComboHouseModel" "WORDS" "[I") (.int (Int32.ofNat j))) (.int (tb_WORDS j))) := List.mem_map.mpr ⟨j, List.mem_range.mpr hj, rfl⟩
  rw [← tbr_w0] at h
  exact List.mem_of_mem_drop (List.mem_of_mem_take h)
set_option maxRecDepth 100000 in
theorem tbr_s0 : (((flatC (Jvm.Cond.and given_1 narrow_1)).drop 597).take 3) = (List.range 3).map (fun j => Cond.eq (.elem (.field (.string "ComboHouse$Program" 126) "java/lang/String" "value" "[B") (.int (Int32.ofNat j))) (.int (xsB 0 j))) := by decide +kernel
theorem tbi_s0 (j : Nat) (hj : j < 3) : Cond.eq (.elem (.field (.string "ComboHouse$Program" 126) "java/lang/String" "value" "[B") (.int (Int32.ofNat j))) (.int (xsB 0 j)) ∈ flatC (Jvm.Cond.and given_1 narrow_1) := by
  have h : Cond.eq (.elem (.field (.string "ComboHouse$Program" 126) "java/lang/String" "value" "[B") (.int (Int32.ofNat j))) (.int (xsB 0 j)) ∈ (List.range 3).map (fun j => Cond.eq (.elem (.field (.string "ComboHouse$Program" 126) "java/lang/String" "value" "[B") (.int (Int32.ofNat j))) (.int (xsB 0 j))) := List.mem_map.mpr ⟨j, List.mem_range.mpr hj, rfl⟩
  rw [← tbr_s0] at h
  exact List.mem_of_mem_drop (List.mem_of_mem_take h)
set_option maxRecDepth 100000 in
theorem tbr_s1 : (((flatC (Jvm.Cond.and given_1 narrow_1)).drop 611).take 2) = (List.range 2).map (fun j => Cond.eq (.elem (.field (.string "ComboHouse$Program" 152) "java/lang/String" "value" "[B") (.int (Int32.ofNat j))) (.int (xsB 1 j))) := by decide +kernel
theorem tbi_s1 (j : Nat) (hj : j < 2) : Cond.eq (.elem (.field (.string "ComboHouse$Program" 152) "java/lang/String" "value" "[B") (.int (Int32.ofNat j))) (.int (xsB 1 j)) ∈ flatC (Jvm.Cond.and given_1 narrow_1) := by
  have h : Cond.eq (.elem (.field (.string "ComboHouse$Program" 152) "java/lang/String" "value" "[B") (.int (Int32.ofNat j))) (.int (xsB 1 j)) ∈ (List.range 2).map (fun j => Cond.eq (.elem (.field (.string "ComboHouse$Program" 152) "java/lang/String" "value" "[B") (.int (Int32.ofNat j))) (.int (xsB 1 j))) := List.mem_map.mpr ⟨j, List.mem_range.mpr hj, rfl⟩
  rw [← tbr_s1] at h
  exact List.mem_of_mem_drop (List.mem_of_mem_take h)
set_option maxHeartbeats 8000000 in
set_option maxRecDepth 100000 in
theorem lw_prem {p : Program} {s : State} {m : MethodId} {meth : Method} {c : Code} {b L : Nat} {xs : Nat → Int32} (C0 : lw_At p s m meth c b L xs) : ∃ (dC : Nat → ClassId) (dI : Nat → Nat → Nat) (tw : Nat) (tt sa V : Nat → Nat), va_K (dC, dI) vwCl [] s ∧ va_Z "ComboHouseModel" "WORDS" "[I" (.ref tw) (fun q : Nat => s.heap.size ≤ q) s s.heap ∧ va_T .int tw 74 (fun j => .int (tb_WORDS j)) (fun q : Nat => s.heap.size ≤ q) s s.heap ∧ lw_F (L, xs) (fun q : Nat => s.heap.size ≤ q) tt sa V s ∧ tt 208 = b := by
  obtain ⟨hx, hb, hr, hml, hown, hts0, hX, hbl, hlocks, hgv⟩ := id C0
  have hts := hts0
  have hfl := flat_of_before _ hgv
  have hAn : ∀ a : Nat, a < s.heap.size → ¬ (fun q : Nat => s.heap.size ≤ q) a := fun a h => Nat.not_le.mpr h
  obtain ⟨c0, i0, hk0⟩ := u_known (C := RX0) (T := TX0) (N := 10) (n := 10) hts in_X0 (hts0 (.instantiable RX0 10) (List.mem_of_getElem? (i := 347) (by decide +kernel)))
  obtain ⟨c1, i1, hk1⟩ := u_known (C := RX1) (T := TX1) (N := 8) (n := 8) hts in_X1 (hts0 (.instantiable RX1 8) (List.mem_of_getElem? (i := 277) (by decide +kernel)))
  obtain ⟨c2, i2, hk2⟩ := u_known (C := RX2) (T := TX2) (N := 10) (n := 10) hts in_X2 (hts0 (.instantiable RX2 10) (List.mem_of_getElem? (i := 396) (by decide +kernel)))
  obtain ⟨c3, i3, hk3⟩ := u_known (C := RX3) (T := TX3) (N := 6) (n := 6) hts in_X3 (hts0 (.instantiable RX3 6) (List.mem_of_getElem? (i := 516) (by decide +kernel)))
  obtain ⟨c4, i4, hk4⟩ := u_known (C := RX4) (T := TX4) (N := 17) (n := 17) hts in_X4 (hts0 (.instantiable RX4 17) (List.mem_of_getElem? (i := 390) (by decide +kernel)))
  obtain ⟨c5, i5, hk5⟩ := u_known (C := RX5) (T := TX5) (N := 10) (n := 10) hts in_X5 (hts0 (.instantiable RX5 10) (List.mem_of_getElem? (i := 271) (by decide +kernel)))
  obtain ⟨c6, i6, hk6⟩ := u_known (C := RX6) (T := TX6) (N := 16) (n := 16) hts in_X6 (hts0 (.instantiable RX6 16) (List.mem_of_getElem? (i := 600) (by decide +kernel)))
  obtain ⟨c7, i7, hk7⟩ := u_known (C := RX7) (T := TX7) (N := 7) (n := 7) hts in_X7 (hts0 (.instantiable RX7 7) (List.mem_of_getElem? (i := 488) (by decide +kernel)))
  obtain ⟨c8, i8, hk8⟩ := u_known (C := RX8) (T := TX8) (N := 4) (n := 4) hts in_X8 (hts0 (.instantiable RX8 4) (List.mem_of_getElem? (i := 242) (by decide +kernel)))
  obtain ⟨c9, i9, hk9⟩ := u_known (C := RX9) (T := TX9) (N := 17) (n := 17) hts in_X9 (hts0 (.instantiable RX9 17) (List.mem_of_getElem? (i := 541) (by decide +kernel)))
  obtain ⟨c10, i10, hk10⟩ := u_known (C := RX10) (T := TX10) (N := 12) (n := 12) hts in_X10 (hts0 (.instantiable RX10 12) (List.mem_of_getElem? (i := 608) (by decide +kernel)))
  obtain ⟨c11, i11, hk11⟩ := u_known (C := RX11) (T := TX11) (N := 17) (n := 17) hts in_X11 (hts0 (.instantiable RX11 17) (List.mem_of_getElem? (i := 234) (by decide +kernel)))
  obtain ⟨c12, i12, hk12⟩ := u_known (C := RX12) (T := TX12) (N := 94) (n := 94) hts in_X12 (hts0 (.instantiable RX12 94) (List.mem_of_getElem? (i := 1880) (by decide +kernel)))
  obtain ⟨dC, dI, hKc⟩ : ∃ (dC : Nat → ClassId) (dI : Nat → Nat → Nat), ∀ (k : Nat) (q : vw_C), vwCl[k]? = some q → u_Kn s q.1 q.2.1 q.2.2 (dC k) (dI k) := by
    refine ⟨fun k => ([c0, c1, c2, c3, c4, c5, c6, c7, c8, c9, c10, c11, c12] : List ClassId).getD k c0, fun k => ([i0, i1, i2, i3, i4, i5, i6, i7, i8, i9, i10, i11, i12] : List (Nat → Nat)).getD k i0, ?_⟩
    intro k q hq
    match k, hq with
    | 0, hq => cases hq; exact hk0
    | 1, hq => cases hq; exact hk1
    | 2, hq => cases hq; exact hk2
    | 3, hq => cases hq; exact hk3
    | 4, hq => cases hq; exact hk4
    | 5, hq => cases hq; exact hk5
    | 6, hq => cases hq; exact hk6
    | 7, hq => cases hq; exact hk7
    | 8, hq => cases hq; exact hk8
    | 9, hq => cases hq; exact hk9
    | 10, hq => cases hq; exact hk10
    | 11, hq => cases hq; exact hk11
    | 12, hq => cases hq; exact hk12
    | k + 13, hq => simp [vwCl] at hq
  obtain ⟨t200, ht200, hT200⟩ := va_Tof (tm := (.static "ComboHouse$Jets" "SOURCE" "[I")) (ty := .int) (N := 42) (f := fun j => .int (xt_X2_SOURCE j)) (A := fun q : Nat => s.heap.size ≤ q) (by decide) (hfl (.arrayOf (.static "ComboHouse$Jets" "SOURCE" "[I") .int) (List.mem_of_getElem? (i := 5) (by decide +kernel))) (va_eqt (hfl (.eq (.length (.static "ComboHouse$Jets" "SOURCE" "[I")) (.int 42)) (List.mem_of_getElem? (i := 6) (by decide +kernel)))) (fun j hj => va_eqt (hfl _ (tbi_200 j hj))) hAn
  have hZ200 := va_Zof (hts0 (.laysStatic "ComboHouse$Jets" "SOURCE" "[I") (List.mem_of_getElem? (i := 930) (by decide +kernel))) (hts0 (.initialized "ComboHouse$Jets") (List.mem_of_getElem? (i := 213) (by decide +kernel))) ht200 hAn
  obtain ⟨t201, ht201, hT201⟩ := va_Tof (tm := (.static "ComboHouse$Jets" "TARGET" "[I")) (ty := .int) (N := 42) (f := fun j => .int (xt_X2_TARGET j)) (A := fun q : Nat => s.heap.size ≤ q) (by decide) (hfl (.arrayOf (.static "ComboHouse$Jets" "TARGET" "[I") .int) (List.mem_of_getElem? (i := 50) (by decide +kernel))) (va_eqt (hfl (.eq (.length (.static "ComboHouse$Jets" "TARGET" "[I")) (.int 42)) (List.mem_of_getElem? (i := 51) (by decide +kernel)))) (fun j hj => va_eqt (hfl _ (tbi_201 j hj))) hAn
  have hZ201 := va_Zof (hts0 (.laysStatic "ComboHouse$Jets" "TARGET" "[I") (List.mem_of_getElem? (i := 935) (by decide +kernel))) (hts0 (.initialized "ComboHouse$Jets") (List.mem_of_getElem? (i := 213) (by decide +kernel))) ht201 hAn
  obtain ⟨t202, ht202, hT202⟩ := va_Tof (tm := (.static "ComboHouse$Roots" "START" "[I")) (ty := .int) (N := 8) (f := fun j => .int (xt_X7_START j)) (A := fun q : Nat => s.heap.size ≤ q) (by decide) (hfl (.arrayOf (.static "ComboHouse$Roots" "START" "[I") .int) (List.mem_of_getElem? (i := 114) (by decide +kernel))) (va_eqt (hfl (.eq (.length (.static "ComboHouse$Roots" "START" "[I")) (.int 8)) (List.mem_of_getElem? (i := 115) (by decide +kernel)))) (fun j hj => va_eqt (hfl _ (tbi_202 j hj))) hAn
  have hZ202 := va_Zof (hts0 (.laysStatic "ComboHouse$Roots" "START" "[I") (List.mem_of_getElem? (i := 1657) (by decide +kernel))) (hts0 (.initialized "ComboHouse$Roots") (List.mem_of_getElem? (i := 214) (by decide +kernel))) ht202 hAn
  obtain ⟨t203, ht203, hT203⟩ := va_Tof (tm := (.static "ComboHouse$Roots" "K" "[I")) (ty := .int) (N := 64) (f := fun j => .int (xt_X7_K j)) (A := fun q : Nat => s.heap.size ≤ q) (by decide) (hfl (.arrayOf (.static "ComboHouse$Roots" "K" "[I") .int) (List.mem_of_getElem? (i := 125) (by decide +kernel))) (va_eqt (hfl (.eq (.length (.static "ComboHouse$Roots" "K" "[I")) (.int 64)) (List.mem_of_getElem? (i := 126) (by decide +kernel)))) (fun j hj => va_eqt (hfl _ (tbi_203 j hj))) hAn
  have hZ203 := va_Zof (hts0 (.laysStatic "ComboHouse$Roots" "K" "[I") (List.mem_of_getElem? (i := 1666) (by decide +kernel))) (hts0 (.initialized "ComboHouse$Roots") (List.mem_of_getElem? (i := 214) (by decide +kernel))) ht203 hAn
  obtain ⟨t204, ht204, hT204⟩ := va_Tof (tm := (.static "ComboHouse$Speech" "TONGUE" "[J")) (ty := .long) (N := 14) (f := fun j => .long (xt_X9_TONGUE j)) (A := fun q : Nat => s.heap.size ≤ q) (by decide) (hfl (.arrayOf (.static "ComboHouse$Speech" "TONGUE" "[J") .long) (List.mem_of_getElem? (i := 95) (by decide +kernel))) (va_eqt (hfl (.eq (.length (.static "ComboHouse$Speech" "TONGUE" "[J")) (.int 14)) (List.mem_of_getElem? (i := 96) (by decide +kernel)))) (fun j hj => va_eqtl (hfl _ (tbi_204 j hj))) hAn
  have hZ204 := va_Zof (hts0 (.laysStatic "ComboHouse$Speech" "TONGUE" "[J") (List.mem_of_getElem? (i := 1071) (by decide +kernel))) (hts0 (.initialized "ComboHouse$Speech") (List.mem_of_getElem? (i := 216) (by decide +kernel))) ht204 hAn
  obtain ⟨t205, ht205, hT205⟩ := va_Tof (tm := (.static "ComboHouseModel" "WORDS" "[I")) (ty := .int) (N := 74) (f := fun j => .int (xt_X12_WORDS j)) (A := fun q : Nat => s.heap.size ≤ q) (by decide) (hfl (.arrayOf (.static "ComboHouseModel" "WORDS" "[I") .int) (List.mem_of_getElem? (i := 197) (by decide +kernel))) (va_eqt (hfl (.eq (.length (.static "ComboHouseModel" "WORDS" "[I")) (.int 74)) (List.mem_of_getElem? (i := 198) (by decide +kernel)))) (fun j hj => va_eqt (hfl _ (tbi_205 j hj))) hAn
  have hZ205 := va_Zof (hts0 (.laysStatic "ComboHouseModel" "WORDS" "[I") (List.mem_of_getElem? (i := 1889) (by decide +kernel))) (hts0 (.initialized "ComboHouseModel") (List.mem_of_getElem? (i := 219) (by decide +kernel))) ht205 hAn
  obtain ⟨t206, ht206, hT206⟩ := va_Tof (tm := (.static "ComboHouseModel" "K" "[I")) (ty := .int) (N := 64) (f := fun j => .int (xt_X12_K j)) (A := fun q : Nat => s.heap.size ≤ q) (by decide) (hfl (.arrayOf (.static "ComboHouseModel" "K" "[I") .int) (List.mem_of_getElem? (i := 285) (by decide +kernel))) (va_eqt (hfl (.eq (.length (.static "ComboHouseModel" "K" "[I")) (.int 64)) (List.mem_of_getElem? (i := 286) (by decide +kernel)))) (fun j hj => va_eqt (hfl _ (tbi_206 j hj))) hAn
  have hZ206 := va_Zof (hts0 (.laysStatic "ComboHouseModel" "K" "[I") (List.mem_of_getElem? (i := 2346) (by decide +kernel))) (hts0 (.initialized "ComboHouseModel") (List.mem_of_getElem? (i := 219) (by decide +kernel))) ht206 hAn
  obtain ⟨t207, ht207, hT207⟩ := va_Tof (tm := (.static "ComboHouseModel" "F" "[I")) (ty := .int) (N := 8) (f := fun j => .int (xt_X12_F j)) (A := fun q : Nat => s.heap.size ≤ q) (by decide) (hfl (.arrayOf (.static "ComboHouseModel" "F" "[I") .int) (List.mem_of_getElem? (i := 274) (by decide +kernel))) (va_eqt (hfl (.eq (.length (.static "ComboHouseModel" "F" "[I")) (.int 8)) (List.mem_of_getElem? (i := 275) (by decide +kernel)))) (fun j hj => va_eqt (hfl _ (tbi_207 j hj))) hAn
  have hZ207 := va_Zof (hts0 (.laysStatic "ComboHouseModel" "F" "[I") (List.mem_of_getElem? (i := 2337) (by decide +kernel))) (hts0 (.initialized "ComboHouseModel") (List.mem_of_getElem? (i := 219) (by decide +kernel))) ht207 hAn
  obtain ⟨tw, htw, hTw⟩ := va_Tof (tm := (.static "ComboHouseModel" "WORDS" "[I")) (ty := .int) (N := 74) (f := fun j => .int (tb_WORDS j)) (A := fun q : Nat => s.heap.size ≤ q) (by decide) (hfl (.arrayOf (.static "ComboHouseModel" "WORDS" "[I") .int) (List.mem_of_getElem? (i := 197) (by decide +kernel))) (va_eqt (hfl (.eq (.length (.static "ComboHouseModel" "WORDS" "[I")) (.int 74)) (List.mem_of_getElem? (i := 198) (by decide +kernel)))) (fun j hj => va_eqt (hfl _ (tbi_w0 j hj))) hAn
  have hZw := va_Zof (hts0 (.laysStatic "ComboHouseModel" "WORDS" "[I") (List.mem_of_getElem? (i := 1889) (by decide +kernel))) (hts0 (.initialized "ComboHouseModel") (List.mem_of_getElem? (i := 219) (by decide +kernel))) htw hAn
  obtain ⟨sa_80, -, -, -, hs0, -⟩ := Cond.exactly_spec (hfl (.exactly (.string "ComboHouse" 80) "java/lang/String") (List.mem_of_getElem? (i := 396) (by decide +kernel)))
  have hst0 : vk_R RX11 80 "1 to 8 bytes are fed" sa_80 s := vk_R.of (hts0 (.stringRef RX11 80 "1 to 8 bytes are fed") (List.mem_of_getElem? (i := 1244) (by decide +kernel))) hs0
  obtain ⟨sa_91, -, -, -, hs1, -⟩ := Cond.exactly_spec (hfl (.exactly (.string "ComboHouse" 91) "java/lang/String") (List.mem_of_getElem? (i := 420) (by decide +kernel)))
  have hst1 : vk_R RX11 91 "the tape is full" sa_91 s := vk_R.of (hts0 (.stringRef RX11 91 "the tape is full") (List.mem_of_getElem? (i := 1279) (by decide +kernel))) hs1
  obtain ⟨sa_117, -, -, -, hs2, -⟩ := Cond.exactly_spec (hfl (.exactly (.string "ComboHouse" 117) "java/lang/String") (List.mem_of_getElem? (i := 441) (by decide +kernel)))
  have hst2 : vk_R RX11 117 "steps and cells are 1 or more" sa_117 s := vk_R.of (hts0 (.stringRef RX11 117 "steps and cells are 1 or more") (List.mem_of_getElem? (i := 1294) (by decide +kernel))) hs2
  obtain ⟨sa_122, -, -, -, hs3, -⟩ := Cond.exactly_spec (hfl (.exactly (.string "ComboHouse" 122) "java/lang/String") (List.mem_of_getElem? (i := 476) (by decide +kernel)))
  have hst3 : vk_R RX11 122 "there is no program" sa_122 s := vk_R.of (hts0 (.stringRef RX11 122 "there is no program") (List.mem_of_getElem? (i := 1295) (by decide +kernel))) hs3
  obtain ⟨sa_207, -, -, -, hs4, -⟩ := Cond.exactly_spec (hfl (.exactly (.string "ComboHouse" 207) "java/lang/String") (List.mem_of_getElem? (i := 502) (by decide +kernel)))
  have hst4 : vk_R RX11 207 "no such node or no such question" sa_207 s := vk_R.of (hts0 (.stringRef RX11 207 "no such node or no such question") (List.mem_of_getElem? (i := 1629) (by decide +kernel))) hs4
  obtain ⟨sa_225, -, -, -, hs5, -⟩ := Cond.exactly_spec (hfl (.exactly (.string "ComboHouse" 225) "java/lang/String") (List.mem_of_getElem? (i := 542) (by decide +kernel)))
  have hst5 : vk_R RX11 225 "no such node or word" sa_225 s := vk_R.of (hts0 (.stringRef RX11 225 "no such node or word") (List.mem_of_getElem? (i := 1643) (by decide +kernel))) hs5
  obtain ⟨sa_238, -, -, -, hs6, -⟩ := Cond.exactly_spec (hfl (.exactly (.string "ComboHouse" 238) "java/lang/String") (List.mem_of_getElem? (i := 571) (by decide +kernel)))
  have hst6 : vk_R RX11 238 "no such node" sa_238 s := vk_R.of (hts0 (.stringRef RX11 238 "no such node") (List.mem_of_getElem? (i := 1699) (by decide +kernel))) hs6
  obtain ⟨sa_279, -, -, -, hs7, -⟩ := Cond.exactly_spec (hfl (.exactly (.string "ComboHouse" 279) "java/lang/String") (List.mem_of_getElem? (i := 621) (by decide +kernel)))
  have hst7 : vk_R RX11 279 "no such byte" sa_279 s := vk_R.of (hts0 (.stringRef RX11 279 "no such byte") (List.mem_of_getElem? (i := 1860) (by decide +kernel))) hs7
  obtain ⟨sa_284, -, -, -, hs8, -⟩ := Cond.exactly_spec (hfl (.exactly (.string "ComboHouse" 284) "java/lang/String") (List.mem_of_getElem? (i := 646) (by decide +kernel)))
  have hst8 : vk_R RX11 284 "no such question" sa_284 s := vk_R.of (hts0 (.stringRef RX11 284 "no such question") (List.mem_of_getElem? (i := 1869) (by decide +kernel))) hs8
  obtain ⟨k300, -, -, -, hk30, -⟩ := Cond.exactly_spec (hfl (.exactly (.string "ComboHouse$Program" 126) "java/lang/String") (List.mem_of_getElem? (i := 593) (by decide +kernel)))
  have hsp0 : vk_R RX6 126 " = " k300 s := vk_R.of (hts0 (.stringRef RX6 126 " = ") (List.mem_of_getElem? (i := 1725) (by decide +kernel))) hk30
  have hO0 := va_Oof (A := fun q : Nat => s.heap.size ≤ q) (hfl (.exactly (.string "ComboHouse$Program" 126) "java/lang/String") (List.mem_of_getElem? (i := 593) (by decide +kernel))) hk30 hAn
  have hOc0 := vk_OFof (A := fun q : Nat => s.heap.size ≤ q) hk30 (va_eqt (hfl (.eq (.field (.string "ComboHouse$Program" 126) "java/lang/String" "coder" "B") (.int 0)) (List.mem_of_getElem? (i := 594) (by decide +kernel)))) hAn
  obtain ⟨v0, hv0, hTv0⟩ := va_Tof (tm := (.field (.string "ComboHouse$Program" 126) "java/lang/String" "value" "[B")) (ty := .byte) (N := 3) (f := fun j => .int (xsB 0 j)) (A := fun q : Nat => s.heap.size ≤ q) (by decide) (hfl (.arrayOf (.field (.string "ComboHouse$Program" 126) "java/lang/String" "value" "[B") .byte) (List.mem_of_getElem? (i := 595) (by decide +kernel))) (va_eqt (hfl (.eq (.length (.field (.string "ComboHouse$Program" 126) "java/lang/String" "value" "[B")) (.int 3)) (List.mem_of_getElem? (i := 596) (by decide +kernel)))) (fun j hj => va_eqt (hfl _ (tbi_s0 j hj))) hAn
  have hOv0 := vk_OFof (A := fun q : Nat => s.heap.size ≤ q) hk30 hv0 hAn
  obtain ⟨k301, -, -, -, hk31, -⟩ := Cond.exactly_spec (hfl (.exactly (.string "ComboHouse$Program" 152) "java/lang/String") (List.mem_of_getElem? (i := 607) (by decide +kernel)))
  have hsp1 : vk_R RX6 152 " n" k301 s := vk_R.of (hts0 (.stringRef RX6 152 " n") (List.mem_of_getElem? (i := 1786) (by decide +kernel))) hk31
  have hO1 := va_Oof (A := fun q : Nat => s.heap.size ≤ q) (hfl (.exactly (.string "ComboHouse$Program" 152) "java/lang/String") (List.mem_of_getElem? (i := 607) (by decide +kernel))) hk31 hAn
  have hOc1 := vk_OFof (A := fun q : Nat => s.heap.size ≤ q) hk31 (va_eqt (hfl (.eq (.field (.string "ComboHouse$Program" 152) "java/lang/String" "coder" "B") (.int 0)) (List.mem_of_getElem? (i := 608) (by decide +kernel)))) hAn
  obtain ⟨v1, hv1, hTv1⟩ := va_Tof (tm := (.field (.string "ComboHouse$Program" 152) "java/lang/String" "value" "[B")) (ty := .byte) (N := 2) (f := fun j => .int (xsB 1 j)) (A := fun q : Nat => s.heap.size ≤ q) (by decide) (hfl (.arrayOf (.field (.string "ComboHouse$Program" 152) "java/lang/String" "value" "[B") .byte) (List.mem_of_getElem? (i := 609) (by decide +kernel))) (va_eqt (hfl (.eq (.length (.field (.string "ComboHouse$Program" 152) "java/lang/String" "value" "[B")) (.int 2)) (List.mem_of_getElem? (i := 610) (by decide +kernel)))) (fun j hj => va_eqt (hfl _ (tbi_s1 j hj))) hAn
  have hOv1 := vk_OFof (A := fun q : Nat => s.heap.size ≤ q) hk31 hv1 hAn
  have hCS := va_Zof (A := fun q : Nat => s.heap.size ≤ q) (hts0 (.laysStatic "java/lang/String" "COMPACT_STRINGS" "Z") (List.mem_of_getElem? (i := 1739) (by decide +kernel))) (hts0 (.initialized "java/lang/String") (List.mem_of_getElem? (i := 229) (by decide +kernel))) (va_eqt (hfl (.eq (.static "java/lang/String" "COMPACT_STRINGS" "Z") (.int 1)) (List.mem_of_getElem? (i := 191) (by decide +kernel)))) hAn
  have hSI := va_Zqof (A := fun q : Nat => s.heap.size ≤ q) (hts0 (.laysStatic "jdk/internal/util/Preconditions" "SIOOBE_FORMATTER" "Ljava/util/function/BiFunction;") (List.mem_of_getElem? (i := 1755) (by decide +kernel))) (hts0 (.initialized "jdk/internal/util/Preconditions") (List.mem_of_getElem? (i := 231) (by decide +kernel))) (hfl (.isRef (.static "jdk/internal/util/Preconditions" "SIOOBE_FORMATTER" "Ljava/util/function/BiFunction;")) (List.mem_of_getElem? (i := 192) (by decide +kernel))) hAn
  have hUS := vx_Zqof (A := fun q : Nat => s.heap.size ≤ q) (hts0 (.laysStatic Bundle.tN "UNASSIGNED_STACK" "[Ljava/lang/StackTraceElement;") (List.mem_of_getElem? (i := 1230) (by decide +kernel))) (hts0 (.initialized Bundle.tN) (List.mem_of_getElem? (i := 220) (by decide +kernel))) (hfl (.isRef (.static Bundle.tN "UNASSIGNED_STACK" "[Ljava/lang/StackTraceElement;")) (List.mem_of_getElem? (i := 111) (by decide +kernel))) hAn
  have hNS := vx_Zqof (A := fun q : Nat => s.heap.size ≤ q) (hts0 (.laysStatic Bundle.tN "SUPPRESSED_SENTINEL" "Ljava/util/List;") (List.mem_of_getElem? (i := 1232) (by decide +kernel))) (hts0 (.initialized Bundle.tN) (List.mem_of_getElem? (i := 220) (by decide +kernel))) (hfl (.isRef (.static Bundle.tN "SUPPRESSED_SENTINEL" "Ljava/util/List;")) (List.mem_of_getElem? (i := 112) (by decide +kernel))) hAn
  have hfac : lw_F (L, xs) (fun q : Nat => s.heap.size ≤ q) (fun k => if k = 200 then t200 else if k = 201 then t201 else if k = 202 then t202 else if k = 203 then t203 else if k = 204 then t204 else if k = 205 then t205 else if k = 206 then t206 else if k = 207 then t207 else if k = 208 then b else if k = 300 then k300 else k301) (fun k => if k = 80 then sa_80 else if k = 91 then sa_91 else if k = 117 then sa_117 else if k = 122 then sa_122 else if k = 207 then sa_207 else if k = 225 then sa_225 else if k = 238 then sa_238 else if k = 279 then sa_279 else if k = 284 then sa_284 else 0) (fun k => if k = 0 then v0 else v1) s := by
    refine ⟨⟨fun a q h => ?_, fun a q h => ?_, fun a q h => ?_⟩, ⟨(va_Nw.of rfl (hts0 (.castable "java/lang/IllegalArgumentException" "java/lang/IllegalArgumentException") (List.mem_of_getElem? (i := 1205) (by decide +kernel)))), (va_Nw.of rfl (hts0 (.castable "java/lang/IllegalStateException" "java/lang/IllegalStateException") (List.mem_of_getElem? (i := 1272) (by decide +kernel)))), (va_Nw.of rfl (hts0 (.castable "java/util/NoSuchElementException" "java/util/NoSuchElementException") (List.mem_of_getElem? (i := 1622) (by decide +kernel)))), (va_Nw.of rfl (hts0 (.declares (Bundle.initS "java/lang/RuntimeException")) (List.mem_of_getElem? (i := 1207) (by decide +kernel)))), (va_Nw.of rfl (hts0 (.declares (Bundle.initS "java/lang/Exception")) (List.mem_of_getElem? (i := 1209) (by decide +kernel)))), (va_Nw.of rfl (hts0 (.declares (Bundle.initS Bundle.tN)) (List.mem_of_getElem? (i := 1211) (by decide +kernel)))), hst0, hst1, hst2, hst3, hst4, hst5, hst6, hst7, hst8, (va_Nc.of (hfl (.not (.castable "java/lang/IllegalStateException" "java/lang/IllegalArgumentException")) (List.mem_of_getElem? (i := 364) (by decide +kernel)))), hUS, hNS⟩, ⟨fun i hi => ?_, hCS, hSI⟩, hsp0, hsp1⟩
    · unfold xt_tS at h
      by_cases e : a = 208
      · rw [if_pos e] at h
        cases h
        subst e
        obtain ⟨scr, h1, h2, h3, h4, h5⟩ := hX
        exact ⟨scr, h1, h2, h3, Nat.le_of_eq h4.symm, by rw [h4], h5, hAn b hbl⟩
      · rw [if_neg e] at h
        obtain ⟨l, hl, hx⟩ := xm_find_of h
        cases hl
        simp only [List.mem_cons, List.not_mem_nil, or_false, Prod.mk.injEq] at hx
        rcases hx with ⟨rfl, rfl⟩ | ⟨rfl, rfl⟩ | ⟨rfl, rfl⟩ | ⟨rfl, rfl⟩ | ⟨rfl, rfl⟩ | ⟨rfl, rfl⟩ | ⟨rfl, rfl⟩
        · exact hT200
        · exact hT201
        · exact hT202
        · exact hT203
        · exact hT205
        · exact hT206
        · exact hT207
    · obtain ⟨l, hl, hx⟩ := xm_find_of h
      cases hl
      simp only [List.mem_cons, List.not_mem_nil, or_false, Prod.mk.injEq] at hx
      obtain ⟨rfl, rfl⟩ := hx
      exact hT204
    · obtain ⟨l, hl, hx⟩ := xm_find_of h
      cases hl
      simp only [List.mem_cons, List.not_mem_nil, or_false, Prod.mk.injEq] at hx
      rcases hx with ⟨rfl, rfl⟩ | ⟨rfl, rfl⟩ | ⟨rfl, rfl⟩ | ⟨rfl, rfl⟩ | ⟨rfl, rfl⟩ | ⟨rfl, rfl⟩ | ⟨rfl, rfl⟩ | ⟨rfl, rfl⟩
      · exact hZ200
      · exact hZ201
      · exact hZ202
      · exact hZ203
      · exact hZ204
      · exact hZ205
      · exact hZ206
      · exact hZ207
    · rcases (by omega : i = 0 ∨ i = 1) with rfl | rfl
      · exact ⟨hO0, hOc0, hOv0, hTv0⟩
      · exact ⟨hO1, hOc1, hOv1, hTv1⟩
  exact ⟨dC, dI, tw, _, _, _, ⟨hKc, fun k q h => by simp at h⟩, hZw, hTw, hfac, rfl⟩
