set_option maxRecDepth 100000 in
theorem tb_run : (((flatC (Jvm.Cond.and given_1 narrow_1)).drop 199).take 74) = (List.range 74).map (fun j => Cond.eq (.elem (.static "ComboHouseModel" "WORDS" "[I") (.int (Int32.ofNat j))) (.int (tb_WORDS j))) := by decide +kernel
theorem tb_in (j : Nat) (hj : j < 74) : Cond.eq (.elem (.static "ComboHouseModel" "WORDS" "[I") (.int (Int32.ofNat j))) (.int (tb_WORDS j)) ∈ flatC (Jvm.Cond.and given_1 narrow_1) := by
  have h : Cond.eq (.elem (.static "ComboHouseModel" "WORDS" "[I") (.int (Int32.ofNat j))) (.int (tb_WORDS j)) ∈ (List.range 74).map (fun j => Cond.eq (.elem (.static "ComboHouseModel" "WORDS" "[I") (.int (Int32.ofNat j))) (.int (tb_WORDS j))) := List.mem_map.mpr ⟨j, List.mem_range.mpr hj, rfl⟩
  rw [← tb_run] at h
  exact List.mem_of_mem_drop (List.mem_of_mem_take h)
set_option maxHeartbeats 4000000 in
set_option maxRecDepth 100000 in
theorem whole_start {p : Program} {e : Env} {s : State} {m : MethodId} {below : List Frame} {meth : Method} {c : Code} (l : Launch) (hlt : l.stackTraces = false) {b L : Nat} {xs : Nat → Int32} (hL : L ≤ 4) (C0 : lw_At p s m meth c b L xs) : W p l e room_1 s m #[Value.ref b] below meth c s.heap [] 0 0 (lw_Z below #[Value.ref b] s) (entryFrame m ([Value.ref b] : List Value).toArray 8) := by
  obtain ⟨hx, hb, hr, hml, hown, hts0, hX, hbl, hlocks, hgv⟩ := id C0
  have hts := hts0
  have hfl := flat_of_before _ hgv
  have hAn : ∀ a : Nat, a < s.heap.size → ¬ (fun q : Nat => s.heap.size ≤ q) a := fun a h => Nat.not_le.mpr h
  obtain ⟨c0, i0, hk0⟩ := u_known (C := RX0) (T := TX0) (N := 10) (n := 10) hts in_X0 (hts0 (.instantiable RX0 10) (List.mem_of_getElem? (i := 347) (by decide +kernel)))
  obtain ⟨c1, i1, hk1⟩ := u_known (C := RX1) (T := TX1) (N := 8) (n := 8) hts in_X1 (hts0 (.instantiable RX1 8) (List.mem_of_getElem? (i := 277) (by decide +kernel)))
  obtain ⟨c2, i2, hk2⟩ := u_known (C := RX2) (T := TX2) (N := 10) (n := 10) hts in_X2 (hts0 (.instantiable RX2 10) (List.mem_of_getElem? (i := 396) (by decide +kernel)))
  obtain ⟨c3, i3, hk3⟩ := u_known (C := RX3) (T := TX3) (N := 6) (n := 6) hts in_X3 (hts0 (.instantiable RX3 6) (List.mem_of_getElem? (i := 516) (by decide +kernel)))
  obtain ⟨c4, i4, hk4⟩ := u_known (C := RX4) (T := TX4) (N := 17) (n := 17) hts in_X4 (hts0 (.instantiable RX4 17) (List.mem_of_getElem? (i := 390) (by decide +kernel)))
  obtain ⟨c5, i5, hk5⟩ := u_known (C := RX5) (T := TX5) (N := 10) (n := 10) hts in_X5 (hts0 (.instantiable RX5 10) (List.mem_of_getElem? (i := 271) (by decide +kernel)))
  obtain ⟨c6, i6, hk6⟩ := u_known (C := RX6) (T := TX6) (N := 16) (n := 16) hts in_X6 (hts0 (.instantiable RX6 16) (List.mem_of_getElem? (i := 600) (by decide +kernel)))
  obtain ⟨c7, i7, hk7⟩ := u_known (C := RX7) (T := TX7) (N := 7) (n := 7) hts in_X7 (hts0 (.instantiable RX7 7) (List.mem_of_getElem? (i := 488) (by decide +kernel)))
  obtain ⟨c8, i8, hk8⟩ := u_known (C := RX8) (T := TX8) (N := 4) (n := 4) hts in_X8 (hts0 (.instantiable RX8 4) (List.mem_of_getElem? (i := 242) (by decide +kernel)))
  obtain ⟨c9, i9, hk9⟩ := u_known (C := RX9) (T := TX9) (N := 17) (n := 17) hts in_X9 (hts0 (.instantiable RX9 17) (List.mem_of_getElem? (i := 541) (by decide +kernel)))
  obtain ⟨c10, i10, hk10⟩ := u_known (C := RX10) (T := TX10) (N := 12) (n := 12) hts in_X10 (hts0 (.instantiable RX10 12) (List.mem_of_getElem? (i := 608) (by decide +kernel)))
  obtain ⟨c11, i11, hk11⟩ := u_known (C := RX11) (T := TX11) (N := 17) (n := 17) hts in_X11 (hts0 (.instantiable RX11 17) (List.mem_of_getElem? (i := 234) (by decide +kernel)))
  obtain ⟨c12, i12, hk12⟩ := u_known (C := RX12) (T := TX12) (N := 94) (n := 94) hts in_X12 (hts0 (.instantiable RX12 94) (List.mem_of_getElem? (i := 1880) (by decide +kernel)))
  obtain ⟨dC, dI, hKc⟩ : ∃ (dC : Nat → ClassId) (dI : Nat → Nat → Nat), ∀ (k : Nat) (q : vw_C), vwCl[k]? = some q → u_Kn s q.1 q.2.1 q.2.2 (dC k) (dI k) := by
    refine ⟨fun k => ([c0, c1, c2, c3, c4, c5, c6, c7, c8, c9, c10, c11, c12] : List ClassId).getD k c0, fun k => ([i0, i1, i2, i3, i4, i5, i6, i7, i8, i9, i10, i11, i12] : List (Nat → Nat)).getD k i0, ?_⟩
    intro k q hq
    match k, hq with
    | 0, hq => cases hq; exact hk0
    | 1, hq => cases hq; exact hk1
    | 2, hq => cases hq; exact hk2
    | 3, hq => cases hq; exact hk3
    | 4, hq => cases hq; exact hk4
    | 5, hq => cases hq; exact hk5
    | 6, hq => cases hq; exact hk6
    | 7, hq => cases hq; exact hk7
    | 8, hq => cases hq; exact hk8
    | 9, hq => cases hq; exact hk9
    | 10, hq => cases hq; exact hk10
    | 11, hq => cases hq; exact hk11
    | 12, hq => cases hq; exact hk12
    | k + 13, hq => simp [vwCl] at hq
  obtain ⟨tw, htw, hT0⟩ := va_Tof (tm := .static "ComboHouseModel" "WORDS" "[I") (ty := .int) (N := 74) (f := fun j => .int (tb_WORDS j)) (A := fun q : Nat => s.heap.size ≤ q) (by decide) (hfl (.arrayOf (.static "ComboHouseModel" "WORDS" "[I") .int) (List.mem_of_getElem? (i := 197) (by decide +kernel))) (va_eqt (hfl (.eq (.length (.static "ComboHouseModel" "WORDS" "[I")) (.int 74)) (List.mem_of_getElem? (i := 198) (by decide +kernel)))) (fun j hj => va_eqt (hfl _ (tb_in j hj))) hAn
  have hZ0 := va_Zof (hts0 (.laysStatic "ComboHouseModel" "WORDS" "[I") (List.mem_of_getElem? (i := 1889) (by decide +kernel))) (hts0 (.initialized "ComboHouseModel") (List.mem_of_getElem? (i := 219) (by decide +kernel))) htw hAn
  obtain ⟨sa_80, -, -, -, hs0, -⟩ := Cond.exactly_spec (hfl (.exactly (.string "ComboHouse" 80) "java/lang/String") (List.mem_of_getElem? (i := 396) (by decide +kernel)))
  have hst0 : vk_R RX11 80 "1 to 8 bytes are fed" sa_80 s := vk_R.of (hts0 (.stringRef RX11 80 "1 to 8 bytes are fed") (List.mem_of_getElem? (i := 1244) (by decide +kernel))) hs0
  obtain ⟨sa_91, -, -, -, hs1, -⟩ := Cond.exactly_spec (hfl (.exactly (.string "ComboHouse" 91) "java/lang/String") (List.mem_of_getElem? (i := 420) (by decide +kernel)))
  have hst1 : vk_R RX11 91 "the tape is full" sa_91 s := vk_R.of (hts0 (.stringRef RX11 91 "the tape is full") (List.mem_of_getElem? (i := 1279) (by decide +kernel))) hs1
  obtain ⟨sa_117, -, -, -, hs2, -⟩ := Cond.exactly_spec (hfl (.exactly (.string "ComboHouse" 117) "java/lang/String") (List.mem_of_getElem? (i := 441) (by decide +kernel)))
  have hst2 : vk_R RX11 117 "steps and cells are 1 or more" sa_117 s := vk_R.of (hts0 (.stringRef RX11 117 "steps and cells are 1 or more") (List.mem_of_getElem? (i := 1294) (by decide +kernel))) hs2
  obtain ⟨sa_122, -, -, -, hs3, -⟩ := Cond.exactly_spec (hfl (.exactly (.string "ComboHouse" 122) "java/lang/String") (List.mem_of_getElem? (i := 476) (by decide +kernel)))
  have hst3 : vk_R RX11 122 "there is no program" sa_122 s := vk_R.of (hts0 (.stringRef RX11 122 "there is no program") (List.mem_of_getElem? (i := 1295) (by decide +kernel))) hs3
  obtain ⟨sa_207, -, -, -, hs4, -⟩ := Cond.exactly_spec (hfl (.exactly (.string "ComboHouse" 207) "java/lang/String") (List.mem_of_getElem? (i := 502) (by decide +kernel)))
  have hst4 : vk_R RX11 207 "no such node or no such question" sa_207 s := vk_R.of (hts0 (.stringRef RX11 207 "no such node or no such question") (List.mem_of_getElem? (i := 1629) (by decide +kernel))) hs4
  obtain ⟨sa_225, -, -, -, hs5, -⟩ := Cond.exactly_spec (hfl (.exactly (.string "ComboHouse" 225) "java/lang/String") (List.mem_of_getElem? (i := 542) (by decide +kernel)))
  have hst5 : vk_R RX11 225 "no such node or word" sa_225 s := vk_R.of (hts0 (.stringRef RX11 225 "no such node or word") (List.mem_of_getElem? (i := 1643) (by decide +kernel))) hs5
  obtain ⟨sa_238, -, -, -, hs6, -⟩ := Cond.exactly_spec (hfl (.exactly (.string "ComboHouse" 238) "java/lang/String") (List.mem_of_getElem? (i := 571) (by decide +kernel)))
  have hst6 : vk_R RX11 238 "no such node" sa_238 s := vk_R.of (hts0 (.stringRef RX11 238 "no such node") (List.mem_of_getElem? (i := 1699) (by decide +kernel))) hs6
  obtain ⟨sa_279, -, -, -, hs7, -⟩ := Cond.exactly_spec (hfl (.exactly (.string "ComboHouse" 279) "java/lang/String") (List.mem_of_getElem? (i := 621) (by decide +kernel)))
  have hst7 : vk_R RX11 279 "no such byte" sa_279 s := vk_R.of (hts0 (.stringRef RX11 279 "no such byte") (List.mem_of_getElem? (i := 1860) (by decide +kernel))) hs7
  obtain ⟨sa_284, -, -, -, hs8, -⟩ := Cond.exactly_spec (hfl (.exactly (.string "ComboHouse" 284) "java/lang/String") (List.mem_of_getElem? (i := 646) (by decide +kernel)))
  have hst8 : vk_R RX11 284 "no such question" sa_284 s := vk_R.of (hts0 (.stringRef RX11 284 "no such question") (List.mem_of_getElem? (i := 1869) (by decide +kernel))) hs8
  have hUS := vx_Zqof (A := fun q : Nat => s.heap.size ≤ q) (hts0 (.laysStatic Bundle.tN "UNASSIGNED_STACK" "[Ljava/lang/StackTraceElement;") (List.mem_of_getElem? (i := 1230) (by decide +kernel))) (hts0 (.initialized Bundle.tN) (List.mem_of_getElem? (i := 220) (by decide +kernel))) (hfl (.isRef (.static Bundle.tN "UNASSIGNED_STACK" "[Ljava/lang/StackTraceElement;")) (List.mem_of_getElem? (i := 111) (by decide +kernel))) hAn
  have hNS := vx_Zqof (A := fun q : Nat => s.heap.size ≤ q) (hts0 (.laysStatic Bundle.tN "SUPPRESSED_SENTINEL" "Ljava/util/List;") (List.mem_of_getElem? (i := 1232) (by decide +kernel))) (hts0 (.initialized Bundle.tN) (List.mem_of_getElem? (i := 220) (by decide +kernel))) (hfl (.isRef (.static Bundle.tN "SUPPRESSED_SENTINEL" "Ljava/util/List;")) (List.mem_of_getElem? (i := 112) (by decide +kernel))) hAn
  exact whole_start0 l hlt hL C0 (fun q : Nat => s.heap.size ≤ q) (fun _ h => h) (fun _ h => h) dC dI ⟨hKc, fun k q h => by simp at h⟩ (va_Nw.of rfl (hts0 (.methodLinkNest RX11 9 yX8_init "ComboHouse") (List.mem_of_getElem? (i := 243) (by decide +kernel)))) (va_Nw.of rfl (hts0 (.methodLinkNest RX11 24 yX5_init "ComboHouse") (List.mem_of_getElem? (i := 272) (by decide +kernel)))) (va_Nw.of rfl (hts0 (.methodLinkNest RX11 31 yX0_init "ComboHouse") (List.mem_of_getElem? (i := 348) (by decide +kernel)))) (va_Nw.of rfl (hts0 (.methodLinkNest RX4 11 yX2_init "ComboHouse") (List.mem_of_getElem? (i := 397) (by decide +kernel)))) (va_Nw.of rfl (hts0 (.methodLinkNest RX11 47 yX7_init "ComboHouse") (List.mem_of_getElem? (i := 489) (by decide +kernel)))) (va_Nw.of rfl (hts0 (.methodLinkNest RX11 70 yX6_init "ComboHouse") (List.mem_of_getElem? (i := 601) (by decide +kernel)))) (va_Nw.of rfl (hts0 (.methodLinkNest RX6 47 yX8_init "ComboHouse") (List.mem_of_getElem? (i := 606) (by decide +kernel)))) (va_Nw.of rfl (hts0 (.methodLinkNest RX6 54 yX10_init "ComboHouse") (List.mem_of_getElem? (i := 609) (by decide +kernel)))) tw hZ0 hT0 (va_Nw.of rfl (hts0 (.castable "java/lang/IllegalArgumentException" "java/lang/IllegalArgumentException") (List.mem_of_getElem? (i := 1205) (by decide +kernel)))) (va_Nw.of rfl (hts0 (.castable "java/lang/IllegalStateException" "java/lang/IllegalStateException") (List.mem_of_getElem? (i := 1272) (by decide +kernel)))) (va_Nw.of rfl (hts0 (.castable "java/util/NoSuchElementException" "java/util/NoSuchElementException") (List.mem_of_getElem? (i := 1622) (by decide +kernel)))) (va_Nw.of rfl (hts0 (.declares (Bundle.initS "java/lang/RuntimeException")) (List.mem_of_getElem? (i := 1207) (by decide +kernel)))) (va_Nw.of rfl (hts0 (.declares (Bundle.initS "java/lang/Exception")) (List.mem_of_getElem? (i := 1209) (by decide +kernel)))) (va_Nw.of rfl (hts0 (.declares (Bundle.initS Bundle.tN)) (List.mem_of_getElem? (i := 1211) (by decide +kernel)))) sa_80 hst0 sa_91 hst1 sa_117 hst2 sa_122 hst3 sa_207 hst4 sa_225 hst5 sa_238 hst6 sa_279 hst7 sa_284 hst8 hUS hNS (va_Nc.of (hfl (.not (.castable "java/lang/IllegalStateException" "java/lang/IllegalArgumentException")) (List.mem_of_getElem? (i := 364) (by decide +kernel))))
