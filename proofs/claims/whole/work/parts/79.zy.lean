/-! ===== throws of the class (by program) ===== -/
def xv_V0 : List Cond := [.classLink RX11 78 "java/lang/IllegalArgumentException", .initialized "java/lang/IllegalArgumentException", .classLink RX11 89 "java/lang/IllegalStateException", .initialized "java/lang/IllegalStateException", .classLink RX11 205 "java/util/NoSuchElementException", .initialized "java/util/NoSuchElementException"]
def xv_V : List Cond := xv_V0 ++ ((vx_atS RX11 82 "java/lang/IllegalArgumentException" ["java/lang/RuntimeException", "java/lang/Exception"]).filter goodWord ++ ((vx_atS RX11 93 "java/lang/IllegalStateException" ["java/lang/RuntimeException", "java/lang/Exception"]).filter goodWord ++ vy_nse.filter goodWord))
def xv_TF (sa : Nat → Nat) (A : Nat → Prop) (s : State) : Prop := va_Nw (.castable "java/lang/IllegalArgumentException" "java/lang/IllegalArgumentException") s ∧ va_Nw (.castable "java/lang/IllegalStateException" "java/lang/IllegalStateException") s ∧ va_Nw (.castable "java/util/NoSuchElementException" "java/util/NoSuchElementException") s ∧ va_Nw (.declares (Bundle.initS "java/lang/RuntimeException")) s ∧ va_Nw (.declares (Bundle.initS "java/lang/Exception")) s ∧ va_Nw (.declares (Bundle.initS Bundle.tN)) s ∧ vk_R RX11 80 "1 to 8 bytes are fed" (sa 80) s ∧ vk_R RX11 91 "the tape is full" (sa 91) s ∧ vk_R RX11 117 "steps and cells are 1 or more" (sa 117) s ∧ vk_R RX11 122 "there is no program" (sa 122) s ∧ vk_R RX11 207 "no such node or no such question" (sa 207) s ∧ vk_R RX11 225 "no such node or word" (sa 225) s ∧ vk_R RX11 238 "no such node" (sa 238) s ∧ vk_R RX11 279 "no such byte" (sa 279) s ∧ vk_R RX11 284 "no such question" (sa 284) s ∧ va_Nc "java/lang/IllegalStateException" "java/lang/IllegalArgumentException" s ∧ vx_Zq Bundle.tN "UNASSIGNED_STACK" Bundle.steD A s s.heap ∧ vx_Zq Bundle.tN "SUPPRESSED_SENTINEL" Bundle.listD A s s.heap
def tw_X11_feed : Nat → Option String := fun pc => if pc = 11 then some "java/lang/IllegalArgumentException" else if pc = 36 then some "java/lang/IllegalStateException" else none
set_option maxRecDepth 100000 in
set_option maxHeartbeats 1000000 in
theorem thr_X11_feed {sc : xm_Sc} {l : Launch} (hlt : l.stackTraces = false) (sa : Nat → Nat) (d : Nat) : xm_thr (XE sc) l xv_V (xv_TF sa) d 179 tw_X11_feed := by
  intro p e s m args below meth c Qc XC A H locs ls pc X hx hb hsize hown hall hTF hlocks hno hS htw hXC
  obtain ⟨hca0, hca1, hca2, hde0, hde1, hde2, hs80, hs91, hs117, hs122, hs207, hs225, hs238, hs279, hs284, hnc, hUS, hNS⟩ := hTF
  have hown : s.vm.findClass RX11 = some m.cls := hown
  have hb : c.code = cX11_feed := hb
  have hV : ∀ w ∈ xv_V, w.before args s = true := fun w h => hall w (List.mem_cons_of_mem _ (List.mem_append_right _ h))
  unfold tw_X11_feed at htw
  split at htw
  · rename_i hpc
    subst hpc
    cases htw
    have hat : ∀ w ∈ vx_atS RX11 82 "java/lang/IllegalArgumentException" ["java/lang/RuntimeException", "java/lang/Exception"], w.before args s = true := vx_hat (fun w h => hV w (List.mem_append_right _ (List.mem_append_left _ h))) (B := [.castable "java/lang/IllegalArgumentException" "java/lang/IllegalArgumentException", .declares (Bundle.initS "java/lang/RuntimeException"), .declares (Bundle.initS "java/lang/Exception"), .declares (Bundle.initS Bundle.tN)]) (by decide +kernel) (vx_c (va_Nw.use rfl hca0) (vx_c (va_Nw.use rfl hde0) (vx_c (va_Nw.use rfl hde1) (vx_c (va_Nw.use rfl hde2) vx_n))))
    exact vx_throwS (R := xm_rmX d) (rest := []) hx hb hlt hown (cls := "java/lang/IllegalArgumentException") (names := ["java/lang/RuntimeException", "java/lang/Exception"]) (ik := 78) (is := 80) (ic := 82) (by decide +kernel) (by decide +kernel) (hV (.classLink RX11 78 "java/lang/IllegalArgumentException") (List.mem_append_left _ (by decide +kernel))) (hV (.initialized "java/lang/IllegalArgumentException") (List.mem_append_left _ (by decide +kernel))) hs80 hat (by decide +kernel) hUS hNS hS hsize (by decide +kernel : decode cX11_feed 11 = .ok (.new 78, 3)) (by decide +kernel : decode cX11_feed 14 = .ok (.dup, 1)) (by decide +kernel : decode cX11_feed 15 = .ok (.ldc 80, 2)) (by decide +kernel : decode cX11_feed 17 = .ok (.invokespecial 82, 3)) (by decide +kernel : decode cX11_feed 20 = .ok (.athrow, 1)) (fun x hx9 => (hno x hx9).elim) (by show 2 + 3 < d + 6; omega) (by show 0 + 82 ≤ 100 * (d + 2); omega) (Nat.le_refl 1) (Nat.le_refl 6) hlocks hXC (fun q hq => hS.2.2 q hq) (Nat.le_refl 1) (Nat.le_refl 6)
  · skip
    split at htw
    · rename_i hpc
      subst hpc
      cases htw
      have hat : ∀ w ∈ vx_atS RX11 93 "java/lang/IllegalStateException" ["java/lang/RuntimeException", "java/lang/Exception"], w.before args s = true := vx_hat (fun w h => hV w (List.mem_append_right _ (List.mem_append_right _ (List.mem_append_left _ h)))) (B := [.castable "java/lang/IllegalStateException" "java/lang/IllegalStateException", .declares (Bundle.initS "java/lang/RuntimeException"), .declares (Bundle.initS "java/lang/Exception"), .declares (Bundle.initS Bundle.tN)]) (by decide +kernel) (vx_c (va_Nw.use rfl hca1) (vx_c (va_Nw.use rfl hde0) (vx_c (va_Nw.use rfl hde1) (vx_c (va_Nw.use rfl hde2) vx_n))))
      exact vx_throwS (R := xm_rmX d) (rest := []) hx hb hlt hown (cls := "java/lang/IllegalStateException") (names := ["java/lang/RuntimeException", "java/lang/Exception"]) (ik := 89) (is := 91) (ic := 93) (by decide +kernel) (by decide +kernel) (hV (.classLink RX11 89 "java/lang/IllegalStateException") (List.mem_append_left _ (by decide +kernel))) (hV (.initialized "java/lang/IllegalStateException") (List.mem_append_left _ (by decide +kernel))) hs91 hat (by decide +kernel) hUS hNS hS hsize (by decide +kernel : decode cX11_feed 36 = .ok (.new 89, 3)) (by decide +kernel : decode cX11_feed 39 = .ok (.dup, 1)) (by decide +kernel : decode cX11_feed 40 = .ok (.ldc 91, 2)) (by decide +kernel : decode cX11_feed 42 = .ok (.invokespecial 93, 3)) (by decide +kernel : decode cX11_feed 45 = .ok (.athrow, 1)) (fun x hx9 => (hno x hx9).elim) (by show 2 + 3 < d + 6; omega) (by show 0 + 82 ≤ 100 * (d + 2); omega) (Nat.le_refl 1) (Nat.le_refl 6) hlocks hXC (fun q hq => hS.2.2 q hq) (Nat.le_refl 1) (Nat.le_refl 6)
    · cases htw
def tw_X11_look : Nat → Option String := fun pc => if pc = 10 then some "java/lang/IllegalArgumentException" else none
set_option maxRecDepth 100000 in
set_option maxHeartbeats 1000000 in
theorem thr_X11_look {sc : xm_Sc} {l : Launch} (hlt : l.stackTraces = false) (sa : Nat → Nat) (d : Nat) : xm_thr (XE sc) l xv_V (xv_TF sa) d 182 tw_X11_look := by
  intro p e s m args below meth c Qc XC A H locs ls pc X hx hb hsize hown hall hTF hlocks hno hS htw hXC
  obtain ⟨hca0, hca1, hca2, hde0, hde1, hde2, hs80, hs91, hs117, hs122, hs207, hs225, hs238, hs279, hs284, hnc, hUS, hNS⟩ := hTF
  have hown : s.vm.findClass RX11 = some m.cls := hown
  have hb : c.code = cX11_look := hb
  have hV : ∀ w ∈ xv_V, w.before args s = true := fun w h => hall w (List.mem_cons_of_mem _ (List.mem_append_right _ h))
  unfold tw_X11_look at htw
  split at htw
  · rename_i hpc
    subst hpc
    cases htw
    have hat : ∀ w ∈ vx_atS RX11 82 "java/lang/IllegalArgumentException" ["java/lang/RuntimeException", "java/lang/Exception"], w.before args s = true := vx_hat (fun w h => hV w (List.mem_append_right _ (List.mem_append_left _ h))) (B := [.castable "java/lang/IllegalArgumentException" "java/lang/IllegalArgumentException", .declares (Bundle.initS "java/lang/RuntimeException"), .declares (Bundle.initS "java/lang/Exception"), .declares (Bundle.initS Bundle.tN)]) (by decide +kernel) (vx_c (va_Nw.use rfl hca0) (vx_c (va_Nw.use rfl hde0) (vx_c (va_Nw.use rfl hde1) (vx_c (va_Nw.use rfl hde2) vx_n))))
    exact vx_throwSW (R := xm_rmX d) (rest := []) hx hb hlt hown (cls := "java/lang/IllegalArgumentException") (names := ["java/lang/RuntimeException", "java/lang/Exception"]) (ik := 78) (is := 284) (ic := 82) (by decide +kernel) (by decide +kernel) (hV (.classLink RX11 78 "java/lang/IllegalArgumentException") (List.mem_append_left _ (by decide +kernel))) (hV (.initialized "java/lang/IllegalArgumentException") (List.mem_append_left _ (by decide +kernel))) hs284 hat (by decide +kernel) hUS hNS hS hsize (by decide +kernel : decode cX11_look 10 = .ok (.new 78, 3)) (by decide +kernel : decode cX11_look 13 = .ok (.dup, 1)) (by decide +kernel : decode cX11_look 14 = .ok (.ldc_w 284, 3)) (by decide +kernel : decode cX11_look 17 = .ok (.invokespecial 82, 3)) (by decide +kernel : decode cX11_look 20 = .ok (.athrow, 1)) (fun x hx9 => (hno x hx9).elim) (by show 2 + 3 < d + 6; omega) (by show 0 + 82 ≤ 100 * (d + 2); omega) (Nat.le_refl 1) (Nat.le_refl 6) hlocks hXC (fun q hq => hS.2.2 q hq) (Nat.le_refl 1) (Nat.le_refl 6)
  · cases htw
def tw_X11_node : Nat → Option String := fun pc => if pc = 18 then some "java/util/NoSuchElementException" else none
set_option maxRecDepth 100000 in
set_option maxHeartbeats 1000000 in
theorem thr_X11_node {sc : xm_Sc} {l : Launch} (hlt : l.stackTraces = false) (sa : Nat → Nat) (d : Nat) : xm_thr (XE sc) l xv_V (xv_TF sa) d 184 tw_X11_node := by
  intro p e s m args below meth c Qc XC A H locs ls pc X hx hb hsize hown hall hTF hlocks hno hS htw hXC
  obtain ⟨hca0, hca1, hca2, hde0, hde1, hde2, hs80, hs91, hs117, hs122, hs207, hs225, hs238, hs279, hs284, hnc, hUS, hNS⟩ := hTF
  have hown : s.vm.findClass RX11 = some m.cls := hown
  have hb : c.code = cX11_node := hb
  have hV : ∀ w ∈ xv_V, w.before args s = true := fun w h => hall w (List.mem_cons_of_mem _ (List.mem_append_right _ h))
  unfold tw_X11_node at htw
  split at htw
  · rename_i hpc
    subst hpc
    cases htw
    have hat : ∀ w ∈ vy_at RX11 209 "java/util/NoSuchElementException" 13 vy_rx ["java/lang/RuntimeException", "java/lang/Exception"], w.before args s = true := vx_hat (fun w h => hV w (List.mem_append_right _ (List.mem_append_right _ (List.mem_append_right _ h)))) (B := [.castable "java/util/NoSuchElementException" "java/util/NoSuchElementException", .declares (Bundle.initS "java/lang/RuntimeException"), .declares (Bundle.initS "java/lang/Exception"), .declares (Bundle.initS Bundle.tN)]) (by decide +kernel) (vx_c (va_Nw.use rfl hca2) (vx_c (va_Nw.use rfl hde0) (vx_c (va_Nw.use rfl hde1) (vx_c (va_Nw.use rfl hde2) vx_n))))
    exact vy_throwS (R := xm_rmX d) (rest := []) hx hb hlt (ix := 13) (rx := vy_rx) vy_rx0 vy_rx1 vy_rx2 vy_rx5 hown (cls := "java/util/NoSuchElementException") (names := ["java/lang/RuntimeException", "java/lang/Exception"]) (ik := 205) (is := 207) (ic := 209) (by decide +kernel) (by decide +kernel) (hV (.classLink RX11 205 "java/util/NoSuchElementException") (List.mem_append_left _ (by decide +kernel))) (hV (.initialized "java/util/NoSuchElementException") (List.mem_append_left _ (by decide +kernel))) hs207 hat (by decide +kernel) hUS hNS hS hsize (by decide +kernel : decode cX11_node 18 = .ok (.new 205, 3)) (by decide +kernel : decode cX11_node 21 = .ok (.dup, 1)) (by decide +kernel : decode cX11_node 22 = .ok (.ldc 207, 2)) (by decide +kernel : decode cX11_node 24 = .ok (.invokespecial 209, 3)) (by decide +kernel : decode cX11_node 27 = .ok (.athrow, 1)) (fun x hx9 => (hno x hx9).elim) (by show 2 + 3 < d + 6; omega) (by show 0 + 82 ≤ 100 * (d + 2); omega) (Nat.le_refl 1) (Nat.le_refl 6) hlocks hXC (fun q hq => hS.2.2 q hq) (Nat.le_refl 1) (Nat.le_refl 6)
  · cases htw
def tw_X11_out : Nat → Option String := fun pc => if pc = 15 then some "java/util/NoSuchElementException" else none
set_option maxRecDepth 100000 in
set_option maxHeartbeats 1000000 in
theorem thr_X11_out {sc : xm_Sc} {l : Launch} (hlt : l.stackTraces = false) (sa : Nat → Nat) (d : Nat) : xm_thr (XE sc) l xv_V (xv_TF sa) d 185 tw_X11_out := by
  intro p e s m args below meth c Qc XC A H locs ls pc X hx hb hsize hown hall hTF hlocks hno hS htw hXC
  obtain ⟨hca0, hca1, hca2, hde0, hde1, hde2, hs80, hs91, hs117, hs122, hs207, hs225, hs238, hs279, hs284, hnc, hUS, hNS⟩ := hTF
  have hown : s.vm.findClass RX11 = some m.cls := hown
  have hb : c.code = cX11_out := hb
  have hV : ∀ w ∈ xv_V, w.before args s = true := fun w h => hall w (List.mem_cons_of_mem _ (List.mem_append_right _ h))
  unfold tw_X11_out at htw
  split at htw
  · rename_i hpc
    subst hpc
    cases htw
    have hat : ∀ w ∈ vy_at RX11 209 "java/util/NoSuchElementException" 13 vy_rx ["java/lang/RuntimeException", "java/lang/Exception"], w.before args s = true := vx_hat (fun w h => hV w (List.mem_append_right _ (List.mem_append_right _ (List.mem_append_right _ h)))) (B := [.castable "java/util/NoSuchElementException" "java/util/NoSuchElementException", .declares (Bundle.initS "java/lang/RuntimeException"), .declares (Bundle.initS "java/lang/Exception"), .declares (Bundle.initS Bundle.tN)]) (by decide +kernel) (vx_c (va_Nw.use rfl hca2) (vx_c (va_Nw.use rfl hde0) (vx_c (va_Nw.use rfl hde1) (vx_c (va_Nw.use rfl hde2) vx_n))))
    exact vy_throwSW (R := xm_rmX d) (rest := []) hx hb hlt (ix := 13) (rx := vy_rx) vy_rx0 vy_rx1 vy_rx2 vy_rx5 hown (cls := "java/util/NoSuchElementException") (names := ["java/lang/RuntimeException", "java/lang/Exception"]) (ik := 205) (is := 279) (ic := 209) (by decide +kernel) (by decide +kernel) (hV (.classLink RX11 205 "java/util/NoSuchElementException") (List.mem_append_left _ (by decide +kernel))) (hV (.initialized "java/util/NoSuchElementException") (List.mem_append_left _ (by decide +kernel))) hs279 hat (by decide +kernel) hUS hNS hS hsize (by decide +kernel : decode cX11_out 15 = .ok (.new 205, 3)) (by decide +kernel : decode cX11_out 18 = .ok (.dup, 1)) (by decide +kernel : decode cX11_out 19 = .ok (.ldc_w 279, 3)) (by decide +kernel : decode cX11_out 22 = .ok (.invokespecial 209, 3)) (by decide +kernel : decode cX11_out 25 = .ok (.athrow, 1)) (fun x hx9 => (hno x hx9).elim) (by show 2 + 3 < d + 6; omega) (by show 0 + 82 ≤ 100 * (d + 2); omega) (Nat.le_refl 1) (Nat.le_refl 6) hlocks hXC (fun q hq => hS.2.2 q hq) (Nat.le_refl 1) (Nat.le_refl 6)
  · cases htw
def tw_X11_root : Nat → Option String := fun pc => if pc = 18 then some "java/util/NoSuchElementException" else none
set_option maxRecDepth 100000 in
set_option maxHeartbeats 1000000 in
theorem thr_X11_root {sc : xm_Sc} {l : Launch} (hlt : l.stackTraces = false) (sa : Nat → Nat) (d : Nat) : xm_thr (XE sc) l xv_V (xv_TF sa) d 187 tw_X11_root := by
  intro p e s m args below meth c Qc XC A H locs ls pc X hx hb hsize hown hall hTF hlocks hno hS htw hXC
  obtain ⟨hca0, hca1, hca2, hde0, hde1, hde2, hs80, hs91, hs117, hs122, hs207, hs225, hs238, hs279, hs284, hnc, hUS, hNS⟩ := hTF
  have hown : s.vm.findClass RX11 = some m.cls := hown
  have hb : c.code = cX11_root := hb
  have hV : ∀ w ∈ xv_V, w.before args s = true := fun w h => hall w (List.mem_cons_of_mem _ (List.mem_append_right _ h))
  unfold tw_X11_root at htw
  split at htw
  · rename_i hpc
    subst hpc
    cases htw
    have hat : ∀ w ∈ vy_at RX11 209 "java/util/NoSuchElementException" 13 vy_rx ["java/lang/RuntimeException", "java/lang/Exception"], w.before args s = true := vx_hat (fun w h => hV w (List.mem_append_right _ (List.mem_append_right _ (List.mem_append_right _ h)))) (B := [.castable "java/util/NoSuchElementException" "java/util/NoSuchElementException", .declares (Bundle.initS "java/lang/RuntimeException"), .declares (Bundle.initS "java/lang/Exception"), .declares (Bundle.initS Bundle.tN)]) (by decide +kernel) (vx_c (va_Nw.use rfl hca2) (vx_c (va_Nw.use rfl hde0) (vx_c (va_Nw.use rfl hde1) (vx_c (va_Nw.use rfl hde2) vx_n))))
    exact vy_throwS (R := xm_rmX d) (rest := []) hx hb hlt (ix := 13) (rx := vy_rx) vy_rx0 vy_rx1 vy_rx2 vy_rx5 hown (cls := "java/util/NoSuchElementException") (names := ["java/lang/RuntimeException", "java/lang/Exception"]) (ik := 205) (is := 225) (ic := 209) (by decide +kernel) (by decide +kernel) (hV (.classLink RX11 205 "java/util/NoSuchElementException") (List.mem_append_left _ (by decide +kernel))) (hV (.initialized "java/util/NoSuchElementException") (List.mem_append_left _ (by decide +kernel))) hs225 hat (by decide +kernel) hUS hNS hS hsize (by decide +kernel : decode cX11_root 18 = .ok (.new 205, 3)) (by decide +kernel : decode cX11_root 21 = .ok (.dup, 1)) (by decide +kernel : decode cX11_root 22 = .ok (.ldc 225, 2)) (by decide +kernel : decode cX11_root 24 = .ok (.invokespecial 209, 3)) (by decide +kernel : decode cX11_root 27 = .ok (.athrow, 1)) (fun x hx9 => (hno x hx9).elim) (by show 2 + 3 < d + 6; omega) (by show 0 + 82 ≤ 100 * (d + 2); omega) (Nat.le_refl 1) (Nat.le_refl 6) hlocks hXC (fun q hq => hS.2.2 q hq) (Nat.le_refl 1) (Nat.le_refl 6)
  · cases htw
def tw_X11_run : Nat → Option String := fun pc => if pc = 10 then some "java/lang/IllegalArgumentException" else if pc = 30 then some "java/lang/IllegalStateException" else none
set_option maxRecDepth 100000 in
set_option maxHeartbeats 1000000 in
theorem thr_X11_run {sc : xm_Sc} {l : Launch} (hlt : l.stackTraces = false) (sa : Nat → Nat) (d : Nat) : xm_thr (XE sc) l xv_V (xv_TF sa) d 188 tw_X11_run := by
  intro p e s m args below meth c Qc XC A H locs ls pc X hx hb hsize hown hall hTF hlocks hno hS htw hXC
  obtain ⟨hca0, hca1, hca2, hde0, hde1, hde2, hs80, hs91, hs117, hs122, hs207, hs225, hs238, hs279, hs284, hnc, hUS, hNS⟩ := hTF
  have hown : s.vm.findClass RX11 = some m.cls := hown
  have hb : c.code = cX11_run := hb
  have hV : ∀ w ∈ xv_V, w.before args s = true := fun w h => hall w (List.mem_cons_of_mem _ (List.mem_append_right _ h))
  unfold tw_X11_run at htw
  split at htw
  · rename_i hpc
    subst hpc
    cases htw
    have hat : ∀ w ∈ vx_atS RX11 82 "java/lang/IllegalArgumentException" ["java/lang/RuntimeException", "java/lang/Exception"], w.before args s = true := vx_hat (fun w h => hV w (List.mem_append_right _ (List.mem_append_left _ h))) (B := [.castable "java/lang/IllegalArgumentException" "java/lang/IllegalArgumentException", .declares (Bundle.initS "java/lang/RuntimeException"), .declares (Bundle.initS "java/lang/Exception"), .declares (Bundle.initS Bundle.tN)]) (by decide +kernel) (vx_c (va_Nw.use rfl hca0) (vx_c (va_Nw.use rfl hde0) (vx_c (va_Nw.use rfl hde1) (vx_c (va_Nw.use rfl hde2) vx_n))))
    exact vx_throwS (R := xm_rmX d) (rest := []) hx hb hlt hown (cls := "java/lang/IllegalArgumentException") (names := ["java/lang/RuntimeException", "java/lang/Exception"]) (ik := 78) (is := 117) (ic := 82) (by decide +kernel) (by decide +kernel) (hV (.classLink RX11 78 "java/lang/IllegalArgumentException") (List.mem_append_left _ (by decide +kernel))) (hV (.initialized "java/lang/IllegalArgumentException") (List.mem_append_left _ (by decide +kernel))) hs117 hat (by decide +kernel) hUS hNS hS hsize (by decide +kernel : decode cX11_run 10 = .ok (.new 78, 3)) (by decide +kernel : decode cX11_run 13 = .ok (.dup, 1)) (by decide +kernel : decode cX11_run 14 = .ok (.ldc 117, 2)) (by decide +kernel : decode cX11_run 16 = .ok (.invokespecial 82, 3)) (by decide +kernel : decode cX11_run 19 = .ok (.athrow, 1)) (fun x hx9 => (hno x hx9).elim) (by show 2 + 3 < d + 6; omega) (by show 0 + 82 ≤ 100 * (d + 2); omega) (Nat.le_refl 1) (Nat.le_refl 6) hlocks hXC (fun q hq => hS.2.2 q hq) (Nat.le_refl 1) (Nat.le_refl 6)
  · skip
    split at htw
    · rename_i hpc
      subst hpc
      cases htw
      have hat : ∀ w ∈ vx_atS RX11 93 "java/lang/IllegalStateException" ["java/lang/RuntimeException", "java/lang/Exception"], w.before args s = true := vx_hat (fun w h => hV w (List.mem_append_right _ (List.mem_append_right _ (List.mem_append_left _ h)))) (B := [.castable "java/lang/IllegalStateException" "java/lang/IllegalStateException", .declares (Bundle.initS "java/lang/RuntimeException"), .declares (Bundle.initS "java/lang/Exception"), .declares (Bundle.initS Bundle.tN)]) (by decide +kernel) (vx_c (va_Nw.use rfl hca1) (vx_c (va_Nw.use rfl hde0) (vx_c (va_Nw.use rfl hde1) (vx_c (va_Nw.use rfl hde2) vx_n))))
      exact vx_throwS (R := xm_rmX d) (rest := []) hx hb hlt hown (cls := "java/lang/IllegalStateException") (names := ["java/lang/RuntimeException", "java/lang/Exception"]) (ik := 89) (is := 122) (ic := 93) (by decide +kernel) (by decide +kernel) (hV (.classLink RX11 89 "java/lang/IllegalStateException") (List.mem_append_left _ (by decide +kernel))) (hV (.initialized "java/lang/IllegalStateException") (List.mem_append_left _ (by decide +kernel))) hs122 hat (by decide +kernel) hUS hNS hS hsize (by decide +kernel : decode cX11_run 30 = .ok (.new 89, 3)) (by decide +kernel : decode cX11_run 33 = .ok (.dup, 1)) (by decide +kernel : decode cX11_run 34 = .ok (.ldc 122, 2)) (by decide +kernel : decode cX11_run 36 = .ok (.invokespecial 93, 3)) (by decide +kernel : decode cX11_run 39 = .ok (.athrow, 1)) (fun x hx9 => (hno x hx9).elim) (by show 2 + 3 < d + 6; omega) (by show 0 + 82 ≤ 100 * (d + 2); omega) (Nat.le_refl 1) (Nat.le_refl 6) hlocks hXC (fun q hq => hS.2.2 q hq) (Nat.le_refl 1) (Nat.le_refl 6)
    · cases htw
def tw_X11_speak : Nat → Option String := fun pc => if pc = 10 then some "java/lang/IllegalStateException" else none
set_option maxRecDepth 100000 in
set_option maxHeartbeats 1000000 in
theorem thr_X11_speak {sc : xm_Sc} {l : Launch} (hlt : l.stackTraces = false) (sa : Nat → Nat) (d : Nat) : xm_thr (XE sc) l xv_V (xv_TF sa) d 190 tw_X11_speak := by
  intro p e s m args below meth c Qc XC A H locs ls pc X hx hb hsize hown hall hTF hlocks hno hS htw hXC
  obtain ⟨hca0, hca1, hca2, hde0, hde1, hde2, hs80, hs91, hs117, hs122, hs207, hs225, hs238, hs279, hs284, hnc, hUS, hNS⟩ := hTF
  have hown : s.vm.findClass RX11 = some m.cls := hown
  have hb : c.code = cX11_speak := hb
  have hV : ∀ w ∈ xv_V, w.before args s = true := fun w h => hall w (List.mem_cons_of_mem _ (List.mem_append_right _ h))
  unfold tw_X11_speak at htw
  split at htw
  · rename_i hpc
    subst hpc
    cases htw
    have hat : ∀ w ∈ vx_atS RX11 93 "java/lang/IllegalStateException" ["java/lang/RuntimeException", "java/lang/Exception"], w.before args s = true := vx_hat (fun w h => hV w (List.mem_append_right _ (List.mem_append_right _ (List.mem_append_left _ h)))) (B := [.castable "java/lang/IllegalStateException" "java/lang/IllegalStateException", .declares (Bundle.initS "java/lang/RuntimeException"), .declares (Bundle.initS "java/lang/Exception"), .declares (Bundle.initS Bundle.tN)]) (by decide +kernel) (vx_c (va_Nw.use rfl hca1) (vx_c (va_Nw.use rfl hde0) (vx_c (va_Nw.use rfl hde1) (vx_c (va_Nw.use rfl hde2) vx_n))))
    exact vx_throwS (R := xm_rmX d) (rest := []) hx hb hlt hown (cls := "java/lang/IllegalStateException") (names := ["java/lang/RuntimeException", "java/lang/Exception"]) (ik := 89) (is := 122) (ic := 93) (by decide +kernel) (by decide +kernel) (hV (.classLink RX11 89 "java/lang/IllegalStateException") (List.mem_append_left _ (by decide +kernel))) (hV (.initialized "java/lang/IllegalStateException") (List.mem_append_left _ (by decide +kernel))) hs122 hat (by decide +kernel) hUS hNS hS hsize (by decide +kernel : decode cX11_speak 10 = .ok (.new 89, 3)) (by decide +kernel : decode cX11_speak 13 = .ok (.dup, 1)) (by decide +kernel : decode cX11_speak 14 = .ok (.ldc 122, 2)) (by decide +kernel : decode cX11_speak 16 = .ok (.invokespecial 93, 3)) (by decide +kernel : decode cX11_speak 19 = .ok (.athrow, 1)) (fun x hx9 => (hno x hx9).elim) (by show 2 + 3 < d + 6; omega) (by show 0 + 82 ≤ 100 * (d + 2); omega) (Nat.le_refl 1) (Nat.le_refl 6) hlocks hXC (fun q hq => hS.2.2 q hq) (Nat.le_refl 1) (Nat.le_refl 6)
  · cases htw
def tw_X11_type : Nat → Option String := fun pc => if pc = 8 then some "java/util/NoSuchElementException" else none
set_option maxRecDepth 100000 in
set_option maxHeartbeats 1000000 in
theorem thr_X11_type {sc : xm_Sc} {l : Launch} (hlt : l.stackTraces = false) (sa : Nat → Nat) (d : Nat) : xm_thr (XE sc) l xv_V (xv_TF sa) d 193 tw_X11_type := by
  intro p e s m args below meth c Qc XC A H locs ls pc X hx hb hsize hown hall hTF hlocks hno hS htw hXC
  obtain ⟨hca0, hca1, hca2, hde0, hde1, hde2, hs80, hs91, hs117, hs122, hs207, hs225, hs238, hs279, hs284, hnc, hUS, hNS⟩ := hTF
  have hown : s.vm.findClass RX11 = some m.cls := hown
  have hb : c.code = cX11_type := hb
  have hV : ∀ w ∈ xv_V, w.before args s = true := fun w h => hall w (List.mem_cons_of_mem _ (List.mem_append_right _ h))
  unfold tw_X11_type at htw
  split at htw
  · rename_i hpc
    subst hpc
    cases htw
    have hat : ∀ w ∈ vy_at RX11 209 "java/util/NoSuchElementException" 13 vy_rx ["java/lang/RuntimeException", "java/lang/Exception"], w.before args s = true := vx_hat (fun w h => hV w (List.mem_append_right _ (List.mem_append_right _ (List.mem_append_right _ h)))) (B := [.castable "java/util/NoSuchElementException" "java/util/NoSuchElementException", .declares (Bundle.initS "java/lang/RuntimeException"), .declares (Bundle.initS "java/lang/Exception"), .declares (Bundle.initS Bundle.tN)]) (by decide +kernel) (vx_c (va_Nw.use rfl hca2) (vx_c (va_Nw.use rfl hde0) (vx_c (va_Nw.use rfl hde1) (vx_c (va_Nw.use rfl hde2) vx_n))))
    exact vy_throwS (R := xm_rmX d) (rest := []) hx hb hlt (ix := 13) (rx := vy_rx) vy_rx0 vy_rx1 vy_rx2 vy_rx5 hown (cls := "java/util/NoSuchElementException") (names := ["java/lang/RuntimeException", "java/lang/Exception"]) (ik := 205) (is := 238) (ic := 209) (by decide +kernel) (by decide +kernel) (hV (.classLink RX11 205 "java/util/NoSuchElementException") (List.mem_append_left _ (by decide +kernel))) (hV (.initialized "java/util/NoSuchElementException") (List.mem_append_left _ (by decide +kernel))) hs238 hat (by decide +kernel) hUS hNS hS hsize (by decide +kernel : decode cX11_type 8 = .ok (.new 205, 3)) (by decide +kernel : decode cX11_type 11 = .ok (.dup, 1)) (by decide +kernel : decode cX11_type 12 = .ok (.ldc 238, 2)) (by decide +kernel : decode cX11_type 14 = .ok (.invokespecial 209, 3)) (by decide +kernel : decode cX11_type 17 = .ok (.athrow, 1)) (fun x hx9 => (hno x hx9).elim) (by show 2 + 3 < d + 6; omega) (by show 0 + 82 ≤ 100 * (d + 2); omega) (Nat.le_refl 1) (Nat.le_refl 6) hlocks hXC (fun q hq => hS.2.2 q hq) (Nat.le_refl 1) (Nat.le_refl 6)
  · cases htw
def tw_X11_typeRoot : Nat → Option String := fun pc => if pc = 18 then some "java/util/NoSuchElementException" else none
set_option maxRecDepth 100000 in
set_option maxHeartbeats 1000000 in
theorem thr_X11_typeRoot {sc : xm_Sc} {l : Launch} (hlt : l.stackTraces = false) (sa : Nat → Nat) (d : Nat) : xm_thr (XE sc) l xv_V (xv_TF sa) d 194 tw_X11_typeRoot := by
  intro p e s m args below meth c Qc XC A H locs ls pc X hx hb hsize hown hall hTF hlocks hno hS htw hXC
  obtain ⟨hca0, hca1, hca2, hde0, hde1, hde2, hs80, hs91, hs117, hs122, hs207, hs225, hs238, hs279, hs284, hnc, hUS, hNS⟩ := hTF
  have hown : s.vm.findClass RX11 = some m.cls := hown
  have hb : c.code = cX11_typeRoot := hb
  have hV : ∀ w ∈ xv_V, w.before args s = true := fun w h => hall w (List.mem_cons_of_mem _ (List.mem_append_right _ h))
  unfold tw_X11_typeRoot at htw
  split at htw
  · rename_i hpc
    subst hpc
    cases htw
    have hat : ∀ w ∈ vy_at RX11 209 "java/util/NoSuchElementException" 13 vy_rx ["java/lang/RuntimeException", "java/lang/Exception"], w.before args s = true := vx_hat (fun w h => hV w (List.mem_append_right _ (List.mem_append_right _ (List.mem_append_right _ h)))) (B := [.castable "java/util/NoSuchElementException" "java/util/NoSuchElementException", .declares (Bundle.initS "java/lang/RuntimeException"), .declares (Bundle.initS "java/lang/Exception"), .declares (Bundle.initS Bundle.tN)]) (by decide +kernel) (vx_c (va_Nw.use rfl hca2) (vx_c (va_Nw.use rfl hde0) (vx_c (va_Nw.use rfl hde1) (vx_c (va_Nw.use rfl hde2) vx_n))))
    exact vy_throwS (R := xm_rmX d) (rest := []) hx hb hlt (ix := 13) (rx := vy_rx) vy_rx0 vy_rx1 vy_rx2 vy_rx5 hown (cls := "java/util/NoSuchElementException") (names := ["java/lang/RuntimeException", "java/lang/Exception"]) (ik := 205) (is := 225) (ic := 209) (by decide +kernel) (by decide +kernel) (hV (.classLink RX11 205 "java/util/NoSuchElementException") (List.mem_append_left _ (by decide +kernel))) (hV (.initialized "java/util/NoSuchElementException") (List.mem_append_left _ (by decide +kernel))) hs225 hat (by decide +kernel) hUS hNS hS hsize (by decide +kernel : decode cX11_typeRoot 18 = .ok (.new 205, 3)) (by decide +kernel : decode cX11_typeRoot 21 = .ok (.dup, 1)) (by decide +kernel : decode cX11_typeRoot 22 = .ok (.ldc 225, 2)) (by decide +kernel : decode cX11_typeRoot 24 = .ok (.invokespecial 209, 3)) (by decide +kernel : decode cX11_typeRoot 27 = .ok (.athrow, 1)) (fun x hx9 => (hno x hx9).elim) (by show 2 + 3 < d + 6; omega) (by show 0 + 82 ≤ 100 * (d + 2); omega) (Nat.le_refl 1) (Nat.le_refl 6) hlocks hXC (fun q hq => hS.2.2 q hq) (Nat.le_refl 1) (Nat.le_refl 6)
  · cases htw
def tw_X11_value : Nat → Option String := fun pc => if pc = 8 then some "java/util/NoSuchElementException" else none
set_option maxRecDepth 100000 in
set_option maxHeartbeats 1000000 in
theorem thr_X11_value {sc : xm_Sc} {l : Launch} (hlt : l.stackTraces = false) (sa : Nat → Nat) (d : Nat) : xm_thr (XE sc) l xv_V (xv_TF sa) d 195 tw_X11_value := by
  intro p e s m args below meth c Qc XC A H locs ls pc X hx hb hsize hown hall hTF hlocks hno hS htw hXC
  obtain ⟨hca0, hca1, hca2, hde0, hde1, hde2, hs80, hs91, hs117, hs122, hs207, hs225, hs238, hs279, hs284, hnc, hUS, hNS⟩ := hTF
  have hown : s.vm.findClass RX11 = some m.cls := hown
  have hb : c.code = cX11_value := hb
  have hV : ∀ w ∈ xv_V, w.before args s = true := fun w h => hall w (List.mem_cons_of_mem _ (List.mem_append_right _ h))
  unfold tw_X11_value at htw
  split at htw
  · rename_i hpc
    subst hpc
    cases htw
    have hat : ∀ w ∈ vy_at RX11 209 "java/util/NoSuchElementException" 13 vy_rx ["java/lang/RuntimeException", "java/lang/Exception"], w.before args s = true := vx_hat (fun w h => hV w (List.mem_append_right _ (List.mem_append_right _ (List.mem_append_right _ h)))) (B := [.castable "java/util/NoSuchElementException" "java/util/NoSuchElementException", .declares (Bundle.initS "java/lang/RuntimeException"), .declares (Bundle.initS "java/lang/Exception"), .declares (Bundle.initS Bundle.tN)]) (by decide +kernel) (vx_c (va_Nw.use rfl hca2) (vx_c (va_Nw.use rfl hde0) (vx_c (va_Nw.use rfl hde1) (vx_c (va_Nw.use rfl hde2) vx_n))))
    exact vy_throwS (R := xm_rmX d) (rest := []) hx hb hlt (ix := 13) (rx := vy_rx) vy_rx0 vy_rx1 vy_rx2 vy_rx5 hown (cls := "java/util/NoSuchElementException") (names := ["java/lang/RuntimeException", "java/lang/Exception"]) (ik := 205) (is := 238) (ic := 209) (by decide +kernel) (by decide +kernel) (hV (.classLink RX11 205 "java/util/NoSuchElementException") (List.mem_append_left _ (by decide +kernel))) (hV (.initialized "java/util/NoSuchElementException") (List.mem_append_left _ (by decide +kernel))) hs238 hat (by decide +kernel) hUS hNS hS hsize (by decide +kernel : decode cX11_value 8 = .ok (.new 205, 3)) (by decide +kernel : decode cX11_value 11 = .ok (.dup, 1)) (by decide +kernel : decode cX11_value 12 = .ok (.ldc 238, 2)) (by decide +kernel : decode cX11_value 14 = .ok (.invokespecial 209, 3)) (by decide +kernel : decode cX11_value 17 = .ok (.athrow, 1)) (fun x hx9 => (hno x hx9).elim) (by show 2 + 3 < d + 6; omega) (by show 0 + 82 ≤ 100 * (d + 2); omega) (Nat.le_refl 1) (Nat.le_refl 6) hlocks hXC (fun q hq => hS.2.2 q hq) (Nat.le_refl 1) (Nat.le_refl 6)
  · cases htw
def tw_X11_worth : Nat → Option String := fun pc => if pc = 8 then some "java/util/NoSuchElementException" else none
set_option maxRecDepth 100000 in
set_option maxHeartbeats 1000000 in
theorem thr_X11_worth {sc : xm_Sc} {l : Launch} (hlt : l.stackTraces = false) (sa : Nat → Nat) (d : Nat) : xm_thr (XE sc) l xv_V (xv_TF sa) d 198 tw_X11_worth := by
  intro p e s m args below meth c Qc XC A H locs ls pc X hx hb hsize hown hall hTF hlocks hno hS htw hXC
  obtain ⟨hca0, hca1, hca2, hde0, hde1, hde2, hs80, hs91, hs117, hs122, hs207, hs225, hs238, hs279, hs284, hnc, hUS, hNS⟩ := hTF
  have hown : s.vm.findClass RX11 = some m.cls := hown
  have hb : c.code = cX11_worth := hb
  have hV : ∀ w ∈ xv_V, w.before args s = true := fun w h => hall w (List.mem_cons_of_mem _ (List.mem_append_right _ h))
  unfold tw_X11_worth at htw
  split at htw
  · rename_i hpc
    subst hpc
    cases htw
    have hat : ∀ w ∈ vy_at RX11 209 "java/util/NoSuchElementException" 13 vy_rx ["java/lang/RuntimeException", "java/lang/Exception"], w.before args s = true := vx_hat (fun w h => hV w (List.mem_append_right _ (List.mem_append_right _ (List.mem_append_right _ h)))) (B := [.castable "java/util/NoSuchElementException" "java/util/NoSuchElementException", .declares (Bundle.initS "java/lang/RuntimeException"), .declares (Bundle.initS "java/lang/Exception"), .declares (Bundle.initS Bundle.tN)]) (by decide +kernel) (vx_c (va_Nw.use rfl hca2) (vx_c (va_Nw.use rfl hde0) (vx_c (va_Nw.use rfl hde1) (vx_c (va_Nw.use rfl hde2) vx_n))))
    exact vy_throwS (R := xm_rmX d) (rest := []) hx hb hlt (ix := 13) (rx := vy_rx) vy_rx0 vy_rx1 vy_rx2 vy_rx5 hown (cls := "java/util/NoSuchElementException") (names := ["java/lang/RuntimeException", "java/lang/Exception"]) (ik := 205) (is := 238) (ic := 209) (by decide +kernel) (by decide +kernel) (hV (.classLink RX11 205 "java/util/NoSuchElementException") (List.mem_append_left _ (by decide +kernel))) (hV (.initialized "java/util/NoSuchElementException") (List.mem_append_left _ (by decide +kernel))) hs238 hat (by decide +kernel) hUS hNS hS hsize (by decide +kernel : decode cX11_worth 8 = .ok (.new 205, 3)) (by decide +kernel : decode cX11_worth 11 = .ok (.dup, 1)) (by decide +kernel : decode cX11_worth 12 = .ok (.ldc 238, 2)) (by decide +kernel : decode cX11_worth 14 = .ok (.invokespecial 209, 3)) (by decide +kernel : decode cX11_worth 17 = .ok (.athrow, 1)) (fun x hx9 => (hno x hx9).elim) (by show 2 + 3 < d + 6; omega) (by show 0 + 82 ≤ 100 * (d + 2); omega) (Nat.le_refl 1) (Nat.le_refl 6) hlocks hXC (fun q hq => hS.2.2 q hq) (Nat.le_refl 1) (Nat.le_refl 6)
  · cases htw
def tw_X11_write : Nat → Option String := fun pc => if pc = 10 then some "java/lang/IllegalStateException" else none
set_option maxRecDepth 100000 in
set_option maxHeartbeats 1000000 in
theorem thr_X11_write {sc : xm_Sc} {l : Launch} (hlt : l.stackTraces = false) (sa : Nat → Nat) (d : Nat) : xm_thr (XE sc) l xv_V (xv_TF sa) d 199 tw_X11_write := by
  intro p e s m args below meth c Qc XC A H locs ls pc X hx hb hsize hown hall hTF hlocks hno hS htw hXC
  obtain ⟨hca0, hca1, hca2, hde0, hde1, hde2, hs80, hs91, hs117, hs122, hs207, hs225, hs238, hs279, hs284, hnc, hUS, hNS⟩ := hTF
  have hown : s.vm.findClass RX11 = some m.cls := hown
  have hb : c.code = cX11_write := hb
  have hV : ∀ w ∈ xv_V, w.before args s = true := fun w h => hall w (List.mem_cons_of_mem _ (List.mem_append_right _ h))
  unfold tw_X11_write at htw
  split at htw
  · rename_i hpc
    subst hpc
    cases htw
    have hat : ∀ w ∈ vx_atS RX11 93 "java/lang/IllegalStateException" ["java/lang/RuntimeException", "java/lang/Exception"], w.before args s = true := vx_hat (fun w h => hV w (List.mem_append_right _ (List.mem_append_right _ (List.mem_append_left _ h)))) (B := [.castable "java/lang/IllegalStateException" "java/lang/IllegalStateException", .declares (Bundle.initS "java/lang/RuntimeException"), .declares (Bundle.initS "java/lang/Exception"), .declares (Bundle.initS Bundle.tN)]) (by decide +kernel) (vx_c (va_Nw.use rfl hca1) (vx_c (va_Nw.use rfl hde0) (vx_c (va_Nw.use rfl hde1) (vx_c (va_Nw.use rfl hde2) vx_n))))
    exact vx_throwS (R := xm_rmX d) (rest := []) hx hb hlt hown (cls := "java/lang/IllegalStateException") (names := ["java/lang/RuntimeException", "java/lang/Exception"]) (ik := 89) (is := 122) (ic := 93) (by decide +kernel) (by decide +kernel) (hV (.classLink RX11 89 "java/lang/IllegalStateException") (List.mem_append_left _ (by decide +kernel))) (hV (.initialized "java/lang/IllegalStateException") (List.mem_append_left _ (by decide +kernel))) hs122 hat (by decide +kernel) hUS hNS hS hsize (by decide +kernel : decode cX11_write 10 = .ok (.new 89, 3)) (by decide +kernel : decode cX11_write 13 = .ok (.dup, 1)) (by decide +kernel : decode cX11_write 14 = .ok (.ldc 122, 2)) (by decide +kernel : decode cX11_write 16 = .ok (.invokespecial 93, 3)) (by decide +kernel : decode cX11_write 19 = .ok (.athrow, 1)) (fun x hx9 => (hno x hx9).elim) (by show 2 + 3 < d + 6; omega) (by show 0 + 82 ≤ 100 * (d + 2); omega) (Nat.le_refl 1) (Nat.le_refl 6) hlocks hXC (fun q hq => hS.2.2 q hq) (Nat.le_refl 1) (Nat.le_refl 6)
  · cases htw
