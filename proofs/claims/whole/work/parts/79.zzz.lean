theorem tf_b {sa : Nat → Nat} : ∀ A U g mk a, xv_TF sa A U → xv_TF sa A (State.calling U g mk a) := by
  intro A U g mk a q
  obtain ⟨hca0, hca1, hca2, hde0, hde1, hde2, hs80, hs91, hs117, hs122, hs207, hs225, hs238, hs279, hs284, hnc, hUS, hNS⟩ := q
  exact ⟨va_Nw.same rfl rfl hca0, va_Nw.same rfl rfl hca1, va_Nw.same rfl rfl hca2, va_Nw.same rfl rfl hde0, va_Nw.same rfl rfl hde1, va_Nw.same rfl rfl hde2, vk_R.same rfl hs80, vk_R.same rfl hs91, vk_R.same rfl hs117, vk_R.same rfl hs122, vk_R.same rfl hs207, vk_R.same rfl hs225, vk_R.same rfl hs238, vk_R.same rfl hs279, vk_R.same rfl hs284, va_Nc.moved (u := U) (U := U.calling g mk a) (Vm.Alike.refl U.vm) hnc, vx_Zq.moved (u := U) (U := U.calling g mk a) (Vm.Alike.refl U.vm) hUS, vx_Zq.moved (u := U) (U := U.calling g mk a) (Vm.Alike.refl U.vm) hNS⟩
theorem tf_w {sa : Nat → Nat} : ∀ A B (u U : State), u.WarmedH U.vm → (∀ a : Nat, a < u.heap.size → ¬ A a → U.heap[a]? = u.heap[a]?) → (∀ q, B q → A q) → xv_TF sa A u → xv_TF sa B U := by
  intro A B u U hW hk hAB q
  obtain ⟨hca0, hca1, hca2, hde0, hde1, hde2, hs80, hs91, hs117, hs122, hs207, hs225, hs238, hs279, hs284, hnc, hUS, hNS⟩ := q
  exact ⟨va_Nw.warmC hW hca0, va_Nw.warmC hW hca1, va_Nw.warmC hW hca2, va_Nw.warmD hW hde0, va_Nw.warmD hW hde1, va_Nw.warmD hW hde2, vk_R.warm hW hs80, vk_R.warm hW hs91, vk_R.warm hW hs117, vk_R.warm hW hs122, vk_R.warm hW hs207, vk_R.warm hW hs225, vk_R.warm hW hs238, vk_R.warm hW hs279, vk_R.warm hW hs284, va_Nc.moved hW.alike hnc, ((hUS.moved hW.alike).kept hk).narrow hAB, ((hNS.moved hW.alike).kept hk).narrow hAB⟩
set_option maxRecDepth 100000 in
theorem xv_Vg : ∀ w ∈ xv_V, goodWord w = true := by decide +kernel
def hp_feed : String → Option (Nat × Nat) := fun X => if X = "java/lang/IllegalArgumentException" then some (16, 5) else if X = "java/lang/IllegalStateException" then some (20, 5) else none
def vh_feed : List Cond := [.classLink RL 13 "java/lang/IllegalArgumentException", .classLink RL 15 "java/lang/IllegalStateException"]
set_option maxRecDepth 100000 in
set_option maxHeartbeats 1000000 in
theorem ct_feed {sc : xm_Sc} {l : Launch} (sa : Nat → Nat) : xm_ctc (XE sc) l (xm_wsH (XE sc) xv_V vh_feed [(0, 11, 14, 13), (0, 11, 18, 15)] 333 179 7) (xv_TF sa) [(0, 11, 14, 13), (0, 11, 18, 15)] 333 6 hp_feed := by
  intro p e R s m args below meth c A H locs cells slots Q ls rest lvc X q k ce q9 hx hb hown hall hTF htab hpX hl hce hcv hcl kk
  obtain ⟨hca0, hca1, hca2, hde0, hde1, hde2, hs80, hs91, hs117, hs122, hs207, hs225, hs238, hs279, hs284, hnc, hUS, hNS⟩ := hTF
  have hown : s.vm.findClass RL = some m.cls := hown
  have hb : c.code = cL_feed := hb
  have hl : lv_has ls 6 lvc := hl
  have hVH : ∀ w ∈ vh_feed, w.before args s = true := fun w h => hall w (List.mem_cons_of_mem _ (List.mem_append_left _ h))
  unfold hp_feed at hpX
  split at hpX
  · rename_i hX
    subst hX
    cases hpX
    refine vx_catch (own := RL) (name := "java/lang/IllegalArgumentException") (E := "java/lang/IllegalArgumentException") hown [] ⟨0, 11, 14, 13⟩ [⟨0, 11, 18, 15⟩] (htab.trans rfl) (fun z h => nomatch h) (by decide) (by decide) (hVH (.classLink RL 13 "java/lang/IllegalArgumentException") (by decide +kernel)) (va_Nw.use rfl hca0) hce hcv hcl ?_
    exact lv_astore hx hb (by decide +kernel : decode cL_feed 14 = .ok (.astore 5, 2)) hl (by decide) rfl (fun ls2 hl2 => kk ls2 ⟨hl2.1, hl2.2.1, fun w hw => hl2.2.2 w (List.mem_cons_of_mem _ hw)⟩)
  · skip
    split at hpX
    · rename_i hX
      subst hX
      cases hpX
      refine vx_catch (own := RL) (name := "java/lang/IllegalStateException") (E := "java/lang/IllegalStateException") hown [⟨0, 11, 14, 13⟩] ⟨0, 11, 18, 15⟩ [] (htab.trans rfl) (fun z h => by obtain rfl := List.mem_singleton.mp h; exact Or.inr ⟨by decide, "java/lang/IllegalArgumentException", hVH (.classLink RL 13 "java/lang/IllegalArgumentException") (by decide +kernel), hnc⟩) (by decide) (by decide) (hVH (.classLink RL 15 "java/lang/IllegalStateException") (by decide +kernel)) (va_Nw.use rfl hca1) hce hcv hcl ?_
      exact lv_astore hx hb (by decide +kernel : decode cL_feed 18 = .ok (.astore 5, 2)) hl (by decide) rfl (fun ls2 hl2 => kk ls2 ⟨hl2.1, hl2.2.1, fun w hw => hl2.2.2 w (List.mem_cons_of_mem _ hw)⟩)
    · cases hpX
set_option maxRecDepth 100000 in
theorem yt_feed {sc : xm_Sc} : xm_YT (XE sc) 333 := xm_mk_yt xt_u0 xt_u3 xt_u4 xt_u6 rfl
set_option maxRecDepth 100000 in
theorem met_feed {sc : xm_Sc} {l : Launch} (hlt : l.stackTraces = false) (sa : Nat → Nat) {d : Nat} {as : List Value} {h : xm_H} {post : xm_Po} (hlen : (lg_sl as).length ≤ 6) (hrun : xm_goH (XE sc) d 333 179 6 tw_X11_feed hp_feed post 0 (lv_args 0 as) [] h) (D : va_G) (ad : Nat → Nat) (ks : Nat → ClassId) (sz : Nat) : Met l yL_feed (xm_wsH (XE sc) xv_V vh_feed [(0, 11, 14, 13), (0, 11, 18, 15)] 333 179 7) (xm_rmH d) (va_Pc (as.map (xm_v ad)) (fun U => xm_B (XE sc) D ad ks h sz U ∧ xv_TF sa (xm_A ad 164 sz) U)) (xm_Q (XE sc) D ad ks post sz) 1 6 (xm_A ad 164 sz) :=
  xm_metH (XE_ok sc) yt_feed (Nat.le_of_ble_eq_true rfl) (by decide : plainName RL = true) xv_Vg (thr_X11_feed hlt sa d) (ct_feed sa) tf_b tf_w (by decide +kernel : decode cL_feed 6 = .ok (.invokevirtual 7, 3)) rfl rfl hlen hrun D ad ks sz
def hp_run : String → Option (Nat × Nat) := fun X => if X = "java/lang/IllegalArgumentException" then some (17, 5) else if X = "java/lang/IllegalStateException" then some (21, 5) else none
def vh_run : List Cond := [.classLink RL 13 "java/lang/IllegalArgumentException", .classLink RL 15 "java/lang/IllegalStateException"]
set_option maxRecDepth 100000 in
set_option maxHeartbeats 1000000 in
theorem ct_run {sc : xm_Sc} {l : Launch} (sa : Nat → Nat) : xm_ctc (XE sc) l (xm_wsH (XE sc) xv_V vh_run [(0, 12, 15, 13), (0, 12, 19, 15)] 334 188 17) (xv_TF sa) [(0, 12, 15, 13), (0, 12, 19, 15)] 334 7 hp_run := by
  intro p e R s m args below meth c A H locs cells slots Q ls rest lvc X q k ce q9 hx hb hown hall hTF htab hpX hl hce hcv hcl kk
  obtain ⟨hca0, hca1, hca2, hde0, hde1, hde2, hs80, hs91, hs117, hs122, hs207, hs225, hs238, hs279, hs284, hnc, hUS, hNS⟩ := hTF
  have hown : s.vm.findClass RL = some m.cls := hown
  have hb : c.code = cL_run := hb
  have hl : lv_has ls 6 lvc := hl
  have hVH : ∀ w ∈ vh_run, w.before args s = true := fun w h => hall w (List.mem_cons_of_mem _ (List.mem_append_left _ h))
  unfold hp_run at hpX
  split at hpX
  · rename_i hX
    subst hX
    cases hpX
    refine vx_catch (own := RL) (name := "java/lang/IllegalArgumentException") (E := "java/lang/IllegalArgumentException") hown [] ⟨0, 12, 15, 13⟩ [⟨0, 12, 19, 15⟩] (htab.trans rfl) (fun z h => nomatch h) (by decide) (by decide) (hVH (.classLink RL 13 "java/lang/IllegalArgumentException") (by decide +kernel)) (va_Nw.use rfl hca0) hce hcv hcl ?_
    exact lv_astore hx hb (by decide +kernel : decode cL_run 15 = .ok (.astore 5, 2)) hl (by decide) rfl (fun ls2 hl2 => kk ls2 ⟨hl2.1, hl2.2.1, fun w hw => hl2.2.2 w (List.mem_cons_of_mem _ hw)⟩)
  · skip
    split at hpX
    · rename_i hX
      subst hX
      cases hpX
      refine vx_catch (own := RL) (name := "java/lang/IllegalStateException") (E := "java/lang/IllegalStateException") hown [⟨0, 12, 15, 13⟩] ⟨0, 12, 19, 15⟩ [] (htab.trans rfl) (fun z h => by obtain rfl := List.mem_singleton.mp h; exact Or.inr ⟨by decide, "java/lang/IllegalArgumentException", hVH (.classLink RL 13 "java/lang/IllegalArgumentException") (by decide +kernel), hnc⟩) (by decide) (by decide) (hVH (.classLink RL 15 "java/lang/IllegalStateException") (by decide +kernel)) (va_Nw.use rfl hca1) hce hcv hcl ?_
      exact lv_astore hx hb (by decide +kernel : decode cL_run 19 = .ok (.astore 5, 2)) hl (by decide) rfl (fun ls2 hl2 => kk ls2 ⟨hl2.1, hl2.2.1, fun w hw => hl2.2.2 w (List.mem_cons_of_mem _ hw)⟩)
    · cases hpX
set_option maxRecDepth 100000 in
theorem yt_run {sc : xm_Sc} : xm_YT (XE sc) 334 := xm_mk_yt xt_u0 xt_u3 xt_u4 xt_u6 rfl
set_option maxRecDepth 100000 in
theorem met_run {sc : xm_Sc} {l : Launch} (hlt : l.stackTraces = false) (sa : Nat → Nat) {d : Nat} {as : List Value} {h : xm_H} {post : xm_Po} (hlen : (lg_sl as).length ≤ 6) (hrun : xm_goH (XE sc) d 334 188 7 tw_X11_run hp_run post 0 (lv_args 0 as) [] h) (D : va_G) (ad : Nat → Nat) (ks : Nat → ClassId) (sz : Nat) : Met l yL_run (xm_wsH (XE sc) xv_V vh_run [(0, 12, 15, 13), (0, 12, 19, 15)] 334 188 17) (xm_rmH d) (va_Pc (as.map (xm_v ad)) (fun U => xm_B (XE sc) D ad ks h sz U ∧ xv_TF sa (xm_A ad 164 sz) U)) (xm_Q (XE sc) D ad ks post sz) 1 6 (xm_A ad 164 sz) :=
  xm_metH (XE_ok sc) yt_run (Nat.le_of_ble_eq_true rfl) (by decide : plainName RL = true) xv_Vg (thr_X11_run hlt sa d) (ct_run sa) tf_b tf_w (by decide +kernel : decode cL_run 7 = .ok (.invokevirtual 17, 3)) rfl rfl hlen hrun D ad ks sz
def hp_node : String → Option (Nat × Nat) := fun X => if X = "java/util/NoSuchElementException" then some (15, 4) else none
def vh_node : List Cond := [.classLink RL 25 "java/util/NoSuchElementException"]
set_option maxRecDepth 100000 in
set_option maxHeartbeats 1000000 in
theorem ct_node {sc : xm_Sc} {l : Launch} (sa : Nat → Nat) : xm_ctc (XE sc) l (xm_wsH (XE sc) xv_V vh_node [(0, 10, 13, 25)] 335 184 21) (xv_TF sa) [(0, 10, 13, 25)] 335 5 hp_node := by
  intro p e R s m args below meth c A H locs cells slots Q ls rest lvc X q k ce q9 hx hb hown hall hTF htab hpX hl hce hcv hcl kk
  obtain ⟨hca0, hca1, hca2, hde0, hde1, hde2, hs80, hs91, hs117, hs122, hs207, hs225, hs238, hs279, hs284, hnc, hUS, hNS⟩ := hTF
  have hown : s.vm.findClass RL = some m.cls := hown
  have hb : c.code = cL_node := hb
  have hl : lv_has ls 5 lvc := hl
  have hVH : ∀ w ∈ vh_node, w.before args s = true := fun w h => hall w (List.mem_cons_of_mem _ (List.mem_append_left _ h))
  unfold hp_node at hpX
  split at hpX
  · rename_i hX
    subst hX
    cases hpX
    refine vx_catch (own := RL) (name := "java/util/NoSuchElementException") (E := "java/util/NoSuchElementException") hown [] ⟨0, 10, 13, 25⟩ [] (htab.trans rfl) (fun z h => nomatch h) (by decide) (by decide) (hVH (.classLink RL 25 "java/util/NoSuchElementException") (by decide +kernel)) (va_Nw.use rfl hca2) hce hcv hcl ?_
    exact lv_astore hx hb (by decide +kernel : decode cL_node 13 = .ok (.astore 4, 2)) hl (by decide) rfl (fun ls2 hl2 => kk ls2 ⟨hl2.1, hl2.2.1, fun w hw => hl2.2.2 w (List.mem_cons_of_mem _ hw)⟩)
  · cases hpX
set_option maxRecDepth 100000 in
theorem yt_node {sc : xm_Sc} : xm_YT (XE sc) 335 := xm_mk_yt xt_u0 xt_u3 xt_u4 xt_u6 rfl
set_option maxRecDepth 100000 in
theorem met_node {sc : xm_Sc} {l : Launch} (hlt : l.stackTraces = false) (sa : Nat → Nat) {d : Nat} {as : List Value} {h : xm_H} {post : xm_Po} (hlen : (lg_sl as).length ≤ 5) (hrun : xm_goH (XE sc) d 335 184 5 tw_X11_node hp_node post 0 (lv_args 0 as) [] h) (D : va_G) (ad : Nat → Nat) (ks : Nat → ClassId) (sz : Nat) : Met l yL_node (xm_wsH (XE sc) xv_V vh_node [(0, 10, 13, 25)] 335 184 21) (xm_rmH d) (va_Pc (as.map (xm_v ad)) (fun U => xm_B (XE sc) D ad ks h sz U ∧ xv_TF sa (xm_A ad 164 sz) U)) (xm_Q (XE sc) D ad ks post sz) 1 6 (xm_A ad 164 sz) :=
  xm_metH (XE_ok sc) yt_node (Nat.le_of_ble_eq_true rfl) (by decide : plainName RL = true) xv_Vg (thr_X11_node hlt sa d) (ct_node sa) tf_b tf_w (by decide +kernel : decode cL_node 5 = .ok (.invokevirtual 21, 3)) rfl rfl hlen hrun D ad ks sz
def hp_root : String → Option (Nat × Nat) := fun X => if X = "java/util/NoSuchElementException" then some (14, 4) else none
def vh_root : List Cond := [.classLink RL 25 "java/util/NoSuchElementException"]
set_option maxRecDepth 100000 in
set_option maxHeartbeats 1000000 in
theorem ct_root {sc : xm_Sc} {l : Launch} (sa : Nat → Nat) : xm_ctc (XE sc) l (xm_wsH (XE sc) xv_V vh_root [(0, 9, 12, 25)] 336 187 27) (xv_TF sa) [(0, 9, 12, 25)] 336 5 hp_root := by
  intro p e R s m args below meth c A H locs cells slots Q ls rest lvc X q k ce q9 hx hb hown hall hTF htab hpX hl hce hcv hcl kk
  obtain ⟨hca0, hca1, hca2, hde0, hde1, hde2, hs80, hs91, hs117, hs122, hs207, hs225, hs238, hs279, hs284, hnc, hUS, hNS⟩ := hTF
  have hown : s.vm.findClass RL = some m.cls := hown
  have hb : c.code = cL_root := hb
  have hl : lv_has ls 5 lvc := hl
  have hVH : ∀ w ∈ vh_root, w.before args s = true := fun w h => hall w (List.mem_cons_of_mem _ (List.mem_append_left _ h))
  unfold hp_root at hpX
  split at hpX
  · rename_i hX
    subst hX
    cases hpX
    refine vx_catch (own := RL) (name := "java/util/NoSuchElementException") (E := "java/util/NoSuchElementException") hown [] ⟨0, 9, 12, 25⟩ [] (htab.trans rfl) (fun z h => nomatch h) (by decide) (by decide) (hVH (.classLink RL 25 "java/util/NoSuchElementException") (by decide +kernel)) (va_Nw.use rfl hca2) hce hcv hcl ?_
    exact lv_astore hx hb (by decide +kernel : decode cL_root 12 = .ok (.astore 4, 2)) hl (by decide) rfl (fun ls2 hl2 => kk ls2 ⟨hl2.1, hl2.2.1, fun w hw => hl2.2.2 w (List.mem_cons_of_mem _ hw)⟩)
  · cases hpX
set_option maxRecDepth 100000 in
theorem yt_root {sc : xm_Sc} : xm_YT (XE sc) 336 := xm_mk_yt xt_u0 xt_u3 xt_u4 xt_u6 rfl
set_option maxRecDepth 100000 in
theorem met_root {sc : xm_Sc} {l : Launch} (hlt : l.stackTraces = false) (sa : Nat → Nat) {d : Nat} {as : List Value} {h : xm_H} {post : xm_Po} (hlen : (lg_sl as).length ≤ 5) (hrun : xm_goH (XE sc) d 336 187 5 tw_X11_root hp_root post 0 (lv_args 0 as) [] h) (D : va_G) (ad : Nat → Nat) (ks : Nat → ClassId) (sz : Nat) : Met l yL_root (xm_wsH (XE sc) xv_V vh_root [(0, 9, 12, 25)] 336 187 27) (xm_rmH d) (va_Pc (as.map (xm_v ad)) (fun U => xm_B (XE sc) D ad ks h sz U ∧ xv_TF sa (xm_A ad 164 sz) U)) (xm_Q (XE sc) D ad ks post sz) 1 6 (xm_A ad 164 sz) :=
  xm_metH (XE_ok sc) yt_root (Nat.le_of_ble_eq_true rfl) (by decide : plainName RL = true) xv_Vg (thr_X11_root hlt sa d) (ct_root sa) tf_b tf_w (by decide +kernel : decode cL_root 5 = .ok (.invokevirtual 27, 3)) rfl rfl hlen hrun D ad ks sz
def hp_typeRoot : String → Option (Nat × Nat) := fun X => if X = "java/util/NoSuchElementException" then some (16, 5) else none
def vh_typeRoot : List Cond := [.classLink RL 25 "java/util/NoSuchElementException"]
set_option maxRecDepth 100000 in
set_option maxHeartbeats 1000000 in
theorem ct_typeRoot {sc : xm_Sc} {l : Launch} (sa : Nat → Nat) : xm_ctc (XE sc) l (xm_wsH (XE sc) xv_V vh_typeRoot [(0, 11, 14, 25)] 337 194 31) (xv_TF sa) [(0, 11, 14, 25)] 337 7 hp_typeRoot := by
  intro p e R s m args below meth c A H locs cells slots Q ls rest lvc X q k ce q9 hx hb hown hall hTF htab hpX hl hce hcv hcl kk
  obtain ⟨hca0, hca1, hca2, hde0, hde1, hde2, hs80, hs91, hs117, hs122, hs207, hs225, hs238, hs279, hs284, hnc, hUS, hNS⟩ := hTF
  have hown : s.vm.findClass RL = some m.cls := hown
  have hb : c.code = cL_typeRoot := hb
  have hl : lv_has ls 6 lvc := hl
  have hVH : ∀ w ∈ vh_typeRoot, w.before args s = true := fun w h => hall w (List.mem_cons_of_mem _ (List.mem_append_left _ h))
  unfold hp_typeRoot at hpX
  split at hpX
  · rename_i hX
    subst hX
    cases hpX
    refine vx_catch (own := RL) (name := "java/util/NoSuchElementException") (E := "java/util/NoSuchElementException") hown [] ⟨0, 11, 14, 25⟩ [] (htab.trans rfl) (fun z h => nomatch h) (by decide) (by decide) (hVH (.classLink RL 25 "java/util/NoSuchElementException") (by decide +kernel)) (va_Nw.use rfl hca2) hce hcv hcl ?_
    exact lv_astore hx hb (by decide +kernel : decode cL_typeRoot 14 = .ok (.astore 5, 2)) hl (by decide) rfl (fun ls2 hl2 => kk ls2 ⟨hl2.1, hl2.2.1, fun w hw => hl2.2.2 w (List.mem_cons_of_mem _ hw)⟩)
  · cases hpX
set_option maxRecDepth 100000 in
theorem yt_typeRoot {sc : xm_Sc} : xm_YT (XE sc) 337 := xm_mk_yt xt_u0 xt_u3 xt_u4 xt_u6 rfl
set_option maxRecDepth 100000 in
theorem met_typeRoot {sc : xm_Sc} {l : Launch} (hlt : l.stackTraces = false) (sa : Nat → Nat) {d : Nat} {as : List Value} {h : xm_H} {post : xm_Po} (hlen : (lg_sl as).length ≤ 6) (hrun : xm_goH (XE sc) d 337 194 7 tw_X11_typeRoot hp_typeRoot post 0 (lv_args 0 as) [] h) (D : va_G) (ad : Nat → Nat) (ks : Nat → ClassId) (sz : Nat) : Met l yL_typeRoot (xm_wsH (XE sc) xv_V vh_typeRoot [(0, 11, 14, 25)] 337 194 31) (xm_rmH d) (va_Pc (as.map (xm_v ad)) (fun U => xm_B (XE sc) D ad ks h sz U ∧ xv_TF sa (xm_A ad 164 sz) U)) (xm_Q (XE sc) D ad ks post sz) 1 6 (xm_A ad 164 sz) :=
  xm_metH (XE_ok sc) yt_typeRoot (Nat.le_of_ble_eq_true rfl) (by decide : plainName RL = true) xv_Vg (thr_X11_typeRoot hlt sa d) (ct_typeRoot sa) tf_b tf_w (by decide +kernel : decode cL_typeRoot 7 = .ok (.invokevirtual 31, 3)) rfl rfl hlen hrun D ad ks sz
def hp_type : String → Option (Nat × Nat) := fun X => if X = "java/util/NoSuchElementException" then some (15, 4) else none
def vh_type : List Cond := [.classLink RL 25 "java/util/NoSuchElementException"]
set_option maxRecDepth 100000 in
set_option maxHeartbeats 1000000 in
theorem ct_type {sc : xm_Sc} {l : Launch} (sa : Nat → Nat) : xm_ctc (XE sc) l (xm_wsH (XE sc) xv_V vh_type [(0, 10, 13, 25)] 338 193 35) (xv_TF sa) [(0, 10, 13, 25)] 338 5 hp_type := by
  intro p e R s m args below meth c A H locs cells slots Q ls rest lvc X q k ce q9 hx hb hown hall hTF htab hpX hl hce hcv hcl kk
  obtain ⟨hca0, hca1, hca2, hde0, hde1, hde2, hs80, hs91, hs117, hs122, hs207, hs225, hs238, hs279, hs284, hnc, hUS, hNS⟩ := hTF
  have hown : s.vm.findClass RL = some m.cls := hown
  have hb : c.code = cL_type := hb
  have hl : lv_has ls 5 lvc := hl
  have hVH : ∀ w ∈ vh_type, w.before args s = true := fun w h => hall w (List.mem_cons_of_mem _ (List.mem_append_left _ h))
  unfold hp_type at hpX
  split at hpX
  · rename_i hX
    subst hX
    cases hpX
    refine vx_catch (own := RL) (name := "java/util/NoSuchElementException") (E := "java/util/NoSuchElementException") hown [] ⟨0, 10, 13, 25⟩ [] (htab.trans rfl) (fun z h => nomatch h) (by decide) (by decide) (hVH (.classLink RL 25 "java/util/NoSuchElementException") (by decide +kernel)) (va_Nw.use rfl hca2) hce hcv hcl ?_
    exact lv_astore hx hb (by decide +kernel : decode cL_type 13 = .ok (.astore 4, 2)) hl (by decide) rfl (fun ls2 hl2 => kk ls2 ⟨hl2.1, hl2.2.1, fun w hw => hl2.2.2 w (List.mem_cons_of_mem _ hw)⟩)
  · cases hpX
set_option maxRecDepth 100000 in
theorem yt_type {sc : xm_Sc} : xm_YT (XE sc) 338 := xm_mk_yt xt_u0 xt_u3 xt_u4 xt_u6 rfl
set_option maxRecDepth 100000 in
theorem met_type {sc : xm_Sc} {l : Launch} (hlt : l.stackTraces = false) (sa : Nat → Nat) {d : Nat} {as : List Value} {h : xm_H} {post : xm_Po} (hlen : (lg_sl as).length ≤ 5) (hrun : xm_goH (XE sc) d 338 193 5 tw_X11_type hp_type post 0 (lv_args 0 as) [] h) (D : va_G) (ad : Nat → Nat) (ks : Nat → ClassId) (sz : Nat) : Met l yL_type (xm_wsH (XE sc) xv_V vh_type [(0, 10, 13, 25)] 338 193 35) (xm_rmH d) (va_Pc (as.map (xm_v ad)) (fun U => xm_B (XE sc) D ad ks h sz U ∧ xv_TF sa (xm_A ad 164 sz) U)) (xm_Q (XE sc) D ad ks post sz) 1 6 (xm_A ad 164 sz) :=
  xm_metH (XE_ok sc) yt_type (Nat.le_of_ble_eq_true rfl) (by decide : plainName RL = true) xv_Vg (thr_X11_type hlt sa d) (ct_type sa) tf_b tf_w (by decide +kernel : decode cL_type 5 = .ok (.invokevirtual 35, 3)) rfl rfl hlen hrun D ad ks sz
def hp_speak : String → Option (Nat × Nat) := fun X => if X = "java/lang/IllegalStateException" then some (12, 2) else none
def vh_speak : List Cond := [.classLink RL 15 "java/lang/IllegalStateException"]
set_option maxRecDepth 100000 in
set_option maxHeartbeats 1000000 in
theorem ct_speak {sc : xm_Sc} {l : Launch} (sa : Nat → Nat) : xm_ctc (XE sc) l (xm_wsH (XE sc) xv_V vh_speak [(0, 8, 11, 15)] 339 190 39) (xv_TF sa) [(0, 8, 11, 15)] 339 3 hp_speak := by
  intro p e R s m args below meth c A H locs cells slots Q ls rest lvc X q k ce q9 hx hb hown hall hTF htab hpX hl hce hcv hcl kk
  obtain ⟨hca0, hca1, hca2, hde0, hde1, hde2, hs80, hs91, hs117, hs122, hs207, hs225, hs238, hs279, hs284, hnc, hUS, hNS⟩ := hTF
  have hown : s.vm.findClass RL = some m.cls := hown
  have hb : c.code = cL_speak := hb
  have hl : lv_has ls 3 lvc := hl
  have hVH : ∀ w ∈ vh_speak, w.before args s = true := fun w h => hall w (List.mem_cons_of_mem _ (List.mem_append_left _ h))
  unfold hp_speak at hpX
  split at hpX
  · rename_i hX
    subst hX
    cases hpX
    refine vx_catch (own := RL) (name := "java/lang/IllegalStateException") (E := "java/lang/IllegalStateException") hown [] ⟨0, 8, 11, 15⟩ [] (htab.trans rfl) (fun z h => nomatch h) (by decide) (by decide) (hVH (.classLink RL 15 "java/lang/IllegalStateException") (by decide +kernel)) (va_Nw.use rfl hca1) hce hcv hcl ?_
    exact lv_astore_n hx hb (by decide +kernel : decode cL_speak 11 = .ok (.astore_n 2, 1)) rfl hl (by decide) rfl (fun ls2 hl2 => kk ls2 ⟨hl2.1, hl2.2.1, fun w hw => hl2.2.2 w (List.mem_cons_of_mem _ hw)⟩)
  · cases hpX
set_option maxRecDepth 100000 in
theorem yt_speak {sc : xm_Sc} : xm_YT (XE sc) 339 := xm_mk_yt xt_u0 xt_u3 xt_u4 xt_u6 rfl
set_option maxRecDepth 100000 in
theorem met_speak {sc : xm_Sc} {l : Launch} (hlt : l.stackTraces = false) (sa : Nat → Nat) {d : Nat} {as : List Value} {h : xm_H} {post : xm_Po} (hlen : (lg_sl as).length ≤ 3) (hrun : xm_goH (XE sc) d 339 190 3 tw_X11_speak hp_speak post 0 (lv_args 0 as) [] h) (D : va_G) (ad : Nat → Nat) (ks : Nat → ClassId) (sz : Nat) : Met l yL_speak (xm_wsH (XE sc) xv_V vh_speak [(0, 8, 11, 15)] 339 190 39) (xm_rmH d) (va_Pc (as.map (xm_v ad)) (fun U => xm_B (XE sc) D ad ks h sz U ∧ xv_TF sa (xm_A ad 164 sz) U)) (xm_Q (XE sc) D ad ks post sz) 1 6 (xm_A ad 164 sz) :=
  xm_metH (XE_ok sc) yt_speak (Nat.le_of_ble_eq_true rfl) (by decide : plainName RL = true) xv_Vg (thr_X11_speak hlt sa d) (ct_speak sa) tf_b tf_w (by decide +kernel : decode cL_speak 3 = .ok (.invokevirtual 39, 3)) rfl rfl hlen hrun D ad ks sz
def hp_value : String → Option (Nat × Nat) := fun X => if X = "java/util/NoSuchElementException" then some (15, 4) else none
def vh_value : List Cond := [.classLink RL 25 "java/util/NoSuchElementException"]
set_option maxRecDepth 100000 in
set_option maxHeartbeats 1000000 in
theorem ct_value {sc : xm_Sc} {l : Launch} (sa : Nat → Nat) : xm_ctc (XE sc) l (xm_wsH (XE sc) xv_V vh_value [(0, 10, 13, 25)] 340 195 43) (xv_TF sa) [(0, 10, 13, 25)] 340 5 hp_value := by
  intro p e R s m args below meth c A H locs cells slots Q ls rest lvc X q k ce q9 hx hb hown hall hTF htab hpX hl hce hcv hcl kk
  obtain ⟨hca0, hca1, hca2, hde0, hde1, hde2, hs80, hs91, hs117, hs122, hs207, hs225, hs238, hs279, hs284, hnc, hUS, hNS⟩ := hTF
  have hown : s.vm.findClass RL = some m.cls := hown
  have hb : c.code = cL_value := hb
  have hl : lv_has ls 5 lvc := hl
  have hVH : ∀ w ∈ vh_value, w.before args s = true := fun w h => hall w (List.mem_cons_of_mem _ (List.mem_append_left _ h))
  unfold hp_value at hpX
  split at hpX
  · rename_i hX
    subst hX
    cases hpX
    refine vx_catch (own := RL) (name := "java/util/NoSuchElementException") (E := "java/util/NoSuchElementException") hown [] ⟨0, 10, 13, 25⟩ [] (htab.trans rfl) (fun z h => nomatch h) (by decide) (by decide) (hVH (.classLink RL 25 "java/util/NoSuchElementException") (by decide +kernel)) (va_Nw.use rfl hca2) hce hcv hcl ?_
    exact lv_astore hx hb (by decide +kernel : decode cL_value 13 = .ok (.astore 4, 2)) hl (by decide) rfl (fun ls2 hl2 => kk ls2 ⟨hl2.1, hl2.2.1, fun w hw => hl2.2.2 w (List.mem_cons_of_mem _ hw)⟩)
  · cases hpX
set_option maxRecDepth 100000 in
theorem yt_value {sc : xm_Sc} : xm_YT (XE sc) 340 := xm_mk_yt xt_u0 xt_u3 xt_u4 xt_u6 rfl
set_option maxRecDepth 100000 in
theorem met_value {sc : xm_Sc} {l : Launch} (hlt : l.stackTraces = false) (sa : Nat → Nat) {d : Nat} {as : List Value} {h : xm_H} {post : xm_Po} (hlen : (lg_sl as).length ≤ 5) (hrun : xm_goH (XE sc) d 340 195 5 tw_X11_value hp_value post 0 (lv_args 0 as) [] h) (D : va_G) (ad : Nat → Nat) (ks : Nat → ClassId) (sz : Nat) : Met l yL_value (xm_wsH (XE sc) xv_V vh_value [(0, 10, 13, 25)] 340 195 43) (xm_rmH d) (va_Pc (as.map (xm_v ad)) (fun U => xm_B (XE sc) D ad ks h sz U ∧ xv_TF sa (xm_A ad 164 sz) U)) (xm_Q (XE sc) D ad ks post sz) 1 6 (xm_A ad 164 sz) :=
  xm_metH (XE_ok sc) yt_value (Nat.le_of_ble_eq_true rfl) (by decide : plainName RL = true) xv_Vg (thr_X11_value hlt sa d) (ct_value sa) tf_b tf_w (by decide +kernel : decode cL_value 5 = .ok (.invokevirtual 43, 3)) rfl rfl hlen hrun D ad ks sz
def hp_worth : String → Option (Nat × Nat) := fun X => if X = "java/util/NoSuchElementException" then some (15, 4) else none
def vh_worth : List Cond := [.classLink RL 25 "java/util/NoSuchElementException"]
set_option maxRecDepth 100000 in
set_option maxHeartbeats 1000000 in
theorem ct_worth {sc : xm_Sc} {l : Launch} (sa : Nat → Nat) : xm_ctc (XE sc) l (xm_wsH (XE sc) xv_V vh_worth [(0, 10, 13, 25)] 341 198 46) (xv_TF sa) [(0, 10, 13, 25)] 341 5 hp_worth := by
  intro p e R s m args below meth c A H locs cells slots Q ls rest lvc X q k ce q9 hx hb hown hall hTF htab hpX hl hce hcv hcl kk
  obtain ⟨hca0, hca1, hca2, hde0, hde1, hde2, hs80, hs91, hs117, hs122, hs207, hs225, hs238, hs279, hs284, hnc, hUS, hNS⟩ := hTF
  have hown : s.vm.findClass RL = some m.cls := hown
  have hb : c.code = cL_worth := hb
  have hl : lv_has ls 5 lvc := hl
  have hVH : ∀ w ∈ vh_worth, w.before args s = true := fun w h => hall w (List.mem_cons_of_mem _ (List.mem_append_left _ h))
  unfold hp_worth at hpX
  split at hpX
  · rename_i hX
    subst hX
    cases hpX
    refine vx_catch (own := RL) (name := "java/util/NoSuchElementException") (E := "java/util/NoSuchElementException") hown [] ⟨0, 10, 13, 25⟩ [] (htab.trans rfl) (fun z h => nomatch h) (by decide) (by decide) (hVH (.classLink RL 25 "java/util/NoSuchElementException") (by decide +kernel)) (va_Nw.use rfl hca2) hce hcv hcl ?_
    exact lv_astore hx hb (by decide +kernel : decode cL_worth 13 = .ok (.astore 4, 2)) hl (by decide) rfl (fun ls2 hl2 => kk ls2 ⟨hl2.1, hl2.2.1, fun w hw => hl2.2.2 w (List.mem_cons_of_mem _ hw)⟩)
  · cases hpX
set_option maxRecDepth 100000 in
theorem yt_worth {sc : xm_Sc} : xm_YT (XE sc) 341 := xm_mk_yt xt_u0 xt_u3 xt_u4 xt_u6 rfl
set_option maxRecDepth 100000 in
theorem met_worth {sc : xm_Sc} {l : Launch} (hlt : l.stackTraces = false) (sa : Nat → Nat) {d : Nat} {as : List Value} {h : xm_H} {post : xm_Po} (hlen : (lg_sl as).length ≤ 5) (hrun : xm_goH (XE sc) d 341 198 5 tw_X11_worth hp_worth post 0 (lv_args 0 as) [] h) (D : va_G) (ad : Nat → Nat) (ks : Nat → ClassId) (sz : Nat) : Met l yL_worth (xm_wsH (XE sc) xv_V vh_worth [(0, 10, 13, 25)] 341 198 46) (xm_rmH d) (va_Pc (as.map (xm_v ad)) (fun U => xm_B (XE sc) D ad ks h sz U ∧ xv_TF sa (xm_A ad 164 sz) U)) (xm_Q (XE sc) D ad ks post sz) 1 6 (xm_A ad 164 sz) :=
  xm_metH (XE_ok sc) yt_worth (Nat.le_of_ble_eq_true rfl) (by decide : plainName RL = true) xv_Vg (thr_X11_worth hlt sa d) (ct_worth sa) tf_b tf_w (by decide +kernel : decode cL_worth 5 = .ok (.invokevirtual 46, 3)) rfl rfl hlen hrun D ad ks sz
def hp_write : String → Option (Nat × Nat) := fun X => if X = "java/lang/IllegalStateException" then some (12, 2) else none
def vh_write : List Cond := [.classLink RL 15 "java/lang/IllegalStateException"]
set_option maxRecDepth 100000 in
set_option maxHeartbeats 1000000 in
theorem ct_write {sc : xm_Sc} {l : Launch} (sa : Nat → Nat) : xm_ctc (XE sc) l (xm_wsH (XE sc) xv_V vh_write [(0, 8, 11, 15)] 342 199 49) (xv_TF sa) [(0, 8, 11, 15)] 342 3 hp_write := by
  intro p e R s m args below meth c A H locs cells slots Q ls rest lvc X q k ce q9 hx hb hown hall hTF htab hpX hl hce hcv hcl kk
  obtain ⟨hca0, hca1, hca2, hde0, hde1, hde2, hs80, hs91, hs117, hs122, hs207, hs225, hs238, hs279, hs284, hnc, hUS, hNS⟩ := hTF
  have hown : s.vm.findClass RL = some m.cls := hown
  have hb : c.code = cL_write := hb
  have hl : lv_has ls 3 lvc := hl
  have hVH : ∀ w ∈ vh_write, w.before args s = true := fun w h => hall w (List.mem_cons_of_mem _ (List.mem_append_left _ h))
  unfold hp_write at hpX
  split at hpX
  · rename_i hX
    subst hX
    cases hpX
    refine vx_catch (own := RL) (name := "java/lang/IllegalStateException") (E := "java/lang/IllegalStateException") hown [] ⟨0, 8, 11, 15⟩ [] (htab.trans rfl) (fun z h => nomatch h) (by decide) (by decide) (hVH (.classLink RL 15 "java/lang/IllegalStateException") (by decide +kernel)) (va_Nw.use rfl hca1) hce hcv hcl ?_
    exact lv_astore_n hx hb (by decide +kernel : decode cL_write 11 = .ok (.astore_n 2, 1)) rfl hl (by decide) rfl (fun ls2 hl2 => kk ls2 ⟨hl2.1, hl2.2.1, fun w hw => hl2.2.2 w (List.mem_cons_of_mem _ hw)⟩)
  · cases hpX
set_option maxRecDepth 100000 in
theorem yt_write {sc : xm_Sc} : xm_YT (XE sc) 342 := xm_mk_yt xt_u0 xt_u3 xt_u4 xt_u6 rfl
set_option maxRecDepth 100000 in
theorem met_write {sc : xm_Sc} {l : Launch} (hlt : l.stackTraces = false) (sa : Nat → Nat) {d : Nat} {as : List Value} {h : xm_H} {post : xm_Po} (hlen : (lg_sl as).length ≤ 3) (hrun : xm_goH (XE sc) d 342 199 3 tw_X11_write hp_write post 0 (lv_args 0 as) [] h) (D : va_G) (ad : Nat → Nat) (ks : Nat → ClassId) (sz : Nat) : Met l yL_write (xm_wsH (XE sc) xv_V vh_write [(0, 8, 11, 15)] 342 199 49) (xm_rmH d) (va_Pc (as.map (xm_v ad)) (fun U => xm_B (XE sc) D ad ks h sz U ∧ xv_TF sa (xm_A ad 164 sz) U)) (xm_Q (XE sc) D ad ks post sz) 1 6 (xm_A ad 164 sz) :=
  xm_metH (XE_ok sc) yt_write (Nat.le_of_ble_eq_true rfl) (by decide : plainName RL = true) xv_Vg (thr_X11_write hlt sa d) (ct_write sa) tf_b tf_w (by decide +kernel : decode cL_write 3 = .ok (.invokevirtual 49, 3)) rfl rfl hlen hrun D ad ks sz
def hp_out : String → Option (Nat × Nat) := fun X => if X = "java/util/NoSuchElementException" then some (12, 3) else none
def vh_out : List Cond := [.classLink RL 25 "java/util/NoSuchElementException"]
set_option maxRecDepth 100000 in
set_option maxHeartbeats 1000000 in
theorem ct_out {sc : xm_Sc} {l : Launch} (sa : Nat → Nat) : xm_ctc (XE sc) l (xm_wsH (XE sc) xv_V vh_out [(0, 8, 11, 25)] 343 185 52) (xv_TF sa) [(0, 8, 11, 25)] 343 4 hp_out := by
  intro p e R s m args below meth c A H locs cells slots Q ls rest lvc X q k ce q9 hx hb hown hall hTF htab hpX hl hce hcv hcl kk
  obtain ⟨hca0, hca1, hca2, hde0, hde1, hde2, hs80, hs91, hs117, hs122, hs207, hs225, hs238, hs279, hs284, hnc, hUS, hNS⟩ := hTF
  have hown : s.vm.findClass RL = some m.cls := hown
  have hb : c.code = cL_out := hb
  have hl : lv_has ls 4 lvc := hl
  have hVH : ∀ w ∈ vh_out, w.before args s = true := fun w h => hall w (List.mem_cons_of_mem _ (List.mem_append_left _ h))
  unfold hp_out at hpX
  split at hpX
  · rename_i hX
    subst hX
    cases hpX
    refine vx_catch (own := RL) (name := "java/util/NoSuchElementException") (E := "java/util/NoSuchElementException") hown [] ⟨0, 8, 11, 25⟩ [] (htab.trans rfl) (fun z h => nomatch h) (by decide) (by decide) (hVH (.classLink RL 25 "java/util/NoSuchElementException") (by decide +kernel)) (va_Nw.use rfl hca2) hce hcv hcl ?_
    exact lv_astore_n hx hb (by decide +kernel : decode cL_out 11 = .ok (.astore_n 3, 1)) rfl hl (by decide) rfl (fun ls2 hl2 => kk ls2 ⟨hl2.1, hl2.2.1, fun w hw => hl2.2.2 w (List.mem_cons_of_mem _ hw)⟩)
  · cases hpX
set_option maxRecDepth 100000 in
theorem yt_out {sc : xm_Sc} : xm_YT (XE sc) 343 := xm_mk_yt xt_u0 xt_u3 xt_u4 xt_u6 rfl
set_option maxRecDepth 100000 in
theorem met_out {sc : xm_Sc} {l : Launch} (hlt : l.stackTraces = false) (sa : Nat → Nat) {d : Nat} {as : List Value} {h : xm_H} {post : xm_Po} (hlen : (lg_sl as).length ≤ 4) (hrun : xm_goH (XE sc) d 343 185 4 tw_X11_out hp_out post 0 (lv_args 0 as) [] h) (D : va_G) (ad : Nat → Nat) (ks : Nat → ClassId) (sz : Nat) : Met l yL_out (xm_wsH (XE sc) xv_V vh_out [(0, 8, 11, 25)] 343 185 52) (xm_rmH d) (va_Pc (as.map (xm_v ad)) (fun U => xm_B (XE sc) D ad ks h sz U ∧ xv_TF sa (xm_A ad 164 sz) U)) (xm_Q (XE sc) D ad ks post sz) 1 6 (xm_A ad 164 sz) :=
  xm_metH (XE_ok sc) yt_out (Nat.le_of_ble_eq_true rfl) (by decide : plainName RL = true) xv_Vg (thr_X11_out hlt sa d) (ct_out sa) tf_b tf_w (by decide +kernel : decode cL_out 4 = .ok (.invokevirtual 52, 3)) rfl rfl hlen hrun D ad ks sz
def hp_look : String → Option (Nat × Nat) := fun X => if X = "java/lang/IllegalArgumentException" then some (13, 3) else none
def vh_look : List Cond := [.classLink RL 13 "java/lang/IllegalArgumentException"]
set_option maxRecDepth 100000 in
set_option maxHeartbeats 1000000 in
theorem ct_look {sc : xm_Sc} {l : Launch} (sa : Nat → Nat) : xm_ctc (XE sc) l (xm_wsH (XE sc) xv_V vh_look [(0, 9, 12, 13)] 344 182 56) (xv_TF sa) [(0, 9, 12, 13)] 344 4 hp_look := by
  intro p e R s m args below meth c A H locs cells slots Q ls rest lvc X q k ce q9 hx hb hown hall hTF htab hpX hl hce hcv hcl kk
  obtain ⟨hca0, hca1, hca2, hde0, hde1, hde2, hs80, hs91, hs117, hs122, hs207, hs225, hs238, hs279, hs284, hnc, hUS, hNS⟩ := hTF
  have hown : s.vm.findClass RL = some m.cls := hown
  have hb : c.code = cL_look := hb
  have hl : lv_has ls 4 lvc := hl
  have hVH : ∀ w ∈ vh_look, w.before args s = true := fun w h => hall w (List.mem_cons_of_mem _ (List.mem_append_left _ h))
  unfold hp_look at hpX
  split at hpX
  · rename_i hX
    subst hX
    cases hpX
    refine vx_catch (own := RL) (name := "java/lang/IllegalArgumentException") (E := "java/lang/IllegalArgumentException") hown [] ⟨0, 9, 12, 13⟩ [] (htab.trans rfl) (fun z h => nomatch h) (by decide) (by decide) (hVH (.classLink RL 13 "java/lang/IllegalArgumentException") (by decide +kernel)) (va_Nw.use rfl hca0) hce hcv hcl ?_
    exact lv_astore_n hx hb (by decide +kernel : decode cL_look 12 = .ok (.astore_n 3, 1)) rfl hl (by decide) rfl (fun ls2 hl2 => kk ls2 ⟨hl2.1, hl2.2.1, fun w hw => hl2.2.2 w (List.mem_cons_of_mem _ hw)⟩)
  · cases hpX
set_option maxRecDepth 100000 in
theorem yt_look {sc : xm_Sc} : xm_YT (XE sc) 344 := xm_mk_yt xt_u0 xt_u3 xt_u4 xt_u6 rfl
set_option maxRecDepth 100000 in
theorem met_look {sc : xm_Sc} {l : Launch} (hlt : l.stackTraces = false) (sa : Nat → Nat) {d : Nat} {as : List Value} {h : xm_H} {post : xm_Po} (hlen : (lg_sl as).length ≤ 4) (hrun : xm_goH (XE sc) d 344 182 4 tw_X11_look hp_look post 0 (lv_args 0 as) [] h) (D : va_G) (ad : Nat → Nat) (ks : Nat → ClassId) (sz : Nat) : Met l yL_look (xm_wsH (XE sc) xv_V vh_look [(0, 9, 12, 13)] 344 182 56) (xm_rmH d) (va_Pc (as.map (xm_v ad)) (fun U => xm_B (XE sc) D ad ks h sz U ∧ xv_TF sa (xm_A ad 164 sz) U)) (xm_Q (XE sc) D ad ks post sz) 1 6 (xm_A ad 164 sz) :=
  xm_metH (XE_ok sc) yt_look (Nat.le_of_ble_eq_true rfl) (by decide : plainName RL = true) xv_Vg (thr_X11_look hlt sa d) (ct_look sa) tf_b tf_w (by decide +kernel : decode cL_look 4 = .ok (.invokevirtual 56, 3)) rfl rfl hlen hrun D ad ks sz
