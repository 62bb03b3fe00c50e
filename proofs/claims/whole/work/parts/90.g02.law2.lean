/-! ===== the helpers, under the facts that speak needs too ===== -/
theorem thr_w {E : xm_E} {l : Launch} {V V' : List Cond} {TF TF' : (Nat → Prop) → State → Prop} {d y : Nat} {tw : Nat → Option String} (h : xm_thr E l V TF d y tw) (hV : ∀ w ∈ V, w ∈ V') (hi : ∀ A s, TF' A s → TF A s) : xm_thr E l V' TF' d y tw :=
  fun p e s m args below meth c Qc XC A H locs ls pc X a1 a2 a3 a4 a5 a6 => h p e s m args below meth c Qc XC A H locs ls pc X a1 a2 a3 a4 (fun w hw => a5 w (by
    rcases List.mem_cons.mp hw with q | q
    · rw [q]; exact List.mem_cons_self
    · refine List.mem_cons_of_mem _ ?_
      rcases List.mem_append.mp q with r | r
      · exact List.mem_append_left _ r
      · exact List.mem_append_right _ (hV w r))) (hi A s a6)
theorem ctc_w {E : xm_E} {l : Launch} {WS WS' : List Cond} {TF TF' : (Nat → Prop) → State → Prop} {hh : List (Nat × Nat × Nat × Nat)} {y pcC : Nat} {hp : String → Option (Nat × Nat)} (h : xm_ctc E l WS TF hh y pcC hp) (hV : ∀ w ∈ WS, w ∈ WS') (hi : ∀ A s, TF' A s → TF A s) : xm_ctc E l WS' TF' hh y pcC hp :=
  fun p e R s m args below meth c A H locs cells slots Q ls rest lvc X q k ce q9 a1 a2 a3 a4 a5 => h p e R s m args below meth c A H locs cells slots Q ls rest lvc X q k ce q9 a1 a2 a3 (fun w hw => a4 w (hV w hw)) (hi A s a5)
theorem xs_xv {sa V ad : Nat → Nat} : ∀ A s, xs_TF sa V ad A s → xv_TF sa A s := fun _ _ q => q.1
set_option maxRecDepth 100000 in
theorem mew_feed {sc : xm_Sc} {l : Launch} (hlt : l.stackTraces = false) (sa V : Nat → Nat) {d : Nat} {as : List Value} {h : xm_H} {post : xm_Po} (hlen : (lg_sl as).length ≤ 6) (hrun : xm_goH (XE sc) d 333 179 6 tw_X11_feed hp_feed post 0 (lv_args 0 as) [] h) (D : va_G) (ad : Nat → Nat) (ks : Nat → ClassId) (sz : Nat) : Met l yL_feed (xm_wsH (XE sc) xv_V vh_feed [(0, 11, 14, 13), (0, 11, 18, 15)] 333 179 7) (xm_rmH d) (va_Pc (as.map (xm_v ad)) (fun U => xm_B (XE sc) D ad ks h sz U ∧ xs_TF sa V ad (xm_A ad 164 sz) U)) (xm_Q (XE sc) D ad ks post sz) 1 6 (xm_A ad 164 sz) :=
  xm_metH (TF := xs_TF sa V ad) (XE_ok sc) yt_feed (Nat.le_of_ble_eq_true rfl) (by decide : plainName RL = true) xv_Vg (thr_w (thr_X11_feed hlt sa d) (fun _ q => q) xs_xv) (ctc_w (ct_feed sa) (fun _ q => q) xs_xv) (xs_TF_b ad) (xs_TF_w ad) (by decide +kernel : decode cL_feed 6 = .ok (.invokevirtual 7, 3)) rfl rfl hlen hrun D ad ks sz
set_option maxRecDepth 100000 in
theorem mew_run {sc : xm_Sc} {l : Launch} (hlt : l.stackTraces = false) (sa V : Nat → Nat) {d : Nat} {as : List Value} {h : xm_H} {post : xm_Po} (hlen : (lg_sl as).length ≤ 6) (hrun : xm_goH (XE sc) d 334 188 7 tw_X11_run hp_run post 0 (lv_args 0 as) [] h) (D : va_G) (ad : Nat → Nat) (ks : Nat → ClassId) (sz : Nat) : Met l yL_run (xm_wsH (XE sc) xv_V vh_run [(0, 12, 15, 13), (0, 12, 19, 15)] 334 188 17) (xm_rmH d) (va_Pc (as.map (xm_v ad)) (fun U => xm_B (XE sc) D ad ks h sz U ∧ xs_TF sa V ad (xm_A ad 164 sz) U)) (xm_Q (XE sc) D ad ks post sz) 1 6 (xm_A ad 164 sz) :=
  xm_metH (TF := xs_TF sa V ad) (XE_ok sc) yt_run (Nat.le_of_ble_eq_true rfl) (by decide : plainName RL = true) xv_Vg (thr_w (thr_X11_run hlt sa d) (fun _ q => q) xs_xv) (ctc_w (ct_run sa) (fun _ q => q) xs_xv) (xs_TF_b ad) (xs_TF_w ad) (by decide +kernel : decode cL_run 7 = .ok (.invokevirtual 17, 3)) rfl rfl hlen hrun D ad ks sz
set_option maxRecDepth 100000 in
theorem mew_node {sc : xm_Sc} {l : Launch} (hlt : l.stackTraces = false) (sa V : Nat → Nat) {d : Nat} {as : List Value} {h : xm_H} {post : xm_Po} (hlen : (lg_sl as).length ≤ 5) (hrun : xm_goH (XE sc) d 335 184 5 tw_X11_node hp_node post 0 (lv_args 0 as) [] h) (D : va_G) (ad : Nat → Nat) (ks : Nat → ClassId) (sz : Nat) : Met l yL_node (xm_wsH (XE sc) xv_V vh_node [(0, 10, 13, 25)] 335 184 21) (xm_rmH d) (va_Pc (as.map (xm_v ad)) (fun U => xm_B (XE sc) D ad ks h sz U ∧ xs_TF sa V ad (xm_A ad 164 sz) U)) (xm_Q (XE sc) D ad ks post sz) 1 6 (xm_A ad 164 sz) :=
  xm_metH (TF := xs_TF sa V ad) (XE_ok sc) yt_node (Nat.le_of_ble_eq_true rfl) (by decide : plainName RL = true) xv_Vg (thr_w (thr_X11_node hlt sa d) (fun _ q => q) xs_xv) (ctc_w (ct_node sa) (fun _ q => q) xs_xv) (xs_TF_b ad) (xs_TF_w ad) (by decide +kernel : decode cL_node 5 = .ok (.invokevirtual 21, 3)) rfl rfl hlen hrun D ad ks sz
set_option maxRecDepth 100000 in
theorem mew_root {sc : xm_Sc} {l : Launch} (hlt : l.stackTraces = false) (sa V : Nat → Nat) {d : Nat} {as : List Value} {h : xm_H} {post : xm_Po} (hlen : (lg_sl as).length ≤ 5) (hrun : xm_goH (XE sc) d 336 187 5 tw_X11_root hp_root post 0 (lv_args 0 as) [] h) (D : va_G) (ad : Nat → Nat) (ks : Nat → ClassId) (sz : Nat) : Met l yL_root (xm_wsH (XE sc) xv_V vh_root [(0, 9, 12, 25)] 336 187 27) (xm_rmH d) (va_Pc (as.map (xm_v ad)) (fun U => xm_B (XE sc) D ad ks h sz U ∧ xs_TF sa V ad (xm_A ad 164 sz) U)) (xm_Q (XE sc) D ad ks post sz) 1 6 (xm_A ad 164 sz) :=
  xm_metH (TF := xs_TF sa V ad) (XE_ok sc) yt_root (Nat.le_of_ble_eq_true rfl) (by decide : plainName RL = true) xv_Vg (thr_w (thr_X11_root hlt sa d) (fun _ q => q) xs_xv) (ctc_w (ct_root sa) (fun _ q => q) xs_xv) (xs_TF_b ad) (xs_TF_w ad) (by decide +kernel : decode cL_root 5 = .ok (.invokevirtual 27, 3)) rfl rfl hlen hrun D ad ks sz
set_option maxRecDepth 100000 in
theorem mew_typeRoot {sc : xm_Sc} {l : Launch} (hlt : l.stackTraces = false) (sa V : Nat → Nat) {d : Nat} {as : List Value} {h : xm_H} {post : xm_Po} (hlen : (lg_sl as).length ≤ 6) (hrun : xm_goH (XE sc) d 337 194 7 tw_X11_typeRoot hp_typeRoot post 0 (lv_args 0 as) [] h) (D : va_G) (ad : Nat → Nat) (ks : Nat → ClassId) (sz : Nat) : Met l yL_typeRoot (xm_wsH (XE sc) xv_V vh_typeRoot [(0, 11, 14, 25)] 337 194 31) (xm_rmH d) (va_Pc (as.map (xm_v ad)) (fun U => xm_B (XE sc) D ad ks h sz U ∧ xs_TF sa V ad (xm_A ad 164 sz) U)) (xm_Q (XE sc) D ad ks post sz) 1 6 (xm_A ad 164 sz) :=
  xm_metH (TF := xs_TF sa V ad) (XE_ok sc) yt_typeRoot (Nat.le_of_ble_eq_true rfl) (by decide : plainName RL = true) xv_Vg (thr_w (thr_X11_typeRoot hlt sa d) (fun _ q => q) xs_xv) (ctc_w (ct_typeRoot sa) (fun _ q => q) xs_xv) (xs_TF_b ad) (xs_TF_w ad) (by decide +kernel : decode cL_typeRoot 7 = .ok (.invokevirtual 31, 3)) rfl rfl hlen hrun D ad ks sz
set_option maxRecDepth 100000 in
theorem mew_type {sc : xm_Sc} {l : Launch} (hlt : l.stackTraces = false) (sa V : Nat → Nat) {d : Nat} {as : List Value} {h : xm_H} {post : xm_Po} (hlen : (lg_sl as).length ≤ 5) (hrun : xm_goH (XE sc) d 338 193 5 tw_X11_type hp_type post 0 (lv_args 0 as) [] h) (D : va_G) (ad : Nat → Nat) (ks : Nat → ClassId) (sz : Nat) : Met l yL_type (xm_wsH (XE sc) xv_V vh_type [(0, 10, 13, 25)] 338 193 35) (xm_rmH d) (va_Pc (as.map (xm_v ad)) (fun U => xm_B (XE sc) D ad ks h sz U ∧ xs_TF sa V ad (xm_A ad 164 sz) U)) (xm_Q (XE sc) D ad ks post sz) 1 6 (xm_A ad 164 sz) :=
  xm_metH (TF := xs_TF sa V ad) (XE_ok sc) yt_type (Nat.le_of_ble_eq_true rfl) (by decide : plainName RL = true) xv_Vg (thr_w (thr_X11_type hlt sa d) (fun _ q => q) xs_xv) (ctc_w (ct_type sa) (fun _ q => q) xs_xv) (xs_TF_b ad) (xs_TF_w ad) (by decide +kernel : decode cL_type 5 = .ok (.invokevirtual 35, 3)) rfl rfl hlen hrun D ad ks sz
set_option maxRecDepth 100000 in
theorem mew_value {sc : xm_Sc} {l : Launch} (hlt : l.stackTraces = false) (sa V : Nat → Nat) {d : Nat} {as : List Value} {h : xm_H} {post : xm_Po} (hlen : (lg_sl as).length ≤ 5) (hrun : xm_goH (XE sc) d 340 195 5 tw_X11_value hp_value post 0 (lv_args 0 as) [] h) (D : va_G) (ad : Nat → Nat) (ks : Nat → ClassId) (sz : Nat) : Met l yL_value (xm_wsH (XE sc) xv_V vh_value [(0, 10, 13, 25)] 340 195 43) (xm_rmH d) (va_Pc (as.map (xm_v ad)) (fun U => xm_B (XE sc) D ad ks h sz U ∧ xs_TF sa V ad (xm_A ad 164 sz) U)) (xm_Q (XE sc) D ad ks post sz) 1 6 (xm_A ad 164 sz) :=
  xm_metH (TF := xs_TF sa V ad) (XE_ok sc) yt_value (Nat.le_of_ble_eq_true rfl) (by decide : plainName RL = true) xv_Vg (thr_w (thr_X11_value hlt sa d) (fun _ q => q) xs_xv) (ctc_w (ct_value sa) (fun _ q => q) xs_xv) (xs_TF_b ad) (xs_TF_w ad) (by decide +kernel : decode cL_value 5 = .ok (.invokevirtual 43, 3)) rfl rfl hlen hrun D ad ks sz
set_option maxRecDepth 100000 in
theorem mew_worth {sc : xm_Sc} {l : Launch} (hlt : l.stackTraces = false) (sa V : Nat → Nat) {d : Nat} {as : List Value} {h : xm_H} {post : xm_Po} (hlen : (lg_sl as).length ≤ 5) (hrun : xm_goH (XE sc) d 341 198 5 tw_X11_worth hp_worth post 0 (lv_args 0 as) [] h) (D : va_G) (ad : Nat → Nat) (ks : Nat → ClassId) (sz : Nat) : Met l yL_worth (xm_wsH (XE sc) xv_V vh_worth [(0, 10, 13, 25)] 341 198 46) (xm_rmH d) (va_Pc (as.map (xm_v ad)) (fun U => xm_B (XE sc) D ad ks h sz U ∧ xs_TF sa V ad (xm_A ad 164 sz) U)) (xm_Q (XE sc) D ad ks post sz) 1 6 (xm_A ad 164 sz) :=
  xm_metH (TF := xs_TF sa V ad) (XE_ok sc) yt_worth (Nat.le_of_ble_eq_true rfl) (by decide : plainName RL = true) xv_Vg (thr_w (thr_X11_worth hlt sa d) (fun _ q => q) xs_xv) (ctc_w (ct_worth sa) (fun _ q => q) xs_xv) (xs_TF_b ad) (xs_TF_w ad) (by decide +kernel : decode cL_worth 5 = .ok (.invokevirtual 46, 3)) rfl rfl hlen hrun D ad ks sz
set_option maxRecDepth 100000 in
theorem mew_write {sc : xm_Sc} {l : Launch} (hlt : l.stackTraces = false) (sa V : Nat → Nat) {d : Nat} {as : List Value} {h : xm_H} {post : xm_Po} (hlen : (lg_sl as).length ≤ 3) (hrun : xm_goH (XE sc) d 342 199 3 tw_X11_write hp_write post 0 (lv_args 0 as) [] h) (D : va_G) (ad : Nat → Nat) (ks : Nat → ClassId) (sz : Nat) : Met l yL_write (xm_wsH (XE sc) xv_V vh_write [(0, 8, 11, 15)] 342 199 49) (xm_rmH d) (va_Pc (as.map (xm_v ad)) (fun U => xm_B (XE sc) D ad ks h sz U ∧ xs_TF sa V ad (xm_A ad 164 sz) U)) (xm_Q (XE sc) D ad ks post sz) 1 6 (xm_A ad 164 sz) :=
  xm_metH (TF := xs_TF sa V ad) (XE_ok sc) yt_write (Nat.le_of_ble_eq_true rfl) (by decide : plainName RL = true) xv_Vg (thr_w (thr_X11_write hlt sa d) (fun _ q => q) xs_xv) (ctc_w (ct_write sa) (fun _ q => q) xs_xv) (xs_TF_b ad) (xs_TF_w ad) (by decide +kernel : decode cL_write 3 = .ok (.invokevirtual 49, 3)) rfl rfl hlen hrun D ad ks sz
set_option maxRecDepth 100000 in
theorem mew_out {sc : xm_Sc} {l : Launch} (hlt : l.stackTraces = false) (sa V : Nat → Nat) {d : Nat} {as : List Value} {h : xm_H} {post : xm_Po} (hlen : (lg_sl as).length ≤ 4) (hrun : xm_goH (XE sc) d 343 185 4 tw_X11_out hp_out post 0 (lv_args 0 as) [] h) (D : va_G) (ad : Nat → Nat) (ks : Nat → ClassId) (sz : Nat) : Met l yL_out (xm_wsH (XE sc) xv_V vh_out [(0, 8, 11, 25)] 343 185 52) (xm_rmH d) (va_Pc (as.map (xm_v ad)) (fun U => xm_B (XE sc) D ad ks h sz U ∧ xs_TF sa V ad (xm_A ad 164 sz) U)) (xm_Q (XE sc) D ad ks post sz) 1 6 (xm_A ad 164 sz) :=
  xm_metH (TF := xs_TF sa V ad) (XE_ok sc) yt_out (Nat.le_of_ble_eq_true rfl) (by decide : plainName RL = true) xv_Vg (thr_w (thr_X11_out hlt sa d) (fun _ q => q) xs_xv) (ctc_w (ct_out sa) (fun _ q => q) xs_xv) (xs_TF_b ad) (xs_TF_w ad) (by decide +kernel : decode cL_out 4 = .ok (.invokevirtual 52, 3)) rfl rfl hlen hrun D ad ks sz
set_option maxRecDepth 100000 in
theorem mew_look {sc : xm_Sc} {l : Launch} (hlt : l.stackTraces = false) (sa V : Nat → Nat) {d : Nat} {as : List Value} {h : xm_H} {post : xm_Po} (hlen : (lg_sl as).length ≤ 4) (hrun : xm_goH (XE sc) d 344 182 4 tw_X11_look hp_look post 0 (lv_args 0 as) [] h) (D : va_G) (ad : Nat → Nat) (ks : Nat → ClassId) (sz : Nat) : Met l yL_look (xm_wsH (XE sc) xv_V vh_look [(0, 9, 12, 13)] 344 182 56) (xm_rmH d) (va_Pc (as.map (xm_v ad)) (fun U => xm_B (XE sc) D ad ks h sz U ∧ xs_TF sa V ad (xm_A ad 164 sz) U)) (xm_Q (XE sc) D ad ks post sz) 1 6 (xm_A ad 164 sz) :=
  xm_metH (TF := xs_TF sa V ad) (XE_ok sc) yt_look (Nat.le_of_ble_eq_true rfl) (by decide : plainName RL = true) xv_Vg (thr_w (thr_X11_look hlt sa d) (fun _ q => q) xs_xv) (ctc_w (ct_look sa) (fun _ q => q) xs_xv) (xs_TF_b ad) (xs_TF_w ad) (by decide +kernel : decode cL_look 4 = .ok (.invokevirtual 56, 3)) rfl rfl hlen hrun D ad ks sz
set_option maxRecDepth 100000 in
theorem mew_speak {sc : xm_Sc} {l : Launch} (hlt : l.stackTraces = false) (sa V : Nat → Nat) {d : Nat} {as : List Value} {h : xm_H} {post : xm_Po} (hlen : (lg_sl as).length ≤ 3) {ad : Nat → Nat} (hrun : xm_goHY (XE sc) d 339 190 3 tw_X11_speak hp_speak (ex190 sc d) post 0 (lv_args 0 as) [] h) (D : va_G) (ks : Nat → ClassId) (sz : Nat) : Met l yL_speak (xm_wsH (XE sc) xs_V vh_speak [(0, 8, 11, 15)] 339 190 39) (xm_rmH (d + 3)) (va_Pc (as.map (xm_v ad)) (fun U => xm_B (XE sc) D ad ks h sz U ∧ xs_TF sa V ad (xm_A ad 164 sz) U)) (xm_Q (XE sc) D ad ks post sz) 1 6 (xm_A ad 164 sz) :=
  xm_metHY (TF := xs_TF sa V) (ad := ad) (XE_ok sc) yt_speak (Nat.le_of_ble_eq_true rfl) (by decide : plainName RL = true) xs_Vg (thr_w (thr_X11_speak hlt sa (d + 3)) (fun _ q => List.mem_append_left _ q) xs_xv) ex190_ok (ctc_w (ct_speak sa) (fun w hw => by
    rcases List.mem_cons.mp hw with q | q
    · rw [q]; exact List.mem_cons_self
    · refine List.mem_cons_of_mem _ ?_
      rcases List.mem_append.mp q with r | r
      · exact List.mem_append_left _ r
      · refine List.mem_append_right _ ?_
        rcases List.mem_append.mp r with v | v
        · exact List.mem_append_left _ v
        · exact List.mem_append_right _ (List.mem_append_left _ v)) xs_xv) (xs_TF_b ad) (xs_TF_w ad) (by decide +kernel : decode cL_speak 3 = .ok (.invokevirtual 39, 3)) rfl rfl hlen hrun D ks sz
def xw_Hp (sc : xm_Sc) (d : Nat) (z : Nat) (as : List Value) (h : xm_H) (post : xm_Po) : Prop := (z ≠ 339 ∧ xv_Hp sc (d + 3) z as h post) ∨ (z = 339 ∧ (lg_sl as).length ≤ 3 ∧ xm_goHY (XE sc) d 339 190 3 tw_X11_speak hp_speak (ex190 sc d) post 0 (lv_args 0 as) [] h)
def xw_wsz (sc : xm_Sc) : Nat → List Cond := fun z => if z = 339 then xm_wsH (XE sc) xs_V vh_speak [(0, 8, 11, 15)] 339 190 39 else xv_wsz sc z
theorem xhy_mono {E : xm_E} {d y z pcC : Nat} {tw : Nat → Option String} {hp : String → Option (Nat × Nat)} {ex : xm_Q1 → xm_Q1} {post post' : xm_Po} {pc : Nat} {lv : xm_L} {st : List Value} {h0 : xm_H} (hpost : ∀ r h', post r h' → post' r h') (h : xm_goHY E d y z pcC tw hp ex post pc lv st h0) : xm_goHY E d y z pcC tw hp ex post' pc lv st h0 :=
  fun P hP hw hc => h P (fun pc lv st h q => hP pc lv st h (xm_one_mono (xm_T_mono (d + 3) (d + 3) (Nat.le_refl _)) hpost (fun _ _ _ _ z => z) q)) hw (fun lv as b rest h a1 a2 a3 a4 q => hc lv as b rest h a1 a2 a3 a4 (fun P2 hP2 hw2 ht2 he2 => q P2 (fun pc lv st h q2 => hP2 pc lv st h (xm_one_mono (xm_T_mono d d (Nat.le_refl _)) (fun _ _ z => xm_go_mono (xm_T_mono (d + 3) (d + 3) (Nat.le_refl _)) hpost z) (fun _ _ _ _ z => z) q2)) hw2 (fun pc lv h X h1 h2 => ht2 pc lv h X h1 (by obtain ⟨q5, k5, e1, e2⟩ := h2; exact ⟨q5, k5, e1, xm_go_mono (xm_T_mono (d + 3) (d + 3) (Nat.le_refl _)) hpost e2⟩)) he2))
theorem xw_Hp_mono {sc : xm_Sc} {d : Nat} : ∀ z as h p q, (∀ r h', p r h' → q r h') → xw_Hp sc d z as h p → xw_Hp sc d z as h q := by
  intro z as h p q hq hh
  rcases hh with ⟨h1, h2⟩ | ⟨h1, h2, h3⟩
  · exact Or.inl ⟨h1, xv_Hp_mono z as h p q hq h2⟩
  · exact Or.inr ⟨h1, h2, xhy_mono hq h3⟩
set_option maxRecDepth 100000 in
theorem xw_met {sc : xm_Sc} {d : Nat} {l : Launch} (hlt : l.stackTraces = false) (sa V ad : Nat → Nat) : ∀ z as h post, xw_Hp sc d z as h post → ∀ (D : va_G) (ks : Nat → ClassId) (sz : Nat), Met l (xe_yn (XE sc) z) (xw_wsz sc z) (xm_rmH (d + 3)) (va_Pc (as.map (xm_v ad)) (fun U => xm_B (XE sc) D ad ks h sz U ∧ xs_TF sa V ad (xm_A ad (xe_sh (XE sc)).length sz) U)) (xm_Q (XE sc) D ad ks post sz) 1 6 (xm_A ad (xe_sh (XE sc)).length sz) := by
  intro z as h post hh D ks sz
  rcases hh with ⟨hz, hh⟩ | ⟨rfl, h1, h2⟩
  · unfold xv_Hp at hh
    rcases hh with ⟨rfl, h1, h2⟩ | ⟨rfl, h1, h2⟩ | ⟨rfl, h1, h2⟩ | ⟨rfl, h1, h2⟩ | ⟨rfl, h1, h2⟩ | ⟨rfl, h1, h2⟩ | ⟨rfl, h1, h2⟩ | ⟨rfl, h1, h2⟩ | ⟨rfl, h1, h2⟩ | ⟨rfl, h1, h2⟩ | ⟨rfl, h1, h2⟩ | ⟨rfl, h1, h2⟩
    · exact mew_feed hlt sa V h1 h2 D ad ks sz
    · exact mew_run hlt sa V h1 h2 D ad ks sz
    · exact mew_node hlt sa V h1 h2 D ad ks sz
    · exact mew_root hlt sa V h1 h2 D ad ks sz
    · exact mew_typeRoot hlt sa V h1 h2 D ad ks sz
    · exact mew_type hlt sa V h1 h2 D ad ks sz
    · exact absurd rfl hz
    · exact mew_value hlt sa V h1 h2 D ad ks sz
    · exact mew_worth hlt sa V h1 h2 D ad ks sz
    · exact mew_write hlt sa V h1 h2 D ad ks sz
    · exact mew_out hlt sa V h1 h2 D ad ks sz
    · exact mew_look hlt sa V h1 h2 D ad ks sz
  · exact mew_speak hlt sa V h1 h2 D ks sz
