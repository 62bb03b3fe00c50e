def xv_Hp (sc : xm_Sc) (d : Nat) (z : Nat) (as : List Value) (h : xm_H) (post : xm_Po) : Prop := (z = 333 ∧ (lg_sl as).length ≤ 6 ∧ xm_goH (XE sc) d 333 179 6 tw_X11_feed hp_feed post 0 (lv_args 0 as) [] h) ∨ (z = 334 ∧ (lg_sl as).length ≤ 6 ∧ xm_goH (XE sc) d 334 188 7 tw_X11_run hp_run post 0 (lv_args 0 as) [] h) ∨ (z = 335 ∧ (lg_sl as).length ≤ 5 ∧ xm_goH (XE sc) d 335 184 5 tw_X11_node hp_node post 0 (lv_args 0 as) [] h) ∨ (z = 336 ∧ (lg_sl as).length ≤ 5 ∧ xm_goH (XE sc) d 336 187 5 tw_X11_root hp_root post 0 (lv_args 0 as) [] h) ∨ (z = 337 ∧ (lg_sl as).length ≤ 6 ∧ xm_goH (XE sc) d 337 194 7 tw_X11_typeRoot hp_typeRoot post 0 (lv_args 0 as) [] h) ∨ (z = 338 ∧ (lg_sl as).length ≤ 5 ∧ xm_goH (XE sc) d 338 193 5 tw_X11_type hp_type post 0 (lv_args 0 as) [] h) ∨ (z = 339 ∧ (lg_sl as).length ≤ 3 ∧ xm_goH (XE sc) d 339 190 3 tw_X11_speak hp_speak post 0 (lv_args 0 as) [] h) ∨ (z = 340 ∧ (lg_sl as).length ≤ 5 ∧ xm_goH (XE sc) d 340 195 5 tw_X11_value hp_value post 0 (lv_args 0 as) [] h) ∨ (z = 341 ∧ (lg_sl as).length ≤ 5 ∧ xm_goH (XE sc) d 341 198 5 tw_X11_worth hp_worth post 0 (lv_args 0 as) [] h) ∨ (z = 342 ∧ (lg_sl as).length ≤ 3 ∧ xm_goH (XE sc) d 342 199 3 tw_X11_write hp_write post 0 (lv_args 0 as) [] h) ∨ (z = 343 ∧ (lg_sl as).length ≤ 4 ∧ xm_goH (XE sc) d 343 185 4 tw_X11_out hp_out post 0 (lv_args 0 as) [] h) ∨ (z = 344 ∧ (lg_sl as).length ≤ 4 ∧ xm_goH (XE sc) d 344 182 4 tw_X11_look hp_look post 0 (lv_args 0 as) [] h)
def xv_wsz (sc : xm_Sc) : Nat → List Cond := fun z => if z = 333 then xm_wsH (XE sc) xv_V vh_feed [(0, 11, 14, 13), (0, 11, 18, 15)] 333 179 7 else if z = 334 then xm_wsH (XE sc) xv_V vh_run [(0, 12, 15, 13), (0, 12, 19, 15)] 334 188 17 else if z = 335 then xm_wsH (XE sc) xv_V vh_node [(0, 10, 13, 25)] 335 184 21 else if z = 336 then xm_wsH (XE sc) xv_V vh_root [(0, 9, 12, 25)] 336 187 27 else if z = 337 then xm_wsH (XE sc) xv_V vh_typeRoot [(0, 11, 14, 25)] 337 194 31 else if z = 338 then xm_wsH (XE sc) xv_V vh_type [(0, 10, 13, 25)] 338 193 35 else if z = 339 then xm_wsH (XE sc) xv_V vh_speak [(0, 8, 11, 15)] 339 190 39 else if z = 340 then xm_wsH (XE sc) xv_V vh_value [(0, 10, 13, 25)] 340 195 43 else if z = 341 then xm_wsH (XE sc) xv_V vh_worth [(0, 10, 13, 25)] 341 198 46 else if z = 342 then xm_wsH (XE sc) xv_V vh_write [(0, 8, 11, 15)] 342 199 49 else if z = 343 then xm_wsH (XE sc) xv_V vh_out [(0, 8, 11, 25)] 343 185 52 else if z = 344 then xm_wsH (XE sc) xv_V vh_look [(0, 9, 12, 13)] 344 182 56 else []
def xv_hhz : Nat → List (Nat × Nat × Nat × Nat) := fun z => if z = 333 then [(0, 11, 14, 13), (0, 11, 18, 15)] else if z = 334 then [(0, 12, 15, 13), (0, 12, 19, 15)] else if z = 335 then [(0, 10, 13, 25)] else if z = 336 then [(0, 9, 12, 25)] else if z = 337 then [(0, 11, 14, 25)] else if z = 338 then [(0, 10, 13, 25)] else if z = 339 then [(0, 8, 11, 15)] else if z = 340 then [(0, 10, 13, 25)] else if z = 341 then [(0, 10, 13, 25)] else if z = 342 then [(0, 8, 11, 15)] else if z = 343 then [(0, 8, 11, 25)] else if z = 344 then [(0, 9, 12, 13)] else []
theorem xv_Hp_mono {sc : xm_Sc} {d : Nat} : ∀ z as h p q, (∀ r h', p r h' → q r h') → xv_Hp sc d z as h p → xv_Hp sc d z as h q := by
  intro z as h p q hpq hh
  unfold xv_Hp at hh ⊢
  rcases hh with ⟨rfl, h1, h2⟩ | ⟨rfl, h1, h2⟩ | ⟨rfl, h1, h2⟩ | ⟨rfl, h1, h2⟩ | ⟨rfl, h1, h2⟩ | ⟨rfl, h1, h2⟩ | ⟨rfl, h1, h2⟩ | ⟨rfl, h1, h2⟩ | ⟨rfl, h1, h2⟩ | ⟨rfl, h1, h2⟩ | ⟨rfl, h1, h2⟩ | ⟨rfl, h1, h2⟩
  · exact Or.inl ⟨rfl, h1, xh_mono hpq h2⟩
  · exact Or.inr (Or.inl ⟨rfl, h1, xh_mono hpq h2⟩)
  · exact Or.inr (Or.inr (Or.inl ⟨rfl, h1, xh_mono hpq h2⟩))
  · exact Or.inr (Or.inr (Or.inr (Or.inl ⟨rfl, h1, xh_mono hpq h2⟩)))
  · exact Or.inr (Or.inr (Or.inr (Or.inr (Or.inl ⟨rfl, h1, xh_mono hpq h2⟩))))
  · exact Or.inr (Or.inr (Or.inr (Or.inr (Or.inr (Or.inl ⟨rfl, h1, xh_mono hpq h2⟩)))))
  · exact Or.inr (Or.inr (Or.inr (Or.inr (Or.inr (Or.inr (Or.inl ⟨rfl, h1, xh_mono hpq h2⟩))))))
  · exact Or.inr (Or.inr (Or.inr (Or.inr (Or.inr (Or.inr (Or.inr (Or.inl ⟨rfl, h1, xh_mono hpq h2⟩)))))))
  · exact Or.inr (Or.inr (Or.inr (Or.inr (Or.inr (Or.inr (Or.inr (Or.inr (Or.inl ⟨rfl, h1, xh_mono hpq h2⟩))))))))
  · exact Or.inr (Or.inr (Or.inr (Or.inr (Or.inr (Or.inr (Or.inr (Or.inr (Or.inr (Or.inl ⟨rfl, h1, xh_mono hpq h2⟩)))))))))
  · exact Or.inr (Or.inr (Or.inr (Or.inr (Or.inr (Or.inr (Or.inr (Or.inr (Or.inr (Or.inr (Or.inl ⟨rfl, h1, xh_mono hpq h2⟩))))))))))
  · exact Or.inr (Or.inr (Or.inr (Or.inr (Or.inr (Or.inr (Or.inr (Or.inr (Or.inr (Or.inr (Or.inr (⟨rfl, h1, xh_mono hpq h2⟩)))))))))))
theorem xv_feed {sc : xm_Sc} {d : Nat} {as : List Value} {h : xm_H} {post : xm_Po} (h1 : (lg_sl as).length ≤ 6) (h2 : xm_goH (XE sc) d 333 179 6 tw_X11_feed hp_feed post 0 (lv_args 0 as) [] h) : xv_Hp sc d 333 as h post := by
  unfold xv_Hp
  exact Or.inl ⟨rfl, h1, h2⟩
theorem wsz_feed {sc : xm_Sc} : xv_wsz sc 333 = xm_wsH (XE sc) xv_V vh_feed [(0, 11, 14, 13), (0, 11, 18, 15)] 333 179 7 := rfl
theorem xv_run {sc : xm_Sc} {d : Nat} {as : List Value} {h : xm_H} {post : xm_Po} (h1 : (lg_sl as).length ≤ 6) (h2 : xm_goH (XE sc) d 334 188 7 tw_X11_run hp_run post 0 (lv_args 0 as) [] h) : xv_Hp sc d 334 as h post := by
  unfold xv_Hp
  exact Or.inr (Or.inl ⟨rfl, h1, h2⟩)
theorem wsz_run {sc : xm_Sc} : xv_wsz sc 334 = xm_wsH (XE sc) xv_V vh_run [(0, 12, 15, 13), (0, 12, 19, 15)] 334 188 17 := rfl
theorem xv_node {sc : xm_Sc} {d : Nat} {as : List Value} {h : xm_H} {post : xm_Po} (h1 : (lg_sl as).length ≤ 5) (h2 : xm_goH (XE sc) d 335 184 5 tw_X11_node hp_node post 0 (lv_args 0 as) [] h) : xv_Hp sc d 335 as h post := by
  unfold xv_Hp
  exact Or.inr (Or.inr (Or.inl ⟨rfl, h1, h2⟩))
theorem wsz_node {sc : xm_Sc} : xv_wsz sc 335 = xm_wsH (XE sc) xv_V vh_node [(0, 10, 13, 25)] 335 184 21 := rfl
theorem xv_root {sc : xm_Sc} {d : Nat} {as : List Value} {h : xm_H} {post : xm_Po} (h1 : (lg_sl as).length ≤ 5) (h2 : xm_goH (XE sc) d 336 187 5 tw_X11_root hp_root post 0 (lv_args 0 as) [] h) : xv_Hp sc d 336 as h post := by
  unfold xv_Hp
  exact Or.inr (Or.inr (Or.inr (Or.inl ⟨rfl, h1, h2⟩)))
theorem wsz_root {sc : xm_Sc} : xv_wsz sc 336 = xm_wsH (XE sc) xv_V vh_root [(0, 9, 12, 25)] 336 187 27 := rfl
theorem xv_typeRoot {sc : xm_Sc} {d : Nat} {as : List Value} {h : xm_H} {post : xm_Po} (h1 : (lg_sl as).length ≤ 6) (h2 : xm_goH (XE sc) d 337 194 7 tw_X11_typeRoot hp_typeRoot post 0 (lv_args 0 as) [] h) : xv_Hp sc d 337 as h post := by
  unfold xv_Hp
  exact Or.inr (Or.inr (Or.inr (Or.inr (Or.inl ⟨rfl, h1, h2⟩))))
theorem wsz_typeRoot {sc : xm_Sc} : xv_wsz sc 337 = xm_wsH (XE sc) xv_V vh_typeRoot [(0, 11, 14, 25)] 337 194 31 := rfl
theorem xv_type {sc : xm_Sc} {d : Nat} {as : List Value} {h : xm_H} {post : xm_Po} (h1 : (lg_sl as).length ≤ 5) (h2 : xm_goH (XE sc) d 338 193 5 tw_X11_type hp_type post 0 (lv_args 0 as) [] h) : xv_Hp sc d 338 as h post := by
  unfold xv_Hp
  exact Or.inr (Or.inr (Or.inr (Or.inr (Or.inr (Or.inl ⟨rfl, h1, h2⟩)))))
theorem wsz_type {sc : xm_Sc} : xv_wsz sc 338 = xm_wsH (XE sc) xv_V vh_type [(0, 10, 13, 25)] 338 193 35 := rfl
theorem xv_speak {sc : xm_Sc} {d : Nat} {as : List Value} {h : xm_H} {post : xm_Po} (h1 : (lg_sl as).length ≤ 3) (h2 : xm_goH (XE sc) d 339 190 3 tw_X11_speak hp_speak post 0 (lv_args 0 as) [] h) : xv_Hp sc d 339 as h post := by
  unfold xv_Hp
  exact Or.inr (Or.inr (Or.inr (Or.inr (Or.inr (Or.inr (Or.inl ⟨rfl, h1, h2⟩))))))
theorem wsz_speak {sc : xm_Sc} : xv_wsz sc 339 = xm_wsH (XE sc) xv_V vh_speak [(0, 8, 11, 15)] 339 190 39 := rfl
theorem xv_value {sc : xm_Sc} {d : Nat} {as : List Value} {h : xm_H} {post : xm_Po} (h1 : (lg_sl as).length ≤ 5) (h2 : xm_goH (XE sc) d 340 195 5 tw_X11_value hp_value post 0 (lv_args 0 as) [] h) : xv_Hp sc d 340 as h post := by
  unfold xv_Hp
  exact Or.inr (Or.inr (Or.inr (Or.inr (Or.inr (Or.inr (Or.inr (Or.inl ⟨rfl, h1, h2⟩)))))))
theorem wsz_value {sc : xm_Sc} : xv_wsz sc 340 = xm_wsH (XE sc) xv_V vh_value [(0, 10, 13, 25)] 340 195 43 := rfl
theorem xv_worth {sc : xm_Sc} {d : Nat} {as : List Value} {h : xm_H} {post : xm_Po} (h1 : (lg_sl as).length ≤ 5) (h2 : xm_goH (XE sc) d 341 198 5 tw_X11_worth hp_worth post 0 (lv_args 0 as) [] h) : xv_Hp sc d 341 as h post := by
  unfold xv_Hp
  exact Or.inr (Or.inr (Or.inr (Or.inr (Or.inr (Or.inr (Or.inr (Or.inr (Or.inl ⟨rfl, h1, h2⟩))))))))
theorem wsz_worth {sc : xm_Sc} : xv_wsz sc 341 = xm_wsH (XE sc) xv_V vh_worth [(0, 10, 13, 25)] 341 198 46 := rfl
theorem xv_write {sc : xm_Sc} {d : Nat} {as : List Value} {h : xm_H} {post : xm_Po} (h1 : (lg_sl as).length ≤ 3) (h2 : xm_goH (XE sc) d 342 199 3 tw_X11_write hp_write post 0 (lv_args 0 as) [] h) : xv_Hp sc d 342 as h post := by
  unfold xv_Hp
  exact Or.inr (Or.inr (Or.inr (Or.inr (Or.inr (Or.inr (Or.inr (Or.inr (Or.inr (Or.inl ⟨rfl, h1, h2⟩)))))))))
theorem wsz_write {sc : xm_Sc} : xv_wsz sc 342 = xm_wsH (XE sc) xv_V vh_write [(0, 8, 11, 15)] 342 199 49 := rfl
theorem xv_out {sc : xm_Sc} {d : Nat} {as : List Value} {h : xm_H} {post : xm_Po} (h1 : (lg_sl as).length ≤ 4) (h2 : xm_goH (XE sc) d 343 185 4 tw_X11_out hp_out post 0 (lv_args 0 as) [] h) : xv_Hp sc d 343 as h post := by
  unfold xv_Hp
  exact Or.inr (Or.inr (Or.inr (Or.inr (Or.inr (Or.inr (Or.inr (Or.inr (Or.inr (Or.inr (Or.inl ⟨rfl, h1, h2⟩))))))))))
theorem wsz_out {sc : xm_Sc} : xv_wsz sc 343 = xm_wsH (XE sc) xv_V vh_out [(0, 8, 11, 25)] 343 185 52 := rfl
theorem xv_look {sc : xm_Sc} {d : Nat} {as : List Value} {h : xm_H} {post : xm_Po} (h1 : (lg_sl as).length ≤ 4) (h2 : xm_goH (XE sc) d 344 182 4 tw_X11_look hp_look post 0 (lv_args 0 as) [] h) : xv_Hp sc d 344 as h post := by
  unfold xv_Hp
  exact Or.inr (Or.inr (Or.inr (Or.inr (Or.inr (Or.inr (Or.inr (Or.inr (Or.inr (Or.inr (Or.inr (⟨rfl, h1, h2⟩)))))))))))
theorem wsz_look {sc : xm_Sc} : xv_wsz sc 344 = xm_wsH (XE sc) xv_V vh_look [(0, 9, 12, 13)] 344 182 56 := rfl
set_option maxRecDepth 100000 in
theorem xv_met {sc : xm_Sc} {d : Nat} {l : Launch} (hlt : l.stackTraces = false) (sa : Nat → Nat) : ∀ z as h post, xv_Hp sc d z as h post → ∀ (D : va_G) (ad : Nat → Nat) (ks : Nat → ClassId) (sz : Nat), Met l (xe_yn (XE sc) z) (xv_wsz sc z) (xm_rmH d) (va_Pc (as.map (xm_v ad)) (fun U => xm_B (XE sc) D ad ks h sz U ∧ xv_TF sa (xm_A ad (xe_sh (XE sc)).length sz) U)) (xm_Q (XE sc) D ad ks post sz) 1 6 (xm_A ad (xe_sh (XE sc)).length sz) := by
  intro z as h post hh D ad ks sz
  unfold xv_Hp at hh
  rcases hh with ⟨rfl, h1, h2⟩ | ⟨rfl, h1, h2⟩ | ⟨rfl, h1, h2⟩ | ⟨rfl, h1, h2⟩ | ⟨rfl, h1, h2⟩ | ⟨rfl, h1, h2⟩ | ⟨rfl, h1, h2⟩ | ⟨rfl, h1, h2⟩ | ⟨rfl, h1, h2⟩ | ⟨rfl, h1, h2⟩ | ⟨rfl, h1, h2⟩ | ⟨rfl, h1, h2⟩
  · exact met_feed hlt sa h1 h2 D ad ks sz
  · exact met_run hlt sa h1 h2 D ad ks sz
  · exact met_node hlt sa h1 h2 D ad ks sz
  · exact met_root hlt sa h1 h2 D ad ks sz
  · exact met_typeRoot hlt sa h1 h2 D ad ks sz
  · exact met_type hlt sa h1 h2 D ad ks sz
  · exact met_speak hlt sa h1 h2 D ad ks sz
  · exact met_value hlt sa h1 h2 D ad ks sz
  · exact met_worth hlt sa h1 h2 D ad ks sz
  · exact met_write hlt sa h1 h2 D ad ks sz
  · exact met_out hlt sa h1 h2 D ad ks sz
  · exact met_look hlt sa h1 h2 D ad ks sz
