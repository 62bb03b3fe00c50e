/-! ===== the start: what XE says of the law ===== -/
theorem go_sh (sc : xm_Sc) : xe_sh (XE sc) = xt_sh := rfl
theorem go_cl (sc : xm_Sc) : xe_cl (XE sc) = vwCl := rfl
theorem go_ml (sc : xm_Sc) : xe_ml (XE sc) 330 = 8 := rfl
theorem go_yn (sc : xm_Sc) : xe_yn (XE sc) 330 = yL_law := rfl
theorem go_cy (sc : xm_Sc) : xe_cy (XE sc) 330 = cL_law := rfl
theorem go_ry (sc : xm_Sc) : xe_ry (XE sc) 330 = some .boolean := rfl
theorem go_U (sc : xm_Sc) : ∀ w ∈ xe_U (XE sc), w ∈ lw_tbl := fun w hw => (hU_g w hw).1
set_option maxRecDepth 100000 in
theorem go_len : xt_sh.length = 164 := rfl
theorem go_r1 : 60 + 8 ≤ room_1.frames := Nat.le_of_ble_eq_true rfl
theorem go_r2 : 100 * (60 + 4) ≤ room_1.locals := Nat.le_of_ble_eq_true rfl
theorem go_r3 : 164 + 600 ≤ room_1.cells := Nat.le_of_ble_eq_true rfl
theorem go_r4 : 1857593 + 6 * 600 ≤ room_1.slots := Nat.le_of_ble_eq_true rfl
