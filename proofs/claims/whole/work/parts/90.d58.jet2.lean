/-! ===== jets: what each gives, as rows of bits; the class: reckon ===== -/
def jPop (x : Nat) : Nat → Nat
  | 0 => 0
  | n + 1 => jPop x n + x / 2 ^ n % 2
/-- zeros ahead of a word of n bits -/
def jLz (x : Nat) : Nat → Nat
  | 0 => 0
  | n + 1 => if x / 2 ^ n % 2 = 1 then 0 else 1 + jLz x n
def jB (p : Bool) : List Bool := [p]
def jL (k w c x y z v : Nat) : List Bool :=
  if k = 0 ∨ k = 1 then bbits 1 ((x + y + c) / 2 ^ w) ++ bbits w (x + y + c)
  else if k = 2 ∨ k = 3 then bbits 1 (if x < y + c then 1 else 0) ++ bbits w (x + 2 ^ w + 2 ^ w - y - c)
  else if k = 4 then bbits 1 ((x + 1) / 2 ^ w) ++ bbits w (x + 1)
  else if k = 5 then bbits 1 (if x < 1 then 1 else 0) ++ bbits w (x + 2 ^ w - 1)
  else if k = 6 then bbits 1 (if 0 < x then 1 else 0) ++ bbits w (2 ^ w - x)
  else if k = 7 ∨ k = 8 then bbits w ((x * y + z + v) / 2 ^ w) ++ bbits w (x * y + z + v)
  else if k = 9 then bbits w (x / y)
  else if k = 10 then bbits w (x % y)
  else if k = 11 then bbits 1 (if y % x = 0 then 1 else 0)
  else if k = 12 then bbits 1 (if x = y then 1 else 0)
  else if k = 13 then bbits 1 (if x < y then 1 else 0)
  else if k = 14 then bbits 1 (if x ≤ y then 1 else 0)
  else if k = 15 then bbits 1 (if (x + 2 ^ (w - 1)) % 2 ^ w < (y + 2 ^ (w - 1)) % 2 ^ w then 1 else 0)
  else if k = 16 then bbits w (min x y)
  else if k = 17 then bbits w (max x y)
  else if k = 18 then bbits w (max (min x y) (min (max x y) z))
  else if k = 19 then bbits 1 (if x = 0 then 1 else 0)
  else if k = 20 then bbits 1 (if x = 1 then 1 else 0)
  else if k = 21 then bbits 1 (if x = 2 ^ w - 1 then 1 else 0)
  else if k = 22 then bbits 1 (if x ≠ 0 then 1 else 0)
  else if k = 23 then bbits w (x ^^^ (2 ^ w - 1))
  else if k = 24 then bbits w (x &&& y)
  else if k = 25 then bbits w (x ||| y)
  else if k = 26 then bbits w (x ^^^ y)
  else if k = 27 then bbits w (x ^^^ y ^^^ z)
  else if k = 28 then bbits w (x &&& y ||| x &&& z ||| y &&& z)
  else if k = 29 then bbits w (x &&& y ||| (x ^^^ (2 ^ w - 1)) &&& z)
  else if k = 30 then bbits w 0
  else if k = 31 then bbits w (2 ^ w - 1)
  else if k = 32 then bbits w (if w ≤ c then 0 else x * 2 ^ c)
  else if k = 33 then bbits w (if w ≤ c then 0 else x / 2 ^ c)
  else if k = 34 then bbits w (x * 2 ^ (c % w) + x / 2 ^ (w - c % w))
  else if k = 35 then bbits w (x / 2 ^ (c % w) + x * 2 ^ (w - c % w))
  else if k = 36 then bbits 8 (jPop x w)
  else if k = 37 then bbits 8 (jLz x w)
  else if k = 38 then bbits (w / 2) (x / 2 ^ (w / 2))
  else if k = 39 then bbits (w / 2) x
  else if k = 40 then bbits w x
  else bbits w (x * 2 ^ (w / 2))
/-- what the class writes, by the shape of the target -/
def jGv (t w B H L : Nat) : List Bool := match t with
  | 1 => bbits 1 B
  | 2 => bbits (w / 2) L
  | 4 => bbits w H ++ bbits w L
  | 6 => bbits 8 L
  | 7 => bbits 1 B ++ bbits w L
  | _ => bbits w L
theorem bb_cg {w a b : Nat} (h : a % 2 ^ w = b % 2 ^ w) : bbits w a = bbits w b := by rw [← bbits_mod, h, bbits_mod]
/-- the words of the jets' object -/
def jSt (h : xm_H) (w c x y z v : Nat) : Prop := h.2.2 39 0 = .int (nI w) ∧ h.2.2 39 1 = .long (lN (2 ^ w - 1)) ∧ h.2.2 39 2 = .int (nI c) ∧ h.2.2 39 3 = .long (lN x) ∧ h.2.2 39 4 = .long (lN y) ∧ h.2.2 39 5 = .long (lN z) ∧ h.2.2 39 6 = .long (lN v)
def jRs (h h' : xm_H) (B H L : Nat) : Prop := Fr [] [(39, 7), (39, 8), (39, 9)] h h' ∧ h'.2.2 39 7 = .long (lN B) ∧ h'.2.2 39 8 = .long (lN H) ∧ h'.2.2 39 9 = .long (lN L) ∧ B < 2 ^ 64 ∧ H < 2 ^ 64 ∧ L < 2 ^ 64
section J2
variable {sc : xm_Sc} {d w : Nat} {h : xm_H} {post : xm_Po}
theorem sp_addWords {a b c h0 : Nat} (hw : jw w) (h0w : h.2.2 39 0 = .int (nI w)) (h1 : h.2.2 39 1 = .long (lN (2 ^ w - 1))) (h8 : h.2.2 39 8 = .long (lN h0)) (hh0 : h0 < 2 ^ 64) (ha : a < 2 ^ w) (hb : b < 2 ^ w) (hc : c ≤ 1)
    (hp : ∀ h', jRs h h' ((a + b + c) / 2 ^ w) h0 ((a + b + c) % 2 ^ w) → post none h') : xm_T (XE sc) (d + 1) 53 [.ref 39, .long (lN a), .long (lN b), .int (nI c)] h post := by
  have hle := jw_le hw
  have hpw := jw_p hw
  have ha' : a < 2 ^ 64 := by omega
  have hb' : b < 2 ^ 64 := by omega
  have e1 : lN (a + b + c) &&& lN (2 ^ w - 1) = lN ((a + b + c) % 2 ^ w) := jo_and hw
  have hor : a ||| b < 2 ^ 64 := Nat.or_lt_two_pow ha' hb'
  have hx : (a + b + c) % 2 ^ 64 ^^^ (2 ^ 64 - 1) < 2 ^ 64 := xor_lt64 (Nat.mod_lt _ (by decide)) (by decide)
  have hand : (a ||| b) &&& ((a + b + c) % 2 ^ 64 ^^^ (2 ^ 64 - 1)) < 2 ^ 64 := Nat.and_lt_two_pow _ hx
  have hab : a &&& b < 2 ^ 64 := Nat.and_lt_two_pow _ hb'
  have e2 : (((lN a &&& lN b) ||| ((lN a ||| lN b) &&& (lN (a + b + c) ^^^ (-1)))).toUInt64 >>> ((nI (w - 1)).toInt64.toUInt64 &&& Int64.toUInt64 63)).toInt64 &&& lN 1 = lN ((a + b + c) / 2 ^ w) := by
    rw [lN_m1, wb_mod (a + b + c), lN_xor, wb_and ha' hb', wb_or ha' hb', wb_and hor hx, wb_or hab hand, jb_1 (Nat.or_lt_two_pow hab hand) (by omega), add_bit hw ha hb hc]
  refine xq_in rfl ?_
  simp only [xq_a0, xq_aI, xq_aJ, xq_aR, Nat.reduceAdd]
  have ic : (nI c).toInt64 = lN c := i2l_n (by omega)
  with_reducible refine xm_go_blk b_X2_addWords_0 k_X2_addWords_0 ?_
  refine by_lload_n rfl ?_
  refine by_lload_n rfl ?_
  refine by_ladd ?_
  refine by_iload rfl ?_
  refine by_i2l ?_
  refine by_ladd ?_
  refine by_lstore (by rw [ml_53]; decide) ?_
  refine by_aload_n rfl ?_
  refine by_lload rfl ?_
  refine by_aload_n rfl ?_
  refine by_getf cn_53 fl_2_15 (by first | exact rfl | assumption) (by decide) ?_
  simp (disch := first | exact Nat.ne_of_beq_eq_false rfl | exact rfl | omega) only [nI_add, xa_sub, xa_mul, pk_div, nm_mod, xa_shr, xa_and7, xa_and1, xa_and255, xa_by_and, nI_m1, Nat.add_sub_cancel, Nat.reducePow, Nat.zero_add, Nat.add_zero, Nat.reduceAdd, Nat.reduceMul, Nat.reduceSub, xf_same, xq_ff, xq_fo, xf_1, xf_2, xs_1, xs_2, xs_same, xq_so, xj_1, xj_2, xj_same, xq_jo, xq_sa1, xq_same, xq_other, upd_s, oI_n, oI_s, lN_pl, ic, h1, h0w, e1, e2]
  refine by_land ?_
  refine by_putf cn_53 fl_2_33 (by first | exact rfl | assumption) (by decide) nf_2_9 ft_2_9 (by first | rfl | assumption) (by first | rfl | assumption) ?_
  refine by_aload_n rfl ?_
  refine by_lload_n rfl ?_
  refine by_lload_n rfl ?_
  refine by_land ?_
  refine by_lload_n rfl ?_
  refine by_lload_n rfl ?_
  refine by_lor ?_
  refine by_lload rfl ?_
  refine by_ldc2 cn_53 kl_2_13 rfl ?_
  refine by_lxor ?_
  refine by_land ?_
  refine by_lor ?_
  refine by_aload_n rfl ?_
  refine by_getf cn_53 fl_2_7 (by first | exact rfl | assumption) (by decide) ?_
  refine by_iconst ci_1 ?_
  simp (disch := first | exact Nat.ne_of_beq_eq_false rfl | exact rfl | omega) only [nI_add, xa_sub, xa_mul, pk_div, nm_mod, xa_shr, xa_and7, xa_and1, xa_and255, xa_by_and, nI_m1, Nat.add_sub_cancel, Nat.reducePow, Nat.zero_add, Nat.add_zero, Nat.reduceAdd, Nat.reduceMul, Nat.reduceSub, xf_same, xq_ff, xq_fo, xf_1, xf_2, xs_1, xs_2, xs_same, xq_so, xj_1, xj_2, xj_same, xq_jo, xq_sa1, xq_same, xq_other, upd_s, oI_n, oI_s, lN_pl, ic, h1, h0w, e1, e2]
  refine by_isub ?_
  refine by_lushr ?_
  refine by_lconst cl_1 ?_
  refine by_land ?_
  refine by_putf cn_53 fl_2_27 (by first | exact rfl | assumption) (by decide) nf_2_7 ft_2_7 (by first | rfl | assumption) (by first | rfl | assumption) ?_
  refine by_ret ry_53 ?_
  try simp (disch := first | exact Nat.ne_of_beq_eq_false rfl | exact rfl | omega) only [nI_add, xa_sub, xa_mul, pk_div, nm_mod, xa_shr, xa_and7, xa_and1, xa_and255, xa_by_and, nI_m1, Nat.add_sub_cancel, Nat.reducePow, Nat.zero_add, Nat.add_zero, Nat.reduceAdd, Nat.reduceMul, Nat.reduceSub, xf_same, xq_ff, xq_fo, xf_1, xf_2, xs_1, xs_2, xs_same, xq_so, xj_1, xj_2, xj_same, xq_jo, xq_sa1, xq_same, xq_other, upd_s, oI_n, oI_s, lN_pl, ic, h1, h0w, e1, e2]
  refine hp _ ⟨Fr_sf (Fr_sf Fr_rf (by simp)) (by simp), by simp [xm_sf, updV], by rw [← h8]; simp [xm_sf, updV], by simp [xm_sf, updV], ?_, hh0, ?_⟩
  · exact Nat.lt_of_lt_of_le (Nat.div_lt_of_lt_mul (show a + b + c < 2 ^ w * 2 by omega)) (by decide)
  · exact Nat.lt_of_lt_of_le (Nat.mod_lt _ (Nat.two_pow_pos w)) hpw
theorem sp_subtract {a b c h0 : Nat} (hw : jw w) (h0w : h.2.2 39 0 = .int (nI w)) (h1 : h.2.2 39 1 = .long (lN (2 ^ w - 1))) (h8 : h.2.2 39 8 = .long (lN h0)) (hh0 : h0 < 2 ^ 64) (ha : a < 2 ^ w) (hb : b < 2 ^ w) (hc : c ≤ 1)
    (hp : ∀ h', jRs h h' (if a < b + c then 1 else 0) h0 ((a + 2 ^ 64 - b + 2 ^ 64 - c) % 2 ^ w) → post none h') : xm_T (XE sc) (d + 1) 66 [.ref 39, .long (lN a), .long (lN b), .int (nI c)] h post := by
  have hle := jw_le hw
  have hpw := jw_p hw
  have ha' : a < 2 ^ 64 := by omega
  have hb' : b < 2 ^ 64 := by omega
  have er : lN a - lN b - lN c = lN (a + 2 ^ 64 - b + 2 ^ 64 - c) := by rw [lN_sb (by omega), lN_sb (by omega)]
  have e1 : lN (a + 2 ^ 64 - b + 2 ^ 64 - c) &&& lN (2 ^ w - 1) = lN ((a + 2 ^ 64 - b + 2 ^ 64 - c) % 2 ^ w) := jo_and hw
  have hxa : a ^^^ (2 ^ 64 - 1) < 2 ^ 64 := xor_lt64 ha' (by decide)
  have hm : (a + 2 ^ 64 - b + 2 ^ 64 - c) % 2 ^ 64 < 2 ^ 64 := Nat.mod_lt _ (by decide)
  have hor : a ^^^ (2 ^ 64 - 1) ||| b < 2 ^ 64 := Nat.or_lt_two_pow hxa hb'
  have hand : (a ^^^ (2 ^ 64 - 1) ||| b) &&& ((a + 2 ^ 64 - b + 2 ^ 64 - c) % 2 ^ 64) < 2 ^ 64 := Nat.and_lt_two_pow _ hm
  have hab : (a ^^^ (2 ^ 64 - 1)) &&& b < 2 ^ 64 := Nat.and_lt_two_pow _ hb'
  have e2 : ((((lN a ^^^ (-1)) &&& lN b) ||| (((lN a ^^^ (-1)) ||| lN b) &&& lN (a + 2 ^ 64 - b + 2 ^ 64 - c))).toUInt64 >>> ((nI (w - 1)).toInt64.toUInt64 &&& Int64.toUInt64 63)).toInt64 &&& lN 1 = lN (if a < b + c then 1 else 0) := by
    rw [lN_m1, wb_mod (a + 2 ^ 64 - b + 2 ^ 64 - c), lN_xor, wb_and hxa hb', wb_or hxa hb', wb_and hor hm, wb_or hab hand, jb_1 (Nat.or_lt_two_pow hab hand) (by omega), sub_bit hw ha hb hc]
  refine xq_in rfl ?_
  simp only [xq_a0, xq_aI, xq_aJ, xq_aR, Nat.reduceAdd]
  have ic : (nI c).toInt64 = lN c := i2l_n (by omega)
  with_reducible refine xm_go_blk b_X2_subtract_0 k_X2_subtract_0 ?_
  refine by_lload_n rfl ?_
  refine by_lload_n rfl ?_
  refine by_lsub ?_
  refine by_iload rfl ?_
  refine by_i2l ?_
  refine by_lsub ?_
  refine by_lstore (by rw [ml_66]; decide) ?_
  refine by_aload_n rfl ?_
  refine by_lload rfl ?_
  refine by_aload_n rfl ?_
  refine by_getf cn_66 fl_2_15 (by first | exact rfl | assumption) (by decide) ?_
  simp (disch := first | exact Nat.ne_of_beq_eq_false rfl | exact rfl | omega) only [nI_add, xa_sub, xa_mul, pk_div, nm_mod, xa_shr, xa_and7, xa_and1, xa_and255, xa_by_and, nI_m1, Nat.add_sub_cancel, Nat.reducePow, Nat.zero_add, Nat.add_zero, Nat.reduceAdd, Nat.reduceMul, Nat.reduceSub, xf_same, xq_ff, xq_fo, xf_1, xf_2, xs_1, xs_2, xs_same, xq_so, xj_1, xj_2, xj_same, xq_jo, xq_sa1, xq_same, xq_other, upd_s, oI_n, oI_s, ic, er, h1, h0w, e1, e2]
  refine by_land ?_
  refine by_putf cn_66 fl_2_33 (by first | exact rfl | assumption) (by decide) nf_2_9 ft_2_9 (by first | rfl | assumption) (by first | rfl | assumption) ?_
  refine by_aload_n rfl ?_
  refine by_lload_n rfl ?_
  refine by_ldc2 cn_66 kl_2_13 rfl ?_
  refine by_lxor ?_
  refine by_lload_n rfl ?_
  refine by_land ?_
  refine by_lload_n rfl ?_
  refine by_ldc2 cn_66 kl_2_13 rfl ?_
  refine by_lxor ?_
  refine by_lload_n rfl ?_
  refine by_lor ?_
  refine by_lload rfl ?_
  refine by_land ?_
  refine by_lor ?_
  refine by_aload_n rfl ?_
  refine by_getf cn_66 fl_2_7 (by first | exact rfl | assumption) (by decide) ?_
  refine by_iconst ci_1 ?_
  simp (disch := first | exact Nat.ne_of_beq_eq_false rfl | exact rfl | omega) only [nI_add, xa_sub, xa_mul, pk_div, nm_mod, xa_shr, xa_and7, xa_and1, xa_and255, xa_by_and, nI_m1, Nat.add_sub_cancel, Nat.reducePow, Nat.zero_add, Nat.add_zero, Nat.reduceAdd, Nat.reduceMul, Nat.reduceSub, xf_same, xq_ff, xq_fo, xf_1, xf_2, xs_1, xs_2, xs_same, xq_so, xj_1, xj_2, xj_same, xq_jo, xq_sa1, xq_same, xq_other, upd_s, oI_n, oI_s, ic, er, h1, h0w, e1, e2]
  refine by_isub ?_
  refine by_lushr ?_
  refine by_lconst cl_1 ?_
  refine by_land ?_
  refine by_putf cn_66 fl_2_27 (by first | exact rfl | assumption) (by decide) nf_2_7 ft_2_7 (by first | rfl | assumption) (by first | rfl | assumption) ?_
  refine by_ret ry_66 ?_
  try simp (disch := first | exact Nat.ne_of_beq_eq_false rfl | exact rfl | omega) only [nI_add, xa_sub, xa_mul, pk_div, nm_mod, xa_shr, xa_and7, xa_and1, xa_and255, xa_by_and, nI_m1, Nat.add_sub_cancel, Nat.reducePow, Nat.zero_add, Nat.add_zero, Nat.reduceAdd, Nat.reduceMul, Nat.reduceSub, xf_same, xq_ff, xq_fo, xf_1, xf_2, xs_1, xs_2, xs_same, xq_so, xj_1, xj_2, xj_same, xq_jo, xq_sa1, xq_same, xq_other, upd_s, oI_n, oI_s, ic, er, h1, h0w, e1, e2]
  refine hp _ ⟨Fr_sf (Fr_sf Fr_rf (by simp)) (by simp), by simp [xm_sf, updV], by rw [← h8]; simp [xm_sf, updV], by simp [xm_sf, updV], ?_, hh0, ?_⟩
  · split <;> decide
  · exact Nat.lt_of_lt_of_le (Nat.mod_lt _ (Nat.two_pow_pos w)) hpw
end J2
