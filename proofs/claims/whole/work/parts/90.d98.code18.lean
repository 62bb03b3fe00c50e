/-! ===== definitions of jets: what a definition must give ===== -/
def JSp (k w : Nat) (F : gFn) : Prop := ∀ z : List Bool, z.length = jWs (jt_S k) w → F z = jL k w (jc (mc_ex z) (jt_S k)) (jx (mc_ex z) (jt_S k) w) (jy (mc_ex z) (jt_S k) w) (jz (mc_ex z) (jt_S k) w) (jv (mc_ex z) (jt_S k) w)
theorem mn_ex {z : List Bool} {p n : Nat} (h : p + n ≤ z.length) : mc_n (mc_ex z) p n = bnum ((z.drop p).take n) := by
  unfold mc_n
  rw [mc_rd_ex h]
section JS
variable {k w : Nat} {F : gFn}
theorem jsp_0 (hk : jt_S k = 0) (h : F [] = jL k w 0 0 0 0 0) : JSp k w F := by
  intro z hz
  rw [hk] at hz ⊢
  have : z = [] := List.eq_nil_of_length_eq_zero hz
  subst this
  exact h
theorem jsp_2 (hk : jt_S k = 2) (h : ∀ x, x.length = w / 2 → F x = jL k w 0 (bnum x) 0 0 0) : JSp k w F := by
  intro z hz
  rw [hk] at hz ⊢
  have hz' : z.length = w / 2 := hz
  rw [h z hz']
  have e1 : mc_n (mc_ex z) 0 (w / 2) = bnum z := by rw [mn_ex (by omega), List.drop_zero, li_kw (by omega)]
  show _ = jL k w (mc_n (mc_ex z) 0 0) (mc_n (mc_ex z) 0 (w / 2)) 0 0 0
  rw [e1]
  rfl
theorem jsp_3 (hk : jt_S k = 3) (h : ∀ x, x.length = w → F x = jL k w 0 (bnum x) 0 0 0) : JSp k w F := by
  intro z hz
  rw [hk] at hz ⊢
  have hz' : z.length = w := hz
  rw [h z hz']
  have e1 : mc_n (mc_ex z) 0 w = bnum z := by rw [mn_ex (by omega), List.drop_zero, li_kw (by omega)]
  show _ = jL k w (mc_n (mc_ex z) 0 0) (mc_n (mc_ex z) 0 w) 0 0 0
  rw [e1]
  rfl
theorem jsp_4 (hk : jt_S k = 4) (h : ∀ x y, x.length = w → y.length = w → F (x ++ y) = jL k w 0 (bnum x) (bnum y) 0 0) : JSp k w F := by
  intro z hz
  rw [hk] at hz ⊢
  have hz' : z.length = 2 * w := hz
  obtain ⟨x, y, rfl, hx, hy⟩ := li_s2 (x := z) (w := w) (by omega)
  rw [h x y hx hy]
  show _ = jL k w (mc_n (mc_ex (x ++ y)) 0 0) (mc_n (mc_ex (x ++ y)) 0 w) (mc_n (mc_ex (x ++ y)) (0 + w) w) 0 0
  rw [mn_ex (p := 0) (n := w) (by omega), mn_ex (p := 0 + w) (by omega), List.drop_zero, li_ka hx.symm, Nat.zero_add, li_da hx.symm, li_kw (by omega)]
  rfl
theorem jsp_9 (hk : jt_S k = 9) (h : ∀ x y z, x.length = w → y.length = w → z.length = w → F (x ++ (y ++ z)) = jL k w 0 (bnum x) (bnum y) (bnum z) 0) : JSp k w F := by
  intro z hz
  rw [hk] at hz ⊢
  have hz' : z.length = 3 * w := hz
  obtain ⟨x, y', rfl, hx, hy'⟩ := li_s1 (x := z) (a := w) (b := w + w) (by omega)
  obtain ⟨y, z, rfl, hy, hzz⟩ := li_s2 hy'
  rw [h x y z hx hy hzz]
  show _ = jL k w (mc_n (mc_ex (x ++ (y ++ z))) 0 0) (mc_n (mc_ex (x ++ (y ++ z))) 0 w) (mc_n (mc_ex (x ++ (y ++ z))) (0 + w) w) (mc_n (mc_ex (x ++ (y ++ z))) (0 + 2 * w) w) 0
  rw [mn_ex (p := 0) (n := w) (by omega), mn_ex (p := 0 + w) (by omega), mn_ex (p := 0 + 2 * w) (by omega)]
  simp (disch := ((try simp only [List.length_append]); omega)) only [List.append_assoc, List.drop_zero, li_ka, li_da, li_kb, li_db, li_kw, li_dz]
  rfl
theorem jsp_5 (hk : jt_S k = 5) (h : ∀ x y z v, x.length = w → y.length = w → z.length = w → v.length = w → F (x ++ (y ++ (z ++ v))) = jL k w 0 (bnum x) (bnum y) (bnum z) (bnum v)) : JSp k w F := by
  intro z hz
  rw [hk] at hz ⊢
  have hz' : z.length = 4 * w := hz
  obtain ⟨x, y', rfl, hx, hy'⟩ := li_s1 (x := z) (a := w) (b := w + (w + w)) (by omega)
  obtain ⟨y, z', rfl, hy, hz2⟩ := li_s1 hy'
  obtain ⟨z, v, rfl, hzz, hv⟩ := li_s2 hz2
  rw [h x y z v hx hy hzz hv]
  show _ = jL k w (mc_n (mc_ex (x ++ (y ++ (z ++ v)))) 0 0) (mc_n (mc_ex (x ++ (y ++ (z ++ v)))) 0 w) (mc_n (mc_ex (x ++ (y ++ (z ++ v)))) (0 + w) w) (mc_n (mc_ex (x ++ (y ++ (z ++ v)))) (0 + 2 * w) w) (mc_n (mc_ex (x ++ (y ++ (z ++ v)))) (0 + 3 * w) w)
  rw [mn_ex (p := 0) (n := w) (by omega), mn_ex (p := 0 + w) (by omega), mn_ex (p := 0 + 2 * w) (by omega), mn_ex (p := 0 + 3 * w) (by omega)]
  simp (disch := ((try simp only [List.length_append]); omega)) only [List.append_assoc, List.drop_zero, li_ka, li_da, li_kb, li_db, li_kw, li_dz]
  rfl
theorem jsp_8 (hk : jt_S k = 8) (h : ∀ c x y, c.length = 1 → x.length = w → y.length = w → F (c ++ (x ++ y)) = jL k w (bnum c) (bnum x) (bnum y) 0 0) : JSp k w F := by
  intro z hz
  rw [hk] at hz ⊢
  have hz' : z.length = 1 + 2 * w := hz
  obtain ⟨c, y', rfl, hc, hy'⟩ := li_s1 (x := z) (a := 1) (b := w + w) (by omega)
  obtain ⟨x, y, rfl, hx, hy⟩ := li_s2 hy'
  rw [h c x y hc hx hy]
  show _ = jL k w (mc_n (mc_ex (c ++ (x ++ y))) 0 1) (mc_n (mc_ex (c ++ (x ++ y))) 1 w) (mc_n (mc_ex (c ++ (x ++ y))) (1 + w) w) 0 0
  rw [mn_ex (p := 0) (n := 1) (by omega), mn_ex (p := 1) (by omega), mn_ex (p := 1 + w) (by omega)]
  simp (disch := ((try simp only [List.length_append]); omega)) only [List.append_assoc, List.drop_zero, li_ka, li_da, li_kb, li_db, li_kw, li_dz]
theorem jsp_10 (hk : jt_S k = 10) (h : ∀ c x, c.length = 8 → x.length = w → F (c ++ x) = jL k w (bnum c) (bnum x) 0 0 0) : JSp k w F := by
  intro z hz
  rw [hk] at hz ⊢
  have hz' : z.length = 8 + w := hz
  obtain ⟨c, x, rfl, hc, hx⟩ := li_s1 hz'
  rw [h c x hc hx]
  show _ = jL k w (mc_n (mc_ex (c ++ x)) 0 8) (mc_n (mc_ex (c ++ x)) 8 w) 0 0 0
  rw [mn_ex (p := 0) (n := 8) (by omega), mn_ex (p := 8) (by omega)]
  simp (disch := ((try simp only [List.length_append]); omega)) only [List.append_assoc, List.drop_zero, li_ka, li_da, li_kb, li_db, li_kw, li_dz]
end JS
