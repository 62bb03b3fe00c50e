/-! ===== the two objects at the start ===== -/
set_option maxRecDepth 100000 in
theorem st_XF : XF hh0 := by
  unfold XF
  decide +kernel
set_option maxRecDepth 100000 in
theorem st_fx : fxA hh0 := by
  unfold fxA
  decide +kernel
set_option maxRecDepth 100000 in
theorem st_tg : tgM hh0 := by
  unfold tgM
  decide +kernel
set_option maxRecDepth 100000 in
theorem st_dI : dI hh0 (fun _ => (0, 0, 0, 0, 0, 0, 0, fun _ => [], (0, 0, 0))) 400 := by
  refine ⟨⟨⟨rfl, by decide, by decide, fun n h1 h2 => by omega⟩, fun j hj => Or.inl rfl, by decide +kernel, by decide +kernel, fun j hj => nomatch hj⟩, by decide +kernel, fun n hn => Or.inl rfl⟩
theorem st_rw {r b : Nat} (e0 : hh0.2.2 r 0 = .ref b) (e1 : hh0.2.2 r 1 = .int (nI 0)) : rowIs hh0 r b [] := ⟨e0, e1, Nat.zero_le _, fun i hi => absurd hi (Nat.not_lt_zero _), fun i hi => absurd hi (Nat.not_lt_zero _)⟩
set_option maxRecDepth 100000 in
theorem st_xI : xI hh0 52 77 0 [] [] none 0 0 0 0 0 0 := ⟨⟨st_XF, Or.inl ⟨rfl, rfl⟩, rfl, rfl, rfl, st_fx, Or.inl rfl, ⟨_, _, st_dI⟩, [], st_rw rfl rfl⟩, st_rw rfl rfl, st_rw rfl rfl, ⟨rfl, fun x _ => ⟨0, Nat.le_refl _, rfl⟩⟩, rfl, rfl, rfl, rfl, rfl, rfl⟩
theorem st_mr {a : Nat} : mrow hh0 a [] := ⟨fun i hi => absurd hi (Nat.not_lt_zero _), fun i hi => absurd hi (Nat.not_lt_zero _), Nat.zero_le _⟩
set_option maxRecDepth 100000 in
theorem st_mI : mI hh0 [] [] none 0 0 0 0 0 0 := ⟨⟨rfl, st_mr⟩, st_mr, rfl, ⟨rfl, rfl⟩, st_tg, ⟨0, Nat.zero_le _, rfl⟩, rfl, rfl, rfl, rfl, rfl, rfl⟩
