/-! ===== the start: words of the helpers ===== -/
theorem hS_g : GoodIn lw_tbl xs_V := goodIn_app hV_g hT_g
set_option maxRecDepth 100000 in
theorem gH_speak {sc : xm_Sc} : GoodIn lw_tbl (va_wsS RL 106 yL_speak (xm_wsH (XE sc) xs_V vh_speak [(0, 8, 11, 15)] 339 190 39)) := goodIn_app (a := [.methodLink RL 106 yL_speak, .static yL_speak, .initialized RL]) (goodIn_d _ (by decide +kernel) (by decide +kernel)) (goodIn_app (a := [Cond.codeWith yL_speak cL_speak 3 (some .int) [(0, 8, 11, 15)]]) (goodIn_d _ (by decide +kernel) (by decide +kernel)) (goodIn_app (goodIn_d vh_speak (by decide +kernel) (by decide +kernel)) (goodIn_app hU_g hS_g)))
set_option maxRecDepth 100000 in
theorem hHw_all {sc : xm_Sc} {d : Nat} : ∀ idx z as h post, xe_lk (XE sc) (xe_cn (XE sc) 330) idx = some z → xw_Hp sc d z as h post → GoodIn lw_tbl (va_wsS (xe_yn (XE sc) 330).cls idx (xe_yn (XE sc) z) (xw_wsz sc z)) ∧ (∃ ws', xw_wsz sc z = Cond.codeWith (xe_yn (XE sc) z) (xe_cy (XE sc) z) (xe_ml (XE sc) z) (xe_ry (XE sc) z) (xv_hhz z) :: ws') ∧ xe_ml (XE sc) z ≤ 80 ∧ ((xe_yn (XE sc) z).cls ≠ "java/lang/invoke/MethodHandle" ∧ (xe_yn (XE sc) z).cls ≠ "java/lang/invoke/VarHandle" ∧ (parseMethodDescriptor (xe_yn (XE sc) z).desc).map (fun d => d.parameters.length) = some (xe_np (XE sc) z)) := by
  intro idx z as h post hl hh
  have hq := lk_z _ (lk_h hl)
  simp only at hq
  have hz : z = 333 ∨ z = 334 ∨ z = 335 ∨ z = 336 ∨ z = 337 ∨ z = 338 ∨ z = 339 ∨ z = 340 ∨ z = 341 ∨ z = 342 ∨ z = 343 ∨ z = 344 := by
    rcases hh with ⟨_, hh⟩ | ⟨hz, _⟩
    · unfold xv_Hp at hh
      rcases hh with ⟨e, _⟩ | ⟨e, _⟩ | ⟨e, _⟩ | ⟨e, _⟩ | ⟨e, _⟩ | ⟨e, _⟩ | ⟨e, _⟩ | ⟨e, _⟩ | ⟨e, _⟩ | ⟨e, _⟩ | ⟨e, _⟩ | ⟨e, _⟩ <;> omega
    · omega
  rcases hz with rfl | rfl | rfl | rfl | rfl | rfl | rfl | rfl | rfl | rfl | rfl | rfl
  · have e : idx = 66 := hq.1 rfl
    subst e
    exact ⟨gH_feed, ⟨_, rfl⟩, Nat.le_of_ble_eq_true rfl, (by show yL_feed.cls ≠ _; decide), (by show yL_feed.cls ≠ _; decide), (by show (parseMethodDescriptor yL_feed.desc).map (fun d => d.parameters.length) = some 4; decide +kernel)⟩
  · have e : idx = 83 := hq.2.1 rfl
    subst e
    exact ⟨gH_run, ⟨_, rfl⟩, Nat.le_of_ble_eq_true rfl, (by show yL_run.cls ≠ _; decide), (by show yL_run.cls ≠ _; decide), (by show (parseMethodDescriptor yL_run.desc).map (fun d => d.parameters.length) = some 5; decide +kernel)⟩
  · have e : idx = 87 := hq.2.2.1 rfl
    subst e
    exact ⟨gH_node, ⟨_, rfl⟩, Nat.le_of_ble_eq_true rfl, (by show yL_node.cls ≠ _; decide), (by show yL_node.cls ≠ _; decide), (by show (parseMethodDescriptor yL_node.desc).map (fun d => d.parameters.length) = some 4; decide +kernel)⟩
  · have e : idx = 91 := hq.2.2.2.1 rfl
    subst e
    exact ⟨gH_root, ⟨_, rfl⟩, Nat.le_of_ble_eq_true rfl, (by show yL_root.cls ≠ _; decide), (by show yL_root.cls ≠ _; decide), (by show (parseMethodDescriptor yL_root.desc).map (fun d => d.parameters.length) = some 4; decide +kernel)⟩
  · have e : idx = 94 := hq.2.2.2.2.1 rfl
    subst e
    exact ⟨gH_typeRoot, ⟨_, rfl⟩, Nat.le_of_ble_eq_true rfl, (by show yL_typeRoot.cls ≠ _; decide), (by show yL_typeRoot.cls ≠ _; decide), (by show (parseMethodDescriptor yL_typeRoot.desc).map (fun d => d.parameters.length) = some 5; decide +kernel)⟩
  · have e : idx = 98 := hq.2.2.2.2.2.1 rfl
    subst e
    exact ⟨gH_type, ⟨_, rfl⟩, Nat.le_of_ble_eq_true rfl, (by show yL_type.cls ≠ _; decide), (by show yL_type.cls ≠ _; decide), (by show (parseMethodDescriptor yL_type.desc).map (fun d => d.parameters.length) = some 4; decide +kernel)⟩
  · have e : idx = 106 := hq.2.2.2.2.2.2.1 rfl
    subst e
    exact ⟨gH_speak, ⟨_, rfl⟩, Nat.le_of_ble_eq_true rfl, (by show yL_speak.cls ≠ _; decide), (by show yL_speak.cls ≠ _; decide), (by show (parseMethodDescriptor yL_speak.desc).map (fun d => d.parameters.length) = some 2; decide +kernel)⟩
  · have e : idx = 114 := hq.2.2.2.2.2.2.2.1 rfl
    subst e
    exact ⟨gH_value, ⟨_, rfl⟩, Nat.le_of_ble_eq_true rfl, (by show yL_value.cls ≠ _; decide), (by show yL_value.cls ≠ _; decide), (by show (parseMethodDescriptor yL_value.desc).map (fun d => d.parameters.length) = some 4; decide +kernel)⟩
  · have e : idx = 117 := hq.2.2.2.2.2.2.2.2.1 rfl
    subst e
    exact ⟨gH_worth, ⟨_, rfl⟩, Nat.le_of_ble_eq_true rfl, (by show yL_worth.cls ≠ _; decide), (by show yL_worth.cls ≠ _; decide), (by show (parseMethodDescriptor yL_worth.desc).map (fun d => d.parameters.length) = some 4; decide +kernel)⟩
  · have e : idx = 120 := hq.2.2.2.2.2.2.2.2.2.1 rfl
    subst e
    exact ⟨gH_write, ⟨_, rfl⟩, Nat.le_of_ble_eq_true rfl, (by show yL_write.cls ≠ _; decide), (by show yL_write.cls ≠ _; decide), (by show (parseMethodDescriptor yL_write.desc).map (fun d => d.parameters.length) = some 2; decide +kernel)⟩
  · have e : idx = 123 := hq.2.2.2.2.2.2.2.2.2.2.1 rfl
    subst e
    exact ⟨gH_out, ⟨_, rfl⟩, Nat.le_of_ble_eq_true rfl, (by show yL_out.cls ≠ _; decide), (by show yL_out.cls ≠ _; decide), (by show (parseMethodDescriptor yL_out.desc).map (fun d => d.parameters.length) = some 3; decide +kernel)⟩
  · have e : idx = 127 := hq.2.2.2.2.2.2.2.2.2.2.2 rfl
    subst e
    exact ⟨gH_look, ⟨_, rfl⟩, Nat.le_of_ble_eq_true rfl, (by show yL_look.cls ≠ _; decide), (by show yL_look.cls ≠ _; decide), (by show (parseMethodDescriptor yL_look.desc).map (fun d => d.parameters.length) = some 3; decide +kernel)⟩
