theorem xt_h2 : ∀ (ci : Nat) (q : vw_C), vwCl[ci]? = some q → (∀ k, k < q.2.2 → parseFieldDescriptor (q.2.1 k).2.2.1 = some (xt_ft ci k)) ∧ (∀ a, a < q.2.2 → ∀ b, b < q.2.2 → a ≠ b → (q.2.1 a).2.1 ≠ (q.2.1 b).2.1) ∧ (∀ k, k < q.2.2 → (q.2.1 k).1 = q.1)
  | 0, q, hq => by
    obtain rfl := Option.some.inj hq
    exact ⟨tyX0_ok, nmX0, by decide +kernel⟩
  | 1, q, hq => by
    obtain rfl := Option.some.inj hq
    exact ⟨tyX1_ok, nmX1, by decide +kernel⟩
  | 2, q, hq => by
    obtain rfl := Option.some.inj hq
    exact ⟨tyX2_ok, nmX2, by decide +kernel⟩
  | 3, q, hq => by
    obtain rfl := Option.some.inj hq
    exact ⟨tyX3_ok, nmX3, by decide +kernel⟩
  | 4, q, hq => by
    obtain rfl := Option.some.inj hq
    exact ⟨tyX4_ok, nmX4, by decide +kernel⟩
  | 5, q, hq => by
    obtain rfl := Option.some.inj hq
    exact ⟨tyX5_ok, nmX5, by decide +kernel⟩
  | 6, q, hq => by
    obtain rfl := Option.some.inj hq
    exact ⟨tyX6_ok, nmX6, by decide +kernel⟩
  | 7, q, hq => by
    obtain rfl := Option.some.inj hq
    exact ⟨tyX7_ok, nmX7, by decide +kernel⟩
  | 8, q, hq => by
    obtain rfl := Option.some.inj hq
    exact ⟨tyX8_ok, nmX8, by decide +kernel⟩
  | 9, q, hq => by
    obtain rfl := Option.some.inj hq
    exact ⟨tyX9_ok, nmX9, by decide +kernel⟩
  | 10, q, hq => by
    obtain rfl := Option.some.inj hq
    exact ⟨tyX10_ok, nmX10, by decide +kernel⟩
  | 11, q, hq => by
    obtain rfl := Option.some.inj hq
    exact ⟨tyX11_ok, nmX11, by decide +kernel⟩
  | 12, q, hq => by
    obtain rfl := Option.some.inj hq
    exact ⟨tyX12_ok, nmX12, by decide +kernel⟩
  | n + 13, q, hq => by simp at hq
set_option maxRecDepth 100000 in
theorem xt_u1 : (xm_U 330 vwCl xt_zs xt_ys xt_N xt_FL xt_KI xt_KL xt_GS xt_LK).all goodWord = true := by decide +kernel
set_option maxRecDepth 100000 in
theorem xt_u3 : (xt_ys.take 330).all (xm_yok vwCl xt_N) = true := by decide +kernel
set_option maxRecDepth 100000 in
theorem xt_u4 : xt_FL.all (fun l => l.all (xm_fok vwCl)) = true := by decide +kernel
set_option maxRecDepth 100000 in
theorem xt_u6 : xt_GS.all (fun l => l.all (xm_gok xt_zs)) = true := by decide +kernel
set_option maxRecDepth 100000 in
theorem xt_u0 : 330 ≤ xt_ys.length := by decide +kernel
theorem XE_ok (sc : xm_Sc) : xm_OK (XE sc) := xm_mk_ok xt_u1 xt_h2 xt_u0 xt_u3 xt_u4 xt_u6
set_option maxRecDepth 100000 in
theorem XE_yt (sc : xm_Sc) : xm_YT (XE sc) 330 := xm_mk_yt xt_u0 xt_u3 xt_u4 xt_u6 rfl
