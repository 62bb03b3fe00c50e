/-! ===== cells of the two programs (by program) ===== -/
theorem ps_0 {sc : xm_Sc} {pp : Nat} (h : pp = 52 ∨ pp = 77) : (xe_sh (XE sc))[pp]? = some (.inr (6, 16)) := by rcases h with rfl | rfl <;> rfl
theorem ps_1 {sc : xm_Sc} {pp : Nat} (h : pp = 52 ∨ pp = 77) : (xe_sh (XE sc))[pp + 1]? = some (.inl (.int, 2000)) := by rcases h with rfl | rfl <;> rfl
theorem ps_2 {sc : xm_Sc} {pp : Nat} (h : pp = 52 ∨ pp = 77) : (xe_sh (XE sc))[pp + 2]? = some (.inl (.int, 2000)) := by rcases h with rfl | rfl <;> rfl
theorem ps_3 {sc : xm_Sc} {pp : Nat} (h : pp = 52 ∨ pp = 77) : (xe_sh (XE sc))[pp + 3]? = some (.inl (.int, 2000)) := by rcases h with rfl | rfl <;> rfl
theorem ps_4 {sc : xm_Sc} {pp : Nat} (h : pp = 52 ∨ pp = 77) : (xe_sh (XE sc))[pp + 4]? = some (.inl (.int, 2000)) := by rcases h with rfl | rfl <;> rfl
theorem ps_5 {sc : xm_Sc} {pp : Nat} (h : pp = 52 ∨ pp = 77) : (xe_sh (XE sc))[pp + 5]? = some (.inl (.int, 2000)) := by rcases h with rfl | rfl <;> rfl
theorem ps_6 {sc : xm_Sc} {pp : Nat} (h : pp = 52 ∨ pp = 77) : (xe_sh (XE sc))[pp + 6]? = some (.inl (.int, 2000)) := by rcases h with rfl | rfl <;> rfl
theorem ps_7 {sc : xm_Sc} {pp : Nat} (h : pp = 52 ∨ pp = 77) : (xe_sh (XE sc))[pp + 7]? = some (.inl (.int, 2000)) := by rcases h with rfl | rfl <;> rfl
theorem ps_8 {sc : xm_Sc} {pp : Nat} (h : pp = 52 ∨ pp = 77) : (xe_sh (XE sc))[pp + 8]? = some (.inl (.int, 400)) := by rcases h with rfl | rfl <;> rfl
theorem ps_9 {sc : xm_Sc} {pp : Nat} (h : pp = 52 ∨ pp = 77) : (xe_sh (XE sc))[pp + 9]? = some (.inl (.int, 400)) := by rcases h with rfl | rfl <;> rfl
theorem ps_10 {sc : xm_Sc} {pp : Nat} (h : pp = 52 ∨ pp = 77) : (xe_sh (XE sc))[pp + 10]? = some (.inl (.int, 400)) := by rcases h with rfl | rfl <;> rfl
theorem ps_11 {sc : xm_Sc} {pp : Nat} (h : pp = 52 ∨ pp = 77) : (xe_sh (XE sc))[pp + 11]? = some (.inl (.int, 2048)) := by rcases h with rfl | rfl <;> rfl
theorem ps_12 {sc : xm_Sc} {pp : Nat} (h : pp = 52 ∨ pp = 77) : (xe_sh (XE sc))[pp + 12]? = some (.inr (8, 4)) := by rcases h with rfl | rfl <;> rfl
theorem ps_13 {sc : xm_Sc} {pp : Nat} (h : pp = 52 ∨ pp = 77) : (xe_sh (XE sc))[pp + 13]? = some (.inl (.byte, 8192)) := by rcases h with rfl | rfl <;> rfl
theorem ps_14 {sc : xm_Sc} {pp : Nat} (h : pp = 52 ∨ pp = 77) : (xe_sh (XE sc))[pp + 14]? = some (.inr (10, 12)) := by rcases h with rfl | rfl <;> rfl
theorem ps_15 {sc : xm_Sc} {pp : Nat} (h : pp = 52 ∨ pp = 77) : (xe_sh (XE sc))[pp + 15]? = some (.inl (.int, 14032)) := by rcases h with rfl | rfl <;> rfl
theorem ps_16 {sc : xm_Sc} {pp : Nat} (h : pp = 52 ∨ pp = 77) : (xe_sh (XE sc))[pp + 16]? = some (.inl (.int, 14032)) := by rcases h with rfl | rfl <;> rfl
theorem ps_17 {sc : xm_Sc} {pp : Nat} (h : pp = 52 ∨ pp = 77) : (xe_sh (XE sc))[pp + 17]? = some (.inl (.int, 14032)) := by rcases h with rfl | rfl <;> rfl
theorem ps_18 {sc : xm_Sc} {pp : Nat} (h : pp = 52 ∨ pp = 77) : (xe_sh (XE sc))[pp + 18]? = some (.inl (.int, 14032)) := by rcases h with rfl | rfl <;> rfl
theorem ps_19 {sc : xm_Sc} {pp : Nat} (h : pp = 52 ∨ pp = 77) : (xe_sh (XE sc))[pp + 19]? = some (.inl (.int, 14032)) := by rcases h with rfl | rfl <;> rfl
theorem ps_20 {sc : xm_Sc} {pp : Nat} (h : pp = 52 ∨ pp = 77) : (xe_sh (XE sc))[pp + 20]? = some (.inl (.boolean, 14032)) := by rcases h with rfl | rfl <;> rfl
theorem ps_21 {sc : xm_Sc} {pp : Nat} (h : pp = 52 ∨ pp = 77) : (xe_sh (XE sc))[pp + 21]? = some (.inl (.int, 14032)) := by rcases h with rfl | rfl <;> rfl
theorem ps_22 {sc : xm_Sc} {pp : Nat} (h : pp = 52 ∨ pp = 77) : (xe_sh (XE sc))[pp + 22]? = some (.inl (.int, 14032)) := by rcases h with rfl | rfl <;> rfl
theorem ps_23 {sc : xm_Sc} {pp : Nat} (h : pp = 52 ∨ pp = 77) : (xe_sh (XE sc))[pp + 23]? = some (.inl (.int, 2048)) := by rcases h with rfl | rfl <;> rfl
theorem ps_24 {sc : xm_Sc} {pp : Nat} (h : pp = 52 ∨ pp = 77) : (xe_sh (XE sc))[pp + 24]? = some (.inl (.int, 14048)) := by rcases h with rfl | rfl <;> rfl
theorem pf_1 {h : xm_H} {pp : Nat} (hF : XF h) (hp : pp = 52 ∨ pp = 77) : h.2.2 pp 1 = .ref (pp + 1) := by
  rcases hp with rfl | rfl
  · exact xf_52_1 hF
  · exact xf_77_1 hF
theorem pf_2 {h : xm_H} {pp : Nat} (hF : XF h) (hp : pp = 52 ∨ pp = 77) : h.2.2 pp 2 = .ref (pp + 2) := by
  rcases hp with rfl | rfl
  · exact xf_52_2 hF
  · exact xf_77_2 hF
theorem pf_3 {h : xm_H} {pp : Nat} (hF : XF h) (hp : pp = 52 ∨ pp = 77) : h.2.2 pp 3 = .ref (pp + 3) := by
  rcases hp with rfl | rfl
  · exact xf_52_3 hF
  · exact xf_77_3 hF
theorem pf_4 {h : xm_H} {pp : Nat} (hF : XF h) (hp : pp = 52 ∨ pp = 77) : h.2.2 pp 4 = .ref (pp + 4) := by
  rcases hp with rfl | rfl
  · exact xf_52_4 hF
  · exact xf_77_4 hF
theorem pf_5 {h : xm_H} {pp : Nat} (hF : XF h) (hp : pp = 52 ∨ pp = 77) : h.2.2 pp 5 = .ref (pp + 5) := by
  rcases hp with rfl | rfl
  · exact xf_52_5 hF
  · exact xf_77_5 hF
theorem pf_6 {h : xm_H} {pp : Nat} (hF : XF h) (hp : pp = 52 ∨ pp = 77) : h.2.2 pp 6 = .ref (pp + 6) := by
  rcases hp with rfl | rfl
  · exact xf_52_6 hF
  · exact xf_77_6 hF
theorem pf_7 {h : xm_H} {pp : Nat} (hF : XF h) (hp : pp = 52 ∨ pp = 77) : h.2.2 pp 7 = .ref (pp + 7) := by
  rcases hp with rfl | rfl
  · exact xf_52_7 hF
  · exact xf_77_7 hF
theorem pf_8 {h : xm_H} {pp : Nat} (hF : XF h) (hp : pp = 52 ∨ pp = 77) : h.2.2 pp 8 = .ref (pp + 8) := by
  rcases hp with rfl | rfl
  · exact xf_52_8 hF
  · exact xf_77_8 hF
theorem pf_9 {h : xm_H} {pp : Nat} (hF : XF h) (hp : pp = 52 ∨ pp = 77) : h.2.2 pp 9 = .ref (pp + 9) := by
  rcases hp with rfl | rfl
  · exact xf_52_9 hF
  · exact xf_77_9 hF
theorem pf_10 {h : xm_H} {pp : Nat} (hF : XF h) (hp : pp = 52 ∨ pp = 77) : h.2.2 pp 10 = .ref (pp + 10) := by
  rcases hp with rfl | rfl
  · exact xf_52_10 hF
  · exact xf_77_10 hF
theorem pf_11 {h : xm_H} {pp : Nat} (hF : XF h) (hp : pp = 52 ∨ pp = 77) : h.2.2 pp 11 = .ref (pp + 11) := by
  rcases hp with rfl | rfl
  · exact xf_52_11 hF
  · exact xf_77_11 hF
theorem pf_12 {h : xm_H} {pp : Nat} (hF : XF h) (hp : pp = 52 ∨ pp = 77) : h.2.2 pp 12 = .ref (pp + 12) := by
  rcases hp with rfl | rfl
  · exact xf_52_12 hF
  · exact xf_77_12 hF
theorem pf_13 {h : xm_H} {pp : Nat} (hF : XF h) (hp : pp = 52 ∨ pp = 77) : h.2.2 pp 13 = .ref (pp + 14) := by
  rcases hp with rfl | rfl
  · exact xf_52_13 hF
  · exact xf_77_13 hF
theorem pw_0 {h : xm_H} {pp : Nat} (hF : XF h) (hp : pp = 52 ∨ pp = 77) : h.2.2 (pp + 12) 0 = .ref (pp + 13) := by
  rcases hp with rfl | rfl
  · exact xf_64_0 hF
  · exact xf_89_0 hF
theorem pt_1 {h : xm_H} {pp : Nat} (hF : XF h) (hp : pp = 52 ∨ pp = 77) : h.2.2 (pp + 14) 1 = .ref (pp + 15) := by
  rcases hp with rfl | rfl
  · exact xf_66_1 hF
  · exact xf_91_1 hF
theorem pt_2 {h : xm_H} {pp : Nat} (hF : XF h) (hp : pp = 52 ∨ pp = 77) : h.2.2 (pp + 14) 2 = .ref (pp + 16) := by
  rcases hp with rfl | rfl
  · exact xf_66_2 hF
  · exact xf_91_2 hF
theorem pt_3 {h : xm_H} {pp : Nat} (hF : XF h) (hp : pp = 52 ∨ pp = 77) : h.2.2 (pp + 14) 3 = .ref (pp + 17) := by
  rcases hp with rfl | rfl
  · exact xf_66_3 hF
  · exact xf_91_3 hF
theorem pt_4 {h : xm_H} {pp : Nat} (hF : XF h) (hp : pp = 52 ∨ pp = 77) : h.2.2 (pp + 14) 4 = .ref (pp + 18) := by
  rcases hp with rfl | rfl
  · exact xf_66_4 hF
  · exact xf_91_4 hF
theorem pt_5 {h : xm_H} {pp : Nat} (hF : XF h) (hp : pp = 52 ∨ pp = 77) : h.2.2 (pp + 14) 5 = .ref (pp + 19) := by
  rcases hp with rfl | rfl
  · exact xf_66_5 hF
  · exact xf_91_5 hF
theorem pt_6 {h : xm_H} {pp : Nat} (hF : XF h) (hp : pp = 52 ∨ pp = 77) : h.2.2 (pp + 14) 6 = .ref (pp + 20) := by
  rcases hp with rfl | rfl
  · exact xf_66_6 hF
  · exact xf_91_6 hF
theorem pt_7 {h : xm_H} {pp : Nat} (hF : XF h) (hp : pp = 52 ∨ pp = 77) : h.2.2 (pp + 14) 7 = .ref (pp + 21) := by
  rcases hp with rfl | rfl
  · exact xf_66_7 hF
  · exact xf_91_7 hF
theorem pt_8 {h : xm_H} {pp : Nat} (hF : XF h) (hp : pp = 52 ∨ pp = 77) : h.2.2 (pp + 14) 8 = .ref (pp + 22) := by
  rcases hp with rfl | rfl
  · exact xf_66_8 hF
  · exact xf_91_8 hF
theorem pt_9 {h : xm_H} {pp : Nat} (hF : XF h) (hp : pp = 52 ∨ pp = 77) : h.2.2 (pp + 14) 9 = .ref (pp + 23) := by
  rcases hp with rfl | rfl
  · exact xf_66_9 hF
  · exact xf_91_9 hF
theorem pt_10 {h : xm_H} {pp : Nat} (hF : XF h) (hp : pp = 52 ∨ pp = 77) : h.2.2 (pp + 14) 10 = .ref (pp + 24) := by
  rcases hp with rfl | rfl
  · exact xf_66_10 hF
  · exact xf_91_10 hF
