/-! ===== the start: the law from its loop on ===== -/
def va_E_l (k : ClassId) : va_E := .inl (k, 1, .inr (.inl (hh0.2.1 163)))
def lw_F (sc : xm_Sc) (A : Nat → Prop) (tt sa V : Nat → Nat) (s : State) : Prop :=
  ((∀ a q, xt_tS sc a = some q → va_T .int (tt a) q.1 (fun j => .int (q.2 j)) A s s.heap) ∧ (∀ a q, xt_tL a = some q → va_T .long (tt a) q.1 (fun j => .long (q.2 j)) A s s.heap) ∧ ∀ a q, xt_zs a = some q → va_Z q.1 q.2.1 q.2.2 (.ref (tt a)) A s s.heap) ∧ xv_TF sa A s ∧ xs_P (fun i => tt (300 + i)) V A s ∧ vk_R RX6 126 " = " (tt 300) s ∧ vk_R RX6 152 " n" (tt 301) s
theorem tS_ge {sc : xm_Sc} {a : Nat} {q : Nat × (Nat → Int32)} (h : xt_tS sc a = some q) : 164 ≤ a := by
  refine Classical.byContradiction fun z => ?_
  unfold xt_tS at h
  rw [if_neg (by omega)] at h
  have k : ∀ a, a < 164 → (xt_tI a).isNone = true := by decide +kernel
  have := k a (by omega)
  rw [h] at this
  cases this
theorem tL_ge {a : Nat} {q : Nat × (Nat → Int64)} (h : xt_tL a = some q) : 164 ≤ a := by
  refine Classical.byContradiction fun z => ?_
  have k : ∀ a, a < 164 → (xt_tL a).isNone = true := by decide +kernel
  have := k a (by omega)
  rw [h] at this
  cases this
theorem zs_ge {a : Nat} {q : String × String × String} (h : xt_zs a = some q) : 164 ≤ a := by
  refine Classical.byContradiction fun z => ?_
  have k : ∀ a, a < 164 → (xt_zs a).isNone = true := by decide +kernel
  have := k a (by omega)
  rw [h] at this
  cases this
set_option maxHeartbeats 8000000 in
set_option maxRecDepth 100000 in
theorem lw_cells (f f' tt : Nat → Nat) (g g' : Nat → ClassId) (q8 : Nat) (k8 : ClassId) : ∃ (ad : Nat → Nat) (ks : Nat → ClassId), (∀ k, 164 ≤ k → ad k = tt k) ∧ ad 0 = f 0 ∧ ad 102 = f' 102 ∧ ad 163 = q8 ∧ xm_w ad ks xt_sh hh0 = xm_wr f g hh0 0 shA ++ (xm_wr f' g' hh0 102 shB ++ [(q8, .inl (k8, 1, .inr (.inl (fun _ => 0))))]) ∧ xm_t ks xt_sh = xm_tr g 0 shA ++ (xm_tr g' 102 shB ++ [(k8, .long)]) := by
  obtain ⟨ad, adA, adB, adC, adT⟩ : ∃ ad : Nat → Nat, (∀ k, k < 102 → ad k = f k) ∧ (∀ k, 102 ≤ k → k < 163 → ad k = f' k) ∧ ad 163 = q8 ∧ ∀ k, 164 ≤ k → ad k = tt k :=
    ⟨fun k => if k < 102 then f k else if k < 163 then f' k else if k = 163 then q8 else tt k, fun k h => if_pos h, fun k h1 h2 => by simp only [if_neg (show ¬ k < 102 by omega), if_pos h2], by simp, fun k h => by simp only [if_neg (show ¬ k < 102 by omega), if_neg (show ¬ k < 163 by omega), if_neg (show ¬ k = 163 by omega)]⟩
  obtain ⟨ks, ksA, ksB, ksC⟩ : ∃ ks : Nat → ClassId, (∀ k, k < 102 → ks k = g k) ∧ (∀ k, 102 ≤ k → k < 163 → ks k = g' k) ∧ ks 163 = k8 :=
    ⟨fun k => if k < 102 then g k else if k < 163 then g' k else k8, fun k h => if_pos h, fun k h1 h2 => by simp only [if_neg (show ¬ k < 102 by omega), if_pos h2], by simp⟩
  have eW : xm_w ad ks xt_sh hh0 = xm_wr f g hh0 0 shA ++ (xm_wr f' g' hh0 102 shB ++ [(q8, .inl (k8, 1, .inr (.inl (fun _ => 0))))]) := by
    rw [xm_w_r, sh_abc, xm_wr_app, xm_wr_app, shA_l, shB_l]
    rw [xm_wr_cg (ad' := f) (ks' := g) shA 0 (fun k _ h2 => by
      rw [shA_l] at h2
      exact ⟨adA k (by omega), ksA k (by omega), fun j r hr => adA r (h0_ref (h0_A k (by omega)) hr).2⟩)]
    rw [xm_wr_cg (ad' := f') (ks' := g') shB (0 + 102) (fun k h1 h2 => by
      rw [shB_l] at h2
      exact ⟨adB k (by omega) (by omega), ksB k (by omega) (by omega), fun j r hr => by
        have := h0_ref (h0_B k (by omega) (by omega)) hr
        exact adB r this.1 this.2⟩)]
    have e3 : xm_wr ad ks hh0 (0 + 102 + 61) [.inl (.long, 1)] = [(q8, .inl (k8, 1, .inr (.inl (fun _ => 0))))] := by
      show [(ad 163, va_E_l (ks 163))] = _
      rw [adC, ksC]
      rfl
    rw [e3]
  have eT : xm_t ks xt_sh = xm_tr g 0 shA ++ (xm_tr g' 102 shB ++ [(k8, .long)]) := by
    rw [xm_t_r, sh_abc, xm_tr_app, xm_tr_app, shA_l, shB_l]
    rw [xm_tr_cg (ks' := g) shA 0 (fun k _ h2 => by rw [shA_l] at h2; exact ksA k (by omega))]
    rw [xm_tr_cg (ks' := g') shB (0 + 102) (fun k h1 h2 => by rw [shB_l] at h2; exact ksB k (by omega) (by omega))]
    have e3 : xm_tr ks (0 + 102 + 61) [.inl (.long, 1)] = [(k8, .long)] := by
      show [(ks 163, FieldType.long)] = _
      rw [ksC]
    rw [e3]
  exact ⟨ad, ks, adT, adA 0 (by decide), adB 102 (by decide) (by decide), adC, eW, eT⟩
