/-! ===== CASE with the second child HIDDEN ===== -/
section CR1
variable {n : Nat} {cd fi se nu : Nat → Nat} {L : List Nat} {c : Nat} {k l r : Nat → Nat} {es : List (Nat × Nat)} {src tgt : Nat → Nat}
theorem cr_1s (i5 : tyS cd fi se nu L c k l r es src tgt) (hfi : fi n ∈ L) (hse : se n ∈ L) (hc : cd n = 1) (hfv : cd (fi n) ≠ 11) : ∀ S T V, ty_vok S → ty_vok T → ty_rule cd fi se nu S T n → ty_vok V → ty_all c k l r V → ty_pd es V → (∀ m ∈ L, cd m ≠ 11 → V (src m) = S m ∧ V (tgt m) = T m) → ∃ V', ty_vok V' ∧ (∀ t, t < c → V' t = V t) ∧ (∀ t, c ≤ t → t < c + 5 + 1 → ty_st V' (updN (cK k c) (c + 5) 3 t) (updN (cL l c) (c + 5) c t) (updN (cR r c) (c + 5) (c + 2) t) t) ∧ ty_pd ((c + 5, src (fi n)) :: es) V' ∧ (cd n ≠ 11 → V' (c + 4) = S n ∧ V' (tgt (fi n)) = T n) := by
  intro S T V hs ht hr v1 v2 v3 v4
  obtain ⟨a, b, z, o1, o2, o3, o4, o5, _⟩ := cr_sol i5 hfi hse hc hs ht hr v1 v2 v3 v4
  obtain ⟨w1, w2, w3, w4⟩ := o5 hfv
  have e : ∀ i, tvx V c (cG a b z (.mul a z) tO) (c + i) = (cG a b z (.mul a z) tO).getD i tO := fun i => tvx_n
  have e00 : tvx V c (cG a b z (.mul a z) tO) c = a := e 0
  refine ⟨tvx V c (cG a b z (.mul a z) tO), cG_ok v1 o1 o2 o3 ⟨o1, o3⟩ rfl, fun t ht => tvx_o ht, fun t h1 h2 => ?_, ty_pd_cons.mpr ⟨?_, tx_pd i5.2.1 v3 (fun t ht => tvx_o ht)⟩, fun _ => ⟨?_, by rw [tvx_o w4, w2]⟩⟩
  · by_cases ht : t = c + 5
    · subst ht
      rw [updN_s, updN_s, updN_s]
      refine ⟨nofun, nofun, fun _ => ?_⟩
      rw [e 5, e00, e 2]
      rfl
    · rw [updN_o ht, updN_o ht, updN_o ht]
      exact cG_st h1 (by omega)
  · rw [e 5, tvx_o w3, w1]; rfl
  · rw [e 4, o4]; rfl
theorem cK_b {t : Nat} (h1 : c ≤ t) (h2 : t < c + 5) : cK k c t < 4 ∧ (2 ≤ cK k c t → cL l c t < c + 5 ∧ cR r c t < c + 5) := by
  obtain ⟨i, rfl⟩ : ∃ i, t = c + i := ⟨t - c, by omega⟩
  match i, h2 with
  | 0, _ => simp [cK, updN]
  | 1, _ => simp [cK, updN]
  | 2, _ => simp [cK, updN]
  | 3, _ => simp [cK, cL, cR, updN]
  | 4, _ => simp [cK, cL, cR, updN]
  | i + 5, h => omega
theorem cr_1t (i5 : tyS cd fi se nu L c k l r es src tgt) (hnL : n ∉ L) (hch : ∀ m ∈ L, (cd m ≤ 6 → fi m ≠ n) ∧ (cd m ≤ 2 → se m ≠ n)) (hfi : fi n ∈ L) (hse : se n ∈ L) (hc : cd n = 1) (hfv : cd (fi n) ≠ 11) (hsv : cd (se n) = 11) : tyS cd fi se nu (L ++ [n]) (c + 5 + 1) (updN (cK k c) (c + 5) 3) (updN (cL l c) (c + 5) c) (updN (cR r c) (c + 5) (c + 2)) ((c + 5, src (fi n)) :: es) (updN src n (c + 4)) (updN tgt n (tgt (fi n))) := by
  obtain ⟨f8, f9⟩ := i5.2.2.1 _ hfi hfv
  have hne : fi n ≠ n := fun z => hnL (by rw [← z]; exact hfi)
  refine tyS_add i5 (tx_tr cr_tx updN_tx) (fun t h1 h2 => ?_) (fun q hq => ?_) (fun q hq => List.mem_cons_of_mem _ hq) hnL hch (fun _ => ⟨by omega, by omega⟩) (fun f hf => ?_) (cr_1s i5 hfi hse hc hfv)
  · by_cases ht : t = c + 5
    · subst ht
      rw [updN_s, updN_s, updN_s]; exact ⟨by decide, fun _ => ⟨by omega, by omega⟩⟩
    · rw [updN_o ht, updN_o ht, updN_o ht]
      have := cK_b (k := k) (l := l) (r := r) h1 (by omega : t < c + 5)
      exact ⟨this.1, fun q => ⟨by have := (this.2 q).1; omega, by have := (this.2 q).2; omega⟩⟩
  · rcases List.mem_cons.mp hq with rfl | hq
    · exact Or.inr ⟨Nat.lt_succ_self _, Nat.lt_of_lt_of_le f8 (by omega)⟩
    · exact Or.inl hq
  · refine ⟨fun e => absurd (hc.symm.trans e) (by decide), fun e => ?_, fun e => absurd (hc.symm.trans e) (by decide), fun e => absurd (hc.symm.trans e) (by decide), fun e => absurd (hc.symm.trans e) (by decide), fun e => absurd (hc.symm.trans e) (by decide), fun e => absurd (hc.symm.trans e) (by decide), fun e => absurd (hc.symm.trans e) (by decide), fun e => absurd (hc.symm.trans e) (by decide), fun e => absurd (hc.symm.trans e) (by decide)⟩
    rw [updN_s, updN_s, updN_o hne, updN_o hne]
    refine ⟨by omega, by simp [cK, updN], by simp [cL, updN], by simp [cK, cL, updN], fun _ => ⟨rfl, c + 5, by omega, by simp [updN], by simp [cL, updN], by simp [cR, updN], (ty_pd_cons.mp hf).1⟩, fun q => absurd hsv q⟩
/-- where nothing meets the terms there is no solution -/
theorem cr_no {c' : Nat} {k' l' r' : Nat → Nat} {es' : List (Nat × Nat)} {s t : Nat} (i5 : tyS cd fi se nu L c k l r es src tgt) (he : tx c c' k l r k' l' r') (hsol : ∀ S T V, ty_vok S → ty_vok T → ty_rule cd fi se nu S T n → ty_vok V → ty_all c k l r V → ty_pd es V → (∀ m ∈ L, cd m ≠ 11 → V (src m) = S m ∧ V (tgt m) = T m) → ∃ V', ty_vok V' ∧ (∀ t, t < c → V' t = V t) ∧ (∀ t, c ≤ t → t < c' → ty_st V' (k' t) (l' t) (r' t) t) ∧ ty_pd es' V' ∧ (cd n ≠ 11 → V' s = S n ∧ V' t = T n)) (hbad : ∀ V, ty_vok V → ty_all c' k' l' r' V → ty_pd es' V → False) : ∀ S T, ¬ ty_sol cd fi se nu (L ++ [n]) S T := by
  intro S T hso
  obtain ⟨V, v1, v2, v3, v4⟩ := i5.2.2.2.2 S T ⟨hso.1, hso.2.1, fun m hm => hso.2.2 m (List.mem_append_left _ hm)⟩
  obtain ⟨V', w1, w2, w3, w4, w5⟩ := hsol S T V hso.1 hso.2.1 (hso.2.2 n (List.mem_append_right _ (by simp))) v1 v2 v3 v4
  exact hbad V' w1 (tx_all he i5.1 v2 w2 w3) w4
end CR1
