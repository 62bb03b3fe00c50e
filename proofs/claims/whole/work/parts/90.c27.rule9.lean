/-! ===== CASE with both children, or the first one HIDDEN ===== -/
section CR1
variable {n : Nat} {cd fi se nu : Nat → Nat} {L : List Nat} {c : Nat} {k l r : Nat → Nat} {es : List (Nat × Nat)} {src tgt : Nat → Nat}
theorem cr_2s (i5 : tyS cd fi se nu L c k l r es src tgt) (hfi : fi n ∈ L) (hse : se n ∈ L) (hc : cd n = 1) (hfv : cd (fi n) ≠ 11) (hsv : cd (se n) ≠ 11) : ∀ S T V, ty_vok S → ty_vok T → ty_rule cd fi se nu S T n → ty_vok V → ty_all c k l r V → ty_pd es V → (∀ m ∈ L, cd m ≠ 11 → V (src m) = S m ∧ V (tgt m) = T m) → ∃ V', ty_vok V' ∧ (∀ t, t < c → V' t = V t) ∧ (∀ t, c ≤ t → t < c + 5 + 1 + 1 → ty_st V' (updN (updN (cK k c) (c + 5) 3) (c + 5 + 1) 3 t) (updN (updN (cL l c) (c + 5) c) (c + 5 + 1) (c + 1) t) (updN (updN (cR r c) (c + 5) (c + 2)) (c + 5 + 1) (c + 2) t) t) ∧ ty_pd ((tgt (fi n), tgt (se n)) :: (c + 5 + 1, src (se n)) :: (c + 5, src (fi n)) :: es) V' ∧ (cd n ≠ 11 → V' (c + 4) = S n ∧ V' (tgt (fi n)) = T n) := by
  intro S T V hs ht hr v1 v2 v3 v4
  obtain ⟨a, b, z, o1, o2, o3, o4, o5, o6⟩ := cr_sol i5 hfi hse hc hs ht hr v1 v2 v3 v4
  obtain ⟨w1, w2, w3, w4⟩ := o5 hfv
  obtain ⟨w5, w6, w7, w8⟩ := o6 hsv
  have e : ∀ i, tvx V c (cG a b z (.mul a z) (.mul b z)) (c + i) = (cG a b z (.mul a z) (.mul b z)).getD i tO := fun i => tvx_n
  have e00 : tvx V c (cG a b z (.mul a z) (.mul b z)) c = a := e 0
  refine ⟨tvx V c (cG a b z (.mul a z) (.mul b z)), cG_ok v1 o1 o2 o3 ⟨o1, o3⟩ ⟨o2, o3⟩, fun t ht => tvx_o ht, fun t h1 h2 => ?_, ty_pd_cons.mpr ⟨by rw [tvx_o w4, tvx_o w8, w2, w6], ty_pd_cons.mpr ⟨?_, ty_pd_cons.mpr ⟨?_, tx_pd i5.2.1 v3 (fun t ht => tvx_o ht)⟩⟩⟩, fun _ => ⟨?_, by rw [tvx_o w4, w2]⟩⟩
  · by_cases ht6 : t = c + 5 + 1
    · subst ht6
      rw [updN_s, updN_s, updN_s]
      refine ⟨nofun, nofun, fun _ => ?_⟩
      rw [show c + 5 + 1 = c + 6 from rfl, e 6, e 1, e 2]
      rfl
    · rw [updN_o ht6, updN_o ht6, updN_o ht6]
      by_cases ht : t = c + 5
      · subst ht
        rw [updN_s, updN_s, updN_s]
        refine ⟨nofun, nofun, fun _ => ?_⟩
        rw [e 5, e00, e 2]
        rfl
      · rw [updN_o ht, updN_o ht, updN_o ht]
        exact cG_st h1 (by omega)
  · rw [show c + 5 + 1 = c + 6 from rfl, e 6, tvx_o w7, w5]; rfl
  · rw [e 5, tvx_o w3, w1]; rfl
  · rw [e 4, o4]; rfl
theorem cr_2t (i5 : tyS cd fi se nu L c k l r es src tgt) (hnL : n ∉ L) (hch : ∀ m ∈ L, (cd m ≤ 6 → fi m ≠ n) ∧ (cd m ≤ 2 → se m ≠ n)) (hfi : fi n ∈ L) (hse : se n ∈ L) (hc : cd n = 1) (hfv : cd (fi n) ≠ 11) (hsv : cd (se n) ≠ 11) : tyS cd fi se nu (L ++ [n]) (c + 5 + 1 + 1) (updN (updN (cK k c) (c + 5) 3) (c + 5 + 1) 3) (updN (updN (cL l c) (c + 5) c) (c + 5 + 1) (c + 1)) (updN (updN (cR r c) (c + 5) (c + 2)) (c + 5 + 1) (c + 2)) ((tgt (fi n), tgt (se n)) :: (c + 5 + 1, src (se n)) :: (c + 5, src (fi n)) :: es) (updN src n (c + 4)) (updN tgt n (tgt (fi n))) := by
  obtain ⟨f8, f9⟩ := i5.2.2.1 _ hfi hfv
  obtain ⟨p8, p9⟩ := i5.2.2.1 _ hse hsv
  have hne : fi n ≠ n := fun z => hnL (by rw [← z]; exact hfi)
  have hne2 : se n ≠ n := fun z => hnL (by rw [← z]; exact hse)
  refine tyS_add i5 (tx_tr (tx_tr cr_tx updN_tx) updN_tx) (fun t h1 h2 => ?_) (fun q hq => ?_) (fun q hq => List.mem_cons_of_mem _ (List.mem_cons_of_mem _ (List.mem_cons_of_mem _ hq))) hnL hch (fun _ => ⟨by omega, by omega⟩) (fun f hf => ?_) (cr_2s i5 hfi hse hc hfv hsv)
  · by_cases ht6 : t = c + 5 + 1
    · subst ht6
      rw [updN_s, updN_s, updN_s]; exact ⟨by decide, fun _ => ⟨by omega, by omega⟩⟩
    · rw [updN_o ht6, updN_o ht6, updN_o ht6]
      by_cases ht : t = c + 5
      · subst ht
        rw [updN_s, updN_s, updN_s]; exact ⟨by decide, fun _ => ⟨by omega, by omega⟩⟩
      · rw [updN_o ht, updN_o ht, updN_o ht]
        have := cK_b (k := k) (l := l) (r := r) h1 (by omega : t < c + 5)
        exact ⟨this.1, fun q => ⟨by have := (this.2 q).1; omega, by have := (this.2 q).2; omega⟩⟩
  · rcases List.mem_cons.mp hq with rfl | hq
    · exact Or.inr ⟨Nat.lt_of_lt_of_le f9 (by omega), Nat.lt_of_lt_of_le p9 (by omega)⟩
    · rcases List.mem_cons.mp hq with rfl | hq
      · exact Or.inr ⟨Nat.lt_succ_self _, Nat.lt_of_lt_of_le p8 (by omega)⟩
      · rcases List.mem_cons.mp hq with rfl | hq
        · exact Or.inr ⟨Nat.lt_succ_of_lt (Nat.lt_succ_self _), Nat.lt_of_lt_of_le f8 (by omega)⟩
        · exact Or.inl hq
  · obtain ⟨b1, hf⟩ := ty_pd_cons.mp hf
    obtain ⟨b2, hf⟩ := ty_pd_cons.mp hf
    obtain ⟨b3, hf⟩ := ty_pd_cons.mp hf
    refine ⟨fun e => absurd (hc.symm.trans e) (by decide), fun e => ?_, fun e => absurd (hc.symm.trans e) (by decide), fun e => absurd (hc.symm.trans e) (by decide), fun e => absurd (hc.symm.trans e) (by decide), fun e => absurd (hc.symm.trans e) (by decide), fun e => absurd (hc.symm.trans e) (by decide), fun e => absurd (hc.symm.trans e) (by decide), fun e => absurd (hc.symm.trans e) (by decide), fun e => absurd (hc.symm.trans e) (by decide)⟩
    rw [updN_s, updN_s, updN_o hne, updN_o hne, updN_o hne2, updN_o hne2]
    exact ⟨by omega, by simp [cK, updN], by simp [cL, updN], by simp [cK, cL, updN], fun _ => ⟨rfl, c + 5, by omega, by simp [updN], by simp [cL, updN], by simp [cR, updN], b3⟩, fun _ => ⟨b1, c + 5 + 1, by omega, by simp [updN], by simp [cL, cR, updN], by simp [cR, updN], b2⟩⟩
theorem cr_3s (i5 : tyS cd fi se nu L c k l r es src tgt) (hfi : fi n ∈ L) (hse : se n ∈ L) (hc : cd n = 1) (hsv : cd (se n) ≠ 11) : ∀ S T V, ty_vok S → ty_vok T → ty_rule cd fi se nu S T n → ty_vok V → ty_all c k l r V → ty_pd es V → (∀ m ∈ L, cd m ≠ 11 → V (src m) = S m ∧ V (tgt m) = T m) → ∃ V', ty_vok V' ∧ (∀ t, t < c → V' t = V t) ∧ (∀ t, c ≤ t → t < c + 5 + 1 → ty_st V' (updN (cK k c) (c + 5) 3 t) (updN (cL l c) (c + 5) (c + 1) t) (updN (cR r c) (c + 5) (c + 2) t) t) ∧ ty_pd ((tgt (se n), tgt (se n)) :: (c + 5, src (se n)) :: es) V' ∧ (cd n ≠ 11 → V' (c + 4) = S n ∧ V' (tgt (se n)) = T n) := by
  intro S T V hs ht hr v1 v2 v3 v4
  obtain ⟨a, b, z, o1, o2, o3, o4, _, o5⟩ := cr_sol i5 hfi hse hc hs ht hr v1 v2 v3 v4
  obtain ⟨w1, w2, w3, w4⟩ := o5 hsv
  have e : ∀ i, tvx V c (cG a b z (.mul b z) tO) (c + i) = (cG a b z (.mul b z) tO).getD i tO := fun i => tvx_n
  refine ⟨tvx V c (cG a b z (.mul b z) tO), cG_ok v1 o1 o2 o3 ⟨o2, o3⟩ rfl, fun t ht => tvx_o ht, fun t h1 h2 => ?_, ty_pd_cons.mpr ⟨rfl, ty_pd_cons.mpr ⟨?_, tx_pd i5.2.1 v3 (fun t ht => tvx_o ht)⟩⟩, fun _ => ⟨?_, by rw [tvx_o w4, w2]⟩⟩
  · by_cases ht : t = c + 5
    · subst ht
      rw [updN_s, updN_s, updN_s]
      refine ⟨nofun, nofun, fun _ => ?_⟩
      rw [e 5, e 1, e 2]
      rfl
    · rw [updN_o ht, updN_o ht, updN_o ht]
      exact cG_st h1 (by omega)
  · rw [e 5, tvx_o w3, w1]; rfl
  · rw [e 4, o4]; rfl
theorem cr_3t (i5 : tyS cd fi se nu L c k l r es src tgt) (hnL : n ∉ L) (hch : ∀ m ∈ L, (cd m ≤ 6 → fi m ≠ n) ∧ (cd m ≤ 2 → se m ≠ n)) (hfi : fi n ∈ L) (hse : se n ∈ L) (hc : cd n = 1) (hfv : cd (fi n) = 11) (hsv : cd (se n) ≠ 11) : tyS cd fi se nu (L ++ [n]) (c + 5 + 1) (updN (cK k c) (c + 5) 3) (updN (cL l c) (c + 5) (c + 1)) (updN (cR r c) (c + 5) (c + 2)) ((tgt (se n), tgt (se n)) :: (c + 5, src (se n)) :: es) (updN src n (c + 4)) (updN tgt n (tgt (se n))) := by
  obtain ⟨f8, f9⟩ := i5.2.2.1 _ hse hsv
  have hne : se n ≠ n := fun z => hnL (by rw [← z]; exact hse)
  refine tyS_add i5 (tx_tr cr_tx updN_tx) (fun t h1 h2 => ?_) (fun q hq => ?_) (fun q hq => List.mem_cons_of_mem _ (List.mem_cons_of_mem _ hq)) hnL hch (fun _ => ⟨by omega, by omega⟩) (fun f hf => ?_) (cr_3s i5 hfi hse hc hsv)
  · by_cases ht : t = c + 5
    · subst ht
      rw [updN_s, updN_s, updN_s]; exact ⟨by decide, fun _ => ⟨by omega, by omega⟩⟩
    · rw [updN_o ht, updN_o ht, updN_o ht]
      have := cK_b (k := k) (l := l) (r := r) h1 (by omega : t < c + 5)
      exact ⟨this.1, fun q => ⟨by have := (this.2 q).1; omega, by have := (this.2 q).2; omega⟩⟩
  · rcases List.mem_cons.mp hq with rfl | hq
    · exact Or.inr ⟨Nat.lt_of_lt_of_le f9 (by omega), Nat.lt_of_lt_of_le f9 (by omega)⟩
    · rcases List.mem_cons.mp hq with rfl | hq
      · exact Or.inr ⟨Nat.lt_succ_self _, Nat.lt_of_lt_of_le f8 (by omega)⟩
      · exact Or.inl hq
  · obtain ⟨b1, hf⟩ := ty_pd_cons.mp hf
    obtain ⟨b2, hf⟩ := ty_pd_cons.mp hf
    refine ⟨fun e => absurd (hc.symm.trans e) (by decide), fun e => ?_, fun e => absurd (hc.symm.trans e) (by decide), fun e => absurd (hc.symm.trans e) (by decide), fun e => absurd (hc.symm.trans e) (by decide), fun e => absurd (hc.symm.trans e) (by decide), fun e => absurd (hc.symm.trans e) (by decide), fun e => absurd (hc.symm.trans e) (by decide), fun e => absurd (hc.symm.trans e) (by decide), fun e => absurd (hc.symm.trans e) (by decide)⟩
    rw [updN_s, updN_s, updN_o hne, updN_o hne]
    exact ⟨by omega, by simp [cK, updN], by simp [cL, updN], by simp [cK, cL, updN], fun q => absurd hfv q, fun _ => ⟨rfl, c + 5, by omega, by simp [updN], by simp [cL, cR, updN], by simp [cR, updN], b2⟩⟩
end CR1
