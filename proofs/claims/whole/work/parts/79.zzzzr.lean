/-! ===== rules: steps, rows of steps, throws, calls of helpers ===== -/
section XMR
variable {E : xm_E} {d y z pcC K k pc : Nat} {lv lv' : xm_L} {st : List Value} {h0 : xm_H} {post post' : xm_Po} {tw : Nat → Option String} {px px' : String → xm_H → Prop} {hp : String → Option (Nat × Nat)} {Hp : Nat → List Value → xm_H → xm_Po → Prop}
theorem xx_mono {T T' : xm_TT} (hT : ∀ z as h p q, (∀ r h', p r h' → q r h') → T z as h p → T' z as h q) (hp : ∀ r h', post r h' → post' r h') (hx : ∀ X h', px X h' → px' X h') (h : xm_goX E T y post tw px pc lv st h0) : xm_goX E T' y post' tw px' pc lv st h0 :=
  fun P hP hw ht => h P (fun _ _ _ _ q => hP _ _ _ _ (xm_one_mono hT hp (fun _ _ _ _ z => z) q)) hw (fun pc lv h X a b => ht pc lv h X a (hx X h b))
theorem xx_one (h : xm_one E (xm_T E d) y post pc lv st h0 (xm_goX E (xm_T E d) y post tw px)) : xm_goX E (xm_T E d) y post tw px pc lv st h0 :=
  fun P hP hw ht => hP _ _ _ _ (xm_one_mono (xm_T_mono d d (Nat.le_refl _)) (fun _ _ q => q) (fun _ _ _ _ q => q P hP hw ht) h)
theorem xx_wk (hs : ∀ q ∈ lv, q ∈ lv') (h : xm_goX E (xm_T E d) y post tw px pc lv st h0) : xm_goX E (xm_T E d) y post tw px pc lv' st h0 := fun P hP hw ht => hw _ _ _ _ _ hs (h P hP hw ht)
theorem xx_thr {X : String} (ht : tw pc = some X) (h : px X h0) : xm_goX E (xm_T E d) y post tw px pc lv [] h0 := fun _ _ _ hq => hq pc lv h0 X ht h
theorem xx_go (h : xm_go E (xm_T E d) y post pc lv st h0) : xm_goX E (xm_T E d) y post tw px pc lv st h0 := fun P hP hw _ => h P hP hw
theorem xx_blk : ∀ (b : List (Nat × Jvm.ClassFile.Instr × Nat)) {pc : Nat} {lv : xm_L} {st : List Value} {h0 : xm_H}, xm_bok (xe_cy E y) b → xm_blk E (xm_T E d) y post b pc lv st h0 (xm_goX E (xm_T E d) y post tw px) → xm_goX E (xm_T E d) y post tw px pc lv st h0
  | [], _, _, _, _, _, h => h
  | q :: r, _, _, _, _, hb, h => by
    obtain ⟨rfl, h⟩ := h
    obtain ⟨h1, h2⟩ := hb q List.mem_cons_self
    refine xx_one ?_
    unfold xm_one
    rw [h1]
    refine ⟨h2, xm_step_mono (xm_T_mono d d (Nat.le_refl _)) (fun _ _ z => z) (fun _ _ _ _ z => ?_) h⟩
    exact xx_blk r (fun w hw => hb w (List.mem_cons_of_mem _ hw)) z
theorem xh_mono (hpost : ∀ r h', post r h' → post' r h') (h : xm_goH E d y z pcC tw hp post pc lv st h0) : xm_goH E d y z pcC tw hp post' pc lv st h0 :=
  fun P hP hw hc => h P (fun _ _ _ _ q => hP _ _ _ _ (xm_one_mono (xm_T_mono d d (Nat.le_refl _)) hpost (fun _ _ _ _ z => z) q)) hw (fun lv as b rest h a1 a2 a3 a4 g => hc lv as b rest h a1 a2 a3 a4 (xx_mono (xm_T_mono d d (Nat.le_refl _)) (fun _ _ q => xm_go_mono (xm_T_mono d d (Nat.le_refl _)) hpost q) (fun _ _ q => by obtain ⟨a, b, e1, e2⟩ := q; exact ⟨a, b, e1, xm_go_mono (xm_T_mono d d (Nat.le_refl _)) hpost e2⟩) g))
theorem xh_one (h : xm_one E (xm_T E d) y post pc lv st h0 (xm_goH E d y z pcC tw hp post)) : xm_goH E d y z pcC tw hp post pc lv st h0 :=
  fun P hP hw hc => hP _ _ _ _ (xm_one_mono (xm_T_mono d d (Nat.le_refl _)) (fun _ _ q => q) (fun _ _ _ _ q => q P hP hw hc) h)
theorem xh_blk : ∀ (b : List (Nat × Jvm.ClassFile.Instr × Nat)) {pc : Nat} {lv : xm_L} {st : List Value} {h0 : xm_H}, xm_bok (xe_cy E y) b → xm_blk E (xm_T E d) y post b pc lv st h0 (xm_goH E d y z pcC tw hp post) → xm_goH E d y z pcC tw hp post pc lv st h0
  | [], _, _, _, _, _, h => h
  | q :: r, _, _, _, _, hb, h => by
    obtain ⟨rfl, h⟩ := h
    obtain ⟨h1, h2⟩ := hb q List.mem_cons_self
    refine xh_one ?_
    unfold xm_one
    rw [h1]
    refine ⟨h2, xm_step_mono (xm_T_mono d d (Nat.le_refl _)) (fun _ _ z => z) (fun _ _ _ _ z => ?_) h⟩
    exact xh_blk r (fun w hw => hb w (List.mem_cons_of_mem _ hw)) z
theorem xh_call {as : List Value} {b : Nat} {rest : List Value} (a1 : as.length = xe_np E z) (a2 : ∃ q, (xe_sh E)[b]? = some (.inr q) ∧ q.1 = xe_cn E z) (a3 : (rest.map fun v => v.category).sum ≤ 8) (a4 : (lg_sl (.ref b :: as)).length ≤ xe_ml E z)
    (h : xm_goX E (xm_T E d) z (fun r h' => xm_go E (xm_T E d) y post (pcC + 3) lv (r.toList ++ rest) h') tw (fun X h' => ∃ q k, hp X = some (q, k) ∧ xm_go E (xm_T E d) y post q (xm_drop lv k) [] h') 0 (lv_args 0 (.ref b :: as)) [] h0) : xm_goH E d y z pcC tw hp post pcC lv (as.reverse ++ .ref b :: rest) h0 :=
  fun _ _ _ hc => hc lv as b rest h0 a1 a2 a3 a4 h
theorem xl_one (h : xm_one E (xm_T E d) y post pc lv st h0 (xm_goL E d y K Hp post k)) : xm_goL E d y K Hp post k pc lv st h0 :=
  fun P hP hw hc => hP _ _ _ _ _ (xm_one_mono (xm_T_mono d d (Nat.le_refl _)) (fun _ _ q => q) (fun _ _ _ _ q => q P hP hw hc) h)
theorem xl_wk (hs : ∀ q ∈ lv, q ∈ lv') (h : xm_goL E d y K Hp post k pc lv st h0) : xm_goL E d y K Hp post k pc lv' st h0 := fun P hP hw hc => hw _ _ _ _ _ _ hs (h P hP hw hc)
theorem xl_blk : ∀ (b : List (Nat × Jvm.ClassFile.Instr × Nat)) {pc : Nat} {lv : xm_L} {st : List Value} {h0 : xm_H}, xm_bok (xe_cy E y) b → xm_blk E (xm_T E d) y post b pc lv st h0 (xm_goL E d y K Hp post k) → xm_goL E d y K Hp post k pc lv st h0
  | [], _, _, _, _, _, h => h
  | q :: r, _, _, _, _, hb, h => by
    obtain ⟨rfl, h⟩ := h
    obtain ⟨h1, h2⟩ := hb q List.mem_cons_self
    refine xl_one ?_
    unfold xm_one
    rw [h1]
    refine ⟨h2, xm_step_mono (xm_T_mono d d (Nat.le_refl _)) (fun _ _ z => z) (fun _ _ _ _ z => ?_) h⟩
    exact xl_blk r (fun w hw => hb w (List.mem_cons_of_mem _ hw)) z
theorem xl_call {as rest : List Value} {idx z : Nat} (hHm : ∀ z as h p q, (∀ r h', p r h' → q r h') → Hp z as h p → Hp z as h q) (hk : k < K) (hdg : decode (xe_cy E y) pc = .ok (.invokestatic idx, 3)) (hlk : xe_lk E (xe_cn E y) idx = some z) (a1 : as.length = xe_np E z) (a3 : (rest.map fun v => v.category).sum ≤ 8)
    (h : Hp z as h0 (fun r h' => xm_goL E d y K Hp post (k + 1) (pc + 3) lv (r.toList ++ rest) h')) : xm_goL E d y K Hp post k pc lv (as.reverse ++ rest) h0 :=
  fun P hP hw hc => hc k pc idx z lv as rest h0 hk hdg hlk a1 a3 (hHm _ _ _ _ _ (fun _ _ q => q P hP hw hc) h)
end XMR
