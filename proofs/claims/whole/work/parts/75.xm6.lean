theorem xm_i1_mono {st : List Value} {f g : Int32 → List Value → Prop} (hfg : ∀ a b, f a b → g a b) (h : xm_i1 st f) : xm_i1 st g := by
  unfold xm_i1 at h ⊢
  split at h
  · exact hfg _ _ h
  · exact h.elim
theorem xm_i2_mono {st : List Value} {f g : Int32 → Int32 → List Value → Prop} (hfg : ∀ a b c, f a b c → g a b c) (h : xm_i2 st f) : xm_i2 st g := by
  unfold xm_i2 at h ⊢
  split at h
  · exact hfg _ _ _ h
  · exact h.elim
theorem xm_l1_mono {st : List Value} {f g : Int64 → List Value → Prop} (hfg : ∀ a b, f a b → g a b) (h : xm_l1 st f) : xm_l1 st g := by
  unfold xm_l1 at h ⊢
  split at h
  · exact hfg _ _ h
  · exact h.elim
theorem xm_l2_mono {st : List Value} {f g : Int64 → Int64 → List Value → Prop} (hfg : ∀ a b c, f a b c → g a b c) (h : xm_l2 st f) : xm_l2 st g := by
  unfold xm_l2 at h ⊢
  split at h
  · exact hfg _ _ _ h
  · exact h.elim
theorem xm_li_mono {st : List Value} {f g : Int64 → Int32 → List Value → Prop} (hfg : ∀ a b c, f a b c → g a b c) (h : xm_li st f) : xm_li st g := by
  unfold xm_li at h ⊢
  split at h
  · exact hfg _ _ _ h
  · exact h.elim
theorem xm_r1_mono {st : List Value} {f g : Nat → List Value → Prop} (hfg : ∀ a b, f a b → g a b) (h : xm_r1 st f) : xm_r1 st g := by
  unfold xm_r1 at h ⊢
  split at h
  · exact hfg _ _ h
  · exact h.elim
theorem xm_ri_mono {st : List Value} {f g : Nat → Int32 → List Value → Prop} (hfg : ∀ a b c, f a b c → g a b c) (h : xm_ri st f) : xm_ri st g := by
  unfold xm_ri at h ⊢
  split at h
  · exact hfg _ _ _ h
  · exact h.elim
theorem xm_rii_mono {st : List Value} {f g : Nat → Int32 → Int32 → List Value → Prop} (hfg : ∀ a b c d, f a b c d → g a b c d) (h : xm_rii st f) : xm_rii st g := by
  unfold xm_rii at h ⊢
  split at h
  · exact hfg _ _ _ _ h
  · exact h.elim
theorem xm_ril_mono {st : List Value} {f g : Nat → Int32 → Int64 → List Value → Prop} (hfg : ∀ a b c d, f a b c d → g a b c d) (h : xm_ril st f) : xm_ril st g := by
  unfold xm_ril at h ⊢
  split at h
  · exact hfg _ _ _ _ h
  · exact h.elim
theorem xm_v1_mono {st : List Value} {f g : Value → List Value → Prop} (hfg : ∀ a b, f a b → g a b) (h : xm_v1 st f) : xm_v1 st g := by
  unfold xm_v1 at h ⊢
  split at h
  · exact hfg _ _ h
  · exact h.elim
theorem xm_v2_mono {st : List Value} {f g : Value → Value → List Value → Prop} (hfg : ∀ a b c, f a b c → g a b c) (h : xm_v2 st f) : xm_v2 st g := by
  unfold xm_v2 at h ⊢
  split at h
  · exact hfg _ _ _ h
  · exact h.elim
theorem xm_vr_mono {st : List Value} {f g : Value → Nat → List Value → Prop} (hfg : ∀ a b c, f a b c → g a b c) (h : xm_vr st f) : xm_vr st g := by
  unfold xm_vr at h ⊢
  split at h
  · exact hfg _ _ _ h
  · exact h.elim
theorem xm_get_mono {lv : xm_L} {i : Nat} {f g : Value → Prop} (hfg : ∀ v, f v → g v) (h : xm_get lv i f) : xm_get lv i g := by
  unfold xm_get at h ⊢
  split at h
  · exact hfg _ h
  · exact h.elim
theorem xm_isI_mono {v : Value} {f g : Int32 → Prop} (hfg : ∀ v, f v → g v) (h : xm_isI v f) : xm_isI v g := by
  unfold xm_isI at h ⊢
  split at h
  · exact hfg _ h
  · exact h.elim
theorem xm_isJ_mono {v : Value} {f g : Int64 → Prop} (hfg : ∀ v, f v → g v) (h : xm_isJ v f) : xm_isJ v g := by
  unfold xm_isJ at h ⊢
  split at h
  · exact hfg _ h
  · exact h.elim
theorem xm_isR_mono {v : Value} {f g : Nat → Prop} (hfg : ∀ v, f v → g v) (h : xm_isR v f) : xm_isR v g := by
  unfold xm_isR at h ⊢
  split at h
  · exact hfg _ h
  · exact h.elim
theorem xm_to_mono {pc : Nat} {off : Int} {f g : Nat → Prop} (hfg : ∀ v, f v → g v) (h : xm_to pc off f) : xm_to pc off g := ⟨h.1, hfg _ h.2⟩
theorem xm_sw_mono {pc : Nat} {lo hi dflt : Int} {offs : Array Int} {x : Int32} {f g : Nat → Prop} (hfg : ∀ v, f v → g v) (h : xm_sw pc lo hi dflt offs x f) : xm_sw pc lo hi dflt offs x g := by
  refine ⟨fun z => xm_to_mono hfg (h.1 z), fun z => ?_⟩
  have h2 := h.2 z
  split at h2
  · exact xm_to_mono hfg h2
  · exact h2.elim
theorem xm_st0_mono {nL : Nat} {i : Jvm.ClassFile.Instr} {pc : Nat} {lv : xm_L} {st : List Value} {h0 : xm_H} {k k' : Nat → xm_L → List Value → xm_H → Prop} (hk : ∀ a b c d, k a b c d → k' a b c d) (h : xm_st0 nL i pc lv st h0 k) : xm_st0 nL i pc lv st h0 k' := by
  cases i with
  | iconst =>
    simp only [xm_st0] at h ⊢
    exact hk _ _ _ _ h
  | bipush =>
    simp only [xm_st0] at h ⊢
    exact hk _ _ _ _ h
  | sipush =>
    simp only [xm_st0] at h ⊢
    exact hk _ _ _ _ h
  | lconst =>
    simp only [xm_st0] at h ⊢
    exact hk _ _ _ _ h
  | iload =>
    simp only [xm_st0] at h ⊢
    exact xm_get_mono (fun _ q => xm_isI_mono (fun _ q => hk _ _ _ _ q) q) h
  | istore =>
    simp only [xm_st0] at h ⊢
    exact xm_i1_mono (fun _ _ q => ⟨q.1, hk _ _ _ _ q.2⟩) h
  | iload_n =>
    simp only [xm_st0] at h ⊢
    exact xm_get_mono (fun _ q => xm_isI_mono (fun _ q => hk _ _ _ _ q) q) h
  | istore_n =>
    simp only [xm_st0] at h ⊢
    exact xm_i1_mono (fun _ _ q => ⟨q.1, hk _ _ _ _ q.2⟩) h
  | lload =>
    simp only [xm_st0] at h ⊢
    exact xm_get_mono (fun _ q => xm_isJ_mono (fun _ q => hk _ _ _ _ q) q) h
  | lstore =>
    simp only [xm_st0] at h ⊢
    exact xm_l1_mono (fun _ _ q => ⟨q.1, hk _ _ _ _ q.2⟩) h
  | lload_n =>
    simp only [xm_st0] at h ⊢
    exact xm_get_mono (fun _ q => xm_isJ_mono (fun _ q => hk _ _ _ _ q) q) h
  | lstore_n =>
    simp only [xm_st0] at h ⊢
    exact xm_l1_mono (fun _ _ q => ⟨q.1, hk _ _ _ _ q.2⟩) h
  | aload =>
    simp only [xm_st0] at h ⊢
    exact xm_get_mono (fun _ q => xm_isR_mono (fun _ q => hk _ _ _ _ q) q) h
  | astore =>
    simp only [xm_st0] at h ⊢
    exact xm_r1_mono (fun _ _ q => ⟨q.1, hk _ _ _ _ q.2⟩) h
  | aload_n =>
    simp only [xm_st0] at h ⊢
    exact xm_get_mono (fun _ q => xm_isR_mono (fun _ q => hk _ _ _ _ q) q) h
  | astore_n =>
    simp only [xm_st0] at h ⊢
    exact xm_r1_mono (fun _ _ q => ⟨q.1, hk _ _ _ _ q.2⟩) h
  | iinc =>
    simp only [xm_st0] at h ⊢
    exact ⟨h.1, xm_get_mono (fun _ q => xm_isI_mono (fun _ q => hk _ _ _ _ q) q) h.2⟩
  | iadd =>
    simp only [xm_st0] at h ⊢
    exact xm_i2_mono (fun _ _ _ q => hk _ _ _ _ q) h
  | isub =>
    simp only [xm_st0] at h ⊢
    exact xm_i2_mono (fun _ _ _ q => hk _ _ _ _ q) h
  | imul =>
    simp only [xm_st0] at h ⊢
    exact xm_i2_mono (fun _ _ _ q => hk _ _ _ _ q) h
  | iand =>
    simp only [xm_st0] at h ⊢
    exact xm_i2_mono (fun _ _ _ q => hk _ _ _ _ q) h
  | ior =>
    simp only [xm_st0] at h ⊢
    exact xm_i2_mono (fun _ _ _ q => hk _ _ _ _ q) h
  | ixor =>
    simp only [xm_st0] at h ⊢
    exact xm_i2_mono (fun _ _ _ q => hk _ _ _ _ q) h
  | ishl =>
    simp only [xm_st0] at h ⊢
    exact xm_i2_mono (fun _ _ _ q => hk _ _ _ _ q) h
  | ishr =>
    simp only [xm_st0] at h ⊢
    exact xm_i2_mono (fun _ _ _ q => hk _ _ _ _ q) h
  | iushr =>
    simp only [xm_st0] at h ⊢
    exact xm_i2_mono (fun _ _ _ q => hk _ _ _ _ q) h
  | idiv =>
    simp only [xm_st0] at h ⊢
    exact xm_i2_mono (fun _ _ _ q => ⟨q.1, hk _ _ _ _ q.2⟩) h
  | irem =>
    simp only [xm_st0] at h ⊢
    exact xm_i2_mono (fun _ _ _ q => ⟨q.1, hk _ _ _ _ q.2⟩) h
  | ladd =>
    simp only [xm_st0] at h ⊢
    exact xm_l2_mono (fun _ _ _ q => hk _ _ _ _ q) h
  | lsub =>
    simp only [xm_st0] at h ⊢
    exact xm_l2_mono (fun _ _ _ q => hk _ _ _ _ q) h
  | lmul =>
    simp only [xm_st0] at h ⊢
    exact xm_l2_mono (fun _ _ _ q => hk _ _ _ _ q) h
  | land =>
    simp only [xm_st0] at h ⊢
    exact xm_l2_mono (fun _ _ _ q => hk _ _ _ _ q) h
  | lor =>
    simp only [xm_st0] at h ⊢
    exact xm_l2_mono (fun _ _ _ q => hk _ _ _ _ q) h
  | lxor =>
    simp only [xm_st0] at h ⊢
    exact xm_l2_mono (fun _ _ _ q => hk _ _ _ _ q) h
  | lcmp =>
    simp only [xm_st0] at h ⊢
    exact xm_l2_mono (fun _ _ _ q => hk _ _ _ _ q) h
  | ldiv =>
    simp only [xm_st0] at h ⊢
    exact xm_l2_mono (fun _ _ _ q => ⟨q.1, hk _ _ _ _ q.2⟩) h
  | lrem =>
    simp only [xm_st0] at h ⊢
    exact xm_l2_mono (fun _ _ _ q => ⟨q.1, hk _ _ _ _ q.2⟩) h
  | lshl =>
    simp only [xm_st0] at h ⊢
    exact xm_li_mono (fun _ _ _ q => hk _ _ _ _ q) h
  | lshr =>
    simp only [xm_st0] at h ⊢
    exact xm_li_mono (fun _ _ _ q => hk _ _ _ _ q) h
  | lushr =>
    simp only [xm_st0] at h ⊢
    exact xm_li_mono (fun _ _ _ q => hk _ _ _ _ q) h
  | ineg =>
    simp only [xm_st0] at h ⊢
    exact xm_i1_mono (fun _ _ q => hk _ _ _ _ q) h
  | i2l =>
    simp only [xm_st0] at h ⊢
    exact xm_i1_mono (fun _ _ q => hk _ _ _ _ q) h
  | i2b =>
    simp only [xm_st0] at h ⊢
    exact xm_i1_mono (fun _ _ q => hk _ _ _ _ q) h
  | lneg =>
    simp only [xm_st0] at h ⊢
    exact xm_l1_mono (fun _ _ q => hk _ _ _ _ q) h
  | l2i =>
    simp only [xm_st0] at h ⊢
    exact xm_l1_mono (fun _ _ q => hk _ _ _ _ q) h
  | dup =>
    simp only [xm_st0] at h ⊢
    exact xm_v1_mono (fun _ _ q => ⟨q.1, hk _ _ _ _ q.2⟩) h
  | pop =>
    simp only [xm_st0] at h ⊢
    exact xm_v1_mono (fun _ _ q => ⟨q.1, hk _ _ _ _ q.2⟩) h
  | dup2 =>
    simp only [xm_st0] at h ⊢
    exact xm_v2_mono (fun _ _ _ q => ⟨q.1, q.2.1, hk _ _ _ _ q.2.2⟩) h
  | goto =>
    simp only [xm_st0] at h ⊢
    exact xm_to_mono (fun _ q => hk _ _ _ _ q) h
  | ifCond =>
    simp only [xm_st0] at h ⊢
    exact xm_i1_mono (fun _ _ q => xm_to_mono (fun _ q => ⟨fun z => hk _ _ _ _ (q.1 z), fun z => hk _ _ _ _ (q.2 z)⟩) q) h
  | if_icmp =>
    simp only [xm_st0] at h ⊢
    exact xm_i2_mono (fun _ _ _ q => xm_to_mono (fun _ q => ⟨fun z => hk _ _ _ _ (q.1 z), fun z => hk _ _ _ _ (q.2 z)⟩) q) h
  | _ => exact h
theorem xm_st_mono {cl : List vw_C} {ft : Nat → Nat → FieldType} {sh : List xm_K} {tI : Nat → Option (Nat × (Nat → Int32))} {tL : Nat → Option (Nat × (Nat → Int64))} {fl : Nat → Option (Nat × Nat)} {kI : Nat → Option Int32} {kL : Nat → Option Int64} {gs : Nat → Option Nat} {nL : Nat} {i : Jvm.ClassFile.Instr} {pc : Nat} {lv : xm_L} {st : List Value} {h0 : xm_H} {k k' : Nat → xm_L → List Value → xm_H → Prop} (hk : ∀ a b c d, k a b c d → k' a b c d) (h : xm_st cl ft sh tI tL fl kI kL gs nL i pc lv st h0 k) : xm_st cl ft sh tI tL fl kI kL gs nL i pc lv st h0 k' := by
  cases i with
  | getfield =>
    simp only [xm_st] at h ⊢
    refine xm_r1_mono (fun _ _ q => ?_) h
    repeat (first | exact q | exact ⟨q.1, q.2.1, hk _ _ _ _ q.2.2⟩ | (split at q))
  | putfield =>
    simp only [xm_st] at h ⊢
    refine xm_vr_mono (fun _ _ _ q => ?_) h
    repeat (first | exact q | exact ⟨q.1, q.2.1, q.2.2.1, q.2.2.2.1, q.2.2.2.2.1, hk _ _ _ _ q.2.2.2.2.2⟩ | (split at q))
  | iaload =>
    simp only [xm_st] at h ⊢
    refine xm_ri_mono (fun _ _ _ q => ?_) h
    repeat (first | exact q | exact ⟨q.1, hk _ _ _ _ q.2⟩ | (split at q))
  | baload =>
    simp only [xm_st] at h ⊢
    refine xm_ri_mono (fun _ _ _ q => ?_) h
    repeat (first | exact q | exact ⟨q.1, hk _ _ _ _ q.2⟩ | (split at q))
  | laload =>
    simp only [xm_st] at h ⊢
    refine xm_ri_mono (fun _ _ _ q => ?_) h
    repeat (first | exact q | exact ⟨q.1, hk _ _ _ _ q.2⟩ | (split at q))
  | iastore =>
    simp only [xm_st] at h ⊢
    refine xm_rii_mono (fun _ _ _ _ q => ?_) h
    repeat (first | exact q | exact ⟨q.1, hk _ _ _ _ q.2⟩ | (split at q))
  | bastore =>
    simp only [xm_st] at h ⊢
    refine xm_rii_mono (fun _ _ _ _ q => ?_) h
    repeat (first | exact q | exact ⟨q.1, hk _ _ _ _ q.2⟩ | (split at q))
  | lastore =>
    simp only [xm_st] at h ⊢
    refine xm_ril_mono (fun _ _ _ _ q => ?_) h
    repeat (first | exact q | exact ⟨q.1, hk _ _ _ _ q.2⟩ | (split at q))
  | ldc =>
    simp only [xm_st] at h ⊢
    split at h
    · exact hk _ _ _ _ h
    · exact h.elim
  | ldc_w =>
    simp only [xm_st] at h ⊢
    split at h
    · exact hk _ _ _ _ h
    · exact h.elim
  | ldc2_w =>
    simp only [xm_st] at h ⊢
    split at h
    · exact hk _ _ _ _ h
    · exact h.elim
  | getstatic =>
    simp only [xm_st] at h ⊢
    split at h
    · exact hk _ _ _ _ h
    · exact h.elim
  | arraylength =>
    simp only [xm_st] at h ⊢
    refine xm_r1_mono (fun _ _ q => ?_) h
    split at q
    · exact hk _ _ _ _ q
    · exact q.elim
  | lookupswitch => exact xm_i1_mono (fun _ _ q => ⟨q.1, xm_to_mono (fun _ q => hk _ _ _ _ q) q.2⟩) h
  | tableswitch => exact xm_i1_mono (fun _ _ q => xm_sw_mono (fun _ q => hk _ _ _ _ q) q) h
  | _ =>
    simp only [xm_st] at h ⊢
    exact xm_st0_mono hk h
theorem xm_step_mono {E : xm_E} {T T' : xm_TT} {y : Nat} {i : Jvm.ClassFile.Instr} {pc : Nat} {lv : xm_L} {st : List Value} {h0 : xm_H} {post post' : xm_Po} {k k' : Nat → xm_L → List Value → xm_H → Prop} (hT : ∀ z as h p q, (∀ r h', p r h' → q r h') → T z as h p → T' z as h q) (hp : ∀ r h', post r h' → post' r h') (hk : ∀ a b c d, k a b c d → k' a b c d) (h : xm_step E T y i pc lv st h0 post k) : xm_step E T' y i pc lv st h0 post' k' := by
  cases i with
  | ireturn =>
    simp only [xm_step] at h ⊢
    split at h
    · exact ⟨h.1, hp _ _ h.2⟩
    · exact h.elim
  | lreturn =>
    simp only [xm_step] at h ⊢
    split at h
    · exact ⟨h.1, hp _ _ h.2⟩
    · exact h.elim
  | return_ => exact ⟨h.1, h.2.1, hp _ _ h.2.2⟩
  | invokevirtual idx =>
    simp only [xm_step] at h ⊢
    split at h
    · obtain ⟨hn, h1, h2, h3⟩ := h
      refine ⟨hn, h1, h2, ?_⟩
      split at h3
      · exact ⟨h3.1, h3.2.1, hT _ _ _ _ _ (fun _ _ q => hk _ _ _ _ q) h3.2.2⟩
      · exact h3.elim
    · exact h.elim
  | invokestatic idx =>
    simp only [xm_step] at h ⊢
    split at h
    · rename_i z hz
      by_cases hzn : z < xe_n E
      · rw [if_pos hzn] at h ⊢
        exact ⟨h.1, h.2.1, h.2.2.1, hT _ _ _ _ _ (fun _ _ q => hk _ _ _ _ q) h.2.2.2⟩
      · rw [if_neg hzn] at h ⊢
        generalize z - xe_n E = jx at h ⊢
        match jx, h with
        | 0, h =>
          simp only [xm_ext] at h ⊢
          unfold xm_acp at h ⊢
          split at h
          · split at h
            · exact ⟨h.1, hk _ _ _ _ h.2⟩
            · exact h.elim
          · exact h.elim
        | 1, h => exact xm_i2_mono (fun _ _ _ q => ⟨q.1, hk _ _ _ _ q.2⟩) h
        | 2, h => exact xm_i2_mono (fun _ _ _ q => ⟨q.1, hk _ _ _ _ q.2⟩) h
        | n + 3, h => exact h.elim
    · exact h.elim
  | _ =>
    simp only [xm_step] at h ⊢
    exact xm_st_mono hk h
theorem xm_one_mono {E : xm_E} {T T' : xm_TT} {y pc : Nat} {lv : xm_L} {st : List Value} {h0 : xm_H} {post post' : xm_Po} {k k' : Nat → xm_L → List Value → xm_H → Prop} (hT : ∀ z as h p q, (∀ r h', p r h' → q r h') → T z as h p → T' z as h q) (hp : ∀ r h', post r h' → post' r h') (hk : ∀ a b c d, k a b c d → k' a b c d) (h : xm_one E T y post pc lv st h0 k) : xm_one E T' y post' pc lv st h0 k' := by
  unfold xm_one at h ⊢
  split at h
  · exact ⟨h.1, xm_step_mono hT hp hk h.2⟩
  · exact h.elim
theorem xm_go_mono {E : xm_E} {T T' : xm_TT} {y pc : Nat} {lv : xm_L} {st : List Value} {h0 : xm_H} {post post' : xm_Po} (hT : ∀ z as h p q, (∀ r h', p r h' → q r h') → T z as h p → T' z as h q) (hp : ∀ r h', post r h' → post' r h') (h : xm_go E T y post pc lv st h0) : xm_go E T' y post' pc lv st h0 :=
  fun P hP hw => h P (fun _ _ _ _ q => hP _ _ _ _ (xm_one_mono hT hp (fun _ _ _ _ z => z) q)) hw
theorem xm_T_mono {E : xm_E} : ∀ (d d' : Nat), d ≤ d' → ∀ z as h p q, (∀ r h', p r h' → q r h') → xm_T E d z as h p → xm_T E d' z as h q
  | 0, _, _, _, _, _, _, _, _, hq => hq.elim
  | d + 1, d' + 1, hd, _, _, _, _, _, hpq, hq => ⟨hq.1, xm_go_mono (xm_T_mono d d' (Nat.le_of_succ_le_succ hd)) hpq hq.2⟩
/-- a step -/
theorem xm_go_one {E : xm_E} {d y pc : Nat} {lv : xm_L} {st : List Value} {h0 : xm_H} {post : xm_Po} (h : xm_one E (xm_T E d) y post pc lv st h0 (xm_go E (xm_T E d) y post)) : xm_go E (xm_T E d) y post pc lv st h0 :=
  fun P hP hw => hP _ _ _ _ (xm_one_mono (xm_T_mono d d (Nat.le_refl _)) (fun _ _ q => q) (fun _ _ _ _ q => q P hP hw) h)
theorem xm_go_wk {E : xm_E} {T : xm_TT} {y pc : Nat} {lv lv' : xm_L} {st : List Value} {h0 : xm_H} {post : xm_Po} (hs : ∀ q ∈ lv, q ∈ lv') (h : xm_go E T y post pc lv st h0) : xm_go E T y post pc lv' st h0 :=
  fun P hP hw => hw _ _ _ _ _ hs (h P hP hw)
theorem xm_go_i {E : xm_E} {d y pc : Nat} {lv : xm_L} {st : List Value} {h0 : xm_H} {post : xm_Po} {i : Jvm.ClassFile.Instr} {len : Nat} (hd : decode (xe_cy E y) pc = .ok (i, len)) (hl : xm_tsw i = true ∨ len = xm_len i) (h : xm_step E (xm_T E d) y i pc lv st h0 post (xm_go E (xm_T E d) y post)) : xm_go E (xm_T E d) y post pc lv st h0 :=
  xm_go_one (by unfold xm_one; rw [hd]; exact ⟨hl, h⟩)
/-- a row of steps -/
def xm_blk (E : xm_E) (T : xm_TT) (y : Nat) (post : xm_Po) : List (Nat × Jvm.ClassFile.Instr × Nat) → Nat → xm_L → List Value → xm_H → (Nat → xm_L → List Value → xm_H → Prop) → Prop
  | [], pc, lv, st, h, k => k pc lv st h
  | q :: r, pc, lv, st, h, k => pc = q.1 ∧ xm_step E T y q.2.1 q.1 lv st h post (fun pc lv st h => xm_blk E T y post r pc lv st h k)
def xm_bok (c : ByteArray) (b : List (Nat × Jvm.ClassFile.Instr × Nat)) : Prop := ∀ q ∈ b, decode c q.1 = .ok (q.2.1, q.2.2) ∧ (xm_tsw q.2.1 = true ∨ q.2.2 = xm_len q.2.1)
theorem xm_go_blk {E : xm_E} {d y : Nat} {post : xm_Po} : ∀ (b : List (Nat × Jvm.ClassFile.Instr × Nat)) {pc : Nat} {lv : xm_L} {st : List Value} {h0 : xm_H}, xm_bok (xe_cy E y) b → xm_blk E (xm_T E d) y post b pc lv st h0 (xm_go E (xm_T E d) y post) → xm_go E (xm_T E d) y post pc lv st h0
  | [], _, _, _, _, _, h => h
  | q :: r, _, _, _, _, hb, h => by
    obtain ⟨rfl, h⟩ := h
    obtain ⟨h1, h2⟩ := hb q List.mem_cons_self
    refine xm_go_i h1 h2 (xm_step_mono (xm_T_mono d d (Nat.le_refl _)) (fun _ _ z => z) (fun _ _ _ _ z => ?_) h)
    exact xm_go_blk r (fun w hw => hb w (List.mem_cons_of_mem _ hw)) z
