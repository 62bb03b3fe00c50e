/-! ===== tables as lists, and that they are right ===== -/
def xm_find {α : Type} (L : List (List (Nat × α))) (c idx : Nat) : Option α := (((L[c]?).getD []).find? (fun q => q.1 == idx)).map (·.2)
theorem xm_find_of {α : Type} {L : List (List (Nat × α))} {c idx : Nat} {x : α} (h : xm_find L c idx = some x) : ∃ l, L[c]? = some l ∧ (idx, x) ∈ l := by
  unfold xm_find at h
  cases hl : L[c]? with
  | none => rw [hl] at h; simp at h
  | some l =>
    rw [hl] at h
    obtain ⟨q, hq, rfl⟩ := Option.map_eq_some_iff.mp h
    have h1 := List.find?_some hq
    have h2 : q.1 = idx := by simpa using h1
    exact ⟨l, rfl, by rw [← h2]; exact List.mem_of_find?_eq_some hq⟩
abbrev xm_Y : Type := MethodName × ByteArray × (Nat × Nat × Nat × Bool) × Option FieldType
def xm_y0 : xm_Y := (⟨"", "", ""⟩, ⟨#[]⟩, (0, 0, 0, false), none)
def xm_ya (ys : List xm_Y) (y : Nat) : xm_Y := (ys[y]?).getD xm_y0
/-- pairs of a class's number and an entry of its table -/
def xm_fl2 {α β : Type} (L : List (List α)) (f : Nat → α → List β) : List β := (L.mapIdx fun c l => l.flatMap (f c)).flatten
theorem xm_fl2_mem {α β : Type} {L : List (List α)} {f : Nat → α → List β} {c : Nat} {l : List α} {x : α} {b : β} (hl : L[c]? = some l) (hx : x ∈ l) (hb : b ∈ f c x) : b ∈ xm_fl2 L f := by
  refine List.mem_flatten.mpr ⟨l.flatMap (f c), ?_, List.mem_flatMap.mpr ⟨x, hx, hb⟩⟩
  apply List.mem_of_getElem? (i := c)
  simp [List.getElem?_mapIdx, hl]
abbrev xm_Tb : Type := List vw_C × (Nat → Nat → FieldType) × List xm_K × (Nat → Option (Nat × (Nat → Int32))) × (Nat → Option (Nat × (Nat → Int64))) × (Nat → Option (String × String × String)) × List xm_Y × List String × List (List (Nat × Nat × Nat)) × List (List (Nat × Int32)) × List (List (Nat × Int64)) × List (List (Nat × Nat)) × List (List (Nat × Nat))
/-- own class's name of a number -/
def xm_cn (N : List String) (c : Nat) : String := (N[c]?).getD ""
def xm_q0 : vw_C := ("", fun _ => ("", "", "", false), 0)
def xm_Uf (cl : List vw_C) (N : List String) (c : Nat) (q : Nat × Nat × Nat) : List Cond := [.fieldLink (xm_cn N c) q.1 ((cl[q.2.1]?).getD xm_q0).1 (((cl[q.2.1]?).getD xm_q0).2.1 q.2.2).2.1 (((cl[q.2.1]?).getD xm_q0).2.1 q.2.2).2.2.1]
def xm_Ug (zs : Nat → Option (String × String × String)) (N : List String) (c : Nat) (q : Nat × Nat) : List Cond := match zs q.2 with
  | some z => [.fieldLink (xm_cn N c) q.1 z.1 z.2.1 z.2.2]
  | none => []
def xm_Ul (n : Nat) (ys : List xm_Y) (N : List String) (c : Nat) (q : Nat × Nat) : List Cond := if ¬ q.2 < n then xm_ew (xm_cn N c) q.1 (q.2 - n)
  else .methodLink (xm_cn N c) q.1 (xm_ya ys q.2).1 :: (if (xm_ya ys q.2).2.2.1.2.2.2 = true then [.static (xm_ya ys q.2).1] else [.instanceMethod (xm_ya ys q.2).1, .selects (xm_ya ys q.2).1.cls (xm_ya ys q.2).1 (xm_ya ys q.2).1])
def xm_U (n : Nat) (cl : List vw_C) (zs : Nat → Option (String × String × String)) (ys : List xm_Y) (N : List String) (FL : List (List (Nat × Nat × Nat))) (KI : List (List (Nat × Int32))) (KL : List (List (Nat × Int64))) (GS LK : List (List (Nat × Nat))) : List Cond :=
  ((ys.take n).flatMap fun q => [.code q.1 q.2.1 q.2.2.1.1 q.2.2.2, .initialized q.1.cls]) ++ ((cl.flatMap fun q => u_ws q.1 q.2.1 q.2.2) ++ (xm_fl2 FL (xm_Uf cl N) ++ (xm_fl2 KI (fun c q => [.constant (xm_cn N c) q.1 q.2]) ++ (xm_fl2 KL (fun c q => [.constantLong (xm_cn N c) q.1 q.2]) ++ (xm_fl2 GS (xm_Ug zs N) ++ xm_fl2 LK (xm_Ul n ys N))))))
def xm_mk (n : Nat) (cl : List vw_C) (ft : Nat → Nat → FieldType) (sh : List xm_K) (tI : Nat → Option (Nat × (Nat → Int32))) (tL : Nat → Option (Nat × (Nat → Int64))) (zs : Nat → Option (String × String × String)) (ys : List xm_Y) (N : List String) (FL : List (List (Nat × Nat × Nat))) (KI : List (List (Nat × Int32))) (KL : List (List (Nat × Int64))) (GS LK : List (List (Nat × Nat))) : xm_E :=
  (fun y => (xm_ya ys y).1, fun y => (xm_ya ys y).2.1, fun y => (xm_ya ys y).2.2.1, fun y => (xm_ya ys y).2.2.2, (fun c i => xm_find FL c i, fun c i => xm_find KI c i, fun c i => xm_find KL c i, fun c i => xm_find GS c i, fun c i => xm_find LK c i), (cl, ft, sh, tI, tL, zs, xm_U n cl zs ys N FL KI KL GS LK, n))
def xm_yok (cl : List vw_C) (N : List String) (q : xm_Y) : Bool := plainName q.1.cls && (decide (q.1.cls = xm_cn N q.2.2.1.2.2.1) && (decide (q.2.2.1.1 ≤ 80) && (decide (q.1.cls ≠ "java/lang/invoke/MethodHandle") && (decide (q.1.cls ≠ "java/lang/invoke/VarHandle") && (decide ((parseMethodDescriptor q.1.desc).map (fun d => d.parameters.length) = some q.2.2.1.2.1) && (q.2.2.1.2.2.2 || decide ((cl[q.2.2.1.2.2.1]?).map (·.1) = some q.1.cls)))))))
def xm_fok (cl : List vw_C) (q : Nat × Nat × Nat) : Bool := match cl[q.2.1]? with
  | some z => decide (q.2.2 < z.2.2)
  | none => false
def xm_gok (zs : Nat → Option (String × String × String)) (q : Nat × Nat) : Bool := (zs q.2).isSome
theorem xm_mk_yt {n : Nat} {cl : List vw_C} {ft : Nat → Nat → FieldType} {sh : List xm_K} {tI : Nat → Option (Nat × (Nat → Int32))} {tL : Nat → Option (Nat × (Nat → Int64))} {zs : Nat → Option (String × String × String)} {ys : List xm_Y} {N : List String} {FL : List (List (Nat × Nat × Nat))} {KI : List (List (Nat × Int32))} {KL : List (List (Nat × Int64))} {GS LK : List (List (Nat × Nat))}
    (hnn : n ≤ ys.length) (h3 : (ys.take n).all (xm_yok cl N) = true) (h4 : FL.all (fun l => l.all (xm_fok cl)) = true) (h6 : GS.all (fun l => l.all (xm_gok zs)) = true) {y : Nat} (k2 : (xm_ya ys y).1.cls = xm_cn N (xm_ya ys y).2.2.1.2.2.1) :
    xm_YT (xm_mk n cl ft sh tI tL zs ys N FL KI KL GS LK) y := by
  have hy : ∀ y, y < n → (ys.take n)[y]? = some (xm_ya ys y) := by
    intro y hy
    rw [List.getElem?_take_of_lt hy]
    simp [xm_ya, List.getElem?_eq_getElem (Nat.lt_of_lt_of_le hy hnn)]
  have hyk : ∀ y, y < n → xm_yok cl N (xm_ya ys y) = true := fun y h => List.all_eq_true.mp h3 _ (List.mem_of_getElem? (hy y h))
  refine ⟨?_, ?_, ?_, ?_, ?_⟩
  · intro idx ci j hf
    obtain ⟨l, hl, hx⟩ := xm_find_of hf
    have hq := List.all_eq_true.mp (List.all_eq_true.mp h4 l (List.mem_of_getElem? hl)) _ hx
    unfold xm_fok at hq
    split at hq
    · rename_i z hz
      have hj : j < z.2.2 := by simpa using hq
      refine ⟨z, hz, hj, List.mem_append_right _ (List.mem_append_right _ (List.mem_append_left _ (xm_fl2_mem hl hx ?_)))⟩
      have hz' : cl[ci]? = some z := hz
      show Cond.fieldLink (xm_ya ys y).1.cls idx z.1 (z.2.1 j).2.1 (z.2.1 j).2.2.1 ∈ xm_Uf cl N _ (idx, ci, j)
      rw [k2]
      simp [xm_Uf, hz']; rfl
    · cases hq
  · refine ⟨fun idx v hf => ?_, fun idx v hf => ?_⟩
    · obtain ⟨l, hl, hx⟩ := xm_find_of hf
      refine List.mem_append_right _ (List.mem_append_right _ (List.mem_append_right _ (List.mem_append_left _ (xm_fl2_mem hl hx ?_))))
      show Cond.constant (xm_ya ys y).1.cls idx v ∈ _
      rw [k2]; exact List.mem_singleton.mpr rfl
    · obtain ⟨l, hl, hx⟩ := xm_find_of hf
      refine List.mem_append_right _ (List.mem_append_right _ (List.mem_append_right _ (List.mem_append_right _ (List.mem_append_left _ (xm_fl2_mem hl hx ?_)))))
      show Cond.constantLong (xm_ya ys y).1.cls idx v ∈ _
      rw [k2]; exact List.mem_singleton.mpr rfl
  · intro idx a hf
    obtain ⟨l, hl, hx⟩ := xm_find_of hf
    have hq := List.all_eq_true.mp (List.all_eq_true.mp h6 l (List.mem_of_getElem? hl)) _ hx
    obtain ⟨z, hz⟩ := Option.isSome_iff_exists.mp hq
    have hz : zs a = some z := hz
    refine ⟨z, hz, List.mem_append_right _ (List.mem_append_right _ (List.mem_append_right _ (List.mem_append_right _ (List.mem_append_right _ (List.mem_append_left _ (xm_fl2_mem hl hx ?_))))))⟩
    show Cond.fieldLink (xm_ya ys y).1.cls idx z.1 z.2.1 z.2.2 ∈ xm_Ug zs N _ (idx, a)
    rw [k2]
    simp [xm_Ug, hz]; rfl
  · intro idx z hf hzn
    have hzn : ¬ z < n := hzn
    obtain ⟨l, hl, hx⟩ := xm_find_of hf
    have hin : ∀ w ∈ xm_Ul n ys N (xm_ya ys y).2.2.1.2.2.1 (idx, z), w ∈ xm_U n cl zs ys N FL KI KL GS LK := fun w hw => List.mem_append_right _ (List.mem_append_right _ (List.mem_append_right _ (List.mem_append_right _ (List.mem_append_right _ (List.mem_append_right _ (xm_fl2_mem hl hx hw))))))
    have hul : xm_Ul n ys N (xm_ya ys y).2.2.1.2.2.1 (idx, z) = xm_ew (xm_ya ys y).1.cls idx (z - n) := by rw [k2]; simp only [xm_Ul, if_pos hzn]
    rw [hul] at hin
    exact hin
  · intro idx z hf hz
    have hz : z < n := hz
    obtain ⟨l, hl, hx⟩ := xm_find_of hf
    have hin : ∀ w ∈ xm_Ul n ys N (xm_ya ys y).2.2.1.2.2.1 (idx, z), w ∈ xm_U n cl zs ys N FL KI KL GS LK := fun w hw => List.mem_append_right _ (List.mem_append_right _ (List.mem_append_right _ (List.mem_append_right _ (List.mem_append_right _ (List.mem_append_right _ (xm_fl2_mem hl hx hw))))))
    have hul : xm_Ul n ys N (xm_ya ys y).2.2.1.2.2.1 (idx, z) = .methodLink (xm_ya ys y).1.cls idx (xm_ya ys z).1 :: (if (xm_ya ys z).2.2.1.2.2.2 = true then [.static (xm_ya ys z).1] else [.instanceMethod (xm_ya ys z).1, .selects (xm_ya ys z).1.cls (xm_ya ys z).1 (xm_ya ys z).1]) := by rw [k2]; simp [xm_Ul, hz]
    rw [hul] at hin
    have hk' := hyk z hz
    simp only [xm_yok, Bool.and_eq_true, decide_eq_true_eq] at hk'
    refine ⟨hin _ (by simp [xm_mk]), fun hs => ?_, fun hs => ?_⟩
    · have hs : (xm_ya ys z).2.2.1.2.2.2 = true := hs
      rw [if_pos hs] at hin
      exact hin _ (by simp [xm_mk])
    · have hs : (xm_ya ys z).2.2.1.2.2.2 = false := hs
      rw [if_neg (by rw [hs]; decide)] at hin
      refine ⟨hin _ (by simp [xm_mk]), hin _ (by simp [xm_mk]), ?_⟩
      have h7 := hk'.2.2.2.2.2.2
      rw [hs] at h7
      simp only [Bool.false_or, decide_eq_true_eq] at h7
      obtain ⟨q, hq1, hq2⟩ := Option.map_eq_some_iff.mp h7
      exact ⟨q, hq1, hq2⟩
theorem xm_mk_ok {n : Nat} {cl : List vw_C} {ft : Nat → Nat → FieldType} {sh : List xm_K} {tI : Nat → Option (Nat × (Nat → Int32))} {tL : Nat → Option (Nat × (Nat → Int64))} {zs : Nat → Option (String × String × String)} {ys : List xm_Y} {N : List String} {FL : List (List (Nat × Nat × Nat))} {KI : List (List (Nat × Int32))} {KL : List (List (Nat × Int64))} {GS LK : List (List (Nat × Nat))}
    (h1 : (xm_U n cl zs ys N FL KI KL GS LK).all goodWord = true) (h2 : ∀ (ci : Nat) (q : vw_C), cl[ci]? = some q → (∀ k, k < q.2.2 → parseFieldDescriptor (q.2.1 k).2.2.1 = some (ft ci k)) ∧ (∀ a, a < q.2.2 → ∀ b, b < q.2.2 → a ≠ b → (q.2.1 a).2.1 ≠ (q.2.1 b).2.1) ∧ (∀ k, k < q.2.2 → (q.2.1 k).1 = q.1))
    (hnn : n ≤ ys.length) (h3 : (ys.take n).all (xm_yok cl N) = true) (h4 : FL.all (fun l => l.all (xm_fok cl)) = true) (h6 : GS.all (fun l => l.all (xm_gok zs)) = true) :
    xm_OK (xm_mk n cl ft sh tI tL zs ys N FL KI KL GS LK) := by
  have hy : ∀ y, y < n → (ys.take n)[y]? = some (xm_ya ys y) := by
    intro y hy
    rw [List.getElem?_take_of_lt hy]
    simp [xm_ya, List.getElem?_eq_getElem (Nat.lt_of_lt_of_le hy hnn)]
  have hyk : ∀ y, y < n → xm_yok cl N (xm_ya ys y) = true := fun y h => List.all_eq_true.mp h3 _ (List.mem_of_getElem? (hy y h))
  have hyU : ∀ y, y < n → ∀ w ∈ [Cond.code (xm_ya ys y).1 (xm_ya ys y).2.1 (xm_ya ys y).2.2.1.1 (xm_ya ys y).2.2.2, Cond.initialized (xm_ya ys y).1.cls], w ∈ xm_U n cl zs ys N FL KI KL GS LK := fun y h w hw => List.mem_append_left _ (List.mem_flatMap.mpr ⟨_, List.mem_of_getElem? (hy y h), hw⟩)
  refine ⟨fun w hw => List.all_eq_true.mp h1 w hw, fun ci q hq => ?_, fun y hlt => ?_⟩
  · obtain ⟨a, b, d⟩ := h2 ci q hq
    exact ⟨a, b, d, fun w hw => List.mem_append_right _ (List.mem_append_left _ (List.mem_flatMap.mpr ⟨q, List.mem_of_getElem? hq, hw⟩))⟩
  have hlt : y < n := hlt
  have hk := hyk y hlt
  simp only [xm_yok, Bool.and_eq_true, decide_eq_true_eq] at hk
  obtain ⟨k1, k2, k3, k4, k5, k6, k7⟩ := hk
  exact ⟨⟨k1, hyU y hlt _ (by simp [xm_mk]), hyU y hlt _ (by simp [xm_mk]), k3, k4, k5, k6⟩, xm_mk_yt hnn h3 h4 h6 k2⟩
