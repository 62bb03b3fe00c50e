/-! ===== cells by number: what a method can reach, as functions of a cell's number ===== -/
abbrev xm_K : Type := (FieldType × Nat) ⊕ (Nat × Nat)
abbrev xm_H : Type := (Nat → Nat → Int32) × (Nat → Nat → Int64) × (Nat → Nat → Value)
abbrev xm_L : Type := List (Nat × Value)
def xm_v (ad : Nat → Nat) : Value → Value
  | .ref k => .ref (ad k)
  | v => v
def xm_l (ad : Nat → Nat) (lv : xm_L) : xm_L := lv.map fun q => (q.1, xm_v ad q.2)
def xm_e (ad : Nat → Nat) (ks : Nat → ClassId) (h : xm_H) (k : Nat) : xm_K → va_E
  | .inl (.long, n) => .inl (ks k, n, .inr (.inl (h.2.1 k)))
  | .inl (_, n) => .inl (ks k, n, .inl (h.1 k))
  | .inr (ci, N) => .inr (ci, (List.range N).map fun j => xm_v ad (h.2.2 k j))
def xm_w (ad : Nat → Nat) (ks : Nat → ClassId) (sh : List xm_K) (h : xm_H) : va_W := sh.mapIdx fun k K => (ad k, xm_e ad ks h k K)
def xm_t1 (ks : Nat → ClassId) (k : Nat) : xm_K → List (ClassId × FieldType)
  | .inl (ty, _) => [(ks k, ty)]
  | .inr _ => []
def xm_t (ks : Nat → ClassId) (sh : List xm_K) : List (ClassId × FieldType) := (sh.mapIdx fun k K => xm_t1 ks k K).flatten
theorem xm_cat (ad : Nat → Nat) (v : Value) : (xm_v ad v).category = v.category := by cases v <;> rfl
theorem xm_w_at {ad : Nat → Nat} {ks : Nat → ClassId} {sh : List xm_K} {h : xm_H} {k : Nat} {K : xm_K} (hk : sh[k]? = some K) : (xm_w ad ks sh h)[k]? = some (ad k, xm_e ad ks h k K) := by
  simp [xm_w, List.getElem?_mapIdx, hk]
theorem xm_t_at {ks : Nat → ClassId} {sh : List xm_K} {k n : Nat} {ty : FieldType} (hk : sh[k]? = some (.inl (ty, n))) : ∃ t0 : Nat, (xm_t ks sh)[t0]? = some (ks k, ty) := by
  have h1 : xm_t1 ks k (.inl (ty, n)) ∈ (sh.mapIdx fun k K => xm_t1 ks k K) := by
    apply List.mem_of_getElem? (i := k)
    simp [List.getElem?_mapIdx, hk]
  have h2 : (ks k, ty) ∈ xm_t ks sh := List.mem_flatten.mpr ⟨_, h1, List.mem_singleton.mpr rfl⟩
  exact List.getElem?_of_mem h2
/-- a change at one cell -/
theorem xm_set {ad : Nat → Nat} {ks : Nat → ClassId} {sh : List xm_K} {h h' : xm_H} {k : Nat} {K : xm_K} (hk : sh[k]? = some K) (hs : ∀ a, a ≠ k → h'.1 a = h.1 a ∧ h'.2.1 a = h.2.1 a ∧ h'.2.2 a = h.2.2 a) :
    (xm_w ad ks sh h).set k (ad k, xm_e ad ks h' k K) = xm_w ad ks sh h' := by
  apply List.ext_getElem?
  intro i
  by_cases hi : i = k
  · subst hi
    have hlt : i < (xm_w ad ks sh h).length := by
      have := (List.getElem?_eq_some_iff.mp (xm_w_at (ad := ad) (ks := ks) (h := h) hk)).1
      exact this
    rw [List.getElem?_set_self hlt, xm_w_at hk]
  · rw [List.getElem?_set_ne (fun q => hi q.symm)]
    obtain ⟨h1, h2, h3⟩ := hs i hi
    simp only [xm_w, List.getElem?_mapIdx]
    cases sh[i]? with
    | none => rfl
    | some Q =>
      rcases Q with ⟨ty, n⟩ | ⟨ci, N⟩
      · cases ty <;> simp [xm_e, h1, h2]
      · simp [xm_e, h3]
/-- an element of a row of ints, of longs; a field -/
def xm_si (h : xm_H) (k j : Nat) (x : Int32) : xm_H := (fun a => if a = k then upd (h.1 k) j x else h.1 a, h.2)
def xm_sl (h : xm_H) (k j : Nat) (x : Int64) : xm_H := (h.1, fun a => if a = k then vp_updL (h.2.1 k) j x else h.2.1 a, h.2.2)
def xm_sf (h : xm_H) (k j : Nat) (v : Value) : xm_H := (h.1, h.2.1, fun a => if a = k then updV (h.2.2 k) j v else h.2.2 a)
theorem xm_fs_at (ad : Nat → Nat) (f : Nat → Value) {N j : Nat} (hj : j < N) : ((List.range N).map fun j => xm_v ad (f j))[j]? = some (xm_v ad (f j)) := by
  simp [List.getElem?_map, List.getElem?_range hj]
theorem xm_fs_set (ad : Nat → Nat) (f : Nat → Value) (N j : Nat) (v : Value) : ((List.range N).map fun j => xm_v ad (f j)).set j (xm_v ad v) = (List.range N).map fun i => xm_v ad (updV f j v i) := by
  apply List.ext_getElem?
  intro i
  by_cases hi : i = j
  · subst hi
    by_cases hn : i < N
    · rw [List.getElem?_set_self (by simpa using hn)]
      simp [List.getElem?_map, List.getElem?_range hn, updV]
    · rw [List.getElem?_eq_none (by simpa using Nat.le_of_not_lt hn), List.getElem?_eq_none (by simpa using Nat.le_of_not_lt hn)]
  · rw [List.getElem?_set_ne (fun q => hi q.symm)]
    by_cases hn : i < N
    · simp [List.getElem?_map, List.getElem?_range hn, updV, hi]
    · rw [List.getElem?_eq_none (by simpa using Nat.le_of_not_lt hn), List.getElem?_eq_none (by simpa using Nat.le_of_not_lt hn)]
