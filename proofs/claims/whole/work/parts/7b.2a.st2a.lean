/-! ===== the start: lists of cells by number ===== -/
def xm_wr (ad : Nat → Nat) (ks : Nat → ClassId) (h : xm_H) : Nat → List xm_K → va_W
  | _, [] => []
  | k, K :: r => (ad k, xm_e ad ks h k K) :: xm_wr ad ks h (k + 1) r
def xm_tr (ks : Nat → ClassId) : Nat → List xm_K → List (ClassId × FieldType)
  | _, [] => []
  | k, K :: r => xm_t1 ks k K ++ xm_tr ks (k + 1) r
theorem xm_wr_at (ad : Nat → Nat) (ks : Nat → ClassId) (h : xm_H) : ∀ (sh : List xm_K) (k0 i : Nat), (xm_wr ad ks h k0 sh)[i]? = sh[i]?.map (fun K => (ad (k0 + i), xm_e ad ks h (k0 + i) K))
  | [], _, _ => rfl
  | K :: r, k0, 0 => rfl
  | K :: r, k0, i + 1 => by
    rw [xm_wr, List.getElem?_cons_succ, List.getElem?_cons_succ, xm_wr_at ad ks h r (k0 + 1) i, show k0 + 1 + i = k0 + (i + 1) by omega]
theorem xm_wr_len (ad : Nat → Nat) (ks : Nat → ClassId) (h : xm_H) : ∀ (sh : List xm_K) (k0 : Nat), (xm_wr ad ks h k0 sh).length = sh.length
  | [], _ => rfl
  | K :: r, k0 => by rw [xm_wr, List.length_cons, List.length_cons, xm_wr_len ad ks h r]
theorem xm_w_r (ad : Nat → Nat) (ks : Nat → ClassId) (h : xm_H) (sh : List xm_K) : xm_w ad ks sh h = xm_wr ad ks h 0 sh := by
  apply List.ext_getElem?
  intro i
  rw [xm_wr_at, xm_w, List.getElem?_mapIdx, Nat.zero_add]
theorem xm_t_r (ks : Nat → ClassId) (sh : List xm_K) : xm_t ks sh = xm_tr ks 0 sh := by
  have key : ∀ (sh : List xm_K) (k0 : Nat), (sh.mapIdx fun k K => xm_t1 ks (k0 + k) K).flatten = xm_tr ks k0 sh := by
    intro sh
    induction sh with
    | nil => intro k0; rfl
    | cons K r ih =>
      intro k0
      rw [List.mapIdx_cons, List.flatten_cons, xm_tr, Nat.add_zero, ← ih (k0 + 1)]
      have e : (fun (i : Nat) (K : xm_K) => xm_t1 ks (k0 + (i + 1)) K) = (fun k K => xm_t1 ks (k0 + 1 + k) K) := by
        funext k K
        rw [show k0 + (k + 1) = k0 + 1 + k by omega]
      rw [e]
  have := key sh 0
  simp only [Nat.zero_add] at this
  exact this
theorem xm_wr_app (ad : Nat → Nat) (ks : Nat → ClassId) (h : xm_H) : ∀ (a b : List xm_K) (k0 : Nat), xm_wr ad ks h k0 (a ++ b) = xm_wr ad ks h k0 a ++ xm_wr ad ks h (k0 + a.length) b
  | [], b, k0 => rfl
  | K :: r, b, k0 => by
    rw [List.cons_append, xm_wr, xm_wr, List.cons_append, xm_wr_app ad ks h r b (k0 + 1), List.length_cons, show k0 + 1 + r.length = k0 + (r.length + 1) by omega]
theorem xm_tr_app (ks : Nat → ClassId) : ∀ (a b : List xm_K) (k0 : Nat), xm_tr ks k0 (a ++ b) = xm_tr ks k0 a ++ xm_tr ks (k0 + a.length) b
  | [], b, k0 => rfl
  | K :: r, b, k0 => by
    rw [List.cons_append, xm_tr, xm_tr, List.append_assoc, xm_tr_app ks r b (k0 + 1), List.length_cons, show k0 + 1 + r.length = k0 + (r.length + 1) by omega]
theorem xm_wr_cg {ad ad' : Nat → Nat} {ks ks' : Nat → ClassId} {h : xm_H} : ∀ (sh : List xm_K) (k0 : Nat), (∀ k, k0 ≤ k → k < k0 + sh.length → ad k = ad' k ∧ ks k = ks' k ∧ ∀ j r, h.2.2 k j = .ref r → ad r = ad' r) → xm_wr ad ks h k0 sh = xm_wr ad' ks' h k0 sh
  | [], _, _ => rfl
  | K :: r, k0, hh => by
    have h0 := hh k0 (Nat.le_refl _) (by rw [List.length_cons]; omega)
    rw [xm_wr, xm_wr, xm_wr_cg r (k0 + 1) (fun k h1 h2 => hh k (by omega) (by rw [List.length_cons]; omega)), h0.1]
    congr 2
    rcases K with ⟨ty, n⟩ | ⟨ci, N⟩
    · cases ty <;> simp only [xm_e, h0.2.1]
    · simp only [xm_e]
      congr 3
      funext j
      cases e : h.2.2 k0 j <;> simp only [xm_v]
      rw [h0.2.2 j _ e]
theorem xm_tr_cg {ks ks' : Nat → ClassId} : ∀ (sh : List xm_K) (k0 : Nat), (∀ k, k0 ≤ k → k < k0 + sh.length → ks k = ks' k) → xm_tr ks k0 sh = xm_tr ks' k0 sh
  | [], _, _ => rfl
  | K :: r, k0, hh => by
    rw [xm_tr, xm_tr, xm_tr_cg r (k0 + 1) (fun k h1 h2 => hh k (by omega) (by rw [List.length_cons]; omega))]
    have h0 := hh k0 (Nat.le_refl _) (by rw [List.length_cons]; omega)
    rcases K with ⟨ty, n⟩ | q
    · simp only [xm_t1, h0]
    · rfl
theorem rng_app {α : Type} (a b : List α) {n : Nat} (hn : a.length = n) : (List.range n).map (fun i => (a ++ b)[i]?) = a.map some := by
  subst hn
  apply List.ext_getElem?
  intro i
  by_cases h : i < a.length
  · simp [List.getElem?_map, List.getElem?_range h, List.getElem?_append_left h, List.getElem?_eq_getElem h]
  · simp [List.getElem?_eq_none (Nat.le_of_not_lt h), h]
def shA : List xm_K := xt_sh.take 102
def shB : List xm_K := (xt_sh.drop 102).take 61
theorem sh_abc : xt_sh = shA ++ (shB ++ [.inl (.long, 1)]) := by decide
theorem shA_l : shA.length = 102 := by decide
theorem shB_l : shB.length = 61 := by decide
/-- references of the class stay among the class's cells, of the reference among its own -/
def rfK (lo hi : Nat) : Value → Bool
  | .ref r => decide (lo ≤ r ∧ r < hi)
  | _ => true
theorem h0_ref {lo hi k j r : Nat} (hk : (h0T.getD k []).all (rfK lo hi) = true) (e : hh0.2.2 k j = .ref r) : lo ≤ r ∧ r < hi := by
  have e2 : (h0T.getD k []).getD j .null = .ref r := e
  rw [List.getD_eq_getElem?_getD] at e2
  by_cases hj : j < (h0T.getD k []).length
  · rw [List.getElem?_eq_getElem hj] at e2
    have := List.all_eq_true.mp hk _ (List.getElem_mem hj)
    have e3 : (h0T.getD k [])[j] = .ref r := e2
    rw [e3] at this
    simpa [rfK] using this
  · rw [List.getElem?_eq_none (by omega)] at e2
    cases e2
theorem h0_A : ∀ k, k < 102 → (h0T.getD k []).all (rfK 0 102) = true := by decide +kernel
theorem h0_B : ∀ k, k < 163 → 102 ≤ k → (h0T.getD k []).all (rfK 102 163) = true := by decide +kernel
