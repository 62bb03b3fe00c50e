/-! ===== say: what must be answered behind the definitions, and that it is one ===== -/
def hwB (w : Nat → Nat) : Nat → List Nat
  | 0 => []
  | i + 1 => hwB w i ++ hiB (fun j => w i / 2 ^ j % 2) 32
def chB (L2 : List Nat) (n : Nat) : Option Nat → List Nat
  | none => []
  | some x => ntT (ixF L2 n - ixF L2 x)
/-- the bits of a node -/
def nbT (G : sG) (c1 c2 : Nat → Option Nat) (L2 : List Nat) (n : Nat) : List Nat := hiB (fun j => sCd G n / 2 ^ j % 2) 5 ++ chB L2 n (c1 n) ++ chB L2 n (c2 n) ++ (if sCd G n = 12 then hiB (fun j => sNu G n / 2 ^ j % 2) 8 else []) ++ (if sCd G n = 11 then hwB (sHw G n) 8 else [])
def wrB (t : List Nat) (G : sG) (n : Nat) : List Nat := if sCd G n = 10 then rwB t (sNu G n) (sLn G n) else []
def wln (G : sG) : List Nat → Nat
  | [] => 0
  | n :: r => (if sCd G n = 10 then sLn G n else 0) + wln G r
theorem wln_app {G : sG} : ∀ {A B : List Nat}, wln G (A ++ B) = wln G A + wln G B
  | [], B => by rw [List.nil_append, wln, Nat.zero_add]
  | n :: A, B => by rw [List.cons_append, wln, wln, wln_app]; omega
def sBits (t : List Nat) (G : sG) (c1 c2 : Nat → Option Nat) (L2 : List Nat) : List Nat := ntT L2.length ++ L2.flatMap (nbT G c1 c2 L2) ++ ntT (wln G L2 + 1) ++ L2.flatMap (wrB t G)
def sBad (G : sG) (L : List Nat) (last : Nat) : Prop := sCd G last = 11 ∨ ∃ n ∈ L, hwl (sCd G) (sC1 G) (sC2 G) n = false
def sW1 (G : sG) (T : Nat → Ty) (L2 : List Nat) : Prop := ∃ n ∈ L2, sCd G n = 10 ∧ sLn G n ≠ ty_w (T n)
def sW2 (t : List Nat) (G : sG) (T : Nat → Ty) (L2 : List Nat) : Prop := ∃ n ∈ L2, sCd G n = 10 ∧ ty_val (fun i => t.getD (sNu G n + i) 0 - 48) (T n) 0 = false
def SyB (bx : List Nat) (a : Nat) (bl : List Nat) : Prop := (65536 < bx.length ∧ a = 4) ∨ (bx.length ≤ 65536 ∧ a = 0 ∧ bl = bx)
def SyW (t : List Nat) (G : sG) (c1 c2 : Nat → Option Nat) (T : Nat → Ty) (L2 : List Nat) (a : Nat) (bl : List Nat) : Prop :=
  (400 < L2.length ∧ a = 4) ∨ (L2.length ≤ 400 ∧ ((sW1 G T L2 ∧ a = 10) ∨ (¬ sW1 G T L2 ∧ ((sW2 t G T L2 ∧ a = 11) ∨ (¬ sW2 t G T L2 ∧ SyB (sBits t G c1 c2 L2) a bl)))))
def SyT (t : List Nat) (G : sG) (L : List Nat) (last : Nat) (S T : Nat → Ty) (a : Nat) (bl : List Nat) : Prop := ∃ tw L2, twR (smG G S T) L tw ∧ df_out (mC (sC1 G) L tw) (mC (sC2 G) L tw) (tw last) L2 ∧ SyW t G (mC (sC1 G) L tw) (mC (sC2 G) L tw) T L2 a bl
def SyL (t : List Nat) (G : sG) (L : List Nat) (last a : Nat) (bl : List Nat) : Prop :=
  (sBad G L last ∧ a = 7) ∨ (¬ sBad G L last ∧ (((∀ S T, ¬ ty_sol (sCd G) (fiO (sC1 G)) (fiO (sC2 G)) (sNu G) L S T) ∧ a = 8) ∨ ∃ S T, ty_least (sCd G) (fiO (sC1 G)) (fiO (sC2 G)) (sNu G) L S T ∧ ((jdW (sCd G) L S T ∧ a = 9) ∨ (¬ jdW (sCd G) L S T ∧ SyT t G L last S T a bl))))
def SyG (t : List Nat) (G : sG) (last a : Nat) (bl : List Nat) : Prop := ∃ L, df_out (sC1 G) (sC2 G) last L ∧ SyL t G L last a bl
/-- what say must answer: an error and its place, or bits -/
def SyF (t : List Nat) (a f : Nat) (bl : List Nat) : Prop := ∃ k, sDf t k sG0 [] 0 = some (.inl (a, f)) ∨ ∃ G NL w n, sDf t k sG0 [] 0 = some (.inr (G, NL ++ [(w, n)])) ∧ sInv t (NL ++ [(w, n)]) G [] ∧ SyG t G n a bl ∧ f = 0
section UQ
variable {t : List Nat} {G : sG} {c1 c2 : Nat → Option Nat} {S T S' T' : Nat → Ty} {L L2 bl bl' : List Nat} {a a' last : Nat}
theorem SyB_uniq {bx : List Nat} (h : SyB bx a bl) (h' : SyB bx a' bl') : a = a' ∧ (a = 0 → bl = bl') := by
  rcases h with ⟨x1, x2⟩ | ⟨x1, x2, x3⟩ <;> rcases h' with ⟨y1, y2⟩ | ⟨y1, y2, y3⟩
  · exact ⟨by omega, fun z => by omega⟩
  · omega
  · omega
  · exact ⟨by omega, fun _ => by rw [x3, y3]⟩
theorem sW1_c (hT : ∀ n ∈ L2, sCd G n = 10 → T n = T' n) (h : sW1 G T L2) : sW1 G T' L2 := by
  obtain ⟨n, n1, n2, n3⟩ := h
  exact ⟨n, n1, n2, by rw [← hT n n1 n2]; exact n3⟩
theorem sW2_c (hT : ∀ n ∈ L2, sCd G n = 10 → T n = T' n) (h : sW2 t G T L2) : sW2 t G T' L2 := by
  obtain ⟨n, n1, n2, n3⟩ := h
  exact ⟨n, n1, n2, by rw [← hT n n1 n2]; exact n3⟩
theorem SyW_uniq (hT : ∀ n ∈ L2, sCd G n = 10 → T n = T' n) (h : SyW t G c1 c2 T L2 a bl) (h' : SyW t G c1 c2 T' L2 a' bl') : a = a' ∧ (a = 0 → bl = bl') := by
  have hT' : ∀ n ∈ L2, sCd G n = 10 → T' n = T n := fun n n1 n2 => (hT n n1 n2).symm
  rcases h with ⟨x1, x2⟩ | ⟨x1, h⟩
  · rcases h' with ⟨y1, y2⟩ | ⟨y1, h'⟩
    · exact ⟨by omega, fun z => by omega⟩
    · omega
  · rcases h' with ⟨y1, y2⟩ | ⟨y1, h'⟩
    · omega
    · rcases h with ⟨x3, x4⟩ | ⟨x3, h⟩
      · rcases h' with ⟨y3, y4⟩ | ⟨y3, h'⟩
        · exact ⟨by omega, fun z => by omega⟩
        · exact absurd (sW1_c hT x3) y3
      · rcases h' with ⟨y3, y4⟩ | ⟨y3, h'⟩
        · exact absurd (sW1_c hT' y3) x3
        · rcases h with ⟨x5, x6⟩ | ⟨x5, h⟩
          · rcases h' with ⟨y5, y6⟩ | ⟨y5, h'⟩
            · exact ⟨by omega, fun z => by omega⟩
            · exact absurd (sW2_c hT x5) y5
          · rcases h' with ⟨y5, y6⟩ | ⟨y5, h'⟩
            · exact absurd (sW2_c hT' y5) x5
            · exact SyB_uniq h h'
theorem SyT_uniq (hnd : L.Nodup) (hcl : df_cl (sC1 G) (sC2 G) L) (hla : last ∈ L) (hS : ∀ n ∈ L, sCd G n ≠ 11 → S n = S' n ∧ T n = T' n) (h : SyT t G L last S T a bl) (h' : SyT t G L last S' T' a' bl') : a = a' ∧ (a = 0 → bl = bl') := by
  obtain ⟨tw, L2, b1, b2, b3⟩ := h
  obtain ⟨tw', L2', d1, d2, d3⟩ := h'
  have hS' : ∀ n ∈ L, sCd G n ≠ 11 → S' n = S n ∧ T' n = T n := fun n n1 n2 => ⟨(hS n n1 n2).1.symm, (hS n n1 n2).2.symm⟩
  have e1 := twR_congr (sm' := smG G S T) d1 (fun x y hx hy => ⟨smG_ty hS' hx hy, smG_ty hS hx hy⟩)
  have e2 := twG_uniq hnd hcl b1 e1
  obtain ⟨m1, m2⟩ := mC_tw hcl e2
  rw [← m1, ← m2, ← e2 last hla] at d2
  have := df_out_uniq b2 d2
  subst this
  rw [← m1, ← m2] at d3
  exact SyW_uniq (fun n n1 n2 => (hS n (mC_sub hcl b1 hla b2 n n1) (by omega)).2) b3 d3
theorem SyL_uniq (hnd : L.Nodup) (hcl : df_cl (sC1 G) (sC2 G) L) (hla : last ∈ L) (h : SyL t G L last a bl) (h' : SyL t G L last a' bl') : a = a' ∧ (a = 0 → bl = bl') := by
  rcases h with ⟨x1, x2⟩ | ⟨x1, h⟩
  · rcases h' with ⟨y1, y2⟩ | ⟨y1, h'⟩
    · exact ⟨by omega, fun z => by omega⟩
    · exact absurd x1 y1
  · rcases h' with ⟨y1, y2⟩ | ⟨y1, h'⟩
    · exact absurd y1 x1
    · rcases h with ⟨x3, x4⟩ | ⟨S, T, hl, h⟩
      · rcases h' with ⟨y3, y4⟩ | ⟨S', T', hl', h'⟩
        · exact ⟨by omega, fun z => by omega⟩
        · exact absurd hl'.1 (x3 _ _)
      · rcases h' with ⟨y3, y4⟩ | ⟨S', T', hl', h'⟩
        · exact absurd hl.1 (y3 _ _)
        · have hS : ∀ n ∈ L, sCd G n ≠ 11 → S n = S' n ∧ T n = T' n := fun n hn hc => ty_least_uniq hl hl' hn hc
          have hj : jdW (sCd G) L S T ↔ jdW (sCd G) L S' T' := by
            constructor
            · rintro ⟨n, n1, n2, n3⟩
              obtain ⟨q1, q2⟩ := hS n n1 n2
              exact ⟨n, n1, n2, by rw [← q1, ← q2]; exact n3⟩
            · rintro ⟨n, n1, n2, n3⟩
              obtain ⟨q1, q2⟩ := hS n n1 n2
              exact ⟨n, n1, n2, by rw [q1, q2]; exact n3⟩
          rcases h with ⟨x5, x6⟩ | ⟨x5, h⟩
          · rcases h' with ⟨y5, y6⟩ | ⟨y5, h'⟩
            · exact ⟨by omega, fun z => by omega⟩
            · exact absurd (hj.mp x5) y5
          · rcases h' with ⟨y5, y6⟩ | ⟨y5, h'⟩
            · exact absurd (hj.mpr y5) x5
            · exact SyT_uniq hnd hcl hla hS h h'
theorem SyG_uniq {NL : List (List Nat × Nat)} {w : List Nat} (hI : sInv t (NL ++ [(w, last)]) G []) (h : SyG t G last a bl) (h' : SyG t G last a' bl') : a = a' ∧ (a = 0 → bl = bl') := by
  obtain ⟨L, h1, h2⟩ := h
  obtain ⟨L', h3, h4⟩ := h'
  have := df_out_uniq h1 h3
  subst this
  obtain ⟨⟨rk, M, hd⟩, hN⟩ := hI
  obtain ⟨k1, k2⟩ := hN (w, last) (by simp)
  obtain ⟨l1, l2, l3, o, l4⟩ := sOK_L hd k1 k2 h1
  exact SyL_uniq l1 l3 (by rw [l4]; simp) h2 h4
theorem SyF_uniq {f f' : Nat} (h : SyF t a f bl) (h' : SyF t a' f' bl') : a = a' ∧ f = f' ∧ (a = 0 → bl = bl') := by
  obtain ⟨k, h⟩ := h
  obtain ⟨k', h'⟩ := h'
  rcases h with h | ⟨G, NL, w, n, h, hi, hg, hf⟩
  · rcases h' with h' | ⟨G', NL', w', n', h', hi', hg', hf'⟩
    · have e := sDf_uniq h h'
      cases e
      exact ⟨rfl, rfl, fun z => by have := sDf_e h; omega⟩
    · have e := sDf_uniq h h'
      cases e
  · rcases h' with h' | ⟨G', NL', w', n', h', hi', hg', hf'⟩
    · have e := sDf_uniq h h'
      cases e
    · have e := sDf_uniq h h'
      simp only [Sum.inr.injEq, Prod.mk.injEq] at e
      obtain ⟨e1, e2⟩ := e
      subst e1
      have e3 : (w, n) = (w', n') := by
        have := congrArg List.getLast? e2
        simpa using this
      cases e3
      obtain ⟨q1, q2⟩ := SyG_uniq hi hg hg'
      exact ⟨q1, by omega, q2⟩
end UQ
