/-! ===== definitions of jets: what pieces must give; the state of the code ===== -/
def lzL : List Bool → Nat
  | [] => 0
  | b :: l => if b then 0 else 1 + lzL l
def z3 (f : Bool → Bool → Bool → Bool) (x y z : List Bool) : List Bool := List.zipWith (fun (p : Bool × Bool) c => f p.1 p.2 c) (List.zip x y) z
def pS (k w : Nat) : Nat := match k with
  | 0 => 1 + 2 * w | 1 => 1 + 2 * w | 2 => 1 + w | 3 => 4 * w | 4 => w | 5 => w | 6 => w | 7 => 2 * w | 8 => 2 * w | 9 => 2 * w | 10 => 3 * w | 11 => 3 * w | 12 => 3 * w | 13 => 0 | 14 => 0 | 15 => w | 16 => w | 17 => w | 18 => w | 19 => 2 * w | 20 => 1 + w | 21 => 1 + 2 * w | _ => 2 * w
def pT (k w : Nat) : Nat := match k with
  | 0 => 1 + w | 1 => 1 + w | 2 => w | 3 => 2 * w | 4 => 1 | 5 => 1 | 6 => w | 7 => w | 8 => w | 9 => w | 10 => w | 11 => w | 12 => w | 13 => w | 14 => w | 15 => w | 16 => 8 | 17 => 8 | 18 => 1 | 19 => w | 20 => 1 + w | 21 => 1 + w | 22 => 2 * w | 23 => 1 | 24 => 1 | _ => w
def pSp (k w : Nat) (F : gFn) : Prop := match k with
  | 0 => ∀ c x y, c.length = 1 → x.length = w → y.length = w → F (c ++ (x ++ y)) = bbits (1 + w) (bnum c + bnum x + bnum y)
  | 1 => ∀ c x y, c.length = 1 → x.length = w → y.length = w → F (c ++ (x ++ y)) = bbits (1 + w) (bnum x + 2 ^ (w + 1) - bnum y - bnum c)
  | 2 => ∀ c x, c.length = 1 → x.length = w → F (c ++ x) = c ++ x.drop 1
  | 3 => ∀ x y z v, x.length = w → y.length = w → z.length = w → v.length = w → F (x ++ (y ++ (z ++ v))) = bbits (2 * w) (bnum x * bnum y + bnum z + bnum v)
  | 4 => ∀ x, x.length = w → F x = [x.any id]
  | 5 => ∀ x, x.length = w → F x = [x.all id]
  | 6 => ∀ x, x.length = w → F x = x.map not
  | 7 => ∀ x y, x.length = w → y.length = w → F (x ++ y) = List.zipWith and x y
  | 8 => ∀ x y, x.length = w → y.length = w → F (x ++ y) = List.zipWith or x y
  | 9 => ∀ x y, x.length = w → y.length = w → F (x ++ y) = List.zipWith xor x y
  | 10 => ∀ x y z, x.length = w → y.length = w → z.length = w → F (x ++ (y ++ z)) = z3 (fun a b c => xor (xor a b) c) x y z
  | 11 => ∀ x y z, x.length = w → y.length = w → z.length = w → F (x ++ (y ++ z)) = z3 (fun a b c => (a && b || a && c) || b && c) x y z
  | 12 => ∀ x y z, x.length = w → y.length = w → z.length = w → F (x ++ (y ++ z)) = z3 (fun a b c => if a then b else c) x y z
  | 13 => F [] = List.replicate w false
  | 14 => F [] = List.replicate w true
  | 15 => ∀ x, x.length = w → F x = (x.take 1).map not ++ x.drop 1
  | 16 => ∀ x, x.length = w → F x = bbits 8 (x.count true)
  | 17 => ∀ x, x.length = w → F x = bbits 8 (lzL x)
  | 18 => ∀ x, x.length = w → F x = x.take 1
  | 19 => ∀ x, x.length = 2 * w → F x = (x.drop 1).take w
  | 20 => ∀ c x, c.length = 1 → x.length = w → F (c ++ x) = x ++ c
  | 21 => ∀ c r y, c.length = 1 → r.length = w → y.length = w → F (c ++ (r ++ y)) = if 2 * bnum r + bnum c < bnum y then false :: bbits w (2 * bnum r + bnum c) else true :: bbits w (2 * bnum r + bnum c - bnum y)
  | 22 => ∀ x y, x.length = w → y.length = w → ∃ q, q.length = w ∧ F (x ++ y) = q ++ bbits w (bnum x % bnum y) ∧ (0 < bnum y → q = bbits w (bnum x / bnum y))
  | 23 => ∀ x y, x.length = w → y.length = w → F (x ++ y) = [decide (x = y)]
  | 24 => ∀ x y, x.length = w → y.length = w → F (x ++ y) = [decide (bnum x < bnum y)]
  | 25 => ∀ x y, x.length = w → y.length = w → F (x ++ y) = if bnum x < bnum y then x else y
  | _ => ∀ x y, x.length = w → y.length = w → F (x ++ y) = if bnum x < bnum y then y else x
def qTab : List (List gQ) := [[(11, 2, 2), (49, 4, 15), (125, 6, 35), (277, 8, 69), (581, 10, 131), (1189, 12, 249), (2405, 14, 479)], [(12, 2, 2), (51, 4, 15), (129, 6, 35), (285, 8, 69), (597, 10, 131), (1221, 12, 249), (2469, 14, 479)], [(1, 0, 0), (9, 3, 3), (17, 4, 7), (25, 5, 13), (33, 6, 23), (41, 7, 41), (49, 8, 75)], [(17, 2, 6), (130, 5, 50), (582, 7, 134), (2390, 9, 298), (9622, 11, 622), (38550, 13, 1266), (154262, 15, 2550)], [(1, 0, 0), (7, 2, 3), (18, 4, 7), (40, 6, 13), (84, 8, 23), (172, 10, 41), (348, 12, 75)], [(1, 0, 0), (7, 2, 3), (18, 4, 7), (40, 6, 13), (84, 8, 23), (172, 10, 41), (348, 12, 75)], [(7, 2, 2), (16, 3, 2), (34, 4, 2), (70, 5, 2), (142, 6, 2), (286, 7, 2), (574, 8, 2)], [(3, 0, 0), (17, 3, 3), (45, 4, 8), (101, 5, 17), (213, 6, 34), (437, 7, 67), (885, 8, 132)], [(3, 0, 0), (17, 3, 3), (45, 4, 8), (101, 5, 17), (213, 6, 34), (437, 7, 67), (885, 8, 132)], [(8, 2, 2), (27, 3, 5), (65, 4, 10), (141, 5, 19), (293, 6, 36), (597, 7, 69), (1205, 8, 134)], [(9, 2, 2), (35, 3, 6), (87, 4, 13), (191, 5, 26), (399, 6, 51), (815, 7, 100), (1647, 8, 197)], [(4, 0, 0), (25, 3, 4), (67, 4, 11), (151, 5, 24), (319, 6, 49), (655, 7, 98), (1327, 8, 195)], [(2, 0, 0), (21, 3, 4), (59, 4, 11), (135, 5, 24), (287, 6, 49), (591, 7, 98), (1199, 8, 195)], [(2, 0, 0), (5, 1, 0), (11, 2, 0), (23, 3, 0), (47, 4, 0), (95, 5, 0), (191, 6, 0)], [(2, 0, 0), (5, 1, 0), (11, 2, 0), (23, 3, 0), (47, 4, 0), (95, 5, 0), (191, 6, 0)], [(7, 2, 2), (9, 3, 2), (11, 4, 2), (13, 5, 2), (15, 6, 2), (17, 7, 2), (19, 8, 2)], [(22, 3, 0), (329, 9, 97), (943, 11, 115), (2171, 13, 133), (4627, 15, 151), (9539, 17, 169), (19363, 19, 187)], [(30, 3, 4), (345, 9, 110), (666, 10, 125), (998, 11, 144), (1352, 12, 171), (1750, 13, 214), (2236, 14, 289)], [(1, 0, 0), (1, 0, 0), (1, 0, 0), (1, 0, 0), (1, 0, 0), (1, 0, 0), (1, 0, 0)], [(1, 0, 0), (8, 2, 3), (22, 3, 8), (50, 4, 17), (106, 5, 34), (218, 6, 67), (442, 7, 132)], [(0, 0, 0), (0, 0, 0), (0, 0, 0), (81, 6, 34), (145, 7, 67), (265, 8, 132), (497, 9, 261)], [(0, 0, 0), (0, 0, 0), (0, 0, 0), (401, 10, 124), (777, 12, 234), (1521, 14, 448), (3001, 16, 870)], [(0, 0, 0), (0, 0, 0), (0, 0, 0), (3432, 16, 313), (12904, 20, 690), (49640, 24, 1515), (194024, 28, 3316)], [(0, 0, 0), (0, 0, 0), (0, 0, 0), (190, 7, 28), (386, 9, 53), (778, 11, 102), (1562, 13, 199)], [(0, 0, 0), (0, 0, 0), (0, 0, 0), (292, 9, 97), (604, 11, 183), (1228, 13, 349), (2476, 15, 675)], [(0, 0, 0), (0, 0, 0), (0, 0, 0), (297, 11, 115), (609, 13, 217), (1233, 15, 415), (2481, 17, 805)], [(0, 0, 0), (0, 0, 0), (0, 0, 0), (297, 11, 115), (609, 13, 217), (1233, 15, 415), (2481, 17, 805)]]
def oTab : List (List Nat) := [[15, 35, 35, 35, 35, 35, 35], [15, 35, 35, 35, 35, 35, 35], [1, 9, 9, 9, 9, 9, 9], [5, 89, 89, 89, 89, 89, 89], [1, 8, 8, 8, 8, 8, 8], [1, 8, 8, 8, 8, 8, 8], [10, 3, 3, 3, 3, 3, 3], [4, 13, 13, 13, 13, 13, 13], [4, 13, 13, 13, 13, 13, 13], [2, 13, 13, 13, 13, 13, 13], [3, 19, 19, 19, 19, 19, 19], [1, 19, 19, 19, 19, 19, 19], [3, 19, 19, 19, 19, 19, 19], [2, 1, 1, 1, 1, 1, 1], [2, 1, 1, 1, 1, 1, 1], [10, 3, 3, 3, 3, 3, 3], [7, 11, 11, 11, 11, 11, 11], [9, 43, 43, 43, 43, 43, 43], [1, 1, 1, 1, 1, 1, 1], [1, 9, 9, 9, 9, 9, 9], [0, 0, 0, 6, 6, 6, 6], [0, 0, 0, 48, 48, 48, 48], [0, 0, 0, 115, 151, 187, 223], [0, 0, 0, 4, 4, 4, 4], [0, 0, 0, 9, 9, 9, 9], [0, 0, 0, 7, 7, 7, 7], [0, 0, 0, 7, 7, 7, 7]]
def qc (k l : Nat) : gQ := (qTab.getD k []).getD l (0, 0, 0)
def oc (k l : Nat) : Nat := (oTab.getD k []).getD l 0
def hTab : List Nat := [1, 1, 0, 2, 0, 0, 0, 0, 0, 1, 2, 1, 0, 0, 0, 0, 4, 4, 0, 0, 1, 2, 3, 2, 2, 3, 3]
/-- how high a piece stands over those that it is made of -/
def pH (j : Nat) : Nat := hTab.getD (j / 7) 0 + j % 7
/-- a node with its widths, what it gives, its cost at most -/
def nG (G : Nat → gN) (c n s t : Nat) (F : gFn) (q : gQ) : Prop := 400 ≤ n ∧ n < c ∧ g_s (G n) = s ∧ g_t (G n) = t ∧ (∀ x, x.length = s → g_F (G n) x = F x) ∧ qle (g_q (G n)) q
def gP (G : Nat → gN) (c p k l : Nat) : Prop := ∃ F, nG G c p (pS k (2 ^ l)) (pT k (2 ^ l)) F (qc k l) ∧ pSp k (2 ^ l) F
def potN (f : Nat → Int32) (J : List Nat) : Nat → Nat
  | 0 => 0
  | n + 1 => potN f J n + if f n = 0 ∧ n ∉ J then oc (n / 7) (n % 7) else 0
/-- the state: nodes, pieces; J: pieces being made; m: what may be used -/
def cI (h : xm_H) (G : Nat → gN) (c m : Nat) (J : List Nat) : Prop := gI h G c ∧ (∀ j, j < 189 → h.1 31 j = 0 ∨ ∃ p, h.1 31 j = nI p ∧ gP G c p (j / 7) (j % 7)) ∧ c + potN (h.1 31) J 189 ≤ m ∧ m ≤ 8000 ∧ ∀ j ∈ J, h.1 31 j = 0
def cdR : List Nat := [31, 23, 24, 25, 26, 27, 29, 30]
def cdT : List (Nat × Nat) := [(22, 9)]
def cE (h : xm_H) (G : Nat → gN) (c : Nat) (h' : xm_H) (G' : Nat → gN) (c' : Nat) : Prop := Fr cdR cdT h h' ∧ (∀ r j, j < 400 → r ∈ gRw → h'.1 r j = h.1 r j) ∧ c ≤ c' ∧ ∀ n, n < c → G' n = G n
theorem cE_rf {h : xm_H} {G : Nat → gN} {c : Nat} : cE h G c h G c := ⟨Fr_rf, fun _ _ _ _ => rfl, Nat.le_refl _, fun _ _ => rfl⟩
theorem cE_tr {h h1 h2 : xm_H} {G G1 G2 : Nat → gN} {c c1 c2 : Nat} (a : cE h G c h1 G1 c1) (b : cE h1 G1 c1 h2 G2 c2) : cE h G c h2 G2 c2 :=
  ⟨Fr_tr a.1 b.1 (fun _ z => z) (fun _ z => z), fun r j hj hr => by rw [b.2.1 r j hj hr, a.2.1 r j hj hr], Nat.le_trans a.2.2.1 b.2.2.1, fun n hn => by rw [b.2.2.2 n (Nat.lt_of_lt_of_le hn a.2.2.1), a.2.2.2 n hn]⟩
theorem nG_up {h h1 : xm_H} {G G1 : Nat → gN} {c c1 n s t : Nat} {F : gFn} {q : gQ} (v : nG G c n s t F q) (e : cE h G c h1 G1 c1) : nG G1 c1 n s t F q := by
  unfold nG at *
  rw [e.2.2.2 n v.2.1]
  exact ⟨v.1, Nat.lt_of_lt_of_le v.2.1 e.2.2.1, v.2.2⟩
theorem gP_up {h h1 : xm_H} {G G1 : Nat → gN} {c c1 p k l : Nat} (v : gP G c p k l) (e : cE h G c h1 G1 c1) : gP G1 c1 p k l := by
  obtain ⟨F, a, b⟩ := v
  exact ⟨F, nG_up a e, b⟩
/-- the same with other words -/
theorem nG_cg {G : Nat → gN} {c n s t s' t' : Nat} {F F' : gFn} {q q' : gQ} (v : nG G c n s t F q) (hs : s = s') (ht : t = t') (hF : ∀ x, x.length = s → F x = F' x) (hq : qle q q') : nG G c n s' t' F' q' := by
  subst hs ht
  exact ⟨v.1, v.2.1, v.2.2.1, v.2.2.2.1, fun x hx => by rw [v.2.2.2.2.1 x hx, hF x hx], qle_tr v.2.2.2.2.2 hq⟩
theorem potN_cg {f g : Nat → Int32} {J : List Nat} : ∀ {n : Nat}, (∀ j, j < n → (f j = 0 ↔ g j = 0)) → potN f J n = potN g J n
  | 0, _ => rfl
  | n + 1, h => by
    have i := potN_cg (n := n) (J := J) (fun j hj => h j (by omega))
    have e := h n (by omega)
    simp only [potN, i, e]
theorem cI_c {h : xm_H} {G : Nat → gN} {c m : Nat} {J : List Nat} (hI : cI h G c m J) : c ≤ m ∧ 400 ≤ c := ⟨Nat.le_trans (Nat.le_add_right _ _) hI.2.2.1, hI.1.2.1⟩
theorem cI_gW {h : xm_H} {G : Nat → gN} {c m n s t : Nat} {J : List Nat} {F : gFn} {q : gQ} (hI : cI h G c m J) (v : nG G c n s t F q) : gW G n (G n) ∧ gR h n (G n) := hI.1.2.2.2 n v.1 v.2.1
section CD
variable {sc : xm_Sc} {d c m : Nat} {J : List Nat} {G : Nat → gN} {h : xm_H} {post : xm_Po}
/-- a node is added -/
theorem sp_addI (N : gN) {a1 a2 : Int32} (hF : XF h) (hI : cI h G c m J) (hm : m + 1 ≤ 8000) (ha : g_o N ≤ 6 → a1 = nI (g_a N)) (hb : g_o N ≤ 2 → a2 = nI (g_b N)) (hW : gW G c N)
    (hp : ∀ h' G' c', XF h' → cI h' G' c' (m + 1) J → cE h G c h' G' c' → nG G' c' c (g_s N) (g_t N) (g_F N) (g_q N) → G' c = N → post (some (.int (nI c))) h') : xm_T (XE sc) (d + 1) 0 [.ref 22, .int (nI (g_o N)), .int a1, .int a2, .int (nI (g_k N)), .int (nI (g_l N)), .int (nI (g_s N)), .int (nI (g_t N))] h post := by
  obtain ⟨i1, i2, i3, i4, i5⟩ := hI
  have hc : c ≤ m := by omega
  refine sp_add N hF i1 (by omega) ha hb hW (fun h' F' f' k' g' => ?_)
  have e : cE h G c h' (gU G c N) (c + 1) := ⟨Fr_tr (Fr_rf (S := cdR) (T := cdT)) f' (by simp [cdR, gRw]) (by simp [cdT]), fun r j hj hr => k' r j (by have := i1.2.1; omega) hr, Nat.le_succ _, fun n hn => if_neg (by omega)⟩
  have e31 : h'.1 31 = h.1 31 := f'.1 31 (by simp [gRw])
  have eg : gU G c N c = N := if_pos rfl
  refine hp h' _ _ F' ⟨g', fun j hj => ?_, by rw [e31]; omega, by omega, by rw [e31]; exact i5⟩ e ⟨i1.2.1, Nat.lt_succ_self _, by rw [eg], by rw [eg], fun x _ => by rw [eg], by rw [eg]; exact qle_rf _⟩ eg
  rw [e31]
  rcases i2 j hj with z | ⟨p, z1, z2⟩
  · exact Or.inl z
  · exact Or.inr ⟨p, z1, gP_up z2 e⟩
end CD
