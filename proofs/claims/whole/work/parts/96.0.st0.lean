/-! ===== the two objects at the start ===== -/
def h0T : List (List Value) := ([.ref 1, .ref 3, .ref 5, .ref 7, .ref 22, .ref 32, .ref 40, .ref 45, .ref 46, .ref 52, .ref 77, .int 0, .int 0, .int 0, .int 0, .int 0, .int 0] :: [.ref 2, .int 0, .int 0, .int 0] :: [] :: [.ref 4, .int 0, .int 0, .int 0] :: [] :: [.ref 6, .int 0, .int 0, .int 0] :: [] :: [.ref 8, .ref 9, .int 0, .ref 10, .ref 11, .ref 12, .ref 13, .ref 14, .ref 15, .int 0] :: [] :: [] :: [] :: [] :: [] :: [] :: [] :: [.ref 16, .ref 17, .ref 18, .ref 19, .ref 20, .ref 21, .int 0, .int 0] :: [] :: [] :: [] :: [] :: [] :: [] :: [.ref 23, .ref 24, .ref 25, .ref 26, .ref 27, .ref 28, .ref 29, .ref 30, .ref 31, .int 400] :: [] :: [] :: [] :: [] :: [] :: [] :: [] :: [] :: [] :: [.int 0, .int 0, .ref 22, .ref 39, .ref 33, .ref 34, .ref 35, .ref 36, .ref 37, .ref 38, .int 0, .int 0, .int 0, .int 0, .int 0, .int 0, .long 0] :: [] :: [] :: [] :: [] :: [] :: [] :: [.int 0, .long 0, .int 0, .long 0, .long 0, .long 0, .long 0, .long 0, .long 0, .long 0] :: [.ref 41, .ref 42, .ref 43, .ref 44, .int 0, .int 0, .int 0] :: [] :: [] :: [] :: [] :: [.ref 7, .null, .null, .int 0, .int 0, .int 0] :: [.int 0, .ref 7, .ref 47, .ref 48, .ref 49, .ref 50, .ref 51, .int 0, .int 0, .null, .null, .int 0, .int 0, .int 0, .long 0, .int 0, .int 0] :: [] :: [] :: [] :: [] :: [] :: [.int 0, .ref 53, .ref 54, .ref 55, .ref 56, .ref 57, .ref 58, .ref 59, .ref 60, .ref 61, .ref 62, .ref 63, .ref 64, .ref 66, .int 0, .int 0] :: [] :: [] :: [] :: [] :: [] :: [] :: [] :: [] :: [] :: [] :: [] :: [.ref 65, .int 0, .int 0, .int 0] :: [] :: [.int 0, .ref 67, .ref 68, .ref 69, .ref 70, .ref 71, .ref 72, .ref 73, .ref 74, .ref 75, .ref 76, .int 0] :: [] :: [] :: [] :: [] :: [] :: [] :: [] :: [] :: [] :: [] :: [.int 0, .ref 78, .ref 79, .ref 80, .ref 81, .ref 82, .ref 83, .ref 84, .ref 85, .ref 86, .ref 87, .ref 88, .ref 89, .ref 91, .int 0, .int 0] :: [] :: [] :: [] :: [] :: [] :: [] :: [] :: [] :: [] :: [] :: [] :: [.ref 90, .int 0, .int 0, .int 0] :: [] :: [.int 0, .ref 92, .ref 93, .ref 94, .ref 95, .ref 96, .ref 97, .ref 98, .ref 99, .ref 100, .ref 101, .int 0] :: [] :: [] :: [] :: [] :: [] :: [] :: [] :: [] :: [] :: [] :: [.int 0, .ref 103, .int 0, .ref 104, .int 0, .int 0, .ref 105, .ref 106, .ref 107, .ref 108, .ref 109, .ref 110, .ref 111, .ref 112, .int 0, .ref 113, .ref 114, .ref 115, .ref 116, .int 0, .ref 117, .ref 118, .ref 119, .ref 120, .ref 121, .ref 122, .ref 123, .ref 124, .ref 125, .ref 126, .ref 127, .ref 128, .int 0, .int 0, .int 0, .int 0, .int 0, .long 0, .long 0, .long 0, .int 0, .ref 129, .ref 130, .ref 131, .ref 132, .ref 133, .ref 134, .ref 135, .ref 136, .ref 137, .int 0, .ref 138, .ref 139, .ref 140, .ref 141, .ref 142, .ref 143, .ref 144, .ref 145, .ref 146, .ref 147, .int 0, .ref 148, .ref 149, .ref 150, .int 0, .int 0, .int 0, .ref 151, .ref 152, .ref 153, .ref 154, .ref 155, .ref 156, .int 0, .int 0, .long 0, .long 0, .long 0, .long 0, .long 0, .int 0, .int 0, .int 0, .int 0, .int 0, .ref 157, .ref 158, .int 0, .ref 159, .ref 160, .ref 161, .int 0, .ref 162] :: [] :: [] :: [] :: [] :: [] :: [] :: [] :: [] :: [] :: [] :: [] :: [] :: [] :: [] :: [] :: [] :: [] :: [] :: [] :: [] :: [] :: [] :: [] :: [] :: [] :: [] :: [] :: [] :: [] :: [] :: [] :: [] :: [] :: [] :: [] :: [] :: [] :: [] :: [] :: [] :: [] :: [] :: [] :: [] :: [] :: [] :: [] :: [] :: [] :: [] :: [] :: [] :: [] :: [] :: [] :: [] :: [] :: [] :: [] :: [] :: [] :: [])
def h0R : Nat → Nat → Int32 := fun k => if k = 16 then fdK else if k = 17 then fdL else if k = 18 then fdR else fun _ => 0
def h0L : Nat → Nat → Int64 := fun k => if k = 146 then tgT 74 else fun _ => 0
def h0F : Nat → Nat → Value := fun k j => (h0T.getD k []).getD j .null
def hh0 : xm_H := (h0R, h0L, h0F)
set_option maxRecDepth 100000 in
theorem st_XF : XF hh0 := by
  unfold XF
  decide +kernel
set_option maxRecDepth 100000 in
theorem st_fx : fxA hh0 := by
  unfold fxA
  decide +kernel
set_option maxRecDepth 100000 in
theorem st_tg : tgM hh0 := by
  unfold tgM
  decide +kernel
set_option maxRecDepth 100000 in
theorem st_dI : dI hh0 (fun _ => (0, 0, 0, 0, 0, 0, 0, fun _ => [], (0, 0, 0))) 400 := by
  refine ⟨⟨⟨rfl, by decide, by decide, fun n h1 h2 => by omega⟩, fun j hj => Or.inl rfl, by decide +kernel, by decide +kernel, fun j hj => nomatch hj⟩, by decide +kernel, fun n hn => Or.inl rfl⟩
theorem st_rw {r b : Nat} (e0 : hh0.2.2 r 0 = .ref b) (e1 : hh0.2.2 r 1 = .int (nI 0)) : rowIs hh0 r b [] := ⟨e0, e1, Nat.zero_le _, fun i hi => absurd hi (Nat.not_lt_zero _), fun i hi => absurd hi (Nat.not_lt_zero _)⟩
set_option maxRecDepth 100000 in
theorem st_xI : xI hh0 52 77 0 [] [] none 0 0 0 0 0 0 := ⟨⟨st_XF, Or.inl ⟨rfl, rfl⟩, rfl, rfl, rfl, st_fx, Or.inl rfl, ⟨_, _, st_dI⟩, [], st_rw rfl rfl⟩, st_rw rfl rfl, st_rw rfl rfl, ⟨rfl, fun x _ => ⟨0, Nat.le_refl _, rfl⟩⟩, rfl, rfl, rfl, rfl, rfl, rfl⟩
theorem st_mr {a : Nat} : mrow hh0 a [] := ⟨fun i hi => absurd hi (Nat.not_lt_zero _), fun i hi => absurd hi (Nat.not_lt_zero _), Nat.zero_le _⟩
set_option maxRecDepth 100000 in
theorem st_mI : mI hh0 [] [] none 0 0 0 0 0 0 := ⟨⟨rfl, st_mr⟩, st_mr, rfl, ⟨rfl, rfl⟩, st_tg, ⟨0, Nat.zero_le _, rfl⟩, rfl, rfl, rfl, rfl, rfl, rfl⟩
