/-! ===== the start: the cells of both objects, written out by number ===== -/
theorem h0L_t : h0L 146 = tgT 74 := by
  unfold h0L
  exact if_pos rfl
theorem eA_146 {f : Nat → Nat} {g : Nat → ClassId} : xm_e f g hh0 146 (.inl (.long, 14)) = .inl (g 146, 14, .inr (.inl (tgT 74))) := by
  show Sum.inl (g 146, 14, Sum.inr (Sum.inl (h0L 146))) = _
  rw [h0L_t]
set_option maxRecDepth 100000 in
theorem eA_0 {f : Nat → Nat} {g : Nat → ClassId} : xm_e f g hh0 0 (.inr (11, 17)) = .inr (11, [.ref (f 1), .ref (f 3), .ref (f 5), .ref (f 7), .ref (f 22), .ref (f 32), .ref (f 40), .ref (f 45), .ref (f 46), .ref (f 52), .ref (f 77), .int 0, .int 0, .int 0, .int 0, .int 0, .int 0]) := rfl
set_option maxRecDepth 100000 in
theorem eA_1 {f : Nat → Nat} {g : Nat → ClassId} : xm_e f g hh0 1 (.inr (8, 4)) = .inr (8, [.ref (f 2), .int 0, .int 0, .int 0]) := rfl
set_option maxRecDepth 100000 in
theorem eA_2 {f : Nat → Nat} {g : Nat → ClassId} : xm_e f g hh0 2 (.inl (.byte, 8192)) = .inl (g 2, 8192, .inl (fun _ => 0)) := rfl
set_option maxRecDepth 100000 in
theorem eA_3 {f : Nat → Nat} {g : Nat → ClassId} : xm_e f g hh0 3 (.inr (8, 4)) = .inr (8, [.ref (f 4), .int 0, .int 0, .int 0]) := rfl
set_option maxRecDepth 100000 in
theorem eA_4 {f : Nat → Nat} {g : Nat → ClassId} : xm_e f g hh0 4 (.inl (.byte, 8192)) = .inl (g 4, 8192, .inl (fun _ => 0)) := rfl
set_option maxRecDepth 100000 in
theorem eA_5 {f : Nat → Nat} {g : Nat → ClassId} : xm_e f g hh0 5 (.inr (8, 4)) = .inr (8, [.ref (f 6), .int 0, .int 0, .int 0]) := rfl
set_option maxRecDepth 100000 in
theorem eA_6 {f : Nat → Nat} {g : Nat → ClassId} : xm_e f g hh0 6 (.inl (.byte, 8192)) = .inl (g 6, 8192, .inl (fun _ => 0)) := rfl
set_option maxRecDepth 100000 in
theorem eA_7 {f : Nat → Nat} {g : Nat → ClassId} : xm_e f g hh0 7 (.inr (5, 10)) = .inr (5, [.ref (f 8), .ref (f 9), .int 0, .ref (f 10), .ref (f 11), .ref (f 12), .ref (f 13), .ref (f 14), .ref (f 15), .int 0]) := rfl
set_option maxRecDepth 100000 in
theorem eA_8 {f : Nat → Nat} {g : Nat → ClassId} : xm_e f g hh0 8 (.inl (.int, 2000)) = .inl (g 8, 2000, .inl (fun _ => 0)) := rfl
set_option maxRecDepth 100000 in
theorem eA_9 {f : Nat → Nat} {g : Nat → ClassId} : xm_e f g hh0 9 (.inl (.int, 2000)) = .inl (g 9, 2000, .inl (fun _ => 0)) := rfl
set_option maxRecDepth 100000 in
theorem eA_10 {f : Nat → Nat} {g : Nat → ClassId} : xm_e f g hh0 10 (.inl (.int, 2000)) = .inl (g 10, 2000, .inl (fun _ => 0)) := rfl
set_option maxRecDepth 100000 in
theorem eA_11 {f : Nat → Nat} {g : Nat → ClassId} : xm_e f g hh0 11 (.inl (.int, 2000)) = .inl (g 11, 2000, .inl (fun _ => 0)) := rfl
set_option maxRecDepth 100000 in
theorem eA_12 {f : Nat → Nat} {g : Nat → ClassId} : xm_e f g hh0 12 (.inl (.int, 2000)) = .inl (g 12, 2000, .inl (fun _ => 0)) := rfl
set_option maxRecDepth 100000 in
theorem eA_13 {f : Nat → Nat} {g : Nat → ClassId} : xm_e f g hh0 13 (.inl (.int, 2000)) = .inl (g 13, 2000, .inl (fun _ => 0)) := rfl
set_option maxRecDepth 100000 in
theorem eA_14 {f : Nat → Nat} {g : Nat → ClassId} : xm_e f g hh0 14 (.inl (.int, 1024)) = .inl (g 14, 1024, .inl (fun _ => 0)) := rfl
set_option maxRecDepth 100000 in
theorem eA_15 {f : Nat → Nat} {g : Nat → ClassId} : xm_e f g hh0 15 (.inr (1, 8)) = .inr (1, [.ref (f 16), .ref (f 17), .ref (f 18), .ref (f 19), .ref (f 20), .ref (f 21), .int 0, .int 0]) := rfl
set_option maxRecDepth 100000 in
theorem eA_16 {f : Nat → Nat} {g : Nat → ClassId} : xm_e f g hh0 16 (.inl (.int, 14032)) = .inl (g 16, 14032, .inl fdK) := rfl
set_option maxRecDepth 100000 in
theorem eA_17 {f : Nat → Nat} {g : Nat → ClassId} : xm_e f g hh0 17 (.inl (.int, 14032)) = .inl (g 17, 14032, .inl fdL) := rfl
set_option maxRecDepth 100000 in
theorem eA_18 {f : Nat → Nat} {g : Nat → ClassId} : xm_e f g hh0 18 (.inl (.int, 14032)) = .inl (g 18, 14032, .inl fdR) := rfl
set_option maxRecDepth 100000 in
theorem eA_19 {f : Nat → Nat} {g : Nat → ClassId} : xm_e f g hh0 19 (.inl (.int, 14032)) = .inl (g 19, 14032, .inl (fun _ => 0)) := rfl
set_option maxRecDepth 100000 in
theorem eA_20 {f : Nat → Nat} {g : Nat → ClassId} : xm_e f g hh0 20 (.inl (.int, 14032)) = .inl (g 20, 14032, .inl (fun _ => 0)) := rfl
set_option maxRecDepth 100000 in
theorem eA_21 {f : Nat → Nat} {g : Nat → ClassId} : xm_e f g hh0 21 (.inl (.int, 28064)) = .inl (g 21, 28064, .inl (fun _ => 0)) := rfl
set_option maxRecDepth 100000 in
theorem eA_22 {f : Nat → Nat} {g : Nat → ClassId} : xm_e f g hh0 22 (.inr (0, 10)) = .inr (0, [.ref (f 23), .ref (f 24), .ref (f 25), .ref (f 26), .ref (f 27), .ref (f 28), .ref (f 29), .ref (f 30), .ref (f 31), .int 400]) := rfl
set_option maxRecDepth 100000 in
theorem eA_23 {f : Nat → Nat} {g : Nat → ClassId} : xm_e f g hh0 23 (.inl (.int, 8000)) = .inl (g 23, 8000, .inl (fun _ => 0)) := rfl
set_option maxRecDepth 100000 in
theorem eA_24 {f : Nat → Nat} {g : Nat → ClassId} : xm_e f g hh0 24 (.inl (.int, 8000)) = .inl (g 24, 8000, .inl (fun _ => 0)) := rfl
set_option maxRecDepth 100000 in
theorem eA_25 {f : Nat → Nat} {g : Nat → ClassId} : xm_e f g hh0 25 (.inl (.int, 8000)) = .inl (g 25, 8000, .inl (fun _ => 0)) := rfl
set_option maxRecDepth 100000 in
theorem eA_26 {f : Nat → Nat} {g : Nat → ClassId} : xm_e f g hh0 26 (.inl (.int, 8000)) = .inl (g 26, 8000, .inl (fun _ => 0)) := rfl
set_option maxRecDepth 100000 in
theorem eA_27 {f : Nat → Nat} {g : Nat → ClassId} : xm_e f g hh0 27 (.inl (.int, 8000)) = .inl (g 27, 8000, .inl (fun _ => 0)) := rfl
set_option maxRecDepth 100000 in
theorem eA_28 {f : Nat → Nat} {g : Nat → ClassId} : xm_e f g hh0 28 (.inl (.int, 168)) = .inl (g 28, 168, .inl (fun _ => 0)) := rfl
set_option maxRecDepth 100000 in
theorem eA_29 {f : Nat → Nat} {g : Nat → ClassId} : xm_e f g hh0 29 (.inl (.int, 8000)) = .inl (g 29, 8000, .inl (fun _ => 0)) := rfl
set_option maxRecDepth 100000 in
theorem eA_30 {f : Nat → Nat} {g : Nat → ClassId} : xm_e f g hh0 30 (.inl (.int, 8000)) = .inl (g 30, 8000, .inl (fun _ => 0)) := rfl
set_option maxRecDepth 100000 in
theorem eA_31 {f : Nat → Nat} {g : Nat → ClassId} : xm_e f g hh0 31 (.inl (.int, 189)) = .inl (g 31, 189, .inl (fun _ => 0)) := rfl
set_option maxRecDepth 100000 in
theorem eA_32 {f : Nat → Nat} {g : Nat → ClassId} : xm_e f g hh0 32 (.inr (4, 17)) = .inr (4, [.int 0, .int 0, .ref (f 22), .ref (f 39), .ref (f 33), .ref (f 34), .ref (f 35), .ref (f 36), .ref (f 37), .ref (f 38), .int 0, .int 0, .int 0, .int 0, .int 0, .int 0, .long 0]) := rfl
set_option maxRecDepth 100000 in
theorem eA_33 {f : Nat → Nat} {g : Nat → ClassId} : xm_e f g hh0 33 (.inl (.long, 13122)) = .inl (g 33, 13122, .inr (.inl (fun _ => 0))) := rfl
set_option maxRecDepth 100000 in
theorem eA_34 {f : Nat → Nat} {g : Nat → ClassId} : xm_e f g hh0 34 (.inl (.int, 1600)) = .inl (g 34, 1600, .inl (fun _ => 0)) := rfl
set_option maxRecDepth 100000 in
theorem eA_35 {f : Nat → Nat} {g : Nat → ClassId} : xm_e f g hh0 35 (.inl (.int, 1600)) = .inl (g 35, 1600, .inl (fun _ => 0)) := rfl
set_option maxRecDepth 100000 in
theorem eA_36 {f : Nat → Nat} {g : Nat → ClassId} : xm_e f g hh0 36 (.inl (.int, 1600)) = .inl (g 36, 1600, .inl (fun _ => 0)) := rfl
set_option maxRecDepth 100000 in
theorem eA_37 {f : Nat → Nat} {g : Nat → ClassId} : xm_e f g hh0 37 (.inl (.int, 1600)) = .inl (g 37, 1600, .inl (fun _ => 0)) := rfl
set_option maxRecDepth 100000 in
theorem eA_38 {f : Nat → Nat} {g : Nat → ClassId} : xm_e f g hh0 38 (.inl (.int, 1600)) = .inl (g 38, 1600, .inl (fun _ => 0)) := rfl
set_option maxRecDepth 100000 in
theorem eA_39 {f : Nat → Nat} {g : Nat → ClassId} : xm_e f g hh0 39 (.inr (2, 10)) = .inr (2, [.int 0, .long 0, .int 0, .long 0, .long 0, .long 0, .long 0, .long 0, .long 0, .long 0]) := rfl
set_option maxRecDepth 100000 in
theorem eA_40 {f : Nat → Nat} {g : Nat → ClassId} : xm_e f g hh0 40 (.inr (7, 7)) = .inr (7, [.ref (f 41), .ref (f 42), .ref (f 43), .ref (f 44), .int 0, .int 0, .int 0]) := rfl
set_option maxRecDepth 100000 in
theorem eA_41 {f : Nat → Nat} {g : Nat → ClassId} : xm_e f g hh0 41 (.inl (.int, 3200)) = .inl (g 41, 3200, .inl (fun _ => 0)) := rfl
set_option maxRecDepth 100000 in
theorem eA_42 {f : Nat → Nat} {g : Nat → ClassId} : xm_e f g hh0 42 (.inl (.int, 22656)) = .inl (g 42, 22656, .inl (fun _ => 0)) := rfl
set_option maxRecDepth 100000 in
theorem eA_43 {f : Nat → Nat} {g : Nat → ClassId} : xm_e f g hh0 43 (.inl (.int, 128)) = .inl (g 43, 128, .inl (fun _ => 0)) := rfl
set_option maxRecDepth 100000 in
theorem eA_44 {f : Nat → Nat} {g : Nat → ClassId} : xm_e f g hh0 44 (.inl (.int, 64)) = .inl (g 44, 64, .inl (fun _ => 0)) := rfl
set_option maxRecDepth 100000 in
theorem eA_45 {f : Nat → Nat} {g : Nat → ClassId} : xm_e f g hh0 45 (.inr (3, 6)) = .inr (3, [.ref (f 7), .null, .null, .int 0, .int 0, .int 0]) := rfl
set_option maxRecDepth 100000 in
theorem eA_46 {f : Nat → Nat} {g : Nat → ClassId} : xm_e f g hh0 46 (.inr (9, 17)) = .inr (9, [.int 0, .ref (f 7), .ref (f 47), .ref (f 48), .ref (f 49), .ref (f 50), .ref (f 51), .int 0, .int 0, .null, .null, .int 0, .int 0, .int 0, .long 0, .int 0, .int 0]) := rfl
set_option maxRecDepth 100000 in
theorem eA_47 {f : Nat → Nat} {g : Nat → ClassId} : xm_e f g hh0 47 (.inl (.int, 8192)) = .inl (g 47, 8192, .inl (fun _ => 0)) := rfl
set_option maxRecDepth 100000 in
theorem eA_48 {f : Nat → Nat} {g : Nat → ClassId} : xm_e f g hh0 48 (.inl (.long, 4096)) = .inl (g 48, 4096, .inr (.inl (fun _ => 0))) := rfl
set_option maxRecDepth 100000 in
theorem eA_49 {f : Nat → Nat} {g : Nat → ClassId} : xm_e f g hh0 49 (.inl (.int, 4096)) = .inl (g 49, 4096, .inl (fun _ => 0)) := rfl
set_option maxRecDepth 100000 in
theorem eA_50 {f : Nat → Nat} {g : Nat → ClassId} : xm_e f g hh0 50 (.inl (.int, 4096)) = .inl (g 50, 4096, .inl (fun _ => 0)) := rfl
set_option maxRecDepth 100000 in
theorem eA_51 {f : Nat → Nat} {g : Nat → ClassId} : xm_e f g hh0 51 (.inl (.int, 512)) = .inl (g 51, 512, .inl (fun _ => 0)) := rfl
set_option maxRecDepth 100000 in
theorem eA_52 {f : Nat → Nat} {g : Nat → ClassId} : xm_e f g hh0 52 (.inr (6, 16)) = .inr (6, [.int 0, .ref (f 53), .ref (f 54), .ref (f 55), .ref (f 56), .ref (f 57), .ref (f 58), .ref (f 59), .ref (f 60), .ref (f 61), .ref (f 62), .ref (f 63), .ref (f 64), .ref (f 66), .int 0, .int 0]) := rfl
set_option maxRecDepth 100000 in
theorem eA_53 {f : Nat → Nat} {g : Nat → ClassId} : xm_e f g hh0 53 (.inl (.int, 2000)) = .inl (g 53, 2000, .inl (fun _ => 0)) := rfl
set_option maxRecDepth 100000 in
theorem eA_54 {f : Nat → Nat} {g : Nat → ClassId} : xm_e f g hh0 54 (.inl (.int, 2000)) = .inl (g 54, 2000, .inl (fun _ => 0)) := rfl
set_option maxRecDepth 100000 in
theorem eA_55 {f : Nat → Nat} {g : Nat → ClassId} : xm_e f g hh0 55 (.inl (.int, 2000)) = .inl (g 55, 2000, .inl (fun _ => 0)) := rfl
set_option maxRecDepth 100000 in
theorem eA_56 {f : Nat → Nat} {g : Nat → ClassId} : xm_e f g hh0 56 (.inl (.int, 2000)) = .inl (g 56, 2000, .inl (fun _ => 0)) := rfl
set_option maxRecDepth 100000 in
theorem eA_57 {f : Nat → Nat} {g : Nat → ClassId} : xm_e f g hh0 57 (.inl (.int, 2000)) = .inl (g 57, 2000, .inl (fun _ => 0)) := rfl
set_option maxRecDepth 100000 in
theorem eA_58 {f : Nat → Nat} {g : Nat → ClassId} : xm_e f g hh0 58 (.inl (.int, 2000)) = .inl (g 58, 2000, .inl (fun _ => 0)) := rfl
set_option maxRecDepth 100000 in
theorem eA_59 {f : Nat → Nat} {g : Nat → ClassId} : xm_e f g hh0 59 (.inl (.int, 2000)) = .inl (g 59, 2000, .inl (fun _ => 0)) := rfl
set_option maxRecDepth 100000 in
theorem eA_60 {f : Nat → Nat} {g : Nat → ClassId} : xm_e f g hh0 60 (.inl (.int, 400)) = .inl (g 60, 400, .inl (fun _ => 0)) := rfl
set_option maxRecDepth 100000 in
theorem eA_61 {f : Nat → Nat} {g : Nat → ClassId} : xm_e f g hh0 61 (.inl (.int, 400)) = .inl (g 61, 400, .inl (fun _ => 0)) := rfl
set_option maxRecDepth 100000 in
theorem eA_62 {f : Nat → Nat} {g : Nat → ClassId} : xm_e f g hh0 62 (.inl (.int, 400)) = .inl (g 62, 400, .inl (fun _ => 0)) := rfl
set_option maxRecDepth 100000 in
theorem eA_63 {f : Nat → Nat} {g : Nat → ClassId} : xm_e f g hh0 63 (.inl (.int, 2048)) = .inl (g 63, 2048, .inl (fun _ => 0)) := rfl
set_option maxRecDepth 100000 in
theorem eA_64 {f : Nat → Nat} {g : Nat → ClassId} : xm_e f g hh0 64 (.inr (8, 4)) = .inr (8, [.ref (f 65), .int 0, .int 0, .int 0]) := rfl
set_option maxRecDepth 100000 in
theorem eA_65 {f : Nat → Nat} {g : Nat → ClassId} : xm_e f g hh0 65 (.inl (.byte, 8192)) = .inl (g 65, 8192, .inl (fun _ => 0)) := rfl
set_option maxRecDepth 100000 in
theorem eA_66 {f : Nat → Nat} {g : Nat → ClassId} : xm_e f g hh0 66 (.inr (10, 12)) = .inr (10, [.int 0, .ref (f 67), .ref (f 68), .ref (f 69), .ref (f 70), .ref (f 71), .ref (f 72), .ref (f 73), .ref (f 74), .ref (f 75), .ref (f 76), .int 0]) := rfl
set_option maxRecDepth 100000 in
theorem eA_67 {f : Nat → Nat} {g : Nat → ClassId} : xm_e f g hh0 67 (.inl (.int, 14032)) = .inl (g 67, 14032, .inl (fun _ => 0)) := rfl
set_option maxRecDepth 100000 in
theorem eA_68 {f : Nat → Nat} {g : Nat → ClassId} : xm_e f g hh0 68 (.inl (.int, 14032)) = .inl (g 68, 14032, .inl (fun _ => 0)) := rfl
set_option maxRecDepth 100000 in
theorem eA_69 {f : Nat → Nat} {g : Nat → ClassId} : xm_e f g hh0 69 (.inl (.int, 14032)) = .inl (g 69, 14032, .inl (fun _ => 0)) := rfl
set_option maxRecDepth 100000 in
theorem eA_70 {f : Nat → Nat} {g : Nat → ClassId} : xm_e f g hh0 70 (.inl (.int, 14032)) = .inl (g 70, 14032, .inl (fun _ => 0)) := rfl
set_option maxRecDepth 100000 in
theorem eA_71 {f : Nat → Nat} {g : Nat → ClassId} : xm_e f g hh0 71 (.inl (.int, 14032)) = .inl (g 71, 14032, .inl (fun _ => 0)) := rfl
set_option maxRecDepth 100000 in
theorem eA_72 {f : Nat → Nat} {g : Nat → ClassId} : xm_e f g hh0 72 (.inl (.boolean, 14032)) = .inl (g 72, 14032, .inl (fun _ => 0)) := rfl
set_option maxRecDepth 100000 in
theorem eA_73 {f : Nat → Nat} {g : Nat → ClassId} : xm_e f g hh0 73 (.inl (.int, 14032)) = .inl (g 73, 14032, .inl (fun _ => 0)) := rfl
set_option maxRecDepth 100000 in
theorem eA_74 {f : Nat → Nat} {g : Nat → ClassId} : xm_e f g hh0 74 (.inl (.int, 14032)) = .inl (g 74, 14032, .inl (fun _ => 0)) := rfl
set_option maxRecDepth 100000 in
theorem eA_75 {f : Nat → Nat} {g : Nat → ClassId} : xm_e f g hh0 75 (.inl (.int, 2048)) = .inl (g 75, 2048, .inl (fun _ => 0)) := rfl
set_option maxRecDepth 100000 in
theorem eA_76 {f : Nat → Nat} {g : Nat → ClassId} : xm_e f g hh0 76 (.inl (.int, 14048)) = .inl (g 76, 14048, .inl (fun _ => 0)) := rfl
set_option maxRecDepth 100000 in
theorem eA_77 {f : Nat → Nat} {g : Nat → ClassId} : xm_e f g hh0 77 (.inr (6, 16)) = .inr (6, [.int 0, .ref (f 78), .ref (f 79), .ref (f 80), .ref (f 81), .ref (f 82), .ref (f 83), .ref (f 84), .ref (f 85), .ref (f 86), .ref (f 87), .ref (f 88), .ref (f 89), .ref (f 91), .int 0, .int 0]) := rfl
set_option maxRecDepth 100000 in
theorem eA_78 {f : Nat → Nat} {g : Nat → ClassId} : xm_e f g hh0 78 (.inl (.int, 2000)) = .inl (g 78, 2000, .inl (fun _ => 0)) := rfl
set_option maxRecDepth 100000 in
theorem eA_79 {f : Nat → Nat} {g : Nat → ClassId} : xm_e f g hh0 79 (.inl (.int, 2000)) = .inl (g 79, 2000, .inl (fun _ => 0)) := rfl
set_option maxRecDepth 100000 in
theorem eA_80 {f : Nat → Nat} {g : Nat → ClassId} : xm_e f g hh0 80 (.inl (.int, 2000)) = .inl (g 80, 2000, .inl (fun _ => 0)) := rfl
set_option maxRecDepth 100000 in
theorem eA_81 {f : Nat → Nat} {g : Nat → ClassId} : xm_e f g hh0 81 (.inl (.int, 2000)) = .inl (g 81, 2000, .inl (fun _ => 0)) := rfl
set_option maxRecDepth 100000 in
theorem eA_82 {f : Nat → Nat} {g : Nat → ClassId} : xm_e f g hh0 82 (.inl (.int, 2000)) = .inl (g 82, 2000, .inl (fun _ => 0)) := rfl
set_option maxRecDepth 100000 in
theorem eA_83 {f : Nat → Nat} {g : Nat → ClassId} : xm_e f g hh0 83 (.inl (.int, 2000)) = .inl (g 83, 2000, .inl (fun _ => 0)) := rfl
set_option maxRecDepth 100000 in
theorem eA_84 {f : Nat → Nat} {g : Nat → ClassId} : xm_e f g hh0 84 (.inl (.int, 2000)) = .inl (g 84, 2000, .inl (fun _ => 0)) := rfl
set_option maxRecDepth 100000 in
theorem eA_85 {f : Nat → Nat} {g : Nat → ClassId} : xm_e f g hh0 85 (.inl (.int, 400)) = .inl (g 85, 400, .inl (fun _ => 0)) := rfl
set_option maxRecDepth 100000 in
theorem eA_86 {f : Nat → Nat} {g : Nat → ClassId} : xm_e f g hh0 86 (.inl (.int, 400)) = .inl (g 86, 400, .inl (fun _ => 0)) := rfl
set_option maxRecDepth 100000 in
theorem eA_87 {f : Nat → Nat} {g : Nat → ClassId} : xm_e f g hh0 87 (.inl (.int, 400)) = .inl (g 87, 400, .inl (fun _ => 0)) := rfl
set_option maxRecDepth 100000 in
theorem eA_88 {f : Nat → Nat} {g : Nat → ClassId} : xm_e f g hh0 88 (.inl (.int, 2048)) = .inl (g 88, 2048, .inl (fun _ => 0)) := rfl
set_option maxRecDepth 100000 in
theorem eA_89 {f : Nat → Nat} {g : Nat → ClassId} : xm_e f g hh0 89 (.inr (8, 4)) = .inr (8, [.ref (f 90), .int 0, .int 0, .int 0]) := rfl
set_option maxRecDepth 100000 in
theorem eA_90 {f : Nat → Nat} {g : Nat → ClassId} : xm_e f g hh0 90 (.inl (.byte, 8192)) = .inl (g 90, 8192, .inl (fun _ => 0)) := rfl
set_option maxRecDepth 100000 in
theorem eA_91 {f : Nat → Nat} {g : Nat → ClassId} : xm_e f g hh0 91 (.inr (10, 12)) = .inr (10, [.int 0, .ref (f 92), .ref (f 93), .ref (f 94), .ref (f 95), .ref (f 96), .ref (f 97), .ref (f 98), .ref (f 99), .ref (f 100), .ref (f 101), .int 0]) := rfl
set_option maxRecDepth 100000 in
theorem eA_92 {f : Nat → Nat} {g : Nat → ClassId} : xm_e f g hh0 92 (.inl (.int, 14032)) = .inl (g 92, 14032, .inl (fun _ => 0)) := rfl
set_option maxRecDepth 100000 in
theorem eA_93 {f : Nat → Nat} {g : Nat → ClassId} : xm_e f g hh0 93 (.inl (.int, 14032)) = .inl (g 93, 14032, .inl (fun _ => 0)) := rfl
set_option maxRecDepth 100000 in
theorem eA_94 {f : Nat → Nat} {g : Nat → ClassId} : xm_e f g hh0 94 (.inl (.int, 14032)) = .inl (g 94, 14032, .inl (fun _ => 0)) := rfl
set_option maxRecDepth 100000 in
theorem eA_95 {f : Nat → Nat} {g : Nat → ClassId} : xm_e f g hh0 95 (.inl (.int, 14032)) = .inl (g 95, 14032, .inl (fun _ => 0)) := rfl
set_option maxRecDepth 100000 in
theorem eA_96 {f : Nat → Nat} {g : Nat → ClassId} : xm_e f g hh0 96 (.inl (.int, 14032)) = .inl (g 96, 14032, .inl (fun _ => 0)) := rfl
set_option maxRecDepth 100000 in
theorem eA_97 {f : Nat → Nat} {g : Nat → ClassId} : xm_e f g hh0 97 (.inl (.boolean, 14032)) = .inl (g 97, 14032, .inl (fun _ => 0)) := rfl
set_option maxRecDepth 100000 in
theorem eA_98 {f : Nat → Nat} {g : Nat → ClassId} : xm_e f g hh0 98 (.inl (.int, 14032)) = .inl (g 98, 14032, .inl (fun _ => 0)) := rfl
set_option maxRecDepth 100000 in
theorem eA_99 {f : Nat → Nat} {g : Nat → ClassId} : xm_e f g hh0 99 (.inl (.int, 14032)) = .inl (g 99, 14032, .inl (fun _ => 0)) := rfl
set_option maxRecDepth 100000 in
theorem eA_100 {f : Nat → Nat} {g : Nat → ClassId} : xm_e f g hh0 100 (.inl (.int, 2048)) = .inl (g 100, 2048, .inl (fun _ => 0)) := rfl
set_option maxRecDepth 100000 in
theorem eA_101 {f : Nat → Nat} {g : Nat → ClassId} : xm_e f g hh0 101 (.inl (.int, 14048)) = .inl (g 101, 14048, .inl (fun _ => 0)) := rfl
set_option maxRecDepth 100000 in
theorem eA_102 {f : Nat → Nat} {g : Nat → ClassId} : xm_e f g hh0 102 (.inr (12, 94)) = .inr (12, [.int 0, .ref (f 103), .int 0, .ref (f 104), .int 0, .int 0, .ref (f 105), .ref (f 106), .ref (f 107), .ref (f 108), .ref (f 109), .ref (f 110), .ref (f 111), .ref (f 112), .int 0, .ref (f 113), .ref (f 114), .ref (f 115), .ref (f 116), .int 0, .ref (f 117), .ref (f 118), .ref (f 119), .ref (f 120), .ref (f 121), .ref (f 122), .ref (f 123), .ref (f 124), .ref (f 125), .ref (f 126), .ref (f 127), .ref (f 128), .int 0, .int 0, .int 0, .int 0, .int 0, .long 0, .long 0, .long 0, .int 0, .ref (f 129), .ref (f 130), .ref (f 131), .ref (f 132), .ref (f 133), .ref (f 134), .ref (f 135), .ref (f 136), .ref (f 137), .int 0, .ref (f 138), .ref (f 139), .ref (f 140), .ref (f 141), .ref (f 142), .ref (f 143), .ref (f 144), .ref (f 145), .ref (f 146), .ref (f 147), .int 0, .ref (f 148), .ref (f 149), .ref (f 150), .int 0, .int 0, .int 0, .ref (f 151), .ref (f 152), .ref (f 153), .ref (f 154), .ref (f 155), .ref (f 156), .int 0, .int 0, .long 0, .long 0, .long 0, .long 0, .long 0, .int 0, .int 0, .int 0, .int 0, .int 0, .ref (f 157), .ref (f 158), .int 0, .ref (f 159), .ref (f 160), .ref (f 161), .int 0, .ref (f 162)]) := rfl
set_option maxRecDepth 100000 in
theorem eA_103 {f : Nat → Nat} {g : Nat → ClassId} : xm_e f g hh0 103 (.inl (.int, 8192)) = .inl (g 103, 8192, .inl (fun _ => 0)) := rfl
set_option maxRecDepth 100000 in
theorem eA_104 {f : Nat → Nat} {g : Nat → ClassId} : xm_e f g hh0 104 (.inl (.int, 8192)) = .inl (g 104, 8192, .inl (fun _ => 0)) := rfl
set_option maxRecDepth 100000 in
theorem eA_105 {f : Nat → Nat} {g : Nat → ClassId} : xm_e f g hh0 105 (.inl (.int, 2000)) = .inl (g 105, 2000, .inl (fun _ => 0)) := rfl
set_option maxRecDepth 100000 in
theorem eA_106 {f : Nat → Nat} {g : Nat → ClassId} : xm_e f g hh0 106 (.inl (.int, 2000)) = .inl (g 106, 2000, .inl (fun _ => 0)) := rfl
set_option maxRecDepth 100000 in
theorem eA_107 {f : Nat → Nat} {g : Nat → ClassId} : xm_e f g hh0 107 (.inl (.int, 2000)) = .inl (g 107, 2000, .inl (fun _ => 0)) := rfl
set_option maxRecDepth 100000 in
theorem eA_108 {f : Nat → Nat} {g : Nat → ClassId} : xm_e f g hh0 108 (.inl (.int, 2000)) = .inl (g 108, 2000, .inl (fun _ => 0)) := rfl
set_option maxRecDepth 100000 in
theorem eA_109 {f : Nat → Nat} {g : Nat → ClassId} : xm_e f g hh0 109 (.inl (.int, 2000)) = .inl (g 109, 2000, .inl (fun _ => 0)) := rfl
set_option maxRecDepth 100000 in
theorem eA_110 {f : Nat → Nat} {g : Nat → ClassId} : xm_e f g hh0 110 (.inl (.int, 16000)) = .inl (g 110, 16000, .inl (fun _ => 0)) := rfl
set_option maxRecDepth 100000 in
theorem eA_111 {f : Nat → Nat} {g : Nat → ClassId} : xm_e f g hh0 111 (.inl (.int, 2000)) = .inl (g 111, 2000, .inl (fun _ => 0)) := rfl
set_option maxRecDepth 100000 in
theorem eA_112 {f : Nat → Nat} {g : Nat → ClassId} : xm_e f g hh0 112 (.inl (.int, 2000)) = .inl (g 112, 2000, .inl (fun _ => 0)) := rfl
set_option maxRecDepth 100000 in
theorem eA_113 {f : Nat → Nat} {g : Nat → ClassId} : xm_e f g hh0 113 (.inl (.int, 2000)) = .inl (g 113, 2000, .inl (fun _ => 0)) := rfl
set_option maxRecDepth 100000 in
theorem eA_114 {f : Nat → Nat} {g : Nat → ClassId} : xm_e f g hh0 114 (.inl (.boolean, 2000)) = .inl (g 114, 2000, .inl (fun _ => 0)) := rfl
set_option maxRecDepth 100000 in
theorem eA_115 {f : Nat → Nat} {g : Nat → ClassId} : xm_e f g hh0 115 (.inl (.int, 40000)) = .inl (g 115, 40000, .inl (fun _ => 0)) := rfl
set_option maxRecDepth 100000 in
theorem eA_116 {f : Nat → Nat} {g : Nat → ClassId} : xm_e f g hh0 116 (.inl (.int, 40000)) = .inl (g 116, 40000, .inl (fun _ => 0)) := rfl
set_option maxRecDepth 100000 in
theorem eA_117 {f : Nat → Nat} {g : Nat → ClassId} : xm_e f g hh0 117 (.inl (.int, 400)) = .inl (g 117, 400, .inl (fun _ => 0)) := rfl
set_option maxRecDepth 100000 in
theorem eA_118 {f : Nat → Nat} {g : Nat → ClassId} : xm_e f g hh0 118 (.inl (.int, 400)) = .inl (g 118, 400, .inl (fun _ => 0)) := rfl
set_option maxRecDepth 100000 in
theorem eA_119 {f : Nat → Nat} {g : Nat → ClassId} : xm_e f g hh0 119 (.inl (.int, 400)) = .inl (g 119, 400, .inl (fun _ => 0)) := rfl
set_option maxRecDepth 100000 in
theorem eA_120 {f : Nat → Nat} {g : Nat → ClassId} : xm_e f g hh0 120 (.inl (.int, 400)) = .inl (g 120, 400, .inl (fun _ => 0)) := rfl
set_option maxRecDepth 100000 in
theorem eA_121 {f : Nat → Nat} {g : Nat → ClassId} : xm_e f g hh0 121 (.inl (.int, 3200)) = .inl (g 121, 3200, .inl (fun _ => 0)) := rfl
set_option maxRecDepth 100000 in
theorem eA_122 {f : Nat → Nat} {g : Nat → ClassId} : xm_e f g hh0 122 (.inl (.int, 400)) = .inl (g 122, 400, .inl (fun _ => 0)) := rfl
set_option maxRecDepth 100000 in
theorem eA_123 {f : Nat → Nat} {g : Nat → ClassId} : xm_e f g hh0 123 (.inl (.int, 400)) = .inl (g 123, 400, .inl (fun _ => 0)) := rfl
set_option maxRecDepth 100000 in
theorem eA_124 {f : Nat → Nat} {g : Nat → ClassId} : xm_e f g hh0 124 (.inl (.int, 3200)) = .inl (g 124, 3200, .inl (fun _ => 0)) := rfl
set_option maxRecDepth 100000 in
theorem eA_125 {f : Nat → Nat} {g : Nat → ClassId} : xm_e f g hh0 125 (.inl (.long, 400)) = .inl (g 125, 400, .inr (.inl (fun _ => 0))) := rfl
set_option maxRecDepth 100000 in
theorem eA_126 {f : Nat → Nat} {g : Nat → ClassId} : xm_e f g hh0 126 (.inl (.long, 400)) = .inl (g 126, 400, .inr (.inl (fun _ => 0))) := rfl
set_option maxRecDepth 100000 in
theorem eA_127 {f : Nat → Nat} {g : Nat → ClassId} : xm_e f g hh0 127 (.inl (.long, 400)) = .inl (g 127, 400, .inr (.inl (fun _ => 0))) := rfl
set_option maxRecDepth 100000 in
theorem eA_128 {f : Nat → Nat} {g : Nat → ClassId} : xm_e f g hh0 128 (.inl (.int, 8192)) = .inl (g 128, 8192, .inl (fun _ => 0)) := rfl
set_option maxRecDepth 100000 in
theorem eA_129 {f : Nat → Nat} {g : Nat → ClassId} : xm_e f g hh0 129 (.inl (.int, 17400)) = .inl (g 129, 17400, .inl (fun _ => 0)) := rfl
set_option maxRecDepth 100000 in
theorem eA_130 {f : Nat → Nat} {g : Nat → ClassId} : xm_e f g hh0 130 (.inl (.int, 17400)) = .inl (g 130, 17400, .inl (fun _ => 0)) := rfl
set_option maxRecDepth 100000 in
theorem eA_131 {f : Nat → Nat} {g : Nat → ClassId} : xm_e f g hh0 131 (.inl (.int, 17400)) = .inl (g 131, 17400, .inl (fun _ => 0)) := rfl
set_option maxRecDepth 100000 in
theorem eA_132 {f : Nat → Nat} {g : Nat → ClassId} : xm_e f g hh0 132 (.inl (.int, 17400)) = .inl (g 132, 17400, .inl (fun _ => 0)) := rfl
set_option maxRecDepth 100000 in
theorem eA_133 {f : Nat → Nat} {g : Nat → ClassId} : xm_e f g hh0 133 (.inl (.int, 17400)) = .inl (g 133, 17400, .inl (fun _ => 0)) := rfl
set_option maxRecDepth 100000 in
theorem eA_134 {f : Nat → Nat} {g : Nat → ClassId} : xm_e f g hh0 134 (.inl (.int, 17400)) = .inl (g 134, 17400, .inl (fun _ => 0)) := rfl
set_option maxRecDepth 100000 in
theorem eA_135 {f : Nat → Nat} {g : Nat → ClassId} : xm_e f g hh0 135 (.inl (.int, 17400)) = .inl (g 135, 17400, .inl (fun _ => 0)) := rfl
set_option maxRecDepth 100000 in
theorem eA_136 {f : Nat → Nat} {g : Nat → ClassId} : xm_e f g hh0 136 (.inl (.int, 4096)) = .inl (g 136, 4096, .inl (fun _ => 0)) := rfl
set_option maxRecDepth 100000 in
theorem eA_137 {f : Nat → Nat} {g : Nat → ClassId} : xm_e f g hh0 137 (.inl (.int, 25600)) = .inl (g 137, 25600, .inl (fun _ => 0)) := rfl
set_option maxRecDepth 100000 in
theorem eA_138 {f : Nat → Nat} {g : Nat → ClassId} : xm_e f g hh0 138 (.inl (.int, 14200)) = .inl (g 138, 14200, .inl (fun _ => 0)) := rfl
set_option maxRecDepth 100000 in
theorem eA_139 {f : Nat → Nat} {g : Nat → ClassId} : xm_e f g hh0 139 (.inl (.int, 14200)) = .inl (g 139, 14200, .inl (fun _ => 0)) := rfl
set_option maxRecDepth 100000 in
theorem eA_140 {f : Nat → Nat} {g : Nat → ClassId} : xm_e f g hh0 140 (.inl (.int, 14200)) = .inl (g 140, 14200, .inl (fun _ => 0)) := rfl
set_option maxRecDepth 100000 in
theorem eA_141 {f : Nat → Nat} {g : Nat → ClassId} : xm_e f g hh0 141 (.inl (.int, 14200)) = .inl (g 141, 14200, .inl (fun _ => 0)) := rfl
set_option maxRecDepth 100000 in
theorem eA_142 {f : Nat → Nat} {g : Nat → ClassId} : xm_e f g hh0 142 (.inl (.int, 14200)) = .inl (g 142, 14200, .inl (fun _ => 0)) := rfl
set_option maxRecDepth 100000 in
theorem eA_143 {f : Nat → Nat} {g : Nat → ClassId} : xm_e f g hh0 143 (.inl (.int, 57000)) = .inl (g 143, 57000, .inl (fun _ => 0)) := rfl
set_option maxRecDepth 100000 in
theorem eA_144 {f : Nat → Nat} {g : Nat → ClassId} : xm_e f g hh0 144 (.inl (.int, 9)) = .inl (g 144, 9, .inl (fun _ => 0)) := rfl
set_option maxRecDepth 100000 in
theorem eA_145 {f : Nat → Nat} {g : Nat → ClassId} : xm_e f g hh0 145 (.inl (.byte, 824000)) = .inl (g 145, 824000, .inl (fun _ => 0)) := rfl
set_option maxRecDepth 100000 in
theorem eA_147 {f : Nat → Nat} {g : Nat → ClassId} : xm_e f g hh0 147 (.inl (.int, 8200)) = .inl (g 147, 8200, .inl (fun _ => 0)) := rfl
set_option maxRecDepth 100000 in
theorem eA_148 {f : Nat → Nat} {g : Nat → ClassId} : xm_e f g hh0 148 (.inl (.int, 8)) = .inl (g 148, 8, .inl (fun _ => 0)) := rfl
set_option maxRecDepth 100000 in
theorem eA_149 {f : Nat → Nat} {g : Nat → ClassId} : xm_e f g hh0 149 (.inl (.int, 64)) = .inl (g 149, 64, .inl (fun _ => 0)) := rfl
set_option maxRecDepth 100000 in
theorem eA_150 {f : Nat → Nat} {g : Nat → ClassId} : xm_e f g hh0 150 (.inl (.int, 8)) = .inl (g 150, 8, .inl (fun _ => 0)) := rfl
set_option maxRecDepth 100000 in
theorem eA_151 {f : Nat → Nat} {g : Nat → ClassId} : xm_e f g hh0 151 (.inl (.int, 400)) = .inl (g 151, 400, .inl (fun _ => 0)) := rfl
set_option maxRecDepth 100000 in
theorem eA_152 {f : Nat → Nat} {g : Nat → ClassId} : xm_e f g hh0 152 (.inl (.int, 400)) = .inl (g 152, 400, .inl (fun _ => 0)) := rfl
set_option maxRecDepth 100000 in
theorem eA_153 {f : Nat → Nat} {g : Nat → ClassId} : xm_e f g hh0 153 (.inl (.int, 402)) = .inl (g 153, 402, .inl (fun _ => 0)) := rfl
set_option maxRecDepth 100000 in
theorem eA_154 {f : Nat → Nat} {g : Nat → ClassId} : xm_e f g hh0 154 (.inl (.int, 402)) = .inl (g 154, 402, .inl (fun _ => 0)) := rfl
set_option maxRecDepth 100000 in
theorem eA_155 {f : Nat → Nat} {g : Nat → ClassId} : xm_e f g hh0 155 (.inl (.int, 402)) = .inl (g 155, 402, .inl (fun _ => 0)) := rfl
set_option maxRecDepth 100000 in
theorem eA_156 {f : Nat → Nat} {g : Nat → ClassId} : xm_e f g hh0 156 (.inl (.int, 402)) = .inl (g 156, 402, .inl (fun _ => 0)) := rfl
set_option maxRecDepth 100000 in
theorem eA_157 {f : Nat → Nat} {g : Nat → ClassId} : xm_e f g hh0 157 (.inl (.long, 4100)) = .inl (g 157, 4100, .inr (.inl (fun _ => 0))) := rfl
set_option maxRecDepth 100000 in
theorem eA_158 {f : Nat → Nat} {g : Nat → ClassId} : xm_e f g hh0 158 (.inl (.int, 4100)) = .inl (g 158, 4100, .inl (fun _ => 0)) := rfl
set_option maxRecDepth 100000 in
theorem eA_159 {f : Nat → Nat} {g : Nat → ClassId} : xm_e f g hh0 159 (.inl (.int, 8200)) = .inl (g 159, 8200, .inl (fun _ => 0)) := rfl
set_option maxRecDepth 100000 in
theorem eA_160 {f : Nat → Nat} {g : Nat → ClassId} : xm_e f g hh0 160 (.inl (.int, 8200)) = .inl (g 160, 8200, .inl (fun _ => 0)) := rfl
set_option maxRecDepth 100000 in
theorem eA_161 {f : Nat → Nat} {g : Nat → ClassId} : xm_e f g hh0 161 (.inl (.int, 2000)) = .inl (g 161, 2000, .inl (fun _ => 0)) := rfl
set_option maxRecDepth 100000 in
theorem eA_162 {f : Nat → Nat} {g : Nat → ClassId} : xm_e f g hh0 162 (.inl (.int, 10)) = .inl (g 162, 10, .inl (fun _ => 0)) := rfl
set_option maxRecDepth 100000 in
theorem shA_x : shA = (.inr (11, 17) :: .inr (8, 4) :: .inl (.byte, 8192) :: .inr (8, 4) :: .inl (.byte, 8192) :: .inr (8, 4) :: .inl (.byte, 8192) :: .inr (5, 10) :: .inl (.int, 2000) :: .inl (.int, 2000) :: .inl (.int, 2000) :: .inl (.int, 2000) :: .inl (.int, 2000) :: .inl (.int, 2000) :: .inl (.int, 1024) :: .inr (1, 8) :: .inl (.int, 14032) :: .inl (.int, 14032) :: .inl (.int, 14032) :: .inl (.int, 14032) :: .inl (.int, 14032) :: .inl (.int, 28064) :: .inr (0, 10) :: .inl (.int, 8000) :: .inl (.int, 8000) :: .inl (.int, 8000) :: .inl (.int, 8000) :: .inl (.int, 8000) :: .inl (.int, 168) :: .inl (.int, 8000) :: .inl (.int, 8000) :: .inl (.int, 189) :: .inr (4, 17) :: .inl (.long, 13122) :: .inl (.int, 1600) :: .inl (.int, 1600) :: .inl (.int, 1600) :: .inl (.int, 1600) :: .inl (.int, 1600) :: .inr (2, 10) :: .inr (7, 7) :: .inl (.int, 3200) :: .inl (.int, 22656) :: .inl (.int, 128) :: .inl (.int, 64) :: .inr (3, 6) :: .inr (9, 17) :: .inl (.int, 8192) :: .inl (.long, 4096) :: .inl (.int, 4096) :: .inl (.int, 4096) :: .inl (.int, 512) :: .inr (6, 16) :: .inl (.int, 2000) :: .inl (.int, 2000) :: .inl (.int, 2000) :: .inl (.int, 2000) :: .inl (.int, 2000) :: .inl (.int, 2000) :: .inl (.int, 2000) :: .inl (.int, 400) :: .inl (.int, 400) :: .inl (.int, 400) :: .inl (.int, 2048) :: .inr (8, 4) :: .inl (.byte, 8192) :: .inr (10, 12) :: .inl (.int, 14032) :: .inl (.int, 14032) :: .inl (.int, 14032) :: .inl (.int, 14032) :: .inl (.int, 14032) :: .inl (.boolean, 14032) :: .inl (.int, 14032) :: .inl (.int, 14032) :: .inl (.int, 2048) :: .inl (.int, 14048) :: .inr (6, 16) :: .inl (.int, 2000) :: .inl (.int, 2000) :: .inl (.int, 2000) :: .inl (.int, 2000) :: .inl (.int, 2000) :: .inl (.int, 2000) :: .inl (.int, 2000) :: .inl (.int, 400) :: .inl (.int, 400) :: .inl (.int, 400) :: .inl (.int, 2048) :: .inr (8, 4) :: .inl (.byte, 8192) :: .inr (10, 12) :: .inl (.int, 14032) :: .inl (.int, 14032) :: .inl (.int, 14032) :: .inl (.int, 14032) :: .inl (.int, 14032) :: .inl (.boolean, 14032) :: .inl (.int, 14032) :: .inl (.int, 14032) :: .inl (.int, 2048) :: .inl (.int, 14048) :: []) := rfl
set_option maxRecDepth 100000 in
theorem wA {f : Nat → Nat} {g : Nat → ClassId} : xm_wr f g hh0 0 shA = ((f 0, .inr (11, [.ref (f 1), .ref (f 3), .ref (f 5), .ref (f 7), .ref (f 22), .ref (f 32), .ref (f 40), .ref (f 45), .ref (f 46), .ref (f 52), .ref (f 77), .int 0, .int 0, .int 0, .int 0, .int 0, .int 0])) :: (f 1, .inr (8, [.ref (f 2), .int 0, .int 0, .int 0])) :: (f 2, .inl (g 2, 8192, .inl (fun _ => 0))) :: (f 3, .inr (8, [.ref (f 4), .int 0, .int 0, .int 0])) :: (f 4, .inl (g 4, 8192, .inl (fun _ => 0))) :: (f 5, .inr (8, [.ref (f 6), .int 0, .int 0, .int 0])) :: (f 6, .inl (g 6, 8192, .inl (fun _ => 0))) :: (f 7, .inr (5, [.ref (f 8), .ref (f 9), .int 0, .ref (f 10), .ref (f 11), .ref (f 12), .ref (f 13), .ref (f 14), .ref (f 15), .int 0])) :: (f 8, .inl (g 8, 2000, .inl (fun _ => 0))) :: (f 9, .inl (g 9, 2000, .inl (fun _ => 0))) :: (f 10, .inl (g 10, 2000, .inl (fun _ => 0))) :: (f 11, .inl (g 11, 2000, .inl (fun _ => 0))) :: (f 12, .inl (g 12, 2000, .inl (fun _ => 0))) :: (f 13, .inl (g 13, 2000, .inl (fun _ => 0))) :: (f 14, .inl (g 14, 1024, .inl (fun _ => 0))) :: (f 15, .inr (1, [.ref (f 16), .ref (f 17), .ref (f 18), .ref (f 19), .ref (f 20), .ref (f 21), .int 0, .int 0])) :: (f 16, .inl (g 16, 14032, .inl fdK)) :: (f 17, .inl (g 17, 14032, .inl fdL)) :: (f 18, .inl (g 18, 14032, .inl fdR)) :: (f 19, .inl (g 19, 14032, .inl (fun _ => 0))) :: (f 20, .inl (g 20, 14032, .inl (fun _ => 0))) :: (f 21, .inl (g 21, 28064, .inl (fun _ => 0))) :: (f 22, .inr (0, [.ref (f 23), .ref (f 24), .ref (f 25), .ref (f 26), .ref (f 27), .ref (f 28), .ref (f 29), .ref (f 30), .ref (f 31), .int 400])) :: (f 23, .inl (g 23, 8000, .inl (fun _ => 0))) :: (f 24, .inl (g 24, 8000, .inl (fun _ => 0))) :: (f 25, .inl (g 25, 8000, .inl (fun _ => 0))) :: (f 26, .inl (g 26, 8000, .inl (fun _ => 0))) :: (f 27, .inl (g 27, 8000, .inl (fun _ => 0))) :: (f 28, .inl (g 28, 168, .inl (fun _ => 0))) :: (f 29, .inl (g 29, 8000, .inl (fun _ => 0))) :: (f 30, .inl (g 30, 8000, .inl (fun _ => 0))) :: (f 31, .inl (g 31, 189, .inl (fun _ => 0))) :: (f 32, .inr (4, [.int 0, .int 0, .ref (f 22), .ref (f 39), .ref (f 33), .ref (f 34), .ref (f 35), .ref (f 36), .ref (f 37), .ref (f 38), .int 0, .int 0, .int 0, .int 0, .int 0, .int 0, .long 0])) :: (f 33, .inl (g 33, 13122, .inr (.inl (fun _ => 0)))) :: (f 34, .inl (g 34, 1600, .inl (fun _ => 0))) :: (f 35, .inl (g 35, 1600, .inl (fun _ => 0))) :: (f 36, .inl (g 36, 1600, .inl (fun _ => 0))) :: (f 37, .inl (g 37, 1600, .inl (fun _ => 0))) :: (f 38, .inl (g 38, 1600, .inl (fun _ => 0))) :: (f 39, .inr (2, [.int 0, .long 0, .int 0, .long 0, .long 0, .long 0, .long 0, .long 0, .long 0, .long 0])) :: (f 40, .inr (7, [.ref (f 41), .ref (f 42), .ref (f 43), .ref (f 44), .int 0, .int 0, .int 0])) :: (f 41, .inl (g 41, 3200, .inl (fun _ => 0))) :: (f 42, .inl (g 42, 22656, .inl (fun _ => 0))) :: (f 43, .inl (g 43, 128, .inl (fun _ => 0))) :: (f 44, .inl (g 44, 64, .inl (fun _ => 0))) :: (f 45, .inr (3, [.ref (f 7), .null, .null, .int 0, .int 0, .int 0])) :: (f 46, .inr (9, [.int 0, .ref (f 7), .ref (f 47), .ref (f 48), .ref (f 49), .ref (f 50), .ref (f 51), .int 0, .int 0, .null, .null, .int 0, .int 0, .int 0, .long 0, .int 0, .int 0])) :: (f 47, .inl (g 47, 8192, .inl (fun _ => 0))) :: (f 48, .inl (g 48, 4096, .inr (.inl (fun _ => 0)))) :: (f 49, .inl (g 49, 4096, .inl (fun _ => 0))) :: (f 50, .inl (g 50, 4096, .inl (fun _ => 0))) :: (f 51, .inl (g 51, 512, .inl (fun _ => 0))) :: (f 52, .inr (6, [.int 0, .ref (f 53), .ref (f 54), .ref (f 55), .ref (f 56), .ref (f 57), .ref (f 58), .ref (f 59), .ref (f 60), .ref (f 61), .ref (f 62), .ref (f 63), .ref (f 64), .ref (f 66), .int 0, .int 0])) :: (f 53, .inl (g 53, 2000, .inl (fun _ => 0))) :: (f 54, .inl (g 54, 2000, .inl (fun _ => 0))) :: (f 55, .inl (g 55, 2000, .inl (fun _ => 0))) :: (f 56, .inl (g 56, 2000, .inl (fun _ => 0))) :: (f 57, .inl (g 57, 2000, .inl (fun _ => 0))) :: (f 58, .inl (g 58, 2000, .inl (fun _ => 0))) :: (f 59, .inl (g 59, 2000, .inl (fun _ => 0))) :: (f 60, .inl (g 60, 400, .inl (fun _ => 0))) :: (f 61, .inl (g 61, 400, .inl (fun _ => 0))) :: (f 62, .inl (g 62, 400, .inl (fun _ => 0))) :: (f 63, .inl (g 63, 2048, .inl (fun _ => 0))) :: (f 64, .inr (8, [.ref (f 65), .int 0, .int 0, .int 0])) :: (f 65, .inl (g 65, 8192, .inl (fun _ => 0))) :: (f 66, .inr (10, [.int 0, .ref (f 67), .ref (f 68), .ref (f 69), .ref (f 70), .ref (f 71), .ref (f 72), .ref (f 73), .ref (f 74), .ref (f 75), .ref (f 76), .int 0])) :: (f 67, .inl (g 67, 14032, .inl (fun _ => 0))) :: (f 68, .inl (g 68, 14032, .inl (fun _ => 0))) :: (f 69, .inl (g 69, 14032, .inl (fun _ => 0))) :: (f 70, .inl (g 70, 14032, .inl (fun _ => 0))) :: (f 71, .inl (g 71, 14032, .inl (fun _ => 0))) :: (f 72, .inl (g 72, 14032, .inl (fun _ => 0))) :: (f 73, .inl (g 73, 14032, .inl (fun _ => 0))) :: (f 74, .inl (g 74, 14032, .inl (fun _ => 0))) :: (f 75, .inl (g 75, 2048, .inl (fun _ => 0))) :: (f 76, .inl (g 76, 14048, .inl (fun _ => 0))) :: (f 77, .inr (6, [.int 0, .ref (f 78), .ref (f 79), .ref (f 80), .ref (f 81), .ref (f 82), .ref (f 83), .ref (f 84), .ref (f 85), .ref (f 86), .ref (f 87), .ref (f 88), .ref (f 89), .ref (f 91), .int 0, .int 0])) :: (f 78, .inl (g 78, 2000, .inl (fun _ => 0))) :: (f 79, .inl (g 79, 2000, .inl (fun _ => 0))) :: (f 80, .inl (g 80, 2000, .inl (fun _ => 0))) :: (f 81, .inl (g 81, 2000, .inl (fun _ => 0))) :: (f 82, .inl (g 82, 2000, .inl (fun _ => 0))) :: (f 83, .inl (g 83, 2000, .inl (fun _ => 0))) :: (f 84, .inl (g 84, 2000, .inl (fun _ => 0))) :: (f 85, .inl (g 85, 400, .inl (fun _ => 0))) :: (f 86, .inl (g 86, 400, .inl (fun _ => 0))) :: (f 87, .inl (g 87, 400, .inl (fun _ => 0))) :: (f 88, .inl (g 88, 2048, .inl (fun _ => 0))) :: (f 89, .inr (8, [.ref (f 90), .int 0, .int 0, .int 0])) :: (f 90, .inl (g 90, 8192, .inl (fun _ => 0))) :: (f 91, .inr (10, [.int 0, .ref (f 92), .ref (f 93), .ref (f 94), .ref (f 95), .ref (f 96), .ref (f 97), .ref (f 98), .ref (f 99), .ref (f 100), .ref (f 101), .int 0])) :: (f 92, .inl (g 92, 14032, .inl (fun _ => 0))) :: (f 93, .inl (g 93, 14032, .inl (fun _ => 0))) :: (f 94, .inl (g 94, 14032, .inl (fun _ => 0))) :: (f 95, .inl (g 95, 14032, .inl (fun _ => 0))) :: (f 96, .inl (g 96, 14032, .inl (fun _ => 0))) :: (f 97, .inl (g 97, 14032, .inl (fun _ => 0))) :: (f 98, .inl (g 98, 14032, .inl (fun _ => 0))) :: (f 99, .inl (g 99, 14032, .inl (fun _ => 0))) :: (f 100, .inl (g 100, 2048, .inl (fun _ => 0))) :: (f 101, .inl (g 101, 14048, .inl (fun _ => 0))) :: []) := by
  rw [shA_x]
  simp only [xm_wr, Nat.reduceAdd, Nat.zero_add, eA_0, eA_1, eA_2, eA_3, eA_4, eA_5, eA_6, eA_7, eA_8, eA_9, eA_10, eA_11, eA_12, eA_13, eA_14, eA_15, eA_16, eA_17, eA_18, eA_19, eA_20, eA_21, eA_22, eA_23, eA_24, eA_25, eA_26, eA_27, eA_28, eA_29, eA_30, eA_31, eA_32, eA_33, eA_34, eA_35, eA_36, eA_37, eA_38, eA_39, eA_40, eA_41, eA_42, eA_43, eA_44, eA_45, eA_46, eA_47, eA_48, eA_49, eA_50, eA_51, eA_52, eA_53, eA_54, eA_55, eA_56, eA_57, eA_58, eA_59, eA_60, eA_61, eA_62, eA_63, eA_64, eA_65, eA_66, eA_67, eA_68, eA_69, eA_70, eA_71, eA_72, eA_73, eA_74, eA_75, eA_76, eA_77, eA_78, eA_79, eA_80, eA_81, eA_82, eA_83, eA_84, eA_85, eA_86, eA_87, eA_88, eA_89, eA_90, eA_91, eA_92, eA_93, eA_94, eA_95, eA_96, eA_97, eA_98, eA_99, eA_100, eA_101]
set_option maxRecDepth 100000 in
theorem tA {g : Nat → ClassId} : xm_tr g 0 shA = ((g 2, .byte) :: (g 4, .byte) :: (g 6, .byte) :: (g 8, .int) :: (g 9, .int) :: (g 10, .int) :: (g 11, .int) :: (g 12, .int) :: (g 13, .int) :: (g 14, .int) :: (g 16, .int) :: (g 17, .int) :: (g 18, .int) :: (g 19, .int) :: (g 20, .int) :: (g 21, .int) :: (g 23, .int) :: (g 24, .int) :: (g 25, .int) :: (g 26, .int) :: (g 27, .int) :: (g 28, .int) :: (g 29, .int) :: (g 30, .int) :: (g 31, .int) :: (g 33, .long) :: (g 34, .int) :: (g 35, .int) :: (g 36, .int) :: (g 37, .int) :: (g 38, .int) :: (g 41, .int) :: (g 42, .int) :: (g 43, .int) :: (g 44, .int) :: (g 47, .int) :: (g 48, .long) :: (g 49, .int) :: (g 50, .int) :: (g 51, .int) :: (g 53, .int) :: (g 54, .int) :: (g 55, .int) :: (g 56, .int) :: (g 57, .int) :: (g 58, .int) :: (g 59, .int) :: (g 60, .int) :: (g 61, .int) :: (g 62, .int) :: (g 63, .int) :: (g 65, .byte) :: (g 67, .int) :: (g 68, .int) :: (g 69, .int) :: (g 70, .int) :: (g 71, .int) :: (g 72, .boolean) :: (g 73, .int) :: (g 74, .int) :: (g 75, .int) :: (g 76, .int) :: (g 78, .int) :: (g 79, .int) :: (g 80, .int) :: (g 81, .int) :: (g 82, .int) :: (g 83, .int) :: (g 84, .int) :: (g 85, .int) :: (g 86, .int) :: (g 87, .int) :: (g 88, .int) :: (g 90, .byte) :: (g 92, .int) :: (g 93, .int) :: (g 94, .int) :: (g 95, .int) :: (g 96, .int) :: (g 97, .boolean) :: (g 98, .int) :: (g 99, .int) :: (g 100, .int) :: (g 101, .int) :: []) := by
  rw [shA_x]
  simp only [xm_tr, xm_t1, Nat.reduceAdd, Nat.zero_add, List.nil_append, List.cons_append]
set_option maxRecDepth 100000 in
theorem shB_x : shB = (.inr (12, 94) :: .inl (.int, 8192) :: .inl (.int, 8192) :: .inl (.int, 2000) :: .inl (.int, 2000) :: .inl (.int, 2000) :: .inl (.int, 2000) :: .inl (.int, 2000) :: .inl (.int, 16000) :: .inl (.int, 2000) :: .inl (.int, 2000) :: .inl (.int, 2000) :: .inl (.boolean, 2000) :: .inl (.int, 40000) :: .inl (.int, 40000) :: .inl (.int, 400) :: .inl (.int, 400) :: .inl (.int, 400) :: .inl (.int, 400) :: .inl (.int, 3200) :: .inl (.int, 400) :: .inl (.int, 400) :: .inl (.int, 3200) :: .inl (.long, 400) :: .inl (.long, 400) :: .inl (.long, 400) :: .inl (.int, 8192) :: .inl (.int, 17400) :: .inl (.int, 17400) :: .inl (.int, 17400) :: .inl (.int, 17400) :: .inl (.int, 17400) :: .inl (.int, 17400) :: .inl (.int, 17400) :: .inl (.int, 4096) :: .inl (.int, 25600) :: .inl (.int, 14200) :: .inl (.int, 14200) :: .inl (.int, 14200) :: .inl (.int, 14200) :: .inl (.int, 14200) :: .inl (.int, 57000) :: .inl (.int, 9) :: .inl (.byte, 824000) :: .inl (.long, 14) :: .inl (.int, 8200) :: .inl (.int, 8) :: .inl (.int, 64) :: .inl (.int, 8) :: .inl (.int, 400) :: .inl (.int, 400) :: .inl (.int, 402) :: .inl (.int, 402) :: .inl (.int, 402) :: .inl (.int, 402) :: .inl (.long, 4100) :: .inl (.int, 4100) :: .inl (.int, 8200) :: .inl (.int, 8200) :: .inl (.int, 2000) :: .inl (.int, 10) :: []) := rfl
set_option maxRecDepth 100000 in
theorem wB {f : Nat → Nat} {g : Nat → ClassId} : xm_wr f g hh0 102 shB = ((f 102, .inr (12, [.int 0, .ref (f 103), .int 0, .ref (f 104), .int 0, .int 0, .ref (f 105), .ref (f 106), .ref (f 107), .ref (f 108), .ref (f 109), .ref (f 110), .ref (f 111), .ref (f 112), .int 0, .ref (f 113), .ref (f 114), .ref (f 115), .ref (f 116), .int 0, .ref (f 117), .ref (f 118), .ref (f 119), .ref (f 120), .ref (f 121), .ref (f 122), .ref (f 123), .ref (f 124), .ref (f 125), .ref (f 126), .ref (f 127), .ref (f 128), .int 0, .int 0, .int 0, .int 0, .int 0, .long 0, .long 0, .long 0, .int 0, .ref (f 129), .ref (f 130), .ref (f 131), .ref (f 132), .ref (f 133), .ref (f 134), .ref (f 135), .ref (f 136), .ref (f 137), .int 0, .ref (f 138), .ref (f 139), .ref (f 140), .ref (f 141), .ref (f 142), .ref (f 143), .ref (f 144), .ref (f 145), .ref (f 146), .ref (f 147), .int 0, .ref (f 148), .ref (f 149), .ref (f 150), .int 0, .int 0, .int 0, .ref (f 151), .ref (f 152), .ref (f 153), .ref (f 154), .ref (f 155), .ref (f 156), .int 0, .int 0, .long 0, .long 0, .long 0, .long 0, .long 0, .int 0, .int 0, .int 0, .int 0, .int 0, .ref (f 157), .ref (f 158), .int 0, .ref (f 159), .ref (f 160), .ref (f 161), .int 0, .ref (f 162)])) :: (f 103, .inl (g 103, 8192, .inl (fun _ => 0))) :: (f 104, .inl (g 104, 8192, .inl (fun _ => 0))) :: (f 105, .inl (g 105, 2000, .inl (fun _ => 0))) :: (f 106, .inl (g 106, 2000, .inl (fun _ => 0))) :: (f 107, .inl (g 107, 2000, .inl (fun _ => 0))) :: (f 108, .inl (g 108, 2000, .inl (fun _ => 0))) :: (f 109, .inl (g 109, 2000, .inl (fun _ => 0))) :: (f 110, .inl (g 110, 16000, .inl (fun _ => 0))) :: (f 111, .inl (g 111, 2000, .inl (fun _ => 0))) :: (f 112, .inl (g 112, 2000, .inl (fun _ => 0))) :: (f 113, .inl (g 113, 2000, .inl (fun _ => 0))) :: (f 114, .inl (g 114, 2000, .inl (fun _ => 0))) :: (f 115, .inl (g 115, 40000, .inl (fun _ => 0))) :: (f 116, .inl (g 116, 40000, .inl (fun _ => 0))) :: (f 117, .inl (g 117, 400, .inl (fun _ => 0))) :: (f 118, .inl (g 118, 400, .inl (fun _ => 0))) :: (f 119, .inl (g 119, 400, .inl (fun _ => 0))) :: (f 120, .inl (g 120, 400, .inl (fun _ => 0))) :: (f 121, .inl (g 121, 3200, .inl (fun _ => 0))) :: (f 122, .inl (g 122, 400, .inl (fun _ => 0))) :: (f 123, .inl (g 123, 400, .inl (fun _ => 0))) :: (f 124, .inl (g 124, 3200, .inl (fun _ => 0))) :: (f 125, .inl (g 125, 400, .inr (.inl (fun _ => 0)))) :: (f 126, .inl (g 126, 400, .inr (.inl (fun _ => 0)))) :: (f 127, .inl (g 127, 400, .inr (.inl (fun _ => 0)))) :: (f 128, .inl (g 128, 8192, .inl (fun _ => 0))) :: (f 129, .inl (g 129, 17400, .inl (fun _ => 0))) :: (f 130, .inl (g 130, 17400, .inl (fun _ => 0))) :: (f 131, .inl (g 131, 17400, .inl (fun _ => 0))) :: (f 132, .inl (g 132, 17400, .inl (fun _ => 0))) :: (f 133, .inl (g 133, 17400, .inl (fun _ => 0))) :: (f 134, .inl (g 134, 17400, .inl (fun _ => 0))) :: (f 135, .inl (g 135, 17400, .inl (fun _ => 0))) :: (f 136, .inl (g 136, 4096, .inl (fun _ => 0))) :: (f 137, .inl (g 137, 25600, .inl (fun _ => 0))) :: (f 138, .inl (g 138, 14200, .inl (fun _ => 0))) :: (f 139, .inl (g 139, 14200, .inl (fun _ => 0))) :: (f 140, .inl (g 140, 14200, .inl (fun _ => 0))) :: (f 141, .inl (g 141, 14200, .inl (fun _ => 0))) :: (f 142, .inl (g 142, 14200, .inl (fun _ => 0))) :: (f 143, .inl (g 143, 57000, .inl (fun _ => 0))) :: (f 144, .inl (g 144, 9, .inl (fun _ => 0))) :: (f 145, .inl (g 145, 824000, .inl (fun _ => 0))) :: (f 146, .inl (g 146, 14, .inr (.inl (tgT 74)))) :: (f 147, .inl (g 147, 8200, .inl (fun _ => 0))) :: (f 148, .inl (g 148, 8, .inl (fun _ => 0))) :: (f 149, .inl (g 149, 64, .inl (fun _ => 0))) :: (f 150, .inl (g 150, 8, .inl (fun _ => 0))) :: (f 151, .inl (g 151, 400, .inl (fun _ => 0))) :: (f 152, .inl (g 152, 400, .inl (fun _ => 0))) :: (f 153, .inl (g 153, 402, .inl (fun _ => 0))) :: (f 154, .inl (g 154, 402, .inl (fun _ => 0))) :: (f 155, .inl (g 155, 402, .inl (fun _ => 0))) :: (f 156, .inl (g 156, 402, .inl (fun _ => 0))) :: (f 157, .inl (g 157, 4100, .inr (.inl (fun _ => 0)))) :: (f 158, .inl (g 158, 4100, .inl (fun _ => 0))) :: (f 159, .inl (g 159, 8200, .inl (fun _ => 0))) :: (f 160, .inl (g 160, 8200, .inl (fun _ => 0))) :: (f 161, .inl (g 161, 2000, .inl (fun _ => 0))) :: (f 162, .inl (g 162, 10, .inl (fun _ => 0))) :: []) := by
  rw [shB_x]
  simp only [xm_wr, Nat.reduceAdd, Nat.zero_add, eA_102, eA_103, eA_104, eA_105, eA_106, eA_107, eA_108, eA_109, eA_110, eA_111, eA_112, eA_113, eA_114, eA_115, eA_116, eA_117, eA_118, eA_119, eA_120, eA_121, eA_122, eA_123, eA_124, eA_125, eA_126, eA_127, eA_128, eA_129, eA_130, eA_131, eA_132, eA_133, eA_134, eA_135, eA_136, eA_137, eA_138, eA_139, eA_140, eA_141, eA_142, eA_143, eA_144, eA_145, eA_146, eA_147, eA_148, eA_149, eA_150, eA_151, eA_152, eA_153, eA_154, eA_155, eA_156, eA_157, eA_158, eA_159, eA_160, eA_161, eA_162]
set_option maxRecDepth 100000 in
theorem tB {g : Nat → ClassId} : xm_tr g 102 shB = ((g 103, .int) :: (g 104, .int) :: (g 105, .int) :: (g 106, .int) :: (g 107, .int) :: (g 108, .int) :: (g 109, .int) :: (g 110, .int) :: (g 111, .int) :: (g 112, .int) :: (g 113, .int) :: (g 114, .boolean) :: (g 115, .int) :: (g 116, .int) :: (g 117, .int) :: (g 118, .int) :: (g 119, .int) :: (g 120, .int) :: (g 121, .int) :: (g 122, .int) :: (g 123, .int) :: (g 124, .int) :: (g 125, .long) :: (g 126, .long) :: (g 127, .long) :: (g 128, .int) :: (g 129, .int) :: (g 130, .int) :: (g 131, .int) :: (g 132, .int) :: (g 133, .int) :: (g 134, .int) :: (g 135, .int) :: (g 136, .int) :: (g 137, .int) :: (g 138, .int) :: (g 139, .int) :: (g 140, .int) :: (g 141, .int) :: (g 142, .int) :: (g 143, .int) :: (g 144, .int) :: (g 145, .byte) :: (g 146, .long) :: (g 147, .int) :: (g 148, .int) :: (g 149, .int) :: (g 150, .int) :: (g 151, .int) :: (g 152, .int) :: (g 153, .int) :: (g 154, .int) :: (g 155, .int) :: (g 156, .int) :: (g 157, .long) :: (g 158, .int) :: (g 159, .int) :: (g 160, .int) :: (g 161, .int) :: (g 162, .int) :: []) := by
  rw [shB_x]
  simp only [xm_tr, xm_t1, Nat.reduceAdd, Nat.zero_add, List.nil_append, List.cons_append]
