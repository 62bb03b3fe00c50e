/- method 77: X4_await -/
def b_X4_await_0 : List (Nat × Jvm.ClassFile.Instr × Nat) := [(0, .aload_n 0, 1), (1, .getfield 92, 3), (4, .sipush 1600, 3), (7, .if_icmp .ge 65, 3)]
set_option maxRecDepth 20000 in
theorem k_X4_await_0 {sc : xm_Sc} : xm_bok (xe_cy (XE sc) 77) b_X4_await_0 := by show xm_bok cX4_await _; unfold xm_bok; decide +kernel
def b_X4_await_10 : List (Nat × Jvm.ClassFile.Instr × Nat) := [(10, .aload_n 0, 1), (11, .getfield 22, 3), (14, .aload_n 0, 1), (15, .getfield 92, 3), (18, .iload_n 1, 1), (19, .iastore, 1), (20, .aload_n 0, 1), (21, .getfield 26, 3), (24, .aload_n 0, 1), (25, .getfield 92, 3), (28, .iload_n 2, 1), (29, .iastore, 1), (30, .aload_n 0, 1), (31, .getfield 29, 3), (34, .aload_n 0, 1), (35, .getfield 92, 3), (38, .iload_n 3, 1), (39, .iastore, 1), (40, .aload_n 0, 1), (41, .getfield 32, 3), (44, .aload_n 0, 1), (45, .getfield 92, 3), (48, .iload 4, 2), (50, .iastore, 1), (51, .aload_n 0, 1), (52, .getfield 35, 3), (55, .aload_n 0, 1), (56, .getfield 92, 3), (59, .iload 5, 2), (61, .iastore, 1), (62, .aload_n 0, 1), (63, .dup, 1), (64, .getfield 92, 3), (67, .iconst 1, 1), (68, .iadd, 1), (69, .putfield 92, 3)]
set_option maxRecDepth 20000 in
theorem k_X4_await_10 {sc : xm_Sc} : xm_bok (xe_cy (XE sc) 77) b_X4_await_10 := by show xm_bok cX4_await _; unfold xm_bok; decide +kernel
def b_X4_await_72 : List (Nat × Jvm.ClassFile.Instr × Nat) := [(72, .return_, 1)]
set_option maxRecDepth 20000 in
theorem k_X4_await_72 {sc : xm_Sc} : xm_bok (xe_cy (XE sc) 77) b_X4_await_72 := by show xm_bok cX4_await _; unfold xm_bok; decide +kernel
set_option maxRecDepth 20000 in
theorem cn_77 {sc : xm_Sc} : xe_cn (XE sc) 77 = 4 := rfl
set_option maxRecDepth 20000 in
theorem ml_77 {sc : xm_Sc} : xe_ml (XE sc) 77 = 6 := rfl
set_option maxRecDepth 20000 in
theorem ry_77 {sc : xm_Sc} : xe_ry (XE sc) 77 = none := rfl
set_option maxRecDepth 20000 in
theorem is_77 {sc : xm_Sc} : xe_is (XE sc) 77 = false := rfl
set_option maxRecDepth 20000 in
theorem np_77 {sc : xm_Sc} : xe_np (XE sc) 77 = 5 := rfl
/- method 78: X4_clearCells -/
def b_X4_clearCells_0 : List (Nat × Jvm.ClassFile.Instr × Nat) := [(0, .iconst 0, 1), (1, .istore_n 3, 1)]
set_option maxRecDepth 20000 in
theorem k_X4_clearCells_0 {sc : xm_Sc} : xm_bok (xe_cy (XE sc) 78) b_X4_clearCells_0 := by show xm_bok cX4_clearCells _; unfold xm_bok; decide +kernel
def b_X4_clearCells_2 : List (Nat × Jvm.ClassFile.Instr × Nat) := [(2, .iload_n 3, 1), (3, .iload_n 2, 1), (4, .if_icmp .ge 33, 3)]
set_option maxRecDepth 20000 in
theorem k_X4_clearCells_2 {sc : xm_Sc} : xm_bok (xe_cy (XE sc) 78) b_X4_clearCells_2 := by show xm_bok cX4_clearCells _; unfold xm_bok; decide +kernel
def b_X4_clearCells_7 : List (Nat × Jvm.ClassFile.Instr × Nat) := [(7, .aload_n 0, 1), (8, .iload_n 1, 1), (9, .iload_n 3, 1), (10, .iadd, 1), (11, .iload_n 2, 1), (12, .iload_n 3, 1), (13, .isub, 1), (14, .bipush 64, 2), (16, .if_icmp .ge 9, 3)]
set_option maxRecDepth 20000 in
theorem k_X4_clearCells_7 {sc : xm_Sc} : xm_bok (xe_cy (XE sc) 78) b_X4_clearCells_7 := by show xm_bok cX4_clearCells _; unfold xm_bok; decide +kernel
def b_X4_clearCells_19 : List (Nat × Jvm.ClassFile.Instr × Nat) := [(19, .iload_n 2, 1), (20, .iload_n 3, 1), (21, .isub, 1), (22, .goto 5, 3)]
set_option maxRecDepth 20000 in
theorem k_X4_clearCells_19 {sc : xm_Sc} : xm_bok (xe_cy (XE sc) 78) b_X4_clearCells_19 := by show xm_bok cX4_clearCells _; unfold xm_bok; decide +kernel
def b_X4_clearCells_25 : List (Nat × Jvm.ClassFile.Instr × Nat) := [(25, .bipush 64, 2)]
set_option maxRecDepth 20000 in
theorem k_X4_clearCells_25 {sc : xm_Sc} : xm_bok (xe_cy (XE sc) 78) b_X4_clearCells_25 := by show xm_bok cX4_clearCells _; unfold xm_bok; decide +kernel
def b_X4_clearCells_27 : List (Nat × Jvm.ClassFile.Instr × Nat) := [(27, .lconst 0, 1), (28, .invokevirtual 66, 3)]
set_option maxRecDepth 20000 in
theorem k_X4_clearCells_27 {sc : xm_Sc} : xm_bok (xe_cy (XE sc) 78) b_X4_clearCells_27 := by show xm_bok cX4_clearCells _; unfold xm_bok; decide +kernel
def b_X4_clearCells_31 : List (Nat × Jvm.ClassFile.Instr × Nat) := [(31, .iinc 3 64, 3), (34, .goto (-32), 3)]
set_option maxRecDepth 20000 in
theorem k_X4_clearCells_31 {sc : xm_Sc} : xm_bok (xe_cy (XE sc) 78) b_X4_clearCells_31 := by show xm_bok cX4_clearCells _; unfold xm_bok; decide +kernel
def b_X4_clearCells_37 : List (Nat × Jvm.ClassFile.Instr × Nat) := [(37, .return_, 1)]
set_option maxRecDepth 20000 in
theorem k_X4_clearCells_37 {sc : xm_Sc} : xm_bok (xe_cy (XE sc) 78) b_X4_clearCells_37 := by show xm_bok cX4_clearCells _; unfold xm_bok; decide +kernel
set_option maxRecDepth 20000 in
theorem cn_78 {sc : xm_Sc} : xe_cn (XE sc) 78 = 4 := rfl
set_option maxRecDepth 20000 in
theorem ml_78 {sc : xm_Sc} : xe_ml (XE sc) 78 = 4 := rfl
set_option maxRecDepth 20000 in
theorem ry_78 {sc : xm_Sc} : xe_ry (XE sc) 78 = none := rfl
set_option maxRecDepth 20000 in
theorem is_78 {sc : xm_Sc} : xe_is (XE sc) 78 = false := rfl
set_option maxRecDepth 20000 in
theorem np_78 {sc : xm_Sc} : xe_np (XE sc) 78 = 2 := rfl
/- method 79: X4_copyCells -/
def b_X4_copyCells_0 : List (Nat × Jvm.ClassFile.Instr × Nat) := [(0, .iconst 0, 1), (1, .istore_n 2, 1)]
set_option maxRecDepth 20000 in
theorem k_X4_copyCells_0 {sc : xm_Sc} : xm_bok (xe_cy (XE sc) 79) b_X4_copyCells_0 := by show xm_bok cX4_copyCells _; unfold xm_bok; decide +kernel
def b_X4_copyCells_2 : List (Nat × Jvm.ClassFile.Instr × Nat) := [(2, .iload_n 2, 1), (3, .iload_n 1, 1), (4, .if_icmp .ge 48, 3)]
set_option maxRecDepth 20000 in
theorem k_X4_copyCells_2 {sc : xm_Sc} : xm_bok (xe_cy (XE sc) 79) b_X4_copyCells_2 := by show xm_bok cX4_copyCells _; unfold xm_bok; decide +kernel
def b_X4_copyCells_7 : List (Nat × Jvm.ClassFile.Instr × Nat) := [(7, .iload_n 1, 1), (8, .iload_n 2, 1), (9, .isub, 1), (10, .bipush 64, 2), (12, .if_icmp .ge 9, 3)]
set_option maxRecDepth 20000 in
theorem k_X4_copyCells_7 {sc : xm_Sc} : xm_bok (xe_cy (XE sc) 79) b_X4_copyCells_7 := by show xm_bok cX4_copyCells _; unfold xm_bok; decide +kernel
def b_X4_copyCells_15 : List (Nat × Jvm.ClassFile.Instr × Nat) := [(15, .iload_n 1, 1), (16, .iload_n 2, 1), (17, .isub, 1), (18, .goto 5, 3)]
set_option maxRecDepth 20000 in
theorem k_X4_copyCells_15 {sc : xm_Sc} : xm_bok (xe_cy (XE sc) 79) b_X4_copyCells_15 := by show xm_bok cX4_copyCells _; unfold xm_bok; decide +kernel
def b_X4_copyCells_21 : List (Nat × Jvm.ClassFile.Instr × Nat) := [(21, .bipush 64, 2)]
set_option maxRecDepth 20000 in
theorem k_X4_copyCells_21 {sc : xm_Sc} : xm_bok (xe_cy (XE sc) 79) b_X4_copyCells_21 := by show xm_bok cX4_copyCells _; unfold xm_bok; decide +kernel
def b_X4_copyCells_23 : List (Nat × Jvm.ClassFile.Instr × Nat) := [(23, .istore_n 3, 1), (24, .aload_n 0, 1), (25, .aload_n 0, 1), (26, .getfield 55, 3), (29, .iload_n 2, 1), (30, .iadd, 1), (31, .iload_n 3, 1), (32, .aload_n 0, 1), (33, .aload_n 0, 1), (34, .getfield 59, 3), (37, .iload_n 2, 1), (38, .iadd, 1), (39, .iload_n 3, 1), (40, .invokevirtual 62, 3)]
set_option maxRecDepth 20000 in
theorem k_X4_copyCells_23 {sc : xm_Sc} : xm_bok (xe_cy (XE sc) 79) b_X4_copyCells_23 := by show xm_bok cX4_copyCells _; unfold xm_bok; decide +kernel
def b_X4_copyCells_43 : List (Nat × Jvm.ClassFile.Instr × Nat) := [(43, .invokevirtual 66, 3)]
set_option maxRecDepth 20000 in
theorem k_X4_copyCells_43 {sc : xm_Sc} : xm_bok (xe_cy (XE sc) 79) b_X4_copyCells_43 := by show xm_bok cX4_copyCells _; unfold xm_bok; decide +kernel
def b_X4_copyCells_46 : List (Nat × Jvm.ClassFile.Instr × Nat) := [(46, .iinc 2 64, 3), (49, .goto (-47), 3)]
set_option maxRecDepth 20000 in
theorem k_X4_copyCells_46 {sc : xm_Sc} : xm_bok (xe_cy (XE sc) 79) b_X4_copyCells_46 := by show xm_bok cX4_copyCells _; unfold xm_bok; decide +kernel
def b_X4_copyCells_52 : List (Nat × Jvm.ClassFile.Instr × Nat) := [(52, .return_, 1)]
set_option maxRecDepth 20000 in
theorem k_X4_copyCells_52 {sc : xm_Sc} : xm_bok (xe_cy (XE sc) 79) b_X4_copyCells_52 := by show xm_bok cX4_copyCells _; unfold xm_bok; decide +kernel
set_option maxRecDepth 20000 in
theorem cn_79 {sc : xm_Sc} : xe_cn (XE sc) 79 = 4 := rfl
set_option maxRecDepth 20000 in
theorem ml_79 {sc : xm_Sc} : xe_ml (XE sc) 79 = 4 := rfl
set_option maxRecDepth 20000 in
theorem ry_79 {sc : xm_Sc} : xe_ry (XE sc) 79 = none := rfl
set_option maxRecDepth 20000 in
theorem is_79 {sc : xm_Sc} : xe_is (XE sc) 79 = false := rfl
set_option maxRecDepth 20000 in
theorem np_79 {sc : xm_Sc} : xe_np (XE sc) 79 = 1 := rfl
/- method 80: X4_copyWitness -/
def b_X4_copyWitness_0 : List (Nat × Jvm.ClassFile.Instr × Nat) := [(0, .iconst 0, 1), (1, .istore 4, 2)]
set_option maxRecDepth 20000 in
theorem k_X4_copyWitness_0 {sc : xm_Sc} : xm_bok (xe_cy (XE sc) 80) b_X4_copyWitness_0 := by show xm_bok cX4_copyWitness _; unfold xm_bok; decide +kernel
def b_X4_copyWitness_3 : List (Nat × Jvm.ClassFile.Instr × Nat) := [(3, .iload 4, 2), (5, .iload_n 3, 1), (6, .if_icmp .ge 82, 3)]
set_option maxRecDepth 20000 in
theorem k_X4_copyWitness_3 {sc : xm_Sc} : xm_bok (xe_cy (XE sc) 80) b_X4_copyWitness_3 := by show xm_bok cX4_copyWitness _; unfold xm_bok; decide +kernel
def b_X4_copyWitness_9 : List (Nat × Jvm.ClassFile.Instr × Nat) := [(9, .iload_n 3, 1), (10, .iload 4, 2), (12, .isub, 1), (13, .bipush 32, 2), (15, .if_icmp .ge 10, 3)]
set_option maxRecDepth 20000 in
theorem k_X4_copyWitness_9 {sc : xm_Sc} : xm_bok (xe_cy (XE sc) 80) b_X4_copyWitness_9 := by show xm_bok cX4_copyWitness _; unfold xm_bok; decide +kernel
def b_X4_copyWitness_18 : List (Nat × Jvm.ClassFile.Instr × Nat) := [(18, .iload_n 3, 1), (19, .iload 4, 2), (21, .isub, 1), (22, .goto 5, 3)]
set_option maxRecDepth 20000 in
theorem k_X4_copyWitness_18 {sc : xm_Sc} : xm_bok (xe_cy (XE sc) 80) b_X4_copyWitness_18 := by show xm_bok cX4_copyWitness _; unfold xm_bok; decide +kernel
def b_X4_copyWitness_25 : List (Nat × Jvm.ClassFile.Instr × Nat) := [(25, .bipush 32, 2)]
set_option maxRecDepth 20000 in
theorem k_X4_copyWitness_25 {sc : xm_Sc} : xm_bok (xe_cy (XE sc) 80) b_X4_copyWitness_25 := by show xm_bok cX4_copyWitness _; unfold xm_bok; decide +kernel
def b_X4_copyWitness_27 : List (Nat × Jvm.ClassFile.Instr × Nat) := [(27, .istore 5, 2), (29, .lconst 0, 1), (30, .lstore 6, 2), (32, .iconst 0, 1), (33, .istore 8, 2)]
set_option maxRecDepth 20000 in
theorem k_X4_copyWitness_27 {sc : xm_Sc} : xm_bok (xe_cy (XE sc) 80) b_X4_copyWitness_27 := by show xm_bok cX4_copyWitness _; unfold xm_bok; decide +kernel
def b_X4_copyWitness_35 : List (Nat × Jvm.ClassFile.Instr × Nat) := [(35, .iload 8, 2), (37, .iload 5, 2), (39, .if_icmp .ge 28, 3)]
set_option maxRecDepth 20000 in
theorem k_X4_copyWitness_35 {sc : xm_Sc} : xm_bok (xe_cy (XE sc) 80) b_X4_copyWitness_35 := by show xm_bok cX4_copyWitness _; unfold xm_bok; decide +kernel
def b_X4_copyWitness_42 : List (Nat × Jvm.ClassFile.Instr × Nat) := [(42, .lload 6, 2), (44, .iconst 1, 1), (45, .lshl, 1), (46, .aload_n 1, 1), (47, .iload_n 2, 1), (48, .iload 4, 2), (50, .iadd, 1), (51, .iload 8, 2), (53, .iadd, 1), (54, .invokevirtual 70, 3)]
set_option maxRecDepth 20000 in
theorem k_X4_copyWitness_42 {sc : xm_Sc} : xm_bok (xe_cy (XE sc) 80) b_X4_copyWitness_42 := by show xm_bok cX4_copyWitness _; unfold xm_bok; decide +kernel
def b_X4_copyWitness_57 : List (Nat × Jvm.ClassFile.Instr × Nat) := [(57, .i2l, 1), (58, .lor, 1), (59, .lstore 6, 2), (61, .iinc 8 1, 3), (64, .goto (-29), 3)]
set_option maxRecDepth 20000 in
theorem k_X4_copyWitness_57 {sc : xm_Sc} : xm_bok (xe_cy (XE sc) 80) b_X4_copyWitness_57 := by show xm_bok cX4_copyWitness _; unfold xm_bok; decide +kernel
def b_X4_copyWitness_67 : List (Nat × Jvm.ClassFile.Instr × Nat) := [(67, .aload_n 0, 1), (68, .aload_n 0, 1), (69, .getfield 55, 3), (72, .iload 4, 2), (74, .iadd, 1), (75, .iload 5, 2), (77, .lload 6, 2), (79, .invokevirtual 66, 3)]
set_option maxRecDepth 20000 in
theorem k_X4_copyWitness_67 {sc : xm_Sc} : xm_bok (xe_cy (XE sc) 80) b_X4_copyWitness_67 := by show xm_bok cX4_copyWitness _; unfold xm_bok; decide +kernel
def b_X4_copyWitness_82 : List (Nat × Jvm.ClassFile.Instr × Nat) := [(82, .iinc 4 32, 3), (85, .goto (-82), 3)]
set_option maxRecDepth 20000 in
theorem k_X4_copyWitness_82 {sc : xm_Sc} : xm_bok (xe_cy (XE sc) 80) b_X4_copyWitness_82 := by show xm_bok cX4_copyWitness _; unfold xm_bok; decide +kernel
def b_X4_copyWitness_88 : List (Nat × Jvm.ClassFile.Instr × Nat) := [(88, .return_, 1)]
set_option maxRecDepth 20000 in
theorem k_X4_copyWitness_88 {sc : xm_Sc} : xm_bok (xe_cy (XE sc) 80) b_X4_copyWitness_88 := by show xm_bok cX4_copyWitness _; unfold xm_bok; decide +kernel
set_option maxRecDepth 20000 in
theorem cn_80 {sc : xm_Sc} : xe_cn (XE sc) 80 = 4 := rfl
set_option maxRecDepth 20000 in
theorem ml_80 {sc : xm_Sc} : xe_ml (XE sc) 80 = 9 := rfl
set_option maxRecDepth 20000 in
theorem ry_80 {sc : xm_Sc} : xe_ry (XE sc) 80 = none := rfl
set_option maxRecDepth 20000 in
theorem is_80 {sc : xm_Sc} : xe_is (XE sc) 80 = false := rfl
set_option maxRecDepth 20000 in
theorem np_80 {sc : xm_Sc} : xe_np (XE sc) 80 = 3 := rfl
/- method 81: X4_endAt -/
def b_X4_endAt_0 : List (Nat × Jvm.ClassFile.Instr × Nat) := [(0, .aload_n 0, 1), (1, .getfield 38, 3), (4, .getfield 132, 3), (7, .aload_n 0, 1), (8, .getfield 110, 3), (11, .iaload, 1), (12, .tableswitch 115 7 10 #[32, 113, 115, 71], 32)]
set_option maxRecDepth 20000 in
theorem k_X4_endAt_0 {sc : xm_Sc} : xm_bok (xe_cy (XE sc) 81) b_X4_endAt_0 := by show xm_bok cX4_endAt _; unfold xm_bok; decide +kernel
def b_X4_endAt_44 : List (Nat × Jvm.ClassFile.Instr × Nat) := [(44, .aload_n 0, 1), (45, .dup, 1), (46, .getfield 42, 3), (49, .iload_n 2, 1), (50, .i2l, 1), (51, .ladd, 1), (52, .putfield 42, 3), (55, .aload_n 0, 1), (56, .dup, 1), (57, .getfield 59, 3), (60, .aload_n 0, 1), (61, .getfield 38, 3), (64, .getfield 139, 3), (67, .aload_n 0, 1), (68, .getfield 110, 3), (71, .iaload, 1), (72, .iadd, 1), (73, .putfield 59, 3), (76, .aload_n 0, 1), (77, .iload_n 2, 1), (78, .invokevirtual 169, 3)]
set_option maxRecDepth 20000 in
theorem k_X4_endAt_44 {sc : xm_Sc} : xm_bok (xe_cy (XE sc) 81) b_X4_endAt_44 := by show xm_bok cX4_endAt _; unfold xm_bok; decide +kernel
def b_X4_endAt_81 : List (Nat × Jvm.ClassFile.Instr × Nat) := [(81, .iconst 1, 1), (82, .ireturn, 1)]
set_option maxRecDepth 20000 in
theorem k_X4_endAt_81 {sc : xm_Sc} : xm_bok (xe_cy (XE sc) 81) b_X4_endAt_81 := by show xm_bok cX4_endAt _; unfold xm_bok; decide +kernel
def b_X4_endAt_83 : List (Nat × Jvm.ClassFile.Instr × Nat) := [(83, .aload_n 0, 1), (84, .dup, 1), (85, .getfield 42, 3), (88, .aload_n 0, 1), (89, .getfield 38, 3), (92, .getfield 139, 3), (95, .aload_n 0, 1), (96, .getfield 110, 3), (99, .iaload, 1), (100, .i2l, 1), (101, .ladd, 1), (102, .putfield 42, 3), (105, .aload_n 0, 1), (106, .aload_n 1, 1), (107, .iload_n 2, 1), (108, .aload_n 0, 1), (109, .getfield 38, 3), (112, .getfield 139, 3), (115, .aload_n 0, 1), (116, .getfield 110, 3), (119, .iaload, 1), (120, .invokevirtual 172, 3)]
set_option maxRecDepth 20000 in
theorem k_X4_endAt_83 {sc : xm_Sc} : xm_bok (xe_cy (XE sc) 81) b_X4_endAt_83 := by show xm_bok cX4_endAt _; unfold xm_bok; decide +kernel
def b_X4_endAt_123 : List (Nat × Jvm.ClassFile.Instr × Nat) := [(123, .iconst 1, 1), (124, .ireturn, 1)]
set_option maxRecDepth 20000 in
theorem k_X4_endAt_123 {sc : xm_Sc} : xm_bok (xe_cy (XE sc) 81) b_X4_endAt_123 := by show xm_bok cX4_endAt _; unfold xm_bok; decide +kernel
def b_X4_endAt_125 : List (Nat × Jvm.ClassFile.Instr × Nat) := [(125, .iconst 1, 1), (126, .ireturn, 1)]
set_option maxRecDepth 20000 in
theorem k_X4_endAt_125 {sc : xm_Sc} : xm_bok (xe_cy (XE sc) 81) b_X4_endAt_125 := by show xm_bok cX4_endAt _; unfold xm_bok; decide +kernel
def b_X4_endAt_127 : List (Nat × Jvm.ClassFile.Instr × Nat) := [(127, .iconst 0, 1), (128, .ireturn, 1)]
set_option maxRecDepth 20000 in
theorem k_X4_endAt_127 {sc : xm_Sc} : xm_bok (xe_cy (XE sc) 81) b_X4_endAt_127 := by show xm_bok cX4_endAt _; unfold xm_bok; decide +kernel
set_option maxRecDepth 20000 in
theorem cn_81 {sc : xm_Sc} : xe_cn (XE sc) 81 = 4 := rfl
set_option maxRecDepth 20000 in
theorem ml_81 {sc : xm_Sc} : xe_ml (XE sc) 81 = 3 := rfl
set_option maxRecDepth 20000 in
theorem ry_81 {sc : xm_Sc} : xe_ry (XE sc) 81 = (some .boolean) := rfl
set_option maxRecDepth 20000 in
theorem is_81 {sc : xm_Sc} : xe_is (XE sc) 81 = false := rfl
set_option maxRecDepth 20000 in
theorem np_81 {sc : xm_Sc} : xe_np (XE sc) 81 = 2 := rfl
/- method 82: X4_follow -/
def b_X4_follow_0 : List (Nat × Jvm.ClassFile.Instr × Nat) := [(0, .iconst 0, 1), (1, .istore_n 3, 1)]
set_option maxRecDepth 20000 in
theorem k_X4_follow_0 {sc : xm_Sc} : xm_bok (xe_cy (XE sc) 82) b_X4_follow_0 := by show xm_bok cX4_follow _; unfold xm_bok; decide +kernel
def b_X4_follow_2 : List (Nat × Jvm.ClassFile.Instr × Nat) := [(2, .iload_n 3, 1), (3, .sipush 8000, 3), (6, .if_icmp .ge 460, 3)]
set_option maxRecDepth 20000 in
theorem k_X4_follow_2 {sc : xm_Sc} : xm_bok (xe_cy (XE sc) 82) b_X4_follow_2 := by show xm_bok cX4_follow _; unfold xm_bok; decide +kernel
def b_X4_follow_9 : List (Nat × Jvm.ClassFile.Instr × Nat) := [(9, .aload_n 0, 1), (10, .getfield 38, 3), (13, .getfield 129, 3), (16, .aload_n 0, 1), (17, .getfield 110, 3), (20, .iaload, 1), (21, .istore 4, 2), (23, .aload_n 0, 1), (24, .dup, 1), (25, .getfield 42, 3), (28, .lconst 1, 1), (29, .ladd, 1), (30, .putfield 42, 3), (33, .aload_n 0, 1), (34, .getfield 38, 3), (37, .getfield 132, 3), (40, .aload_n 0, 1), (41, .getfield 110, 3), (44, .iaload, 1), (45, .tableswitch 407 0 12 #[67, 76, 167, 221, 221, 295, 314, 407, 407, 407, 407, 407, 344], 67)]
set_option maxRecDepth 20000 in
theorem k_X4_follow_9 {sc : xm_Sc} : xm_bok (xe_cy (XE sc) 82) b_X4_follow_9 := by show xm_bok cX4_follow _; unfold xm_bok; decide +kernel
def b_X4_follow_112 : List (Nat × Jvm.ClassFile.Instr × Nat) := [(112, .aload_n 0, 1), (113, .iload 4, 2), (115, .invokevirtual 135, 3)]
set_option maxRecDepth 20000 in
theorem k_X4_follow_112 {sc : xm_Sc} : xm_bok (xe_cy (XE sc) 82) b_X4_follow_112 := by show xm_bok cX4_follow _; unfold xm_bok; decide +kernel
def b_X4_follow_118 : List (Nat × Jvm.ClassFile.Instr × Nat) := [(118, .goto 342, 3)]
set_option maxRecDepth 20000 in
theorem k_X4_follow_118 {sc : xm_Sc} : xm_bok (xe_cy (XE sc) 82) b_X4_follow_118 := by show xm_bok cX4_follow _; unfold xm_bok; decide +kernel
def b_X4_follow_121 : List (Nat × Jvm.ClassFile.Instr × Nat) := [(121, .aload_n 0, 1), (122, .aload_n 0, 1), (123, .getfield 59, 3), (126, .iconst 1, 1), (127, .invokevirtual 62, 3)]
set_option maxRecDepth 20000 in
theorem k_X4_follow_121 {sc : xm_Sc} : xm_bok (xe_cy (XE sc) 82) b_X4_follow_121 := by show xm_bok cX4_follow _; unfold xm_bok; decide +kernel
def b_X4_follow_130 : List (Nat × Jvm.ClassFile.Instr × Nat) := [(130, .lconst 0, 1), (131, .lcmp, 1), (132, .ifCond .ne 7, 3)]
set_option maxRecDepth 20000 in
theorem k_X4_follow_130 {sc : xm_Sc} : xm_bok (xe_cy (XE sc) 82) b_X4_follow_130 := by show xm_bok cX4_follow _; unfold xm_bok; decide +kernel
def b_X4_follow_135 : List (Nat × Jvm.ClassFile.Instr × Nat) := [(135, .iconst 1, 1), (136, .goto 4, 3)]
set_option maxRecDepth 20000 in
theorem k_X4_follow_135 {sc : xm_Sc} : xm_bok (xe_cy (XE sc) 82) b_X4_follow_135 := by show xm_bok cX4_follow _; unfold xm_bok; decide +kernel
def b_X4_follow_139 : List (Nat × Jvm.ClassFile.Instr × Nat) := [(139, .iconst 0, 1)]
set_option maxRecDepth 20000 in
theorem k_X4_follow_139 {sc : xm_Sc} : xm_bok (xe_cy (XE sc) 82) b_X4_follow_139 := by show xm_bok cX4_follow _; unfold xm_bok; decide +kernel
def b_X4_follow_140 : List (Nat × Jvm.ClassFile.Instr × Nat) := [(140, .istore 5, 2), (142, .aload_n 0, 1), (143, .dup, 1), (144, .getfield 59, 3), (147, .iload 5, 2), (149, .ifCond .eq 8, 3)]
set_option maxRecDepth 20000 in
theorem k_X4_follow_140 {sc : xm_Sc} : xm_bok (xe_cy (XE sc) 82) b_X4_follow_140 := by show xm_bok cX4_follow _; unfold xm_bok; decide +kernel
def b_X4_follow_152 : List (Nat × Jvm.ClassFile.Instr × Nat) := [(152, .iload 4, 2), (154, .goto 15, 3)]
set_option maxRecDepth 20000 in
theorem k_X4_follow_152 {sc : xm_Sc} : xm_bok (xe_cy (XE sc) 82) b_X4_follow_152 := by show xm_bok cX4_follow _; unfold xm_bok; decide +kernel
def b_X4_follow_157 : List (Nat × Jvm.ClassFile.Instr × Nat) := [(157, .aload_n 0, 1), (158, .getfield 38, 3), (161, .getfield 139, 3), (164, .aload_n 0, 1), (165, .getfield 110, 3), (168, .iaload, 1)]
set_option maxRecDepth 20000 in
theorem k_X4_follow_157 {sc : xm_Sc} : xm_bok (xe_cy (XE sc) 82) b_X4_follow_157 := by show xm_bok cX4_follow _; unfold xm_bok; decide +kernel
def b_X4_follow_169 : List (Nat × Jvm.ClassFile.Instr × Nat) := [(169, .iadd, 1), (170, .putfield 59, 3), (173, .aload_n 0, 1), (174, .iload 5, 2), (176, .ifCond .eq 18, 3)]
set_option maxRecDepth 20000 in
theorem k_X4_follow_169 {sc : xm_Sc} : xm_bok (xe_cy (XE sc) 82) b_X4_follow_169 := by show xm_bok cX4_follow _; unfold xm_bok; decide +kernel
def b_X4_follow_179 : List (Nat × Jvm.ClassFile.Instr × Nat) := [(179, .aload_n 0, 1), (180, .getfield 38, 3), (183, .getfield 142, 3), (186, .aload_n 0, 1), (187, .getfield 110, 3), (190, .iaload, 1), (191, .goto 15, 3)]
set_option maxRecDepth 20000 in
theorem k_X4_follow_179 {sc : xm_Sc} : xm_bok (xe_cy (XE sc) 82) b_X4_follow_179 := by show xm_bok cX4_follow _; unfold xm_bok; decide +kernel
def b_X4_follow_194 : List (Nat × Jvm.ClassFile.Instr × Nat) := [(194, .aload_n 0, 1), (195, .getfield 38, 3), (198, .getfield 145, 3), (201, .aload_n 0, 1), (202, .getfield 110, 3), (205, .iaload, 1)]
set_option maxRecDepth 20000 in
theorem k_X4_follow_194 {sc : xm_Sc} : xm_bok (xe_cy (XE sc) 82) b_X4_follow_194 := by show xm_bok cX4_follow _; unfold xm_bok; decide +kernel
def b_X4_follow_206 : List (Nat × Jvm.ClassFile.Instr × Nat) := [(206, .putfield 110, 3), (209, .goto 251, 3)]
set_option maxRecDepth 20000 in
theorem k_X4_follow_206 {sc : xm_Sc} : xm_bok (xe_cy (XE sc) 82) b_X4_follow_206 := by show xm_bok cX4_follow _; unfold xm_bok; decide +kernel
def b_X4_follow_212 : List (Nat × Jvm.ClassFile.Instr × Nat) := [(212, .aload_n 0, 1), (213, .aload_n 0, 1), (214, .getfield 38, 3), (217, .getfield 145, 3), (220, .aload_n 0, 1), (221, .getfield 110, 3), (224, .iaload, 1), (225, .aload_n 0, 1), (226, .getfield 59, 3), (229, .aload_n 0, 1), (230, .getfield 55, 3), (233, .iload 4, 2), (235, .iadd, 1), (236, .aload_n 0, 1), (237, .getfield 113, 3), (240, .aload_n 0, 1), (241, .getfield 116, 3), (244, .invokevirtual 104, 3)]
set_option maxRecDepth 20000 in
theorem k_X4_follow_212 {sc : xm_Sc} : xm_bok (xe_cy (XE sc) 82) b_X4_follow_212 := by show xm_bok cX4_follow _; unfold xm_bok; decide +kernel
def b_X4_follow_247 : List (Nat × Jvm.ClassFile.Instr × Nat) := [(247, .aload_n 0, 1), (248, .aload_n 0, 1), (249, .getfield 38, 3), (252, .getfield 142, 3), (255, .aload_n 0, 1), (256, .getfield 110, 3), (259, .iaload, 1), (260, .putfield 110, 3), (263, .goto 197, 3)]
set_option maxRecDepth 20000 in
theorem k_X4_follow_247 {sc : xm_Sc} : xm_bok (xe_cy (XE sc) 82) b_X4_follow_247 := by show xm_bok cX4_follow _; unfold xm_bok; decide +kernel
def b_X4_follow_266 : List (Nat × Jvm.ClassFile.Instr × Nat) := [(266, .aload_n 0, 1), (267, .aload_n 0, 1), (268, .getfield 55, 3), (271, .iconst 1, 1), (272, .aload_n 0, 1), (273, .getfield 38, 3), (276, .getfield 132, 3), (279, .aload_n 0, 1), (280, .getfield 110, 3), (283, .iaload, 1), (284, .iconst 3, 1), (285, .if_icmp .ne 7, 3)]
set_option maxRecDepth 20000 in
theorem k_X4_follow_266 {sc : xm_Sc} : xm_bok (xe_cy (XE sc) 82) b_X4_follow_266 := by show xm_bok cX4_follow _; unfold xm_bok; decide +kernel
def b_X4_follow_288 : List (Nat × Jvm.ClassFile.Instr × Nat) := [(288, .lconst 0, 1), (289, .goto 4, 3)]
set_option maxRecDepth 20000 in
theorem k_X4_follow_288 {sc : xm_Sc} : xm_bok (xe_cy (XE sc) 82) b_X4_follow_288 := by show xm_bok cX4_follow _; unfold xm_bok; decide +kernel
def b_X4_follow_292 : List (Nat × Jvm.ClassFile.Instr × Nat) := [(292, .lconst 1, 1)]
set_option maxRecDepth 20000 in
theorem k_X4_follow_292 {sc : xm_Sc} : xm_bok (xe_cy (XE sc) 82) b_X4_follow_292 := by show xm_bok cX4_follow _; unfold xm_bok; decide +kernel
def b_X4_follow_293 : List (Nat × Jvm.ClassFile.Instr × Nat) := [(293, .invokevirtual 66, 3)]
set_option maxRecDepth 20000 in
theorem k_X4_follow_293 {sc : xm_Sc} : xm_bok (xe_cy (XE sc) 82) b_X4_follow_293 := by show xm_bok cX4_follow _; unfold xm_bok; decide +kernel
def b_X4_follow_296 : List (Nat × Jvm.ClassFile.Instr × Nat) := [(296, .aload_n 0, 1), (297, .aload_n 0, 1), (298, .getfield 55, 3), (301, .iconst 1, 1), (302, .iadd, 1), (303, .iload 4, 2), (305, .invokevirtual 148, 3)]
set_option maxRecDepth 20000 in
theorem k_X4_follow_296 {sc : xm_Sc} : xm_bok (xe_cy (XE sc) 82) b_X4_follow_296 := by show xm_bok cX4_follow _; unfold xm_bok; decide +kernel
def b_X4_follow_308 : List (Nat × Jvm.ClassFile.Instr × Nat) := [(308, .aload_n 0, 1), (309, .dup, 1), (310, .getfield 55, 3), (313, .iconst 1, 1), (314, .iload 4, 2), (316, .iadd, 1), (317, .iadd, 1), (318, .putfield 55, 3), (321, .aload_n 0, 1), (322, .aload_n 0, 1), (323, .getfield 38, 3), (326, .getfield 142, 3), (329, .aload_n 0, 1), (330, .getfield 110, 3), (333, .iaload, 1), (334, .putfield 110, 3), (337, .goto 123, 3)]
set_option maxRecDepth 20000 in
theorem k_X4_follow_308 {sc : xm_Sc} : xm_bok (xe_cy (XE sc) 82) b_X4_follow_308 := by show xm_bok cX4_follow _; unfold xm_bok; decide +kernel
def b_X4_follow_340 : List (Nat × Jvm.ClassFile.Instr × Nat) := [(340, .aload_n 0, 1), (341, .aload_n 0, 1), (342, .getfield 38, 3), (345, .getfield 142, 3), (348, .aload_n 0, 1), (349, .getfield 110, 3), (352, .iaload, 1), (353, .putfield 110, 3), (356, .goto 104, 3)]
set_option maxRecDepth 20000 in
theorem k_X4_follow_340 {sc : xm_Sc} : xm_bok (xe_cy (XE sc) 82) b_X4_follow_340 := by show xm_bok cX4_follow _; unfold xm_bok; decide +kernel
def b_X4_follow_359 : List (Nat × Jvm.ClassFile.Instr × Nat) := [(359, .aload_n 0, 1), (360, .dup, 1), (361, .getfield 59, 3), (364, .iload 4, 2), (366, .iadd, 1), (367, .putfield 59, 3), (370, .aload_n 0, 1), (371, .aload_n 0, 1), (372, .getfield 38, 3), (375, .getfield 142, 3), (378, .aload_n 0, 1), (379, .getfield 110, 3), (382, .iaload, 1), (383, .putfield 110, 3), (386, .goto 74, 3)]
set_option maxRecDepth 20000 in
theorem k_X4_follow_359 {sc : xm_Sc} : xm_bok (xe_cy (XE sc) 82) b_X4_follow_359 := by show xm_bok cX4_follow _; unfold xm_bok; decide +kernel
def b_X4_follow_389 : List (Nat × Jvm.ClassFile.Instr × Nat) := [(389, .iload_n 2, 1), (390, .ifCond .ne 45, 3)]
set_option maxRecDepth 20000 in
theorem k_X4_follow_389 {sc : xm_Sc} : xm_bok (xe_cy (XE sc) 82) b_X4_follow_389 := by show xm_bok cX4_follow _; unfold xm_bok; decide +kernel
def b_X4_follow_393 : List (Nat × Jvm.ClassFile.Instr × Nat) := [(393, .aload_n 0, 1), (394, .dup, 1), (395, .getfield 42, 3), (398, .aload_n 0, 1), (399, .getfield 38, 3), (402, .getfield 139, 3), (405, .aload_n 0, 1), (406, .getfield 110, 3), (409, .iaload, 1), (410, .i2l, 1), (411, .ladd, 1), (412, .putfield 42, 3), (415, .aload_n 0, 1), (416, .getfield 12, 3), (419, .iload 4, 2), (421, .aload_n 0, 1), (422, .aload_n 0, 1), (423, .getfield 59, 3), (426, .aload_n 0, 1), (427, .getfield 55, 3), (430, .invokevirtual 152, 3)]
set_option maxRecDepth 20000 in
theorem k_X4_follow_393 {sc : xm_Sc} : xm_bok (xe_cy (XE sc) 82) b_X4_follow_393 := by show xm_bok cX4_follow _; unfold xm_bok; decide +kernel
def b_X4_follow_433 : List (Nat × Jvm.ClassFile.Instr × Nat) := [(433, .iconst 1, 1), (434, .ireturn, 1)]
set_option maxRecDepth 20000 in
theorem k_X4_follow_433 {sc : xm_Sc} : xm_bok (xe_cy (XE sc) 82) b_X4_follow_433 := by show xm_bok cX4_follow _; unfold xm_bok; decide +kernel
def b_X4_follow_435 : List (Nat × Jvm.ClassFile.Instr × Nat) := [(435, .aload_n 0, 1), (436, .aload_n 0, 1), (437, .getfield 38, 3), (440, .getfield 156, 3), (443, .iload 4, 2), (445, .iaload, 1), (446, .putfield 110, 3), (449, .goto 11, 3)]
set_option maxRecDepth 20000 in
theorem k_X4_follow_435 {sc : xm_Sc} : xm_bok (xe_cy (XE sc) 82) b_X4_follow_435 := by show xm_bok cX4_follow _; unfold xm_bok; decide +kernel
def b_X4_follow_452 : List (Nat × Jvm.ClassFile.Instr × Nat) := [(452, .aload_n 0, 1), (453, .aload_n 1, 1), (454, .iload 4, 2), (456, .invokevirtual 159, 3)]
set_option maxRecDepth 20000 in
theorem k_X4_follow_452 {sc : xm_Sc} : xm_bok (xe_cy (XE sc) 82) b_X4_follow_452 := by show xm_bok cX4_follow _; unfold xm_bok; decide +kernel
def b_X4_follow_459 : List (Nat × Jvm.ClassFile.Instr × Nat) := [(459, .ireturn, 1)]
set_option maxRecDepth 20000 in
theorem k_X4_follow_459 {sc : xm_Sc} : xm_bok (xe_cy (XE sc) 82) b_X4_follow_459 := by show xm_bok cX4_follow _; unfold xm_bok; decide +kernel
def b_X4_follow_460 : List (Nat × Jvm.ClassFile.Instr × Nat) := [(460, .iinc 3 1, 3), (463, .goto (-461), 3)]
set_option maxRecDepth 20000 in
theorem k_X4_follow_460 {sc : xm_Sc} : xm_bok (xe_cy (XE sc) 82) b_X4_follow_460 := by show xm_bok cX4_follow _; unfold xm_bok; decide +kernel
def b_X4_follow_466 : List (Nat × Jvm.ClassFile.Instr × Nat) := [(466, .iconst 0, 1), (467, .ireturn, 1)]
set_option maxRecDepth 20000 in
theorem k_X4_follow_466 {sc : xm_Sc} : xm_bok (xe_cy (XE sc) 82) b_X4_follow_466 := by show xm_bok cX4_follow _; unfold xm_bok; decide +kernel
set_option maxRecDepth 20000 in
theorem cn_82 {sc : xm_Sc} : xe_cn (XE sc) 82 = 4 := rfl
set_option maxRecDepth 20000 in
theorem ml_82 {sc : xm_Sc} : xe_ml (XE sc) 82 = 6 := rfl
set_option maxRecDepth 20000 in
theorem ry_82 {sc : xm_Sc} : xe_ry (XE sc) 82 = (some .boolean) := rfl
set_option maxRecDepth 20000 in
theorem is_82 {sc : xm_Sc} : xe_is (XE sc) 82 = false := rfl
set_option maxRecDepth 20000 in
theorem np_82 {sc : xm_Sc} : xe_np (XE sc) 82 = 2 := rfl
/- method 83: X4_get -/
def b_X4_get_0 : List (Nat × Jvm.ClassFile.Instr × Nat) := [(0, .iload_n 2, 1), (1, .iconst 1, 1), (2, .if_icmp .lt 21, 3)]
set_option maxRecDepth 20000 in
theorem k_X4_get_0 {sc : xm_Sc} : xm_bok (xe_cy (XE sc) 83) b_X4_get_0 := by show xm_bok cX4_get _; unfold xm_bok; decide +kernel
def b_X4_get_5 : List (Nat × Jvm.ClassFile.Instr × Nat) := [(5, .iload_n 2, 1), (6, .bipush 64, 2), (8, .if_icmp .gt 15, 3)]
set_option maxRecDepth 20000 in
theorem k_X4_get_5 {sc : xm_Sc} : xm_bok (xe_cy (XE sc) 83) b_X4_get_5 := by show xm_bok cX4_get _; unfold xm_bok; decide +kernel
def b_X4_get_11 : List (Nat × Jvm.ClassFile.Instr × Nat) := [(11, .iload_n 1, 1), (12, .ifCond .lt 11, 3)]
set_option maxRecDepth 20000 in
theorem k_X4_get_11 {sc : xm_Sc} : xm_bok (xe_cy (XE sc) 83) b_X4_get_11 := by show xm_bok cX4_get _; unfold xm_bok; decide +kernel
def b_X4_get_15 : List (Nat × Jvm.ClassFile.Instr × Nat) := [(15, .iload_n 1, 1), (16, .ldc 52, 2), (18, .iload_n 2, 1), (19, .isub, 1), (20, .if_icmp .le 5, 3)]
set_option maxRecDepth 20000 in
theorem k_X4_get_15 {sc : xm_Sc} : xm_bok (xe_cy (XE sc) 83) b_X4_get_15 := by show xm_bok cX4_get _; unfold xm_bok; decide +kernel
def b_X4_get_23 : List (Nat × Jvm.ClassFile.Instr × Nat) := [(23, .lconst 0, 1), (24, .lreturn, 1)]
set_option maxRecDepth 20000 in
theorem k_X4_get_23 {sc : xm_Sc} : xm_bok (xe_cy (XE sc) 83) b_X4_get_23 := by show xm_bok cX4_get _; unfold xm_bok; decide +kernel
def b_X4_get_25 : List (Nat × Jvm.ClassFile.Instr × Nat) := [(25, .iload_n 1, 1), (26, .bipush 63, 2), (28, .iand, 1), (29, .istore_n 3, 1), (30, .aload_n 0, 1), (31, .getfield 18, 3), (34, .iload_n 1, 1), (35, .bipush 6, 2), (37, .ishr, 1), (38, .laload, 1), (39, .iload_n 3, 1), (40, .lshl, 1), (41, .lstore 4, 2), (43, .iload_n 3, 1), (44, .iload_n 2, 1), (45, .iadd, 1), (46, .bipush 64, 2), (48, .if_icmp .le 24, 3)]
set_option maxRecDepth 20000 in
theorem k_X4_get_25 {sc : xm_Sc} : xm_bok (xe_cy (XE sc) 83) b_X4_get_25 := by show xm_bok cX4_get _; unfold xm_bok; decide +kernel
def b_X4_get_51 : List (Nat × Jvm.ClassFile.Instr × Nat) := [(51, .lload 4, 2), (53, .aload_n 0, 1), (54, .getfield 18, 3), (57, .iload_n 1, 1), (58, .bipush 6, 2), (60, .ishr, 1), (61, .iconst 1, 1), (62, .iadd, 1), (63, .laload, 1), (64, .bipush 64, 2), (66, .iload_n 3, 1), (67, .isub, 1), (68, .lushr, 1), (69, .lor, 1), (70, .lstore 4, 2)]
set_option maxRecDepth 20000 in
theorem k_X4_get_51 {sc : xm_Sc} : xm_bok (xe_cy (XE sc) 83) b_X4_get_51 := by show xm_bok cX4_get _; unfold xm_bok; decide +kernel
def b_X4_get_72 : List (Nat × Jvm.ClassFile.Instr × Nat) := [(72, .lload 4, 2), (74, .bipush 64, 2), (76, .iload_n 2, 1), (77, .isub, 1), (78, .lushr, 1), (79, .lreturn, 1)]
set_option maxRecDepth 20000 in
theorem k_X4_get_72 {sc : xm_Sc} : xm_bok (xe_cy (XE sc) 83) b_X4_get_72 := by show xm_bok cX4_get _; unfold xm_bok; decide +kernel
set_option maxRecDepth 20000 in
theorem cn_83 {sc : xm_Sc} : xe_cn (XE sc) 83 = 4 := rfl
set_option maxRecDepth 20000 in
theorem ml_83 {sc : xm_Sc} : xe_ml (XE sc) 83 = 6 := rfl
set_option maxRecDepth 20000 in
theorem ry_83 {sc : xm_Sc} : xe_ry (XE sc) 83 = (some .long) := rfl
set_option maxRecDepth 20000 in
theorem is_83 {sc : xm_Sc} : xe_is (XE sc) 83 = false := rfl
set_option maxRecDepth 20000 in
theorem np_83 {sc : xm_Sc} : xe_np (XE sc) 83 = 2 := rfl
/- method 84: X4_give -/
def b_X4_give_0 : List (Nat × Jvm.ClassFile.Instr × Nat) := [(0, .iconst 0, 1), (1, .istore 4, 2)]
set_option maxRecDepth 20000 in
theorem k_X4_give_0 {sc : xm_Sc} : xm_bok (xe_cy (XE sc) 84) b_X4_give_0 := by show xm_bok cX4_give _; unfold xm_bok; decide +kernel
def b_X4_give_3 : List (Nat × Jvm.ClassFile.Instr × Nat) := [(3, .iload 4, 2), (5, .iload_n 3, 1), (6, .if_icmp .ge 45, 3)]
set_option maxRecDepth 20000 in
theorem k_X4_give_3 {sc : xm_Sc} : xm_bok (xe_cy (XE sc) 84) b_X4_give_3 := by show xm_bok cX4_give _; unfold xm_bok; decide +kernel
def b_X4_give_9 : List (Nat × Jvm.ClassFile.Instr × Nat) := [(9, .iload_n 3, 1), (10, .iload 4, 2), (12, .isub, 1), (13, .bipush 32, 2), (15, .if_icmp .ge 10, 3)]
set_option maxRecDepth 20000 in
theorem k_X4_give_9 {sc : xm_Sc} : xm_bok (xe_cy (XE sc) 84) b_X4_give_9 := by show xm_bok cX4_give _; unfold xm_bok; decide +kernel
def b_X4_give_18 : List (Nat × Jvm.ClassFile.Instr × Nat) := [(18, .iload_n 3, 1), (19, .iload 4, 2), (21, .isub, 1), (22, .goto 5, 3)]
set_option maxRecDepth 20000 in
theorem k_X4_give_18 {sc : xm_Sc} : xm_bok (xe_cy (XE sc) 84) b_X4_give_18 := by show xm_bok cX4_give _; unfold xm_bok; decide +kernel
def b_X4_give_25 : List (Nat × Jvm.ClassFile.Instr × Nat) := [(25, .bipush 32, 2)]
set_option maxRecDepth 20000 in
theorem k_X4_give_25 {sc : xm_Sc} : xm_bok (xe_cy (XE sc) 84) b_X4_give_25 := by show xm_bok cX4_give _; unfold xm_bok; decide +kernel
def b_X4_give_27 : List (Nat × Jvm.ClassFile.Instr × Nat) := [(27, .istore 5, 2), (29, .aload_n 1, 1), (30, .aload_n 0, 1), (31, .iload_n 2, 1), (32, .iload 4, 2), (34, .iadd, 1), (35, .iload 5, 2), (37, .invokevirtual 62, 3)]
set_option maxRecDepth 20000 in
theorem k_X4_give_27 {sc : xm_Sc} : xm_bok (xe_cy (XE sc) 84) b_X4_give_27 := by show xm_bok cX4_give _; unfold xm_bok; decide +kernel
def b_X4_give_40 : List (Nat × Jvm.ClassFile.Instr × Nat) := [(40, .iload 5, 2), (42, .invokevirtual 76, 3)]
set_option maxRecDepth 20000 in
theorem k_X4_give_40 {sc : xm_Sc} : xm_bok (xe_cy (XE sc) 84) b_X4_give_40 := by show xm_bok cX4_give _; unfold xm_bok; decide +kernel
def b_X4_give_45 : List (Nat × Jvm.ClassFile.Instr × Nat) := [(45, .iinc 4 32, 3), (48, .goto (-45), 3)]
set_option maxRecDepth 20000 in
theorem k_X4_give_45 {sc : xm_Sc} : xm_bok (xe_cy (XE sc) 84) b_X4_give_45 := by show xm_bok cX4_give _; unfold xm_bok; decide +kernel
def b_X4_give_51 : List (Nat × Jvm.ClassFile.Instr × Nat) := [(51, .return_, 1)]
set_option maxRecDepth 20000 in
theorem k_X4_give_51 {sc : xm_Sc} : xm_bok (xe_cy (XE sc) 84) b_X4_give_51 := by show xm_bok cX4_give _; unfold xm_bok; decide +kernel
set_option maxRecDepth 20000 in
theorem cn_84 {sc : xm_Sc} : xe_cn (XE sc) 84 = 4 := rfl
set_option maxRecDepth 20000 in
theorem ml_84 {sc : xm_Sc} : xe_ml (XE sc) 84 = 6 := rfl
set_option maxRecDepth 20000 in
theorem ry_84 {sc : xm_Sc} : xe_ry (XE sc) 84 = none := rfl
set_option maxRecDepth 20000 in
theorem is_84 {sc : xm_Sc} : xe_is (XE sc) 84 = false := rfl
set_option maxRecDepth 20000 in
theorem np_84 {sc : xm_Sc} : xe_np (XE sc) 84 = 3 := rfl
/- method 85: X4_openFrame -/
def b_X4_openFrame_0 : List (Nat × Jvm.ClassFile.Instr × Nat) := [(0, .aload_n 0, 1), (1, .getfield 113, 3), (4, .istore_n 2, 1), (5, .aload_n 0, 1), (6, .dup, 1), (7, .getfield 113, 3), (10, .iload_n 1, 1), (11, .iadd, 1), (12, .putfield 113, 3), (15, .aload_n 0, 1), (16, .dup, 1), (17, .getfield 116, 3), (20, .iconst 1, 1), (21, .iadd, 1), (22, .putfield 116, 3), (25, .aload_n 0, 1), (26, .aload_n 0, 1), (27, .getfield 98, 3), (30, .aload_n 0, 1), (31, .getfield 113, 3), (34, .invokestatic 163, 3)]
set_option maxRecDepth 20000 in
theorem k_X4_openFrame_0 {sc : xm_Sc} : xm_bok (xe_cy (XE sc) 85) b_X4_openFrame_0 := by show xm_bok cX4_openFrame _; unfold xm_bok; decide +kernel
def b_X4_openFrame_37 : List (Nat × Jvm.ClassFile.Instr × Nat) := [(37, .putfield 98, 3), (40, .aload_n 0, 1), (41, .aload_n 0, 1), (42, .getfield 101, 3), (45, .aload_n 0, 1), (46, .getfield 116, 3), (49, .invokestatic 163, 3)]
set_option maxRecDepth 20000 in
theorem k_X4_openFrame_37 {sc : xm_Sc} : xm_bok (xe_cy (XE sc) 85) b_X4_openFrame_37 := by show xm_bok cX4_openFrame _; unfold xm_bok; decide +kernel
def b_X4_openFrame_52 : List (Nat × Jvm.ClassFile.Instr × Nat) := [(52, .putfield 101, 3), (55, .aload_n 0, 1), (56, .aload_n 0, 1), (57, .getfield 38, 3), (60, .getfield 145, 3), (63, .aload_n 0, 1), (64, .getfield 110, 3), (67, .iaload, 1), (68, .iload_n 2, 1), (69, .aload_n 0, 1), (70, .getfield 55, 3), (73, .aload_n 0, 1), (74, .getfield 113, 3), (77, .aload_n 0, 1), (78, .getfield 116, 3), (81, .invokevirtual 104, 3)]
set_option maxRecDepth 20000 in
theorem k_X4_openFrame_52 {sc : xm_Sc} : xm_bok (xe_cy (XE sc) 85) b_X4_openFrame_52 := by show xm_bok cX4_openFrame _; unfold xm_bok; decide +kernel
def b_X4_openFrame_84 : List (Nat × Jvm.ClassFile.Instr × Nat) := [(84, .aload_n 0, 1), (85, .iload_n 2, 1), (86, .putfield 55, 3), (89, .aload_n 0, 1), (90, .aload_n 0, 1), (91, .getfield 38, 3), (94, .getfield 142, 3), (97, .aload_n 0, 1), (98, .getfield 110, 3), (101, .iaload, 1), (102, .putfield 110, 3), (105, .return_, 1)]
set_option maxRecDepth 20000 in
theorem k_X4_openFrame_84 {sc : xm_Sc} : xm_bok (xe_cy (XE sc) 85) b_X4_openFrame_84 := by show xm_bok cX4_openFrame _; unfold xm_bok; decide +kernel
set_option maxRecDepth 20000 in
theorem cn_85 {sc : xm_Sc} : xe_cn (XE sc) 85 = 4 := rfl
set_option maxRecDepth 20000 in
theorem ml_85 {sc : xm_Sc} : xe_ml (XE sc) 85 = 3 := rfl
set_option maxRecDepth 20000 in
theorem ry_85 {sc : xm_Sc} : xe_ry (XE sc) 85 = none := rfl
set_option maxRecDepth 20000 in
theorem is_85 {sc : xm_Sc} : xe_is (XE sc) 85 = false := rfl
set_option maxRecDepth 20000 in
theorem np_85 {sc : xm_Sc} : xe_np (XE sc) 85 = 1 := rfl
/- method 86: X4_put -/
def b_X4_put_0 : List (Nat × Jvm.ClassFile.Instr × Nat) := [(0, .iload_n 2, 1), (1, .iconst 1, 1), (2, .if_icmp .lt 21, 3)]
set_option maxRecDepth 20000 in
theorem k_X4_put_0 {sc : xm_Sc} : xm_bok (xe_cy (XE sc) 86) b_X4_put_0 := by show xm_bok cX4_put _; unfold xm_bok; decide +kernel
def b_X4_put_5 : List (Nat × Jvm.ClassFile.Instr × Nat) := [(5, .iload_n 2, 1), (6, .bipush 64, 2), (8, .if_icmp .gt 15, 3)]
set_option maxRecDepth 20000 in
theorem k_X4_put_5 {sc : xm_Sc} : xm_bok (xe_cy (XE sc) 86) b_X4_put_5 := by show xm_bok cX4_put _; unfold xm_bok; decide +kernel
def b_X4_put_11 : List (Nat × Jvm.ClassFile.Instr × Nat) := [(11, .iload_n 1, 1), (12, .ifCond .lt 11, 3)]
set_option maxRecDepth 20000 in
theorem k_X4_put_11 {sc : xm_Sc} : xm_bok (xe_cy (XE sc) 86) b_X4_put_11 := by show xm_bok cX4_put _; unfold xm_bok; decide +kernel
def b_X4_put_15 : List (Nat × Jvm.ClassFile.Instr × Nat) := [(15, .iload_n 1, 1), (16, .ldc 52, 2), (18, .iload_n 2, 1), (19, .isub, 1), (20, .if_icmp .le 4, 3)]
set_option maxRecDepth 20000 in
theorem k_X4_put_15 {sc : xm_Sc} : xm_bok (xe_cy (XE sc) 86) b_X4_put_15 := by show xm_bok cX4_put _; unfold xm_bok; decide +kernel
def b_X4_put_23 : List (Nat × Jvm.ClassFile.Instr × Nat) := [(23, .return_, 1)]
set_option maxRecDepth 20000 in
theorem k_X4_put_23 {sc : xm_Sc} : xm_bok (xe_cy (XE sc) 86) b_X4_put_23 := by show xm_bok cX4_put _; unfold xm_bok; decide +kernel
def b_X4_put_24 : List (Nat × Jvm.ClassFile.Instr × Nat) := [(24, .iload_n 1, 1), (25, .bipush 63, 2), (27, .iand, 1), (28, .istore 5, 2), (30, .ldc2_w 53, 3), (33, .bipush 64, 2), (35, .iload_n 2, 1), (36, .isub, 1), (37, .lshl, 1), (38, .lstore 6, 2), (40, .lload_n 3, 1), (41, .bipush 64, 2), (43, .iload_n 2, 1), (44, .isub, 1), (45, .lshl, 1), (46, .lstore 8, 2), (48, .iload_n 1, 1), (49, .bipush 6, 2), (51, .ishr, 1), (52, .istore 10, 2), (54, .aload_n 0, 1), (55, .getfield 18, 3), (58, .iload 10, 2), (60, .aload_n 0, 1), (61, .getfield 18, 3), (64, .iload 10, 2), (66, .laload, 1), (67, .lload 6, 2), (69, .iload 5, 2), (71, .lushr, 1), (72, .ldc2_w 53, 3), (75, .lxor, 1), (76, .land, 1), (77, .lload 8, 2), (79, .iload 5, 2), (81, .lushr, 1), (82, .lor, 1), (83, .lastore, 1), (84, .iload 5, 2), (86, .iload_n 2, 1), (87, .iadd, 1), (88, .bipush 64, 2), (90, .if_icmp .le 43, 3)]
set_option maxRecDepth 20000 in
theorem k_X4_put_24 {sc : xm_Sc} : xm_bok (xe_cy (XE sc) 86) b_X4_put_24 := by show xm_bok cX4_put _; unfold xm_bok; decide +kernel
def b_X4_put_93 : List (Nat × Jvm.ClassFile.Instr × Nat) := [(93, .aload_n 0, 1), (94, .getfield 18, 3), (97, .iload 10, 2), (99, .iconst 1, 1), (100, .iadd, 1), (101, .aload_n 0, 1), (102, .getfield 18, 3), (105, .iload 10, 2), (107, .iconst 1, 1), (108, .iadd, 1), (109, .laload, 1), (110, .lload 6, 2), (112, .bipush 64, 2), (114, .iload 5, 2), (116, .isub, 1), (117, .lshl, 1), (118, .ldc2_w 53, 3), (121, .lxor, 1), (122, .land, 1), (123, .lload 8, 2), (125, .bipush 64, 2), (127, .iload 5, 2), (129, .isub, 1), (130, .lshl, 1), (131, .lor, 1), (132, .lastore, 1)]
set_option maxRecDepth 20000 in
theorem k_X4_put_93 {sc : xm_Sc} : xm_bok (xe_cy (XE sc) 86) b_X4_put_93 := by show xm_bok cX4_put _; unfold xm_bok; decide +kernel
def b_X4_put_133 : List (Nat × Jvm.ClassFile.Instr × Nat) := [(133, .return_, 1)]
set_option maxRecDepth 20000 in
theorem k_X4_put_133 {sc : xm_Sc} : xm_bok (xe_cy (XE sc) 86) b_X4_put_133 := by show xm_bok cX4_put _; unfold xm_bok; decide +kernel
set_option maxRecDepth 20000 in
theorem cn_86 {sc : xm_Sc} : xe_cn (XE sc) 86 = 4 := rfl
set_option maxRecDepth 20000 in
theorem ml_86 {sc : xm_Sc} : xe_ml (XE sc) 86 = 11 := rfl
set_option maxRecDepth 20000 in
theorem ry_86 {sc : xm_Sc} : xe_ry (XE sc) 86 = none := rfl
set_option maxRecDepth 20000 in
theorem is_86 {sc : xm_Sc} : xe_is (XE sc) 86 = false := rfl
set_option maxRecDepth 20000 in
theorem np_86 {sc : xm_Sc} : xe_np (XE sc) 86 = 3 := rfl
/- method 87: X4_spentSteps -/
def b_X4_spentSteps_0 : List (Nat × Jvm.ClassFile.Instr × Nat) := [(0, .aload_n 0, 1), (1, .getfield 42, 3), (4, .invokestatic 46, 3)]
set_option maxRecDepth 20000 in
theorem k_X4_spentSteps_0 {sc : xm_Sc} : xm_bok (xe_cy (XE sc) 87) b_X4_spentSteps_0 := by show xm_bok cX4_spentSteps _; unfold xm_bok; decide +kernel
def b_X4_spentSteps_7 : List (Nat × Jvm.ClassFile.Instr × Nat) := [(7, .ireturn, 1)]
set_option maxRecDepth 20000 in
theorem k_X4_spentSteps_7 {sc : xm_Sc} : xm_bok (xe_cy (XE sc) 87) b_X4_spentSteps_7 := by show xm_bok cX4_spentSteps _; unfold xm_bok; decide +kernel
set_option maxRecDepth 20000 in
theorem cn_87 {sc : xm_Sc} : xe_cn (XE sc) 87 = 4 := rfl
set_option maxRecDepth 20000 in
theorem ml_87 {sc : xm_Sc} : xe_ml (XE sc) 87 = 1 := rfl
set_option maxRecDepth 20000 in
theorem ry_87 {sc : xm_Sc} : xe_ry (XE sc) 87 = (some .int) := rfl
set_option maxRecDepth 20000 in
theorem is_87 {sc : xm_Sc} : xe_is (XE sc) 87 = false := rfl
set_option maxRecDepth 20000 in
theorem np_87 {sc : xm_Sc} : xe_np (XE sc) 87 = 0 := rfl
/- method 88: X4_works -/
def b_X4_works_0 : List (Nat × Jvm.ClassFile.Instr × Nat) := [(0, .aload_n 1, 1), (1, .getfield 80, 3), (4, .iconst 1, 1), (5, .isub, 1), (6, .istore 4, 2), (8, .iconst 0, 1), (9, .istore 5, 2)]
set_option maxRecDepth 20000 in
theorem k_X4_works_0 {sc : xm_Sc} : xm_bok (xe_cy (XE sc) 88) b_X4_works_0 := by show xm_bok cX4_works _; unfold xm_bok; decide +kernel
def b_X4_works_11 : List (Nat × Jvm.ClassFile.Instr × Nat) := [(11, .iload 5, 2), (13, .aload_n 2, 1), (14, .getfield 83, 3), (17, .if_icmp .ge 27, 3)]
set_option maxRecDepth 20000 in
theorem k_X4_works_11 {sc : xm_Sc} : xm_bok (xe_cy (XE sc) 88) b_X4_works_11 := by show xm_bok cX4_works _; unfold xm_bok; decide +kernel
def b_X4_works_20 : List (Nat × Jvm.ClassFile.Instr × Nat) := [(20, .aload_n 0, 1), (21, .bipush 8, 2), (23, .iload 5, 2), (25, .imul, 1), (26, .bipush 8, 2), (28, .aload_n 2, 1), (29, .iload 5, 2), (31, .invokevirtual 86, 3)]
set_option maxRecDepth 20000 in
theorem k_X4_works_20 {sc : xm_Sc} : xm_bok (xe_cy (XE sc) 88) b_X4_works_20 := by show xm_bok cX4_works _; unfold xm_bok; decide +kernel
def b_X4_works_34 : List (Nat × Jvm.ClassFile.Instr × Nat) := [(34, .i2l, 1), (35, .invokevirtual 66, 3)]
set_option maxRecDepth 20000 in
theorem k_X4_works_34 {sc : xm_Sc} : xm_bok (xe_cy (XE sc) 88) b_X4_works_34 := by show xm_bok cX4_works _; unfold xm_bok; decide +kernel
def b_X4_works_38 : List (Nat × Jvm.ClassFile.Instr × Nat) := [(38, .iinc 5 1, 3), (41, .goto (-30), 3)]
set_option maxRecDepth 20000 in
theorem k_X4_works_38 {sc : xm_Sc} : xm_bok (xe_cy (XE sc) 88) b_X4_works_38 := by show xm_bok cX4_works _; unfold xm_bok; decide +kernel
def b_X4_works_44 : List (Nat × Jvm.ClassFile.Instr × Nat) := [(44, .aload_n 1, 1), (45, .iload 4, 2), (47, .invokevirtual 89, 3)]
set_option maxRecDepth 20000 in
theorem k_X4_works_44 {sc : xm_Sc} : xm_bok (xe_cy (XE sc) 88) b_X4_works_44 := by show xm_bok cX4_works _; unfold xm_bok; decide +kernel
def b_X4_works_50 : List (Nat × Jvm.ClassFile.Instr × Nat) := [(50, .istore 5, 2), (52, .aload_n 0, 1), (53, .iconst 0, 1), (54, .putfield 92, 3), (57, .aload_n 0, 1), (58, .lconst 0, 1), (59, .putfield 42, 3), (62, .aload_n 0, 1), (63, .iload 5, 2), (65, .aload_n 1, 1), (66, .iload 4, 2), (68, .invokevirtual 95, 3)]
set_option maxRecDepth 20000 in
theorem k_X4_works_50 {sc : xm_Sc} : xm_bok (xe_cy (XE sc) 88) b_X4_works_50 := by show xm_bok cX4_works _; unfold xm_bok; decide +kernel
def b_X4_works_71 : List (Nat × Jvm.ClassFile.Instr × Nat) := [(71, .iadd, 1), (72, .putfield 98, 3), (75, .aload_n 0, 1), (76, .iconst 2, 1), (77, .putfield 101, 3), (80, .aload_n 0, 1), (81, .iload 4, 2), (83, .iconst 0, 1), (84, .iload 5, 2), (86, .aload_n 0, 1), (87, .getfield 98, 3), (90, .iconst 2, 1), (91, .invokevirtual 104, 3)]
set_option maxRecDepth 20000 in
theorem k_X4_works_71 {sc : xm_Sc} : xm_bok (xe_cy (XE sc) 88) b_X4_works_71 := by show xm_bok cX4_works _; unfold xm_bok; decide +kernel
def b_X4_works_94 : List (Nat × Jvm.ClassFile.Instr × Nat) := [(94, .lconst 0, 1), (95, .lstore 6, 2)]
set_option maxRecDepth 20000 in
theorem k_X4_works_94 {sc : xm_Sc} : xm_bok (xe_cy (XE sc) 88) b_X4_works_94 := by show xm_bok cX4_works _; unfold xm_bok; decide +kernel
def b_X4_works_97 : List (Nat × Jvm.ClassFile.Instr × Nat) := [(97, .lload 6, 2), (99, .ldc2_w 108, 3), (102, .lcmp, 1), (103, .ifCond .ge 108, 3)]
set_option maxRecDepth 20000 in
theorem k_X4_works_97 {sc : xm_Sc} : xm_bok (xe_cy (XE sc) 88) b_X4_works_97 := by show xm_bok cX4_works _; unfold xm_bok; decide +kernel
def b_X4_works_106 : List (Nat × Jvm.ClassFile.Instr × Nat) := [(106, .aload_n 0, 1), (107, .getfield 92, 3), (110, .ifCond .le 101, 3)]
set_option maxRecDepth 20000 in
theorem k_X4_works_106 {sc : xm_Sc} : xm_bok (xe_cy (XE sc) 88) b_X4_works_106 := by show xm_bok cX4_works _; unfold xm_bok; decide +kernel
def b_X4_works_113 : List (Nat × Jvm.ClassFile.Instr × Nat) := [(113, .aload_n 0, 1), (114, .dup, 1), (115, .getfield 92, 3), (118, .iconst 1, 1), (119, .isub, 1), (120, .putfield 92, 3), (123, .aload_n 0, 1), (124, .aload_n 0, 1), (125, .getfield 22, 3), (128, .aload_n 0, 1), (129, .getfield 92, 3), (132, .iaload, 1), (133, .putfield 110, 3), (136, .aload_n 0, 1), (137, .aload_n 0, 1), (138, .getfield 26, 3), (141, .aload_n 0, 1), (142, .getfield 92, 3), (145, .iaload, 1), (146, .putfield 59, 3), (149, .aload_n 0, 1), (150, .aload_n 0, 1), (151, .getfield 29, 3), (154, .aload_n 0, 1), (155, .getfield 92, 3), (158, .iaload, 1), (159, .putfield 55, 3), (162, .aload_n 0, 1), (163, .aload_n 0, 1), (164, .getfield 32, 3), (167, .aload_n 0, 1), (168, .getfield 92, 3), (171, .iaload, 1), (172, .putfield 113, 3), (175, .aload_n 0, 1), (176, .aload_n 0, 1), (177, .getfield 35, 3), (180, .aload_n 0, 1), (181, .getfield 92, 3), (184, .iaload, 1), (185, .putfield 116, 3), (188, .aload_n 0, 1), (189, .aload_n 1, 1), (190, .getfield 119, 3), (193, .iload_n 3, 1), (194, .invokevirtual 123, 3)]
set_option maxRecDepth 20000 in
theorem k_X4_works_113 {sc : xm_Sc} : xm_bok (xe_cy (XE sc) 88) b_X4_works_113 := by show xm_bok cX4_works _; unfold xm_bok; decide +kernel
def b_X4_works_197 : List (Nat × Jvm.ClassFile.Instr × Nat) := [(197, .ifCond .ne 5, 3)]
set_option maxRecDepth 20000 in
theorem k_X4_works_197 {sc : xm_Sc} : xm_bok (xe_cy (XE sc) 88) b_X4_works_197 := by show xm_bok cX4_works _; unfold xm_bok; decide +kernel
def b_X4_works_200 : List (Nat × Jvm.ClassFile.Instr × Nat) := [(200, .iconst 0, 1), (201, .ireturn, 1)]
set_option maxRecDepth 20000 in
theorem k_X4_works_200 {sc : xm_Sc} : xm_bok (xe_cy (XE sc) 88) b_X4_works_200 := by show xm_bok cX4_works _; unfold xm_bok; decide +kernel
def b_X4_works_202 : List (Nat × Jvm.ClassFile.Instr × Nat) := [(202, .lload 6, 2), (204, .lconst 1, 1), (205, .ladd, 1), (206, .lstore 6, 2), (208, .goto (-111), 3)]
set_option maxRecDepth 20000 in
theorem k_X4_works_202 {sc : xm_Sc} : xm_bok (xe_cy (XE sc) 88) b_X4_works_202 := by show xm_bok cX4_works _; unfold xm_bok; decide +kernel
def b_X4_works_211 : List (Nat × Jvm.ClassFile.Instr × Nat) := [(211, .iconst 1, 1), (212, .ireturn, 1)]
set_option maxRecDepth 20000 in
theorem k_X4_works_211 {sc : xm_Sc} : xm_bok (xe_cy (XE sc) 88) b_X4_works_211 := by show xm_bok cX4_works _; unfold xm_bok; decide +kernel
set_option maxRecDepth 20000 in
theorem cn_88 {sc : xm_Sc} : xe_cn (XE sc) 88 = 4 := rfl
set_option maxRecDepth 20000 in
theorem ml_88 {sc : xm_Sc} : xe_ml (XE sc) 88 = 8 := rfl
set_option maxRecDepth 20000 in
theorem ry_88 {sc : xm_Sc} : xe_ry (XE sc) 88 = (some .boolean) := rfl
set_option maxRecDepth 20000 in
theorem is_88 {sc : xm_Sc} : xe_is (XE sc) 88 = false := rfl
set_option maxRecDepth 20000 in
theorem np_88 {sc : xm_Sc} : xe_np (XE sc) 88 = 3 := rfl
set_option maxRecDepth 20000 in
theorem fl_4_12 {sc : xm_Sc} : xe_fl (XE sc) 4 12 = some (4, 3) := rfl
set_option maxRecDepth 20000 in
theorem fl_4_18 {sc : xm_Sc} : xe_fl (XE sc) 4 18 = some (4, 4) := rfl
set_option maxRecDepth 20000 in
theorem fl_4_22 {sc : xm_Sc} : xe_fl (XE sc) 4 22 = some (4, 5) := rfl
set_option maxRecDepth 20000 in
theorem fl_4_26 {sc : xm_Sc} : xe_fl (XE sc) 4 26 = some (4, 6) := rfl
set_option maxRecDepth 20000 in
theorem fl_4_29 {sc : xm_Sc} : xe_fl (XE sc) 4 29 = some (4, 7) := rfl
set_option maxRecDepth 20000 in
theorem fl_4_32 {sc : xm_Sc} : xe_fl (XE sc) 4 32 = some (4, 8) := rfl
set_option maxRecDepth 20000 in
theorem fl_4_35 {sc : xm_Sc} : xe_fl (XE sc) 4 35 = some (4, 9) := rfl
set_option maxRecDepth 20000 in
theorem fl_4_38 {sc : xm_Sc} : xe_fl (XE sc) 4 38 = some (4, 2) := rfl
set_option maxRecDepth 20000 in
theorem fl_4_42 {sc : xm_Sc} : xe_fl (XE sc) 4 42 = some (4, 16) := rfl
set_option maxRecDepth 20000 in
theorem fl_4_55 {sc : xm_Sc} : xe_fl (XE sc) 4 55 = some (4, 13) := rfl
set_option maxRecDepth 20000 in
theorem fl_4_59 {sc : xm_Sc} : xe_fl (XE sc) 4 59 = some (4, 12) := rfl
set_option maxRecDepth 20000 in
theorem fl_4_80 {sc : xm_Sc} : xe_fl (XE sc) 4 80 = some (6, 0) := rfl
set_option maxRecDepth 20000 in
theorem fl_4_83 {sc : xm_Sc} : xe_fl (XE sc) 4 83 = some (8, 1) := rfl
set_option maxRecDepth 20000 in
theorem fl_4_92 {sc : xm_Sc} : xe_fl (XE sc) 4 92 = some (4, 10) := rfl
set_option maxRecDepth 20000 in
theorem fl_4_98 {sc : xm_Sc} : xe_fl (XE sc) 4 98 = some (4, 0) := rfl
set_option maxRecDepth 20000 in
theorem fl_4_101 {sc : xm_Sc} : xe_fl (XE sc) 4 101 = some (4, 1) := rfl
set_option maxRecDepth 20000 in
theorem fl_4_110 {sc : xm_Sc} : xe_fl (XE sc) 4 110 = some (4, 11) := rfl
set_option maxRecDepth 20000 in
theorem fl_4_113 {sc : xm_Sc} : xe_fl (XE sc) 4 113 = some (4, 14) := rfl
set_option maxRecDepth 20000 in
theorem fl_4_116 {sc : xm_Sc} : xe_fl (XE sc) 4 116 = some (4, 15) := rfl
set_option maxRecDepth 20000 in
theorem fl_4_119 {sc : xm_Sc} : xe_fl (XE sc) 4 119 = some (6, 12) := rfl
set_option maxRecDepth 20000 in
theorem fl_4_129 {sc : xm_Sc} : xe_fl (XE sc) 4 129 = some (0, 3) := rfl
set_option maxRecDepth 20000 in
theorem fl_4_132 {sc : xm_Sc} : xe_fl (XE sc) 4 132 = some (0, 0) := rfl
set_option maxRecDepth 20000 in
theorem fl_4_139 {sc : xm_Sc} : xe_fl (XE sc) 4 139 = some (0, 4) := rfl
set_option maxRecDepth 20000 in
theorem fl_4_142 {sc : xm_Sc} : xe_fl (XE sc) 4 142 = some (0, 1) := rfl
set_option maxRecDepth 20000 in
theorem fl_4_145 {sc : xm_Sc} : xe_fl (XE sc) 4 145 = some (0, 2) := rfl
set_option maxRecDepth 20000 in
theorem fl_4_156 {sc : xm_Sc} : xe_fl (XE sc) 4 156 = some (0, 5) := rfl
set_option maxRecDepth 20000 in
theorem ki_4_52 {sc : xm_Sc} : xe_kI (XE sc) 4 52 = some 839680 := rfl
set_option maxRecDepth 20000 in
theorem kl_4_53 {sc : xm_Sc} : xe_kL (XE sc) 4 53 = some (-1) := rfl
set_option maxRecDepth 20000 in
theorem kl_4_108 {sc : xm_Sc} : xe_kL (XE sc) 4 108 = some 1099511627776 := rfl
set_option maxRecDepth 20000 in
theorem lk_4_46 {sc : xm_Sc} : xe_lk (XE sc) 4 46 = some 104 := rfl
set_option maxRecDepth 20000 in
theorem lk_4_62 {sc : xm_Sc} : xe_lk (XE sc) 4 62 = some 83 := rfl
set_option maxRecDepth 20000 in
theorem lk_4_66 {sc : xm_Sc} : xe_lk (XE sc) 4 66 = some 86 := rfl
set_option maxRecDepth 20000 in
theorem lk_4_70 {sc : xm_Sc} : xe_lk (XE sc) 4 70 = some 127 := rfl
set_option maxRecDepth 20000 in
theorem lk_4_76 {sc : xm_Sc} : xe_lk (XE sc) 4 76 = some 135 := rfl
set_option maxRecDepth 20000 in
theorem lk_4_86 {sc : xm_Sc} : xe_lk (XE sc) 4 86 = some 126 := rfl
set_option maxRecDepth 20000 in
theorem lk_4_89 {sc : xm_Sc} : xe_lk (XE sc) 4 89 = some 110 := rfl
set_option maxRecDepth 20000 in
theorem lk_4_95 {sc : xm_Sc} : xe_lk (XE sc) 4 95 = some 111 := rfl
set_option maxRecDepth 20000 in
theorem lk_4_104 {sc : xm_Sc} : xe_lk (XE sc) 4 104 = some 77 := rfl
set_option maxRecDepth 20000 in
theorem lk_4_123 {sc : xm_Sc} : xe_lk (XE sc) 4 123 = some 82 := rfl
set_option maxRecDepth 20000 in
theorem lk_4_135 {sc : xm_Sc} : xe_lk (XE sc) 4 135 = some 85 := rfl
set_option maxRecDepth 20000 in
theorem lk_4_148 {sc : xm_Sc} : xe_lk (XE sc) 4 148 = some 78 := rfl
set_option maxRecDepth 20000 in
theorem lk_4_152 {sc : xm_Sc} : xe_lk (XE sc) 4 152 = some 62 := rfl
set_option maxRecDepth 20000 in
theorem lk_4_159 {sc : xm_Sc} : xe_lk (XE sc) 4 159 = some 81 := rfl
set_option maxRecDepth 20000 in
theorem lk_4_163 {sc : xm_Sc} : xe_lk (XE sc) 4 163 = some 331 := rfl
set_option maxRecDepth 20000 in
theorem lk_4_169 {sc : xm_Sc} : xe_lk (XE sc) 4 169 = some 79 := rfl
set_option maxRecDepth 20000 in
theorem lk_4_172 {sc : xm_Sc} : xe_lk (XE sc) 4 172 = some 80 := rfl
