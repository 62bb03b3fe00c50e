/- method 98: X6_add -/
def b_X6_add_0 : List (Nat × Jvm.ClassFile.Instr × Nat) := [(0, .aload_n 0, 1), (1, .getfield 59, 3), (4, .istore_n 2, 1), (5, .aload_n 0, 1), (6, .getfield 9, 3), (9, .iload_n 2, 1), (10, .iload_n 1, 1), (11, .iastore, 1), (12, .aload_n 0, 1), (13, .getfield 15, 3), (16, .iload_n 2, 1), (17, .iconst (-1), 1), (18, .iastore, 1), (19, .aload_n 0, 1), (20, .getfield 18, 3), (23, .iload_n 2, 1), (24, .iconst (-1), 1), (25, .iastore, 1), (26, .aload_n 0, 1), (27, .getfield 21, 3), (30, .iload_n 2, 1), (31, .iconst 0, 1), (32, .iastore, 1), (33, .aload_n 0, 1), (34, .getfield 24, 3), (37, .iload_n 2, 1), (38, .iconst 0, 1), (39, .iastore, 1), (40, .aload_n 0, 1), (41, .dup, 1), (42, .getfield 59, 3), (45, .iconst 1, 1), (46, .iadd, 1), (47, .putfield 59, 3), (50, .iload_n 2, 1), (51, .ireturn, 1)]
set_option maxRecDepth 20000 in
theorem k_X6_add_0 {sc : xm_Sc} : xm_bok (xe_cy (XE sc) 98) b_X6_add_0 := by show xm_bok cX6_add _; unfold xm_bok; decide +kernel
set_option maxRecDepth 20000 in
theorem cn_98 {sc : xm_Sc} : xe_cn (XE sc) 98 = 6 := rfl
set_option maxRecDepth 20000 in
theorem ml_98 {sc : xm_Sc} : xe_ml (XE sc) 98 = 3 := rfl
set_option maxRecDepth 20000 in
theorem ry_98 {sc : xm_Sc} : xe_ry (XE sc) 98 = (some .int) := rfl
set_option maxRecDepth 20000 in
theorem is_98 {sc : xm_Sc} : xe_is (XE sc) 98 = false := rfl
set_option maxRecDepth 20000 in
theorem np_98 {sc : xm_Sc} : xe_np (XE sc) 98 = 1 := rfl
/- method 99: X6_addCopy -/
def b_X6_addCopy_0 : List (Nat × Jvm.ClassFile.Instr × Nat) := [(0, .aload_n 0, 1), (1, .aload_n 0, 1), (2, .getfield 9, 3), (5, .iload_n 1, 1), (6, .iaload, 1), (7, .invokevirtual 69, 3)]
set_option maxRecDepth 20000 in
theorem k_X6_addCopy_0 {sc : xm_Sc} : xm_bok (xe_cy (XE sc) 99) b_X6_addCopy_0 := by show xm_bok cX6_addCopy _; unfold xm_bok; decide +kernel
def b_X6_addCopy_10 : List (Nat × Jvm.ClassFile.Instr × Nat) := [(10, .istore 4, 2), (12, .aload_n 0, 1), (13, .getfield 15, 3), (16, .iload 4, 2), (18, .iload_n 2, 1), (19, .iastore, 1), (20, .aload_n 0, 1), (21, .getfield 18, 3), (24, .iload 4, 2), (26, .iload_n 3, 1), (27, .iastore, 1), (28, .aload_n 0, 1), (29, .getfield 21, 3), (32, .iload 4, 2), (34, .aload_n 0, 1), (35, .getfield 21, 3), (38, .iload_n 1, 1), (39, .iaload, 1), (40, .iastore, 1), (41, .aload_n 0, 1), (42, .getfield 24, 3), (45, .iload 4, 2), (47, .aload_n 0, 1), (48, .getfield 24, 3), (51, .iload_n 1, 1), (52, .iaload, 1), (53, .iastore, 1), (54, .return_, 1)]
set_option maxRecDepth 20000 in
theorem k_X6_addCopy_10 {sc : xm_Sc} : xm_bok (xe_cy (XE sc) 99) b_X6_addCopy_10 := by show xm_bok cX6_addCopy _; unfold xm_bok; decide +kernel
set_option maxRecDepth 20000 in
theorem cn_99 {sc : xm_Sc} : xe_cn (XE sc) 99 = 6 := rfl
set_option maxRecDepth 20000 in
theorem ml_99 {sc : xm_Sc} : xe_ml (XE sc) 99 = 5 := rfl
set_option maxRecDepth 20000 in
theorem ry_99 {sc : xm_Sc} : xe_ry (XE sc) 99 = none := rfl
set_option maxRecDepth 20000 in
theorem is_99 {sc : xm_Sc} : xe_is (XE sc) 99 = false := rfl
set_option maxRecDepth 20000 in
theorem np_99 {sc : xm_Sc} : xe_np (XE sc) 99 = 3 := rfl
/- method 100: X6_addHidden -/
def b_X6_addHidden_0 : List (Nat × Jvm.ClassFile.Instr × Nat) := [(0, .aload_n 0, 1), (1, .getfield 63, 3), (4, .sipush 256, 3), (7, .if_icmp .ge 10, 3)]
set_option maxRecDepth 20000 in
theorem k_X6_addHidden_0 {sc : xm_Sc} : xm_bok (xe_cy (XE sc) 100) b_X6_addHidden_0 := by show xm_bok cX6_addHidden _; unfold xm_bok; decide +kernel
def b_X6_addHidden_10 : List (Nat × Jvm.ClassFile.Instr × Nat) := [(10, .aload_n 0, 1), (11, .getfield 63, 3), (14, .goto 6, 3)]
set_option maxRecDepth 20000 in
theorem k_X6_addHidden_10 {sc : xm_Sc} : xm_bok (xe_cy (XE sc) 100) b_X6_addHidden_10 := by show xm_bok cX6_addHidden _; unfold xm_bok; decide +kernel
def b_X6_addHidden_17 : List (Nat × Jvm.ClassFile.Instr × Nat) := [(17, .sipush 255, 3)]
set_option maxRecDepth 20000 in
theorem k_X6_addHidden_17 {sc : xm_Sc} : xm_bok (xe_cy (XE sc) 100) b_X6_addHidden_17 := by show xm_bok cX6_addHidden _; unfold xm_bok; decide +kernel
def b_X6_addHidden_20 : List (Nat × Jvm.ClassFile.Instr × Nat) := [(20, .istore_n 1, 1), (21, .aload_n 0, 1), (22, .iload_n 1, 1), (23, .iconst 1, 1), (24, .iadd, 1), (25, .putfield 63, 3), (28, .bipush 8, 2), (30, .iload_n 1, 1), (31, .imul, 1), (32, .ireturn, 1)]
set_option maxRecDepth 20000 in
theorem k_X6_addHidden_20 {sc : xm_Sc} : xm_bok (xe_cy (XE sc) 100) b_X6_addHidden_20 := by show xm_bok cX6_addHidden _; unfold xm_bok; decide +kernel
set_option maxRecDepth 20000 in
theorem cn_100 {sc : xm_Sc} : xe_cn (XE sc) 100 = 6 := rfl
set_option maxRecDepth 20000 in
theorem ml_100 {sc : xm_Sc} : xe_ml (XE sc) 100 = 2 := rfl
set_option maxRecDepth 20000 in
theorem ry_100 {sc : xm_Sc} : xe_ry (XE sc) 100 = (some .int) := rfl
set_option maxRecDepth 20000 in
theorem is_100 {sc : xm_Sc} : xe_is (XE sc) 100 = false := rfl
set_option maxRecDepth 20000 in
theorem np_100 {sc : xm_Sc} : xe_np (XE sc) 100 = 0 := rfl
/- method 101: X6_allCells -/
def b_X6_allCells_0 : List (Nat × Jvm.ClassFile.Instr × Nat) := [(0, .aload_n 0, 1), (1, .getfield 59, 3), (4, .iconst 1, 1), (5, .isub, 1), (6, .istore_n 1, 1), (7, .aload_n 0, 1), (8, .getfield 33, 3), (11, .iload_n 1, 1), (12, .iaload, 1), (13, .i2l, 1), (14, .aload_n 0, 1), (15, .iload_n 1, 1), (16, .invokevirtual 76, 3)]
set_option maxRecDepth 20000 in
theorem k_X6_allCells_0 {sc : xm_Sc} : xm_bok (xe_cy (XE sc) 101) b_X6_allCells_0 := by show xm_bok cX6_allCells _; unfold xm_bok; decide +kernel
def b_X6_allCells_19 : List (Nat × Jvm.ClassFile.Instr × Nat) := [(19, .i2l, 1), (20, .ladd, 1), (21, .aload_n 0, 1), (22, .iload_n 1, 1), (23, .invokevirtual 79, 3)]
set_option maxRecDepth 20000 in
theorem k_X6_allCells_19 {sc : xm_Sc} : xm_bok (xe_cy (XE sc) 101) b_X6_allCells_19 := by show xm_bok cX6_allCells _; unfold xm_bok; decide +kernel
def b_X6_allCells_26 : List (Nat × Jvm.ClassFile.Instr × Nat) := [(26, .i2l, 1), (27, .ladd, 1), (28, .invokestatic 82, 3)]
set_option maxRecDepth 20000 in
theorem k_X6_allCells_26 {sc : xm_Sc} : xm_bok (xe_cy (XE sc) 101) b_X6_allCells_26 := by show xm_bok cX6_allCells _; unfold xm_bok; decide +kernel
def b_X6_allCells_31 : List (Nat × Jvm.ClassFile.Instr × Nat) := [(31, .ireturn, 1)]
set_option maxRecDepth 20000 in
theorem k_X6_allCells_31 {sc : xm_Sc} : xm_bok (xe_cy (XE sc) 101) b_X6_allCells_31 := by show xm_bok cX6_allCells _; unfold xm_bok; decide +kernel
set_option maxRecDepth 20000 in
theorem cn_101 {sc : xm_Sc} : xe_cn (XE sc) 101 = 6 := rfl
set_option maxRecDepth 20000 in
theorem ml_101 {sc : xm_Sc} : xe_ml (XE sc) 101 = 2 := rfl
set_option maxRecDepth 20000 in
theorem ry_101 {sc : xm_Sc} : xe_ry (XE sc) 101 = (some .int) := rfl
set_option maxRecDepth 20000 in
theorem is_101 {sc : xm_Sc} : xe_is (XE sc) 101 = false := rfl
set_option maxRecDepth 20000 in
theorem np_101 {sc : xm_Sc} : xe_np (XE sc) 101 = 0 := rfl
/- method 102: X6_allFrames -/
def b_X6_allFrames_0 : List (Nat × Jvm.ClassFile.Instr × Nat) := [(0, .aload_n 0, 1), (1, .getfield 36, 3), (4, .aload_n 0, 1), (5, .getfield 59, 3), (8, .iconst 1, 1), (9, .isub, 1), (10, .iaload, 1), (11, .i2l, 1), (12, .ldc2_w 86, 3), (15, .ladd, 1), (16, .invokestatic 82, 3)]
set_option maxRecDepth 20000 in
theorem k_X6_allFrames_0 {sc : xm_Sc} : xm_bok (xe_cy (XE sc) 102) b_X6_allFrames_0 := by show xm_bok cX6_allFrames _; unfold xm_bok; decide +kernel
def b_X6_allFrames_19 : List (Nat × Jvm.ClassFile.Instr × Nat) := [(19, .ireturn, 1)]
set_option maxRecDepth 20000 in
theorem k_X6_allFrames_19 {sc : xm_Sc} : xm_bok (xe_cy (XE sc) 102) b_X6_allFrames_19 := by show xm_bok cX6_allFrames _; unfold xm_bok; decide +kernel
set_option maxRecDepth 20000 in
theorem cn_102 {sc : xm_Sc} : xe_cn (XE sc) 102 = 6 := rfl
set_option maxRecDepth 20000 in
theorem ml_102 {sc : xm_Sc} : xe_ml (XE sc) 102 = 1 := rfl
set_option maxRecDepth 20000 in
theorem ry_102 {sc : xm_Sc} : xe_ry (XE sc) 102 = (some .int) := rfl
set_option maxRecDepth 20000 in
theorem is_102 {sc : xm_Sc} : xe_is (XE sc) 102 = false := rfl
set_option maxRecDepth 20000 in
theorem np_102 {sc : xm_Sc} : xe_np (XE sc) 102 = 0 := rfl
/- method 103: X6_allSteps -/
def b_X6_allSteps_0 : List (Nat × Jvm.ClassFile.Instr × Nat) := [(0, .aload_n 0, 1), (1, .getfield 39, 3), (4, .aload_n 0, 1), (5, .getfield 59, 3), (8, .iconst 1, 1), (9, .isub, 1), (10, .iaload, 1), (11, .ireturn, 1)]
set_option maxRecDepth 20000 in
theorem k_X6_allSteps_0 {sc : xm_Sc} : xm_bok (xe_cy (XE sc) 103) b_X6_allSteps_0 := by show xm_bok cX6_allSteps _; unfold xm_bok; decide +kernel
set_option maxRecDepth 20000 in
theorem cn_103 {sc : xm_Sc} : xe_cn (XE sc) 103 = 6 := rfl
set_option maxRecDepth 20000 in
theorem ml_103 {sc : xm_Sc} : xe_ml (XE sc) 103 = 1 := rfl
set_option maxRecDepth 20000 in
theorem ry_103 {sc : xm_Sc} : xe_ry (XE sc) 103 = (some .int) := rfl
set_option maxRecDepth 20000 in
theorem is_103 {sc : xm_Sc} : xe_is (XE sc) 103 = false := rfl
set_option maxRecDepth 20000 in
theorem np_103 {sc : xm_Sc} : xe_np (XE sc) 103 = 0 := rfl
/- method 104: X6_capped -/
def b_X6_capped_0 : List (Nat × Jvm.ClassFile.Instr × Nat) := [(0, .lload_n 0, 1), (1, .ldc2_w 88, 3), (4, .lcmp, 1), (5, .ifCond .le 8, 3)]
set_option maxRecDepth 20000 in
theorem k_X6_capped_0 {sc : xm_Sc} : xm_bok (xe_cy (XE sc) 104) b_X6_capped_0 := by show xm_bok cX6_capped _; unfold xm_bok; decide +kernel
def b_X6_capped_8 : List (Nat × Jvm.ClassFile.Instr × Nat) := [(8, .ldc 90, 2), (10, .goto 5, 3)]
set_option maxRecDepth 20000 in
theorem k_X6_capped_8 {sc : xm_Sc} : xm_bok (xe_cy (XE sc) 104) b_X6_capped_8 := by show xm_bok cX6_capped _; unfold xm_bok; decide +kernel
def b_X6_capped_13 : List (Nat × Jvm.ClassFile.Instr × Nat) := [(13, .lload_n 0, 1), (14, .l2i, 1)]
set_option maxRecDepth 20000 in
theorem k_X6_capped_13 {sc : xm_Sc} : xm_bok (xe_cy (XE sc) 104) b_X6_capped_13 := by show xm_bok cX6_capped _; unfold xm_bok; decide +kernel
def b_X6_capped_15 : List (Nat × Jvm.ClassFile.Instr × Nat) := [(15, .ireturn, 1)]
set_option maxRecDepth 20000 in
theorem k_X6_capped_15 {sc : xm_Sc} : xm_bok (xe_cy (XE sc) 104) b_X6_capped_15 := by show xm_bok cX6_capped _; unfold xm_bok; decide +kernel
set_option maxRecDepth 20000 in
theorem cn_104 {sc : xm_Sc} : xe_cn (XE sc) 104 = 6 := rfl
set_option maxRecDepth 20000 in
theorem ml_104 {sc : xm_Sc} : xe_ml (XE sc) 104 = 2 := rfl
set_option maxRecDepth 20000 in
theorem ry_104 {sc : xm_Sc} : xe_ry (XE sc) 104 = (some .int) := rfl
set_option maxRecDepth 20000 in
theorem is_104 {sc : xm_Sc} : xe_is (XE sc) 104 = true := rfl
set_option maxRecDepth 20000 in
theorem np_104 {sc : xm_Sc} : xe_np (XE sc) 104 = 1 := rfl
/- method 105: X6_clear -/
def b_X6_clear_0 : List (Nat × Jvm.ClassFile.Instr × Nat) := [(0, .aload_n 0, 1), (1, .iconst 0, 1), (2, .putfield 59, 3), (5, .aload_n 0, 1), (6, .iconst 0, 1), (7, .putfield 63, 3), (10, .aload_n 0, 1), (11, .iconst 0, 1), (12, .putfield 66, 3), (15, .return_, 1)]
set_option maxRecDepth 20000 in
theorem k_X6_clear_0 {sc : xm_Sc} : xm_bok (xe_cy (XE sc) 105) b_X6_clear_0 := by show xm_bok cX6_clear _; unfold xm_bok; decide +kernel
set_option maxRecDepth 20000 in
theorem cn_105 {sc : xm_Sc} : xe_cn (XE sc) 105 = 6 := rfl
set_option maxRecDepth 20000 in
theorem ml_105 {sc : xm_Sc} : xe_ml (XE sc) 105 = 1 := rfl
set_option maxRecDepth 20000 in
theorem ry_105 {sc : xm_Sc} : xe_ry (XE sc) 105 = none := rfl
set_option maxRecDepth 20000 in
theorem is_105 {sc : xm_Sc} : xe_is (XE sc) 105 = false := rfl
set_option maxRecDepth 20000 in
theorem np_105 {sc : xm_Sc} : xe_np (XE sc) 105 = 0 := rfl
/- method 106: X6_compileInto -/
def b_X6_compileInto_0 : List (Nat × Jvm.ClassFile.Instr × Nat) := [(0, .iconst 0, 1), (1, .istore_n 2, 1)]
set_option maxRecDepth 20000 in
theorem k_X6_compileInto_0 {sc : xm_Sc} : xm_bok (xe_cy (XE sc) 106) b_X6_compileInto_0 := by show xm_bok cX6_compileInto _; unfold xm_bok; decide +kernel
def b_X6_compileInto_2 : List (Nat × Jvm.ClassFile.Instr × Nat) := [(2, .iload_n 2, 1), (3, .aload_n 0, 1), (4, .getfield 59, 3), (7, .if_icmp .ge 305, 3)]
set_option maxRecDepth 20000 in
theorem k_X6_compileInto_2 {sc : xm_Sc} : xm_bok (xe_cy (XE sc) 106) b_X6_compileInto_2 := by show xm_bok cX6_compileInto _; unfold xm_bok; decide +kernel
def b_X6_compileInto_10 : List (Nat × Jvm.ClassFile.Instr × Nat) := [(10, .iconst 0, 1), (11, .istore_n 3, 1), (12, .iconst 0, 1), (13, .istore 4, 2), (15, .aload_n 0, 1), (16, .getfield 9, 3), (19, .iload_n 2, 1), (20, .iaload, 1), (21, .tableswitch 259 0 12 #[67, 169, 67, 81, 112, 259, 143, 233, 259, 259, 242, 259, 242], 67)]
set_option maxRecDepth 20000 in
theorem k_X6_compileInto_10 {sc : xm_Sc} : xm_bok (xe_cy (XE sc) 106) b_X6_compileInto_10 := by show xm_bok cX6_compileInto _; unfold xm_bok; decide +kernel
def b_X6_compileInto_88 : List (Nat × Jvm.ClassFile.Instr × Nat) := [(88, .aload_n 0, 1), (89, .aload_n 0, 1), (90, .getfield 15, 3), (93, .iload_n 2, 1), (94, .iaload, 1), (95, .invokevirtual 79, 3)]
set_option maxRecDepth 20000 in
theorem k_X6_compileInto_88 {sc : xm_Sc} : xm_bok (xe_cy (XE sc) 106) b_X6_compileInto_88 := by show xm_bok cX6_compileInto _; unfold xm_bok; decide +kernel
def b_X6_compileInto_98 : List (Nat × Jvm.ClassFile.Instr × Nat) := [(98, .istore_n 3, 1), (99, .goto 181, 3)]
set_option maxRecDepth 20000 in
theorem k_X6_compileInto_98 {sc : xm_Sc} : xm_bok (xe_cy (XE sc) 106) b_X6_compileInto_98 := by show xm_bok cX6_compileInto _; unfold xm_bok; decide +kernel
def b_X6_compileInto_102 : List (Nat × Jvm.ClassFile.Instr × Nat) := [(102, .aload_n 0, 1), (103, .getfield 55, 3), (106, .aload_n 0, 1), (107, .getfield 30, 3), (110, .iload_n 2, 1), (111, .iaload, 1), (112, .aload_n 0, 1), (113, .getfield 55, 3), (116, .getfield 104, 3), (119, .aload_n 0, 1), (120, .getfield 30, 3), (123, .iload_n 2, 1), (124, .iaload, 1), (125, .iaload, 1), (126, .invokevirtual 107, 3)]
set_option maxRecDepth 20000 in
theorem k_X6_compileInto_102 {sc : xm_Sc} : xm_bok (xe_cy (XE sc) 106) b_X6_compileInto_102 := by show xm_bok cX6_compileInto _; unfold xm_bok; decide +kernel
def b_X6_compileInto_129 : List (Nat × Jvm.ClassFile.Instr × Nat) := [(129, .istore_n 3, 1), (130, .goto 150, 3)]
set_option maxRecDepth 20000 in
theorem k_X6_compileInto_129 {sc : xm_Sc} : xm_bok (xe_cy (XE sc) 106) b_X6_compileInto_129 := by show xm_bok cX6_compileInto _; unfold xm_bok; decide +kernel
def b_X6_compileInto_133 : List (Nat × Jvm.ClassFile.Instr × Nat) := [(133, .aload_n 0, 1), (134, .getfield 55, 3), (137, .aload_n 0, 1), (138, .getfield 30, 3), (141, .iload_n 2, 1), (142, .iaload, 1), (143, .aload_n 0, 1), (144, .getfield 55, 3), (147, .getfield 110, 3), (150, .aload_n 0, 1), (151, .getfield 30, 3), (154, .iload_n 2, 1), (155, .iaload, 1), (156, .iaload, 1), (157, .invokevirtual 107, 3)]
set_option maxRecDepth 20000 in
theorem k_X6_compileInto_133 {sc : xm_Sc} : xm_bok (xe_cy (XE sc) 106) b_X6_compileInto_133 := by show xm_bok cX6_compileInto _; unfold xm_bok; decide +kernel
def b_X6_compileInto_160 : List (Nat × Jvm.ClassFile.Instr × Nat) := [(160, .istore_n 3, 1), (161, .goto 119, 3)]
set_option maxRecDepth 20000 in
theorem k_X6_compileInto_160 {sc : xm_Sc} : xm_bok (xe_cy (XE sc) 106) b_X6_compileInto_160 := by show xm_bok cX6_compileInto _; unfold xm_bok; decide +kernel
def b_X6_compileInto_164 : List (Nat × Jvm.ClassFile.Instr × Nat) := [(164, .aload_n 0, 1), (165, .getfield 55, 3), (168, .getfield 73, 3), (171, .aload_n 0, 1), (172, .getfield 55, 3), (175, .getfield 104, 3), (178, .aload_n 0, 1), (179, .getfield 27, 3), (182, .iload_n 2, 1), (183, .iaload, 1), (184, .iaload, 1), (185, .iaload, 1), (186, .istore_n 3, 1), (187, .goto 93, 3)]
set_option maxRecDepth 20000 in
theorem k_X6_compileInto_164 {sc : xm_Sc} : xm_bok (xe_cy (XE sc) 106) b_X6_compileInto_164 := by show xm_bok cX6_compileInto _; unfold xm_bok; decide +kernel
def b_X6_compileInto_190 : List (Nat × Jvm.ClassFile.Instr × Nat) := [(190, .aload_n 0, 1), (191, .getfield 55, 3), (194, .getfield 104, 3), (197, .aload_n 0, 1), (198, .getfield 27, 3), (201, .iload_n 2, 1), (202, .iaload, 1), (203, .iaload, 1), (204, .istore 5, 2), (206, .iconst 1, 1), (207, .aload_n 0, 1), (208, .getfield 55, 3), (211, .iload 5, 2), (213, .aload_n 0, 1), (214, .getfield 55, 3), (217, .getfield 104, 3), (220, .iload 5, 2), (222, .iaload, 1), (223, .invokevirtual 107, 3)]
set_option maxRecDepth 20000 in
theorem k_X6_compileInto_190 {sc : xm_Sc} : xm_bok (xe_cy (XE sc) 106) b_X6_compileInto_190 := by show xm_bok cX6_compileInto _; unfold xm_bok; decide +kernel
def b_X6_compileInto_226 : List (Nat × Jvm.ClassFile.Instr × Nat) := [(226, .iadd, 1), (227, .istore_n 3, 1), (228, .iconst 1, 1), (229, .aload_n 0, 1), (230, .getfield 55, 3), (233, .iload 5, 2), (235, .aload_n 0, 1), (236, .getfield 55, 3), (239, .getfield 110, 3), (242, .iload 5, 2), (244, .iaload, 1), (245, .invokevirtual 107, 3)]
set_option maxRecDepth 20000 in
theorem k_X6_compileInto_226 {sc : xm_Sc} : xm_bok (xe_cy (XE sc) 106) b_X6_compileInto_226 := by show xm_bok cX6_compileInto _; unfold xm_bok; decide +kernel
def b_X6_compileInto_248 : List (Nat × Jvm.ClassFile.Instr × Nat) := [(248, .iadd, 1), (249, .istore 4, 2), (251, .goto 29, 3)]
set_option maxRecDepth 20000 in
theorem k_X6_compileInto_248 {sc : xm_Sc} : xm_bok (xe_cy (XE sc) 106) b_X6_compileInto_248 := by show xm_bok cX6_compileInto _; unfold xm_bok; decide +kernel
def b_X6_compileInto_254 : List (Nat × Jvm.ClassFile.Instr × Nat) := [(254, .aload_n 0, 1), (255, .iload_n 2, 1), (256, .invokevirtual 76, 3)]
set_option maxRecDepth 20000 in
theorem k_X6_compileInto_254 {sc : xm_Sc} : xm_bok (xe_cy (XE sc) 106) b_X6_compileInto_254 := by show xm_bok cX6_compileInto _; unfold xm_bok; decide +kernel
def b_X6_compileInto_259 : List (Nat × Jvm.ClassFile.Instr × Nat) := [(259, .istore_n 3, 1), (260, .goto 20, 3)]
set_option maxRecDepth 20000 in
theorem k_X6_compileInto_259 {sc : xm_Sc} : xm_bok (xe_cy (XE sc) 106) b_X6_compileInto_259 := by show xm_bok cX6_compileInto _; unfold xm_bok; decide +kernel
def b_X6_compileInto_263 : List (Nat × Jvm.ClassFile.Instr × Nat) := [(263, .aload_n 0, 1), (264, .getfield 21, 3), (267, .iload_n 2, 1), (268, .iaload, 1), (269, .istore_n 3, 1), (270, .aload_n 0, 1), (271, .iload_n 2, 1), (272, .invokevirtual 91, 3)]
set_option maxRecDepth 20000 in
theorem k_X6_compileInto_263 {sc : xm_Sc} : xm_bok (xe_cy (XE sc) 106) b_X6_compileInto_263 := by show xm_bok cX6_compileInto _; unfold xm_bok; decide +kernel
def b_X6_compileInto_275 : List (Nat × Jvm.ClassFile.Instr × Nat) := [(275, .istore 4, 2), (277, .goto 3, 3)]
set_option maxRecDepth 20000 in
theorem k_X6_compileInto_275 {sc : xm_Sc} : xm_bok (xe_cy (XE sc) 106) b_X6_compileInto_275 := by show xm_bok cX6_compileInto _; unfold xm_bok; decide +kernel
def b_X6_compileInto_280 : List (Nat × Jvm.ClassFile.Instr × Nat) := [(280, .aload_n 1, 1), (281, .iload_n 2, 1), (282, .aload_n 0, 1), (283, .getfield 9, 3), (286, .iload_n 2, 1), (287, .iaload, 1), (288, .aload_n 0, 1), (289, .getfield 15, 3), (292, .iload_n 2, 1), (293, .iaload, 1), (294, .aload_n 0, 1), (295, .getfield 18, 3), (298, .iload_n 2, 1), (299, .iaload, 1), (300, .iload_n 3, 1), (301, .iload 4, 2), (303, .invokevirtual 113, 3)]
set_option maxRecDepth 20000 in
theorem k_X6_compileInto_280 {sc : xm_Sc} : xm_bok (xe_cy (XE sc) 106) b_X6_compileInto_280 := by show xm_bok cX6_compileInto _; unfold xm_bok; decide +kernel
def b_X6_compileInto_306 : List (Nat × Jvm.ClassFile.Instr × Nat) := [(306, .iinc 2 1, 3), (309, .goto (-307), 3)]
set_option maxRecDepth 20000 in
theorem k_X6_compileInto_306 {sc : xm_Sc} : xm_bok (xe_cy (XE sc) 106) b_X6_compileInto_306 := by show xm_bok cX6_compileInto _; unfold xm_bok; decide +kernel
def b_X6_compileInto_312 : List (Nat × Jvm.ClassFile.Instr × Nat) := [(312, .return_, 1)]
set_option maxRecDepth 20000 in
theorem k_X6_compileInto_312 {sc : xm_Sc} : xm_bok (xe_cy (XE sc) 106) b_X6_compileInto_312 := by show xm_bok cX6_compileInto _; unfold xm_bok; decide +kernel
set_option maxRecDepth 20000 in
theorem cn_106 {sc : xm_Sc} : xe_cn (XE sc) 106 = 6 := rfl
set_option maxRecDepth 20000 in
theorem ml_106 {sc : xm_Sc} : xe_ml (XE sc) 106 = 6 := rfl
set_option maxRecDepth 20000 in
theorem ry_106 {sc : xm_Sc} : xe_ry (XE sc) 106 = none := rfl
set_option maxRecDepth 20000 in
theorem is_106 {sc : xm_Sc} : xe_is (XE sc) 106 = false := rfl
set_option maxRecDepth 20000 in
theorem np_106 {sc : xm_Sc} : xe_np (XE sc) 106 = 1 := rfl
/- method 107: X6_findBounds -/
def b_X6_findBounds_0 : List (Nat × Jvm.ClassFile.Instr × Nat) := [(0, .iconst 0, 1), (1, .istore_n 1, 1)]
set_option maxRecDepth 20000 in
theorem k_X6_findBounds_0 {sc : xm_Sc} : xm_bok (xe_cy (XE sc) 107) b_X6_findBounds_0 := by show xm_bok cX6_findBounds _; unfold xm_bok; decide +kernel
def b_X6_findBounds_2 : List (Nat × Jvm.ClassFile.Instr × Nat) := [(2, .iload_n 1, 1), (3, .aload_n 0, 1), (4, .getfield 59, 3), (7, .if_icmp .ge 111, 3)]
set_option maxRecDepth 20000 in
theorem k_X6_findBounds_2 {sc : xm_Sc} : xm_bok (xe_cy (XE sc) 107) b_X6_findBounds_2 := by show xm_bok cX6_findBounds _; unfold xm_bok; decide +kernel
def b_X6_findBounds_10 : List (Nat × Jvm.ClassFile.Instr × Nat) := [(10, .aload_n 0, 1), (11, .getfield 33, 3), (14, .iload_n 1, 1), (15, .iconst 0, 1), (16, .iastore, 1), (17, .aload_n 0, 1), (18, .getfield 36, 3), (21, .iload_n 1, 1), (22, .iconst 0, 1), (23, .iastore, 1), (24, .aload_n 0, 1), (25, .getfield 39, 3), (28, .iload_n 1, 1), (29, .lconst 1, 1), (30, .aload_n 0, 1), (31, .iload_n 1, 1), (32, .invokevirtual 91, 3)]
set_option maxRecDepth 20000 in
theorem k_X6_findBounds_10 {sc : xm_Sc} : xm_bok (xe_cy (XE sc) 107) b_X6_findBounds_10 := by show xm_bok cX6_findBounds _; unfold xm_bok; decide +kernel
def b_X6_findBounds_35 : List (Nat × Jvm.ClassFile.Instr × Nat) := [(35, .i2l, 1), (36, .ladd, 1), (37, .invokestatic 82, 3)]
set_option maxRecDepth 20000 in
theorem k_X6_findBounds_35 {sc : xm_Sc} : xm_bok (xe_cy (XE sc) 107) b_X6_findBounds_35 := by show xm_bok cX6_findBounds _; unfold xm_bok; decide +kernel
def b_X6_findBounds_40 : List (Nat × Jvm.ClassFile.Instr × Nat) := [(40, .iastore, 1), (41, .aload_n 0, 1), (42, .getfield 15, 3), (45, .iload_n 1, 1), (46, .iaload, 1), (47, .istore_n 2, 1), (48, .aload_n 0, 1), (49, .getfield 18, 3), (52, .iload_n 1, 1), (53, .iaload, 1), (54, .istore_n 3, 1), (55, .iload_n 2, 1), (56, .ifCond .lt 45, 3)]
set_option maxRecDepth 20000 in
theorem k_X6_findBounds_40 {sc : xm_Sc} : xm_bok (xe_cy (XE sc) 107) b_X6_findBounds_40 := by show xm_bok cX6_findBounds _; unfold xm_bok; decide +kernel
def b_X6_findBounds_59 : List (Nat × Jvm.ClassFile.Instr × Nat) := [(59, .aload_n 0, 1), (60, .getfield 33, 3), (63, .iload_n 1, 1), (64, .aload_n 0, 1), (65, .getfield 33, 3), (68, .iload_n 2, 1), (69, .iaload, 1), (70, .iastore, 1), (71, .aload_n 0, 1), (72, .getfield 36, 3), (75, .iload_n 1, 1), (76, .aload_n 0, 1), (77, .getfield 36, 3), (80, .iload_n 2, 1), (81, .iaload, 1), (82, .iastore, 1), (83, .aload_n 0, 1), (84, .getfield 39, 3), (87, .iload_n 1, 1), (88, .lconst 1, 1), (89, .aload_n 0, 1), (90, .getfield 39, 3), (93, .iload_n 2, 1), (94, .iaload, 1), (95, .i2l, 1), (96, .ladd, 1), (97, .invokestatic 82, 3)]
set_option maxRecDepth 20000 in
theorem k_X6_findBounds_59 {sc : xm_Sc} : xm_bok (xe_cy (XE sc) 107) b_X6_findBounds_59 := by show xm_bok cX6_findBounds _; unfold xm_bok; decide +kernel
def b_X6_findBounds_100 : List (Nat × Jvm.ClassFile.Instr × Nat) := [(100, .iastore, 1)]
set_option maxRecDepth 20000 in
theorem k_X6_findBounds_100 {sc : xm_Sc} : xm_bok (xe_cy (XE sc) 107) b_X6_findBounds_100 := by show xm_bok cX6_findBounds _; unfold xm_bok; decide +kernel
def b_X6_findBounds_101 : List (Nat × Jvm.ClassFile.Instr × Nat) := [(101, .iload_n 3, 1), (102, .ifCond .lt 10, 3)]
set_option maxRecDepth 20000 in
theorem k_X6_findBounds_101 {sc : xm_Sc} : xm_bok (xe_cy (XE sc) 107) b_X6_findBounds_101 := by show xm_bok cX6_findBounds _; unfold xm_bok; decide +kernel
def b_X6_findBounds_105 : List (Nat × Jvm.ClassFile.Instr × Nat) := [(105, .aload_n 0, 1), (106, .iload_n 1, 1), (107, .iload_n 2, 1), (108, .iload_n 3, 1), (109, .invokevirtual 94, 3)]
set_option maxRecDepth 20000 in
theorem k_X6_findBounds_105 {sc : xm_Sc} : xm_bok (xe_cy (XE sc) 107) b_X6_findBounds_105 := by show xm_bok cX6_findBounds _; unfold xm_bok; decide +kernel
def b_X6_findBounds_112 : List (Nat × Jvm.ClassFile.Instr × Nat) := [(112, .iinc 1 1, 3), (115, .goto (-113), 3)]
set_option maxRecDepth 20000 in
theorem k_X6_findBounds_112 {sc : xm_Sc} : xm_bok (xe_cy (XE sc) 107) b_X6_findBounds_112 := by show xm_bok cX6_findBounds _; unfold xm_bok; decide +kernel
def b_X6_findBounds_118 : List (Nat × Jvm.ClassFile.Instr × Nat) := [(118, .return_, 1)]
set_option maxRecDepth 20000 in
theorem k_X6_findBounds_118 {sc : xm_Sc} : xm_bok (xe_cy (XE sc) 107) b_X6_findBounds_118 := by show xm_bok cX6_findBounds _; unfold xm_bok; decide +kernel
set_option maxRecDepth 20000 in
theorem cn_107 {sc : xm_Sc} : xe_cn (XE sc) 107 = 6 := rfl
set_option maxRecDepth 20000 in
theorem ml_107 {sc : xm_Sc} : xe_ml (XE sc) 107 = 4 := rfl
set_option maxRecDepth 20000 in
theorem ry_107 {sc : xm_Sc} : xe_ry (XE sc) 107 = none := rfl
set_option maxRecDepth 20000 in
theorem is_107 {sc : xm_Sc} : xe_is (XE sc) 107 = false := rfl
set_option maxRecDepth 20000 in
theorem np_107 {sc : xm_Sc} : xe_np (XE sc) 107 = 0 := rfl
/- method 108: X6_joinBounds -/
def b_X6_joinBounds_0 : List (Nat × Jvm.ClassFile.Instr × Nat) := [(0, .aload_n 0, 1), (1, .getfield 33, 3), (4, .iload_n 1, 1), (5, .aload_n 0, 1), (6, .getfield 33, 3), (9, .iload_n 2, 1), (10, .iaload, 1), (11, .aload_n 0, 1), (12, .getfield 33, 3), (15, .iload_n 3, 1), (16, .iaload, 1), (17, .invokestatic 98, 3)]
set_option maxRecDepth 20000 in
theorem k_X6_joinBounds_0 {sc : xm_Sc} : xm_bok (xe_cy (XE sc) 108) b_X6_joinBounds_0 := by show xm_bok cX6_joinBounds _; unfold xm_bok; decide +kernel
def b_X6_joinBounds_20 : List (Nat × Jvm.ClassFile.Instr × Nat) := [(20, .iastore, 1), (21, .aload_n 0, 1), (22, .getfield 36, 3), (25, .iload_n 1, 1), (26, .aload_n 0, 1), (27, .getfield 36, 3), (30, .iload_n 2, 1), (31, .iaload, 1), (32, .aload_n 0, 1), (33, .getfield 36, 3), (36, .iload_n 3, 1), (37, .iaload, 1), (38, .invokestatic 98, 3)]
set_option maxRecDepth 20000 in
theorem k_X6_joinBounds_20 {sc : xm_Sc} : xm_bok (xe_cy (XE sc) 108) b_X6_joinBounds_20 := by show xm_bok cX6_joinBounds _; unfold xm_bok; decide +kernel
def b_X6_joinBounds_41 : List (Nat × Jvm.ClassFile.Instr × Nat) := [(41, .iastore, 1), (42, .aload_n 0, 1), (43, .getfield 9, 3), (46, .iload_n 1, 1), (47, .iaload, 1), (48, .iconst 1, 1), (49, .if_icmp .ne 33, 3)]
set_option maxRecDepth 20000 in
theorem k_X6_joinBounds_41 {sc : xm_Sc} : xm_bok (xe_cy (XE sc) 108) b_X6_joinBounds_41 := by show xm_bok cX6_joinBounds _; unfold xm_bok; decide +kernel
def b_X6_joinBounds_52 : List (Nat × Jvm.ClassFile.Instr × Nat) := [(52, .aload_n 0, 1), (53, .getfield 39, 3), (56, .iload_n 1, 1), (57, .lconst 1, 1), (58, .aload_n 0, 1), (59, .getfield 39, 3), (62, .iload_n 2, 1), (63, .iaload, 1), (64, .aload_n 0, 1), (65, .getfield 39, 3), (68, .iload_n 3, 1), (69, .iaload, 1), (70, .invokestatic 98, 3)]
set_option maxRecDepth 20000 in
theorem k_X6_joinBounds_52 {sc : xm_Sc} : xm_bok (xe_cy (XE sc) 108) b_X6_joinBounds_52 := by show xm_bok cX6_joinBounds _; unfold xm_bok; decide +kernel
def b_X6_joinBounds_73 : List (Nat × Jvm.ClassFile.Instr × Nat) := [(73, .i2l, 1), (74, .ladd, 1), (75, .invokestatic 82, 3)]
set_option maxRecDepth 20000 in
theorem k_X6_joinBounds_73 {sc : xm_Sc} : xm_bok (xe_cy (XE sc) 108) b_X6_joinBounds_73 := by show xm_bok cX6_joinBounds _; unfold xm_bok; decide +kernel
def b_X6_joinBounds_78 : List (Nat × Jvm.ClassFile.Instr × Nat) := [(78, .iastore, 1), (79, .goto 29, 3)]
set_option maxRecDepth 20000 in
theorem k_X6_joinBounds_78 {sc : xm_Sc} : xm_bok (xe_cy (XE sc) 108) b_X6_joinBounds_78 := by show xm_bok cX6_joinBounds _; unfold xm_bok; decide +kernel
def b_X6_joinBounds_82 : List (Nat × Jvm.ClassFile.Instr × Nat) := [(82, .aload_n 0, 1), (83, .getfield 39, 3), (86, .iload_n 1, 1), (87, .lconst 1, 1), (88, .aload_n 0, 1), (89, .getfield 39, 3), (92, .iload_n 2, 1), (93, .iaload, 1), (94, .i2l, 1), (95, .ladd, 1), (96, .aload_n 0, 1), (97, .getfield 39, 3), (100, .iload_n 3, 1), (101, .iaload, 1), (102, .i2l, 1), (103, .ladd, 1), (104, .invokestatic 82, 3)]
set_option maxRecDepth 20000 in
theorem k_X6_joinBounds_82 {sc : xm_Sc} : xm_bok (xe_cy (XE sc) 108) b_X6_joinBounds_82 := by show xm_bok cX6_joinBounds _; unfold xm_bok; decide +kernel
def b_X6_joinBounds_107 : List (Nat × Jvm.ClassFile.Instr × Nat) := [(107, .iastore, 1)]
set_option maxRecDepth 20000 in
theorem k_X6_joinBounds_107 {sc : xm_Sc} : xm_bok (xe_cy (XE sc) 108) b_X6_joinBounds_107 := by show xm_bok cX6_joinBounds _; unfold xm_bok; decide +kernel
def b_X6_joinBounds_108 : List (Nat × Jvm.ClassFile.Instr × Nat) := [(108, .aload_n 0, 1), (109, .getfield 9, 3), (112, .iload_n 1, 1), (113, .iaload, 1), (114, .ifCond .ne 44, 3)]
set_option maxRecDepth 20000 in
theorem k_X6_joinBounds_108 {sc : xm_Sc} : xm_bok (xe_cy (XE sc) 108) b_X6_joinBounds_108 := by show xm_bok cX6_joinBounds _; unfold xm_bok; decide +kernel
def b_X6_joinBounds_117 : List (Nat × Jvm.ClassFile.Instr × Nat) := [(117, .aload_n 0, 1), (118, .getfield 33, 3), (121, .iload_n 1, 1), (122, .aload_n 0, 1), (123, .getfield 33, 3), (126, .iload_n 1, 1), (127, .iaload, 1), (128, .i2l, 1), (129, .aload_n 0, 1), (130, .iload_n 2, 1), (131, .invokevirtual 79, 3)]
set_option maxRecDepth 20000 in
theorem k_X6_joinBounds_117 {sc : xm_Sc} : xm_bok (xe_cy (XE sc) 108) b_X6_joinBounds_117 := by show xm_bok cX6_joinBounds _; unfold xm_bok; decide +kernel
def b_X6_joinBounds_134 : List (Nat × Jvm.ClassFile.Instr × Nat) := [(134, .i2l, 1), (135, .ladd, 1), (136, .invokestatic 82, 3)]
set_option maxRecDepth 20000 in
theorem k_X6_joinBounds_134 {sc : xm_Sc} : xm_bok (xe_cy (XE sc) 108) b_X6_joinBounds_134 := by show xm_bok cX6_joinBounds _; unfold xm_bok; decide +kernel
def b_X6_joinBounds_139 : List (Nat × Jvm.ClassFile.Instr × Nat) := [(139, .iastore, 1), (140, .aload_n 0, 1), (141, .getfield 36, 3), (144, .iload_n 1, 1), (145, .lconst 1, 1), (146, .aload_n 0, 1), (147, .getfield 36, 3), (150, .iload_n 1, 1), (151, .iaload, 1), (152, .i2l, 1), (153, .ladd, 1), (154, .invokestatic 82, 3)]
set_option maxRecDepth 20000 in
theorem k_X6_joinBounds_139 {sc : xm_Sc} : xm_bok (xe_cy (XE sc) 108) b_X6_joinBounds_139 := by show xm_bok cX6_joinBounds _; unfold xm_bok; decide +kernel
def b_X6_joinBounds_157 : List (Nat × Jvm.ClassFile.Instr × Nat) := [(157, .iastore, 1)]
set_option maxRecDepth 20000 in
theorem k_X6_joinBounds_157 {sc : xm_Sc} : xm_bok (xe_cy (XE sc) 108) b_X6_joinBounds_157 := by show xm_bok cX6_joinBounds _; unfold xm_bok; decide +kernel
def b_X6_joinBounds_158 : List (Nat × Jvm.ClassFile.Instr × Nat) := [(158, .return_, 1)]
set_option maxRecDepth 20000 in
theorem k_X6_joinBounds_158 {sc : xm_Sc} : xm_bok (xe_cy (XE sc) 108) b_X6_joinBounds_158 := by show xm_bok cX6_joinBounds _; unfold xm_bok; decide +kernel
set_option maxRecDepth 20000 in
theorem cn_108 {sc : xm_Sc} : xe_cn (XE sc) 108 = 6 := rfl
set_option maxRecDepth 20000 in
theorem ml_108 {sc : xm_Sc} : xe_ml (XE sc) 108 = 4 := rfl
set_option maxRecDepth 20000 in
theorem ry_108 {sc : xm_Sc} : xe_ry (XE sc) 108 = none := rfl
set_option maxRecDepth 20000 in
theorem is_108 {sc : xm_Sc} : xe_is (XE sc) 108 = false := rfl
set_option maxRecDepth 20000 in
theorem np_108 {sc : xm_Sc} : xe_np (XE sc) 108 = 3 := rfl
/- method 109: X6_ownSteps -/
def b_X6_ownSteps_0 : List (Nat × Jvm.ClassFile.Instr × Nat) := [(0, .aload_n 0, 1), (1, .getfield 9, 3), (4, .iload_n 1, 1), (5, .iaload, 1), (6, .tableswitch 64 7 12 #[38, 64, 64, 44, 62, 50], 38)]
set_option maxRecDepth 20000 in
theorem k_X6_ownSteps_0 {sc : xm_Sc} : xm_bok (xe_cy (XE sc) 109) b_X6_ownSteps_0 := by show xm_bok cX6_ownSteps _; unfold xm_bok; decide +kernel
def b_X6_ownSteps_44 : List (Nat × Jvm.ClassFile.Instr × Nat) := [(44, .aload_n 0, 1), (45, .iload_n 1, 1), (46, .invokevirtual 76, 3)]
set_option maxRecDepth 20000 in
theorem k_X6_ownSteps_44 {sc : xm_Sc} : xm_bok (xe_cy (XE sc) 109) b_X6_ownSteps_44 := by show xm_bok cX6_ownSteps _; unfold xm_bok; decide +kernel
def b_X6_ownSteps_49 : List (Nat × Jvm.ClassFile.Instr × Nat) := [(49, .ireturn, 1)]
set_option maxRecDepth 20000 in
theorem k_X6_ownSteps_49 {sc : xm_Sc} : xm_bok (xe_cy (XE sc) 109) b_X6_ownSteps_49 := by show xm_bok cX6_ownSteps _; unfold xm_bok; decide +kernel
def b_X6_ownSteps_50 : List (Nat × Jvm.ClassFile.Instr × Nat) := [(50, .aload_n 0, 1), (51, .iload_n 1, 1), (52, .invokevirtual 79, 3)]
set_option maxRecDepth 20000 in
theorem k_X6_ownSteps_50 {sc : xm_Sc} : xm_bok (xe_cy (XE sc) 109) b_X6_ownSteps_50 := by show xm_bok cX6_ownSteps _; unfold xm_bok; decide +kernel
def b_X6_ownSteps_55 : List (Nat × Jvm.ClassFile.Instr × Nat) := [(55, .ireturn, 1)]
set_option maxRecDepth 20000 in
theorem k_X6_ownSteps_55 {sc : xm_Sc} : xm_bok (xe_cy (XE sc) 109) b_X6_ownSteps_55 := by show xm_bok cX6_ownSteps _; unfold xm_bok; decide +kernel
def b_X6_ownSteps_56 : List (Nat × Jvm.ClassFile.Instr × Nat) := [(56, .aload_n 0, 1), (57, .iload_n 1, 1), (58, .invokevirtual 76, 3)]
set_option maxRecDepth 20000 in
theorem k_X6_ownSteps_56 {sc : xm_Sc} : xm_bok (xe_cy (XE sc) 109) b_X6_ownSteps_56 := by show xm_bok cX6_ownSteps _; unfold xm_bok; decide +kernel
def b_X6_ownSteps_61 : List (Nat × Jvm.ClassFile.Instr × Nat) := [(61, .aload_n 0, 1), (62, .iload_n 1, 1), (63, .invokevirtual 79, 3)]
set_option maxRecDepth 20000 in
theorem k_X6_ownSteps_61 {sc : xm_Sc} : xm_bok (xe_cy (XE sc) 109) b_X6_ownSteps_61 := by show xm_bok cX6_ownSteps _; unfold xm_bok; decide +kernel
def b_X6_ownSteps_66 : List (Nat × Jvm.ClassFile.Instr × Nat) := [(66, .iadd, 1), (67, .ireturn, 1)]
set_option maxRecDepth 20000 in
theorem k_X6_ownSteps_66 {sc : xm_Sc} : xm_bok (xe_cy (XE sc) 109) b_X6_ownSteps_66 := by show xm_bok cX6_ownSteps _; unfold xm_bok; decide +kernel
def b_X6_ownSteps_68 : List (Nat × Jvm.ClassFile.Instr × Nat) := [(68, .iconst (-1), 1), (69, .ireturn, 1)]
set_option maxRecDepth 20000 in
theorem k_X6_ownSteps_68 {sc : xm_Sc} : xm_bok (xe_cy (XE sc) 109) b_X6_ownSteps_68 := by show xm_bok cX6_ownSteps _; unfold xm_bok; decide +kernel
def b_X6_ownSteps_70 : List (Nat × Jvm.ClassFile.Instr × Nat) := [(70, .iconst 0, 1), (71, .ireturn, 1)]
set_option maxRecDepth 20000 in
theorem k_X6_ownSteps_70 {sc : xm_Sc} : xm_bok (xe_cy (XE sc) 109) b_X6_ownSteps_70 := by show xm_bok cX6_ownSteps _; unfold xm_bok; decide +kernel
set_option maxRecDepth 20000 in
theorem cn_109 {sc : xm_Sc} : xe_cn (XE sc) 109 = 6 := rfl
set_option maxRecDepth 20000 in
theorem ml_109 {sc : xm_Sc} : xe_ml (XE sc) 109 = 2 := rfl
set_option maxRecDepth 20000 in
theorem ry_109 {sc : xm_Sc} : xe_ry (XE sc) 109 = (some .int) := rfl
set_option maxRecDepth 20000 in
theorem is_109 {sc : xm_Sc} : xe_is (XE sc) 109 = false := rfl
set_option maxRecDepth 20000 in
theorem np_109 {sc : xm_Sc} : xe_np (XE sc) 109 = 1 := rfl
/- method 110: X6_sourceWidth -/
def b_X6_sourceWidth_0 : List (Nat × Jvm.ClassFile.Instr × Nat) := [(0, .aload_n 0, 1), (1, .getfield 27, 3), (4, .iload_n 1, 1), (5, .iaload, 1), (6, .ifCond .ge 7, 3)]
set_option maxRecDepth 20000 in
theorem k_X6_sourceWidth_0 {sc : xm_Sc} : xm_bok (xe_cy (XE sc) 110) b_X6_sourceWidth_0 := by show xm_bok cX6_sourceWidth _; unfold xm_bok; decide +kernel
def b_X6_sourceWidth_9 : List (Nat × Jvm.ClassFile.Instr × Nat) := [(9, .iconst (-1), 1), (10, .goto 17, 3)]
set_option maxRecDepth 20000 in
theorem k_X6_sourceWidth_9 {sc : xm_Sc} : xm_bok (xe_cy (XE sc) 110) b_X6_sourceWidth_9 := by show xm_bok cX6_sourceWidth _; unfold xm_bok; decide +kernel
def b_X6_sourceWidth_13 : List (Nat × Jvm.ClassFile.Instr × Nat) := [(13, .aload_n 0, 1), (14, .getfield 55, 3), (17, .getfield 73, 3), (20, .aload_n 0, 1), (21, .getfield 27, 3), (24, .iload_n 1, 1), (25, .iaload, 1), (26, .iaload, 1)]
set_option maxRecDepth 20000 in
theorem k_X6_sourceWidth_13 {sc : xm_Sc} : xm_bok (xe_cy (XE sc) 110) b_X6_sourceWidth_13 := by show xm_bok cX6_sourceWidth _; unfold xm_bok; decide +kernel
def b_X6_sourceWidth_27 : List (Nat × Jvm.ClassFile.Instr × Nat) := [(27, .ireturn, 1)]
set_option maxRecDepth 20000 in
theorem k_X6_sourceWidth_27 {sc : xm_Sc} : xm_bok (xe_cy (XE sc) 110) b_X6_sourceWidth_27 := by show xm_bok cX6_sourceWidth _; unfold xm_bok; decide +kernel
set_option maxRecDepth 20000 in
theorem cn_110 {sc : xm_Sc} : xe_cn (XE sc) 110 = 6 := rfl
set_option maxRecDepth 20000 in
theorem ml_110 {sc : xm_Sc} : xe_ml (XE sc) 110 = 2 := rfl
set_option maxRecDepth 20000 in
theorem ry_110 {sc : xm_Sc} : xe_ry (XE sc) 110 = (some .int) := rfl
set_option maxRecDepth 20000 in
theorem is_110 {sc : xm_Sc} : xe_is (XE sc) 110 = false := rfl
set_option maxRecDepth 20000 in
theorem np_110 {sc : xm_Sc} : xe_np (XE sc) 110 = 1 := rfl
/- method 111: X6_targetWidth -/
def b_X6_targetWidth_0 : List (Nat × Jvm.ClassFile.Instr × Nat) := [(0, .aload_n 0, 1), (1, .getfield 30, 3), (4, .iload_n 1, 1), (5, .iaload, 1), (6, .ifCond .ge 7, 3)]
set_option maxRecDepth 20000 in
theorem k_X6_targetWidth_0 {sc : xm_Sc} : xm_bok (xe_cy (XE sc) 111) b_X6_targetWidth_0 := by show xm_bok cX6_targetWidth _; unfold xm_bok; decide +kernel
def b_X6_targetWidth_9 : List (Nat × Jvm.ClassFile.Instr × Nat) := [(9, .iconst (-1), 1), (10, .goto 17, 3)]
set_option maxRecDepth 20000 in
theorem k_X6_targetWidth_9 {sc : xm_Sc} : xm_bok (xe_cy (XE sc) 111) b_X6_targetWidth_9 := by show xm_bok cX6_targetWidth _; unfold xm_bok; decide +kernel
def b_X6_targetWidth_13 : List (Nat × Jvm.ClassFile.Instr × Nat) := [(13, .aload_n 0, 1), (14, .getfield 55, 3), (17, .getfield 73, 3), (20, .aload_n 0, 1), (21, .getfield 30, 3), (24, .iload_n 1, 1), (25, .iaload, 1), (26, .iaload, 1)]
set_option maxRecDepth 20000 in
theorem k_X6_targetWidth_13 {sc : xm_Sc} : xm_bok (xe_cy (XE sc) 111) b_X6_targetWidth_13 := by show xm_bok cX6_targetWidth _; unfold xm_bok; decide +kernel
def b_X6_targetWidth_27 : List (Nat × Jvm.ClassFile.Instr × Nat) := [(27, .ireturn, 1)]
set_option maxRecDepth 20000 in
theorem k_X6_targetWidth_27 {sc : xm_Sc} : xm_bok (xe_cy (XE sc) 111) b_X6_targetWidth_27 := by show xm_bok cX6_targetWidth _; unfold xm_bok; decide +kernel
set_option maxRecDepth 20000 in
theorem cn_111 {sc : xm_Sc} : xe_cn (XE sc) 111 = 6 := rfl
set_option maxRecDepth 20000 in
theorem ml_111 {sc : xm_Sc} : xe_ml (XE sc) 111 = 2 := rfl
set_option maxRecDepth 20000 in
theorem ry_111 {sc : xm_Sc} : xe_ry (XE sc) 111 = (some .int) := rfl
set_option maxRecDepth 20000 in
theorem is_111 {sc : xm_Sc} : xe_is (XE sc) 111 = false := rfl
set_option maxRecDepth 20000 in
theorem np_111 {sc : xm_Sc} : xe_np (XE sc) 111 = 1 := rfl
/- method 112: X6_typeOf -/
def b_X6_typeOf_0 : List (Nat × Jvm.ClassFile.Instr × Nat) := [(0, .iload_n 2, 1), (1, .ifCond .eq 12, 3)]
set_option maxRecDepth 20000 in
theorem k_X6_typeOf_0 {sc : xm_Sc} : xm_bok (xe_cy (XE sc) 112) b_X6_typeOf_0 := by show xm_bok cX6_typeOf _; unfold xm_bok; decide +kernel
def b_X6_typeOf_4 : List (Nat × Jvm.ClassFile.Instr × Nat) := [(4, .aload_n 0, 1), (5, .getfield 30, 3), (8, .iload_n 1, 1), (9, .iaload, 1), (10, .goto 9, 3)]
set_option maxRecDepth 20000 in
theorem k_X6_typeOf_4 {sc : xm_Sc} : xm_bok (xe_cy (XE sc) 112) b_X6_typeOf_4 := by show xm_bok cX6_typeOf _; unfold xm_bok; decide +kernel
def b_X6_typeOf_13 : List (Nat × Jvm.ClassFile.Instr × Nat) := [(13, .aload_n 0, 1), (14, .getfield 27, 3), (17, .iload_n 1, 1), (18, .iaload, 1)]
set_option maxRecDepth 20000 in
theorem k_X6_typeOf_13 {sc : xm_Sc} : xm_bok (xe_cy (XE sc) 112) b_X6_typeOf_13 := by show xm_bok cX6_typeOf _; unfold xm_bok; decide +kernel
def b_X6_typeOf_19 : List (Nat × Jvm.ClassFile.Instr × Nat) := [(19, .ireturn, 1)]
set_option maxRecDepth 20000 in
theorem k_X6_typeOf_19 {sc : xm_Sc} : xm_bok (xe_cy (XE sc) 112) b_X6_typeOf_19 := by show xm_bok cX6_typeOf _; unfold xm_bok; decide +kernel
set_option maxRecDepth 20000 in
theorem cn_112 {sc : xm_Sc} : xe_cn (XE sc) 112 = 6 := rfl
set_option maxRecDepth 20000 in
theorem ml_112 {sc : xm_Sc} : xe_ml (XE sc) 112 = 3 := rfl
set_option maxRecDepth 20000 in
theorem ry_112 {sc : xm_Sc} : xe_ry (XE sc) 112 = (some .int) := rfl
set_option maxRecDepth 20000 in
theorem is_112 {sc : xm_Sc} : xe_is (XE sc) 112 = false := rfl
set_option maxRecDepth 20000 in
theorem np_112 {sc : xm_Sc} : xe_np (XE sc) 112 = 2 := rfl
/- method 113: X6_writeChild -/
def b_X6_writeChild_0 : List (Nat × Jvm.ClassFile.Instr × Nat) := [(0, .iload_n 0, 1), (1, .ifCond .lt 14, 3)]
set_option maxRecDepth 20000 in
theorem k_X6_writeChild_0 {sc : xm_Sc} : xm_bok (xe_cy (XE sc) 113) b_X6_writeChild_0 := by show xm_bok cX6_writeChild _; unfold xm_bok; decide +kernel
def b_X6_writeChild_4 : List (Nat × Jvm.ClassFile.Instr × Nat) := [(4, .aload_n 1, 1), (5, .ldc 152, 2), (7, .invokevirtual 128, 3)]
set_option maxRecDepth 20000 in
theorem k_X6_writeChild_4 {sc : xm_Sc} : xm_bok (xe_cy (XE sc) 113) b_X6_writeChild_4 := by show xm_bok cX6_writeChild _; unfold xm_bok; decide +kernel
def b_X6_writeChild_10 : List (Nat × Jvm.ClassFile.Instr × Nat) := [(10, .aload_n 1, 1), (11, .iload_n 0, 1), (12, .invokevirtual 123, 3)]
set_option maxRecDepth 20000 in
theorem k_X6_writeChild_10 {sc : xm_Sc} : xm_bok (xe_cy (XE sc) 113) b_X6_writeChild_10 := by show xm_bok cX6_writeChild _; unfold xm_bok; decide +kernel
def b_X6_writeChild_15 : List (Nat × Jvm.ClassFile.Instr × Nat) := [(15, .return_, 1)]
set_option maxRecDepth 20000 in
theorem k_X6_writeChild_15 {sc : xm_Sc} : xm_bok (xe_cy (XE sc) 113) b_X6_writeChild_15 := by show xm_bok cX6_writeChild _; unfold xm_bok; decide +kernel
set_option maxRecDepth 20000 in
theorem cn_113 {sc : xm_Sc} : xe_cn (XE sc) 113 = 6 := rfl
set_option maxRecDepth 20000 in
theorem ml_113 {sc : xm_Sc} : xe_ml (XE sc) 113 = 2 := rfl
set_option maxRecDepth 20000 in
theorem ry_113 {sc : xm_Sc} : xe_ry (XE sc) 113 = none := rfl
set_option maxRecDepth 20000 in
theorem is_113 {sc : xm_Sc} : xe_is (XE sc) 113 = true := rfl
set_option maxRecDepth 20000 in
theorem np_113 {sc : xm_Sc} : xe_np (XE sc) 113 = 2 := rfl
/- method 114: X6_writeHidden -/
def b_X6_writeHidden_0 : List (Nat × Jvm.ClassFile.Instr × Nat) := [(0, .iconst 0, 1), (1, .istore_n 3, 1)]
set_option maxRecDepth 20000 in
theorem k_X6_writeHidden_0 {sc : xm_Sc} : xm_bok (xe_cy (XE sc) 114) b_X6_writeHidden_0 := by show xm_bok cX6_writeHidden _; unfold xm_bok; decide +kernel
def b_X6_writeHidden_2 : List (Nat × Jvm.ClassFile.Instr × Nat) := [(2, .iload_n 3, 1), (3, .bipush 64, 2), (5, .if_icmp .ge 41, 3)]
set_option maxRecDepth 20000 in
theorem k_X6_writeHidden_2 {sc : xm_Sc} : xm_bok (xe_cy (XE sc) 114) b_X6_writeHidden_2 := by show xm_bok cX6_writeHidden _; unfold xm_bok; decide +kernel
def b_X6_writeHidden_8 : List (Nat × Jvm.ClassFile.Instr × Nat) := [(8, .aload_n 2, 1), (9, .aload_n 0, 1), (10, .getfield 42, 3), (13, .aload_n 0, 1), (14, .getfield 21, 3), (17, .iload_n 1, 1), (18, .iaload, 1), (19, .iload_n 3, 1), (20, .iconst 3, 1), (21, .ishr, 1), (22, .iadd, 1), (23, .iaload, 1), (24, .bipush 28, 2), (26, .iconst 4, 1), (27, .iload_n 3, 1), (28, .bipush 7, 2), (30, .iand, 1), (31, .imul, 1), (32, .isub, 1), (33, .iushr, 1), (34, .bipush 15, 2), (36, .iand, 1), (37, .invokevirtual 154, 3)]
set_option maxRecDepth 20000 in
theorem k_X6_writeHidden_8 {sc : xm_Sc} : xm_bok (xe_cy (XE sc) 114) b_X6_writeHidden_8 := by show xm_bok cX6_writeHidden _; unfold xm_bok; decide +kernel
def b_X6_writeHidden_40 : List (Nat × Jvm.ClassFile.Instr × Nat) := [(40, .iinc 3 1, 3), (43, .goto (-41), 3)]
set_option maxRecDepth 20000 in
theorem k_X6_writeHidden_40 {sc : xm_Sc} : xm_bok (xe_cy (XE sc) 114) b_X6_writeHidden_40 := by show xm_bok cX6_writeHidden _; unfold xm_bok; decide +kernel
def b_X6_writeHidden_46 : List (Nat × Jvm.ClassFile.Instr × Nat) := [(46, .return_, 1)]
set_option maxRecDepth 20000 in
theorem k_X6_writeHidden_46 {sc : xm_Sc} : xm_bok (xe_cy (XE sc) 114) b_X6_writeHidden_46 := by show xm_bok cX6_writeHidden _; unfold xm_bok; decide +kernel
set_option maxRecDepth 20000 in
theorem cn_114 {sc : xm_Sc} : xe_cn (XE sc) 114 = 6 := rfl
set_option maxRecDepth 20000 in
theorem ml_114 {sc : xm_Sc} : xe_ml (XE sc) 114 = 4 := rfl
set_option maxRecDepth 20000 in
theorem ry_114 {sc : xm_Sc} : xe_ry (XE sc) 114 = none := rfl
set_option maxRecDepth 20000 in
theorem is_114 {sc : xm_Sc} : xe_is (XE sc) 114 = false := rfl
set_option maxRecDepth 20000 in
theorem np_114 {sc : xm_Sc} : xe_np (XE sc) 114 = 2 := rfl
/- method 115: X6_writeLine -/
def b_X6_writeLine_0 : List (Nat × Jvm.ClassFile.Instr × Nat) := [(0, .aload_n 2, 1), (1, .bipush 110, 2), (3, .invokevirtual 119, 3)]
set_option maxRecDepth 20000 in
theorem k_X6_writeLine_0 {sc : xm_Sc} : xm_bok (xe_cy (XE sc) 115) b_X6_writeLine_0 := by show xm_bok cX6_writeLine _; unfold xm_bok; decide +kernel
def b_X6_writeLine_6 : List (Nat × Jvm.ClassFile.Instr × Nat) := [(6, .aload_n 2, 1), (7, .iload_n 1, 1), (8, .invokevirtual 123, 3)]
set_option maxRecDepth 20000 in
theorem k_X6_writeLine_6 {sc : xm_Sc} : xm_bok (xe_cy (XE sc) 115) b_X6_writeLine_6 := by show xm_bok cX6_writeLine _; unfold xm_bok; decide +kernel
def b_X6_writeLine_11 : List (Nat × Jvm.ClassFile.Instr × Nat) := [(11, .aload_n 2, 1), (12, .ldc 126, 2), (14, .invokevirtual 128, 3)]
set_option maxRecDepth 20000 in
theorem k_X6_writeLine_11 {sc : xm_Sc} : xm_bok (xe_cy (XE sc) 115) b_X6_writeLine_11 := by show xm_bok cX6_writeLine _; unfold xm_bok; decide +kernel
def b_X6_writeLine_17 : List (Nat × Jvm.ClassFile.Instr × Nat) := [(17, .aload_n 2, 1), (18, .getstatic 132, 3), (21, .aload_n 0, 1), (22, .getfield 9, 3), (25, .iload_n 1, 1), (26, .iaload, 1), (27, .laload, 1), (28, .invokevirtual 138, 3)]
set_option maxRecDepth 20000 in
theorem k_X6_writeLine_17 {sc : xm_Sc} : xm_bok (xe_cy (XE sc) 115) b_X6_writeLine_17 := by show xm_bok cX6_writeLine _; unfold xm_bok; decide +kernel
def b_X6_writeLine_31 : List (Nat × Jvm.ClassFile.Instr × Nat) := [(31, .aload_n 0, 1), (32, .getfield 15, 3), (35, .iload_n 1, 1), (36, .iaload, 1), (37, .aload_n 2, 1), (38, .invokestatic 142, 3)]
set_option maxRecDepth 20000 in
theorem k_X6_writeLine_31 {sc : xm_Sc} : xm_bok (xe_cy (XE sc) 115) b_X6_writeLine_31 := by show xm_bok cX6_writeLine _; unfold xm_bok; decide +kernel
def b_X6_writeLine_41 : List (Nat × Jvm.ClassFile.Instr × Nat) := [(41, .aload_n 0, 1), (42, .getfield 18, 3), (45, .iload_n 1, 1), (46, .iaload, 1), (47, .aload_n 2, 1), (48, .invokestatic 142, 3)]
set_option maxRecDepth 20000 in
theorem k_X6_writeLine_41 {sc : xm_Sc} : xm_bok (xe_cy (XE sc) 115) b_X6_writeLine_41 := by show xm_bok cX6_writeLine _; unfold xm_bok; decide +kernel
def b_X6_writeLine_51 : List (Nat × Jvm.ClassFile.Instr × Nat) := [(51, .aload_n 0, 1), (52, .getfield 9, 3), (55, .iload_n 1, 1), (56, .iaload, 1), (57, .bipush 12, 2), (59, .if_icmp .ne 22, 3)]
set_option maxRecDepth 20000 in
theorem k_X6_writeLine_51 {sc : xm_Sc} : xm_bok (xe_cy (XE sc) 115) b_X6_writeLine_51 := by show xm_bok cX6_writeLine _; unfold xm_bok; decide +kernel
def b_X6_writeLine_62 : List (Nat × Jvm.ClassFile.Instr × Nat) := [(62, .aload_n 2, 1), (63, .bipush 32, 2), (65, .invokevirtual 119, 3)]
set_option maxRecDepth 20000 in
theorem k_X6_writeLine_62 {sc : xm_Sc} : xm_bok (xe_cy (XE sc) 115) b_X6_writeLine_62 := by show xm_bok cX6_writeLine _; unfold xm_bok; decide +kernel
def b_X6_writeLine_68 : List (Nat × Jvm.ClassFile.Instr × Nat) := [(68, .aload_n 2, 1), (69, .aload_n 0, 1), (70, .getfield 21, 3), (73, .iload_n 1, 1), (74, .iaload, 1), (75, .invokevirtual 123, 3)]
set_option maxRecDepth 20000 in
theorem k_X6_writeLine_68 {sc : xm_Sc} : xm_bok (xe_cy (XE sc) 115) b_X6_writeLine_68 := by show xm_bok cX6_writeLine _; unfold xm_bok; decide +kernel
def b_X6_writeLine_78 : List (Nat × Jvm.ClassFile.Instr × Nat) := [(78, .goto 52, 3)]
set_option maxRecDepth 20000 in
theorem k_X6_writeLine_78 {sc : xm_Sc} : xm_bok (xe_cy (XE sc) 115) b_X6_writeLine_78 := by show xm_bok cX6_writeLine _; unfold xm_bok; decide +kernel
def b_X6_writeLine_81 : List (Nat × Jvm.ClassFile.Instr × Nat) := [(81, .aload_n 0, 1), (82, .getfield 9, 3), (85, .iload_n 1, 1), (86, .iaload, 1), (87, .bipush 11, 2), (89, .if_icmp .ne 18, 3)]
set_option maxRecDepth 20000 in
theorem k_X6_writeLine_81 {sc : xm_Sc} : xm_bok (xe_cy (XE sc) 115) b_X6_writeLine_81 := by show xm_bok cX6_writeLine _; unfold xm_bok; decide +kernel
def b_X6_writeLine_92 : List (Nat × Jvm.ClassFile.Instr × Nat) := [(92, .aload_n 2, 1), (93, .bipush 32, 2), (95, .invokevirtual 119, 3)]
set_option maxRecDepth 20000 in
theorem k_X6_writeLine_92 {sc : xm_Sc} : xm_bok (xe_cy (XE sc) 115) b_X6_writeLine_92 := by show xm_bok cX6_writeLine _; unfold xm_bok; decide +kernel
def b_X6_writeLine_98 : List (Nat × Jvm.ClassFile.Instr × Nat) := [(98, .aload_n 0, 1), (99, .iload_n 1, 1), (100, .aload_n 2, 1), (101, .invokevirtual 146, 3)]
set_option maxRecDepth 20000 in
theorem k_X6_writeLine_98 {sc : xm_Sc} : xm_bok (xe_cy (XE sc) 115) b_X6_writeLine_98 := by show xm_bok cX6_writeLine _; unfold xm_bok; decide +kernel
def b_X6_writeLine_104 : List (Nat × Jvm.ClassFile.Instr × Nat) := [(104, .goto 26, 3)]
set_option maxRecDepth 20000 in
theorem k_X6_writeLine_104 {sc : xm_Sc} : xm_bok (xe_cy (XE sc) 115) b_X6_writeLine_104 := by show xm_bok cX6_writeLine _; unfold xm_bok; decide +kernel
def b_X6_writeLine_107 : List (Nat × Jvm.ClassFile.Instr × Nat) := [(107, .aload_n 0, 1), (108, .getfield 9, 3), (111, .iload_n 1, 1), (112, .iaload, 1), (113, .bipush 10, 2), (115, .if_icmp .ne 15, 3)]
set_option maxRecDepth 20000 in
theorem k_X6_writeLine_107 {sc : xm_Sc} : xm_bok (xe_cy (XE sc) 115) b_X6_writeLine_107 := by show xm_bok cX6_writeLine _; unfold xm_bok; decide +kernel
def b_X6_writeLine_118 : List (Nat × Jvm.ClassFile.Instr × Nat) := [(118, .aload_n 2, 1), (119, .bipush 32, 2), (121, .invokevirtual 119, 3)]
set_option maxRecDepth 20000 in
theorem k_X6_writeLine_118 {sc : xm_Sc} : xm_bok (xe_cy (XE sc) 115) b_X6_writeLine_118 := by show xm_bok cX6_writeLine _; unfold xm_bok; decide +kernel
def b_X6_writeLine_124 : List (Nat × Jvm.ClassFile.Instr × Nat) := [(124, .aload_n 0, 1), (125, .iload_n 1, 1), (126, .aload_n 2, 1), (127, .invokevirtual 149, 3)]
set_option maxRecDepth 20000 in
theorem k_X6_writeLine_124 {sc : xm_Sc} : xm_bok (xe_cy (XE sc) 115) b_X6_writeLine_124 := by show xm_bok cX6_writeLine _; unfold xm_bok; decide +kernel
def b_X6_writeLine_130 : List (Nat × Jvm.ClassFile.Instr × Nat) := [(130, .aload_n 2, 1), (131, .bipush 10, 2), (133, .invokevirtual 119, 3)]
set_option maxRecDepth 20000 in
theorem k_X6_writeLine_130 {sc : xm_Sc} : xm_bok (xe_cy (XE sc) 115) b_X6_writeLine_130 := by show xm_bok cX6_writeLine _; unfold xm_bok; decide +kernel
def b_X6_writeLine_136 : List (Nat × Jvm.ClassFile.Instr × Nat) := [(136, .return_, 1)]
set_option maxRecDepth 20000 in
theorem k_X6_writeLine_136 {sc : xm_Sc} : xm_bok (xe_cy (XE sc) 115) b_X6_writeLine_136 := by show xm_bok cX6_writeLine _; unfold xm_bok; decide +kernel
set_option maxRecDepth 20000 in
theorem cn_115 {sc : xm_Sc} : xe_cn (XE sc) 115 = 6 := rfl
set_option maxRecDepth 20000 in
theorem ml_115 {sc : xm_Sc} : xe_ml (XE sc) 115 = 3 := rfl
set_option maxRecDepth 20000 in
theorem ry_115 {sc : xm_Sc} : xe_ry (XE sc) 115 = none := rfl
set_option maxRecDepth 20000 in
theorem is_115 {sc : xm_Sc} : xe_is (XE sc) 115 = false := rfl
set_option maxRecDepth 20000 in
theorem np_115 {sc : xm_Sc} : xe_np (XE sc) 115 = 2 := rfl
/- method 116: X6_writeWitness -/
def b_X6_writeWitness_0 : List (Nat × Jvm.ClassFile.Instr × Nat) := [(0, .aload_n 0, 1), (1, .iload_n 1, 1), (2, .invokevirtual 79, 3)]
set_option maxRecDepth 20000 in
theorem k_X6_writeWitness_0 {sc : xm_Sc} : xm_bok (xe_cy (XE sc) 116) b_X6_writeWitness_0 := by show xm_bok cX6_writeWitness _; unfold xm_bok; decide +kernel
def b_X6_writeWitness_5 : List (Nat × Jvm.ClassFile.Instr × Nat) := [(5, .istore_n 3, 1), (6, .iload_n 3, 1), (7, .ifCond .ne 9, 3)]
set_option maxRecDepth 20000 in
theorem k_X6_writeWitness_5 {sc : xm_Sc} : xm_bok (xe_cy (XE sc) 116) b_X6_writeWitness_5 := by show xm_bok cX6_writeWitness _; unfold xm_bok; decide +kernel
def b_X6_writeWitness_10 : List (Nat × Jvm.ClassFile.Instr × Nat) := [(10, .aload_n 2, 1), (11, .bipush 45, 2), (13, .invokevirtual 119, 3)]
set_option maxRecDepth 20000 in
theorem k_X6_writeWitness_10 {sc : xm_Sc} : xm_bok (xe_cy (XE sc) 116) b_X6_writeWitness_10 := by show xm_bok cX6_writeWitness _; unfold xm_bok; decide +kernel
def b_X6_writeWitness_16 : List (Nat × Jvm.ClassFile.Instr × Nat) := [(16, .iconst 0, 1), (17, .istore 4, 2)]
set_option maxRecDepth 20000 in
theorem k_X6_writeWitness_16 {sc : xm_Sc} : xm_bok (xe_cy (XE sc) 116) b_X6_writeWitness_16 := by show xm_bok cX6_writeWitness _; unfold xm_bok; decide +kernel
def b_X6_writeWitness_19 : List (Nat × Jvm.ClassFile.Instr × Nat) := [(19, .iload 4, 2), (21, .iload_n 3, 1), (22, .if_icmp .ge 39, 3)]
set_option maxRecDepth 20000 in
theorem k_X6_writeWitness_19 {sc : xm_Sc} : xm_bok (xe_cy (XE sc) 116) b_X6_writeWitness_19 := by show xm_bok cX6_writeWitness _; unfold xm_bok; decide +kernel
def b_X6_writeWitness_25 : List (Nat × Jvm.ClassFile.Instr × Nat) := [(25, .aload_n 2, 1), (26, .getfield 157, 3), (29, .ifCond .ne 32, 3)]
set_option maxRecDepth 20000 in
theorem k_X6_writeWitness_25 {sc : xm_Sc} : xm_bok (xe_cy (XE sc) 116) b_X6_writeWitness_25 := by show xm_bok cX6_writeWitness _; unfold xm_bok; decide +kernel
def b_X6_writeWitness_32 : List (Nat × Jvm.ClassFile.Instr × Nat) := [(32, .aload_n 2, 1), (33, .bipush 48, 2), (35, .aload_n 0, 1), (36, .getfield 48, 3), (39, .aload_n 0, 1), (40, .getfield 21, 3), (43, .iload_n 1, 1), (44, .iaload, 1), (45, .iload 4, 2), (47, .iadd, 1), (48, .invokevirtual 161, 3)]
set_option maxRecDepth 20000 in
theorem k_X6_writeWitness_32 {sc : xm_Sc} : xm_bok (xe_cy (XE sc) 116) b_X6_writeWitness_32 := by show xm_bok cX6_writeWitness _; unfold xm_bok; decide +kernel
def b_X6_writeWitness_51 : List (Nat × Jvm.ClassFile.Instr × Nat) := [(51, .iadd, 1), (52, .invokevirtual 119, 3)]
set_option maxRecDepth 20000 in
theorem k_X6_writeWitness_51 {sc : xm_Sc} : xm_bok (xe_cy (XE sc) 116) b_X6_writeWitness_51 := by show xm_bok cX6_writeWitness _; unfold xm_bok; decide +kernel
def b_X6_writeWitness_55 : List (Nat × Jvm.ClassFile.Instr × Nat) := [(55, .iinc 4 1, 3), (58, .goto (-39), 3)]
set_option maxRecDepth 20000 in
theorem k_X6_writeWitness_55 {sc : xm_Sc} : xm_bok (xe_cy (XE sc) 116) b_X6_writeWitness_55 := by show xm_bok cX6_writeWitness _; unfold xm_bok; decide +kernel
def b_X6_writeWitness_61 : List (Nat × Jvm.ClassFile.Instr × Nat) := [(61, .return_, 1)]
set_option maxRecDepth 20000 in
theorem k_X6_writeWitness_61 {sc : xm_Sc} : xm_bok (xe_cy (XE sc) 116) b_X6_writeWitness_61 := by show xm_bok cX6_writeWitness _; unfold xm_bok; decide +kernel
set_option maxRecDepth 20000 in
theorem cn_116 {sc : xm_Sc} : xe_cn (XE sc) 116 = 6 := rfl
set_option maxRecDepth 20000 in
theorem ml_116 {sc : xm_Sc} : xe_ml (XE sc) 116 = 5 := rfl
set_option maxRecDepth 20000 in
theorem ry_116 {sc : xm_Sc} : xe_ry (XE sc) 116 = none := rfl
set_option maxRecDepth 20000 in
theorem is_116 {sc : xm_Sc} : xe_is (XE sc) 116 = false := rfl
set_option maxRecDepth 20000 in
theorem np_116 {sc : xm_Sc} : xe_np (XE sc) 116 = 2 := rfl
set_option maxRecDepth 20000 in
theorem fl_6_9 {sc : xm_Sc} : xe_fl (XE sc) 6 9 = some (6, 1) := rfl
set_option maxRecDepth 20000 in
theorem fl_6_15 {sc : xm_Sc} : xe_fl (XE sc) 6 15 = some (6, 2) := rfl
set_option maxRecDepth 20000 in
theorem fl_6_18 {sc : xm_Sc} : xe_fl (XE sc) 6 18 = some (6, 3) := rfl
set_option maxRecDepth 20000 in
theorem fl_6_21 {sc : xm_Sc} : xe_fl (XE sc) 6 21 = some (6, 4) := rfl
set_option maxRecDepth 20000 in
theorem fl_6_24 {sc : xm_Sc} : xe_fl (XE sc) 6 24 = some (6, 5) := rfl
set_option maxRecDepth 20000 in
theorem fl_6_27 {sc : xm_Sc} : xe_fl (XE sc) 6 27 = some (6, 6) := rfl
set_option maxRecDepth 20000 in
theorem fl_6_30 {sc : xm_Sc} : xe_fl (XE sc) 6 30 = some (6, 7) := rfl
set_option maxRecDepth 20000 in
theorem fl_6_33 {sc : xm_Sc} : xe_fl (XE sc) 6 33 = some (6, 8) := rfl
set_option maxRecDepth 20000 in
theorem fl_6_36 {sc : xm_Sc} : xe_fl (XE sc) 6 36 = some (6, 9) := rfl
set_option maxRecDepth 20000 in
theorem fl_6_39 {sc : xm_Sc} : xe_fl (XE sc) 6 39 = some (6, 10) := rfl
set_option maxRecDepth 20000 in
theorem fl_6_42 {sc : xm_Sc} : xe_fl (XE sc) 6 42 = some (6, 11) := rfl
set_option maxRecDepth 20000 in
theorem fl_6_48 {sc : xm_Sc} : xe_fl (XE sc) 6 48 = some (6, 12) := rfl
set_option maxRecDepth 20000 in
theorem fl_6_55 {sc : xm_Sc} : xe_fl (XE sc) 6 55 = some (6, 13) := rfl
set_option maxRecDepth 20000 in
theorem fl_6_59 {sc : xm_Sc} : xe_fl (XE sc) 6 59 = some (6, 0) := rfl
set_option maxRecDepth 20000 in
theorem fl_6_63 {sc : xm_Sc} : xe_fl (XE sc) 6 63 = some (6, 15) := rfl
set_option maxRecDepth 20000 in
theorem fl_6_66 {sc : xm_Sc} : xe_fl (XE sc) 6 66 = some (6, 14) := rfl
set_option maxRecDepth 20000 in
theorem fl_6_73 {sc : xm_Sc} : xe_fl (XE sc) 6 73 = some (10, 4) := rfl
set_option maxRecDepth 20000 in
theorem fl_6_104 {sc : xm_Sc} : xe_fl (XE sc) 6 104 = some (10, 2) := rfl
set_option maxRecDepth 20000 in
theorem fl_6_110 {sc : xm_Sc} : xe_fl (XE sc) 6 110 = some (10, 3) := rfl
set_option maxRecDepth 20000 in
theorem fl_6_157 {sc : xm_Sc} : xe_fl (XE sc) 6 157 = some (8, 2) := rfl
set_option maxRecDepth 20000 in
theorem ki_6_90 {sc : xm_Sc} : xe_kI (XE sc) 6 90 = some 2147483647 := rfl
set_option maxRecDepth 20000 in
theorem kl_6_86 {sc : xm_Sc} : xe_kL (XE sc) 6 86 = some 2 := rfl
set_option maxRecDepth 20000 in
theorem kl_6_88 {sc : xm_Sc} : xe_kL (XE sc) 6 88 = some 2147483647 := rfl
set_option maxRecDepth 20000 in
theorem gs_6_132 {sc : xm_Sc} : xe_gs (XE sc) 6 132 = some 204 := rfl
set_option maxRecDepth 20000 in
theorem lk_6_69 {sc : xm_Sc} : xe_lk (XE sc) 6 69 = some 98 := rfl
set_option maxRecDepth 20000 in
theorem lk_6_76 {sc : xm_Sc} : xe_lk (XE sc) 6 76 = some 110 := rfl
set_option maxRecDepth 20000 in
theorem lk_6_79 {sc : xm_Sc} : xe_lk (XE sc) 6 79 = some 111 := rfl
set_option maxRecDepth 20000 in
theorem lk_6_82 {sc : xm_Sc} : xe_lk (XE sc) 6 82 = some 104 := rfl
set_option maxRecDepth 20000 in
theorem lk_6_91 {sc : xm_Sc} : xe_lk (XE sc) 6 91 = some 109 := rfl
set_option maxRecDepth 20000 in
theorem lk_6_94 {sc : xm_Sc} : xe_lk (XE sc) 6 94 = some 108 := rfl
set_option maxRecDepth 20000 in
theorem lk_6_98 {sc : xm_Sc} : xe_lk (XE sc) 6 98 = some 331 := rfl
set_option maxRecDepth 20000 in
theorem lk_6_107 {sc : xm_Sc} : xe_lk (XE sc) 6 107 = some 169 := rfl
set_option maxRecDepth 20000 in
theorem lk_6_113 {sc : xm_Sc} : xe_lk (XE sc) 6 113 = some 27 := rfl
set_option maxRecDepth 20000 in
theorem lk_6_119 {sc : xm_Sc} : xe_lk (XE sc) 6 119 = some 133 := rfl
set_option maxRecDepth 20000 in
theorem lk_6_123 {sc : xm_Sc} : xe_lk (XE sc) 6 123 = some 139 := rfl
set_option maxRecDepth 20000 in
theorem lk_6_128 {sc : xm_Sc} : xe_lk (XE sc) 6 128 = some 140 := rfl
set_option maxRecDepth 20000 in
theorem lk_6_138 {sc : xm_Sc} : xe_lk (XE sc) 6 138 = some 137 := rfl
set_option maxRecDepth 20000 in
theorem lk_6_142 {sc : xm_Sc} : xe_lk (XE sc) 6 142 = some 113 := rfl
set_option maxRecDepth 20000 in
theorem lk_6_146 {sc : xm_Sc} : xe_lk (XE sc) 6 146 = some 114 := rfl
set_option maxRecDepth 20000 in
theorem lk_6_149 {sc : xm_Sc} : xe_lk (XE sc) 6 149 = some 116 := rfl
set_option maxRecDepth 20000 in
theorem lk_6_154 {sc : xm_Sc} : xe_lk (XE sc) 6 154 = some 136 := rfl
set_option maxRecDepth 20000 in
theorem lk_6_161 {sc : xm_Sc} : xe_lk (XE sc) 6 161 = some 127 := rfl
