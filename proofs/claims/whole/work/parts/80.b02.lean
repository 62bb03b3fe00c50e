/- method 52: X2_addLow -/
def b_X2_addLow_0 : List (Nat × Jvm.ClassFile.Instr × Nat) := [(0, .aload_n 0, 1), (1, .dup, 1), (2, .getfield 33, 3), (5, .lload_n 1, 1), (6, .ladd, 1), (7, .putfield 33, 3), (10, .aload_n 0, 1), (11, .getfield 33, 3), (14, .lload_n 1, 1), (15, .invokestatic 106, 3)]
set_option maxRecDepth 20000 in
theorem k_X2_addLow_0 {sc : xm_Sc} : xm_bok (xe_cy (XE sc) 52) b_X2_addLow_0 := by show xm_bok cX2_addLow _; unfold xm_bok; decide +kernel
def b_X2_addLow_18 : List (Nat × Jvm.ClassFile.Instr × Nat) := [(18, .ifCond .eq 13, 3)]
set_option maxRecDepth 20000 in
theorem k_X2_addLow_18 {sc : xm_Sc} : xm_bok (xe_cy (XE sc) 52) b_X2_addLow_18 := by show xm_bok cX2_addLow _; unfold xm_bok; decide +kernel
def b_X2_addLow_21 : List (Nat × Jvm.ClassFile.Instr × Nat) := [(21, .aload_n 0, 1), (22, .dup, 1), (23, .getfield 30, 3), (26, .lconst 1, 1), (27, .ladd, 1), (28, .putfield 30, 3)]
set_option maxRecDepth 20000 in
theorem k_X2_addLow_21 {sc : xm_Sc} : xm_bok (xe_cy (XE sc) 52) b_X2_addLow_21 := by show xm_bok cX2_addLow _; unfold xm_bok; decide +kernel
def b_X2_addLow_31 : List (Nat × Jvm.ClassFile.Instr × Nat) := [(31, .return_, 1)]
set_option maxRecDepth 20000 in
theorem k_X2_addLow_31 {sc : xm_Sc} : xm_bok (xe_cy (XE sc) 52) b_X2_addLow_31 := by show xm_bok cX2_addLow _; unfold xm_bok; decide +kernel
set_option maxRecDepth 20000 in
theorem cn_52 {sc : xm_Sc} : xe_cn (XE sc) 52 = 2 := rfl
set_option maxRecDepth 20000 in
theorem ml_52 {sc : xm_Sc} : xe_ml (XE sc) 52 = 3 := rfl
set_option maxRecDepth 20000 in
theorem ry_52 {sc : xm_Sc} : xe_ry (XE sc) 52 = none := rfl
set_option maxRecDepth 20000 in
theorem is_52 {sc : xm_Sc} : xe_is (XE sc) 52 = false := rfl
set_option maxRecDepth 20000 in
theorem np_52 {sc : xm_Sc} : xe_np (XE sc) 52 = 1 := rfl
/- method 53: X2_addWords -/
def b_X2_addWords_0 : List (Nat × Jvm.ClassFile.Instr × Nat) := [(0, .lload_n 1, 1), (1, .lload_n 3, 1), (2, .ladd, 1), (3, .iload 5, 2), (5, .i2l, 1), (6, .ladd, 1), (7, .lstore 6, 2), (9, .aload_n 0, 1), (10, .lload 6, 2), (12, .aload_n 0, 1), (13, .getfield 15, 3), (16, .land, 1), (17, .putfield 33, 3), (20, .aload_n 0, 1), (21, .lload_n 1, 1), (22, .lload_n 3, 1), (23, .land, 1), (24, .lload_n 1, 1), (25, .lload_n 3, 1), (26, .lor, 1), (27, .lload 6, 2), (29, .ldc2_w 13, 3), (32, .lxor, 1), (33, .land, 1), (34, .lor, 1), (35, .aload_n 0, 1), (36, .getfield 7, 3), (39, .iconst 1, 1), (40, .isub, 1), (41, .lushr, 1), (42, .lconst 1, 1), (43, .land, 1), (44, .putfield 27, 3), (47, .return_, 1)]
set_option maxRecDepth 20000 in
theorem k_X2_addWords_0 {sc : xm_Sc} : xm_bok (xe_cy (XE sc) 53) b_X2_addWords_0 := by show xm_bok cX2_addWords _; unfold xm_bok; decide +kernel
set_option maxRecDepth 20000 in
theorem cn_53 {sc : xm_Sc} : xe_cn (XE sc) 53 = 2 := rfl
set_option maxRecDepth 20000 in
theorem ml_53 {sc : xm_Sc} : xe_ml (XE sc) 53 = 8 := rfl
set_option maxRecDepth 20000 in
theorem ry_53 {sc : xm_Sc} : xe_ry (XE sc) 53 = none := rfl
set_option maxRecDepth 20000 in
theorem is_53 {sc : xm_Sc} : xe_is (XE sc) 53 = false := rfl
set_option maxRecDepth 20000 in
theorem np_53 {sc : xm_Sc} : xe_np (XE sc) 53 = 3 := rfl
/- method 54: X2_compareWords -/
def b_X2_compareWords_0 : List (Nat × Jvm.ClassFile.Instr × Nat) := [(0, .aload_n 0, 1), (1, .getfield 73, 3), (4, .aload_n 0, 1), (5, .getfield 76, 3), (8, .invokestatic 106, 3)]
set_option maxRecDepth 20000 in
theorem k_X2_compareWords_0 {sc : xm_Sc} : xm_bok (xe_cy (XE sc) 54) b_X2_compareWords_0 := by show xm_bok cX2_compareWords _; unfold xm_bok; decide +kernel
def b_X2_compareWords_11 : List (Nat × Jvm.ClassFile.Instr × Nat) := [(11, .istore_n 2, 1), (12, .iconst 0, 1), (13, .istore_n 3, 1), (14, .iload_n 1, 1), (15, .tableswitch 167 12 17 #[37, 58, 63, 86, 123, 145], 37)]
set_option maxRecDepth 20000 in
theorem k_X2_compareWords_11 {sc : xm_Sc} : xm_bok (xe_cy (XE sc) 54) b_X2_compareWords_11 := by show xm_bok cX2_compareWords _; unfold xm_bok; decide +kernel
def b_X2_compareWords_52 : List (Nat × Jvm.ClassFile.Instr × Nat) := [(52, .aload_n 0, 1), (53, .getfield 73, 3), (56, .aload_n 0, 1), (57, .getfield 76, 3), (60, .lcmp, 1), (61, .ifCond .ne 7, 3)]
set_option maxRecDepth 20000 in
theorem k_X2_compareWords_52 {sc : xm_Sc} : xm_bok (xe_cy (XE sc) 54) b_X2_compareWords_52 := by show xm_bok cX2_compareWords _; unfold xm_bok; decide +kernel
def b_X2_compareWords_64 : List (Nat × Jvm.ClassFile.Instr × Nat) := [(64, .iconst 1, 1), (65, .goto 4, 3)]
set_option maxRecDepth 20000 in
theorem k_X2_compareWords_64 {sc : xm_Sc} : xm_bok (xe_cy (XE sc) 54) b_X2_compareWords_64 := by show xm_bok cX2_compareWords _; unfold xm_bok; decide +kernel
def b_X2_compareWords_68 : List (Nat × Jvm.ClassFile.Instr × Nat) := [(68, .iconst 0, 1)]
set_option maxRecDepth 20000 in
theorem k_X2_compareWords_68 {sc : xm_Sc} : xm_bok (xe_cy (XE sc) 54) b_X2_compareWords_68 := by show xm_bok cX2_compareWords _; unfold xm_bok; decide +kernel
def b_X2_compareWords_69 : List (Nat × Jvm.ClassFile.Instr × Nat) := [(69, .istore_n 3, 1), (70, .goto 153, 3)]
set_option maxRecDepth 20000 in
theorem k_X2_compareWords_69 {sc : xm_Sc} : xm_bok (xe_cy (XE sc) 54) b_X2_compareWords_69 := by show xm_bok cX2_compareWords _; unfold xm_bok; decide +kernel
def b_X2_compareWords_73 : List (Nat × Jvm.ClassFile.Instr × Nat) := [(73, .iload_n 2, 1), (74, .istore_n 3, 1), (75, .goto 148, 3)]
set_option maxRecDepth 20000 in
theorem k_X2_compareWords_73 {sc : xm_Sc} : xm_bok (xe_cy (XE sc) 54) b_X2_compareWords_73 := by show xm_bok cX2_compareWords _; unfold xm_bok; decide +kernel
def b_X2_compareWords_78 : List (Nat × Jvm.ClassFile.Instr × Nat) := [(78, .aload_n 0, 1), (79, .getfield 76, 3), (82, .aload_n 0, 1), (83, .getfield 73, 3), (86, .invokestatic 106, 3)]
set_option maxRecDepth 20000 in
theorem k_X2_compareWords_78 {sc : xm_Sc} : xm_bok (xe_cy (XE sc) 54) b_X2_compareWords_78 := by show xm_bok cX2_compareWords _; unfold xm_bok; decide +kernel
def b_X2_compareWords_89 : List (Nat × Jvm.ClassFile.Instr × Nat) := [(89, .ifCond .ne 7, 3)]
set_option maxRecDepth 20000 in
theorem k_X2_compareWords_89 {sc : xm_Sc} : xm_bok (xe_cy (XE sc) 54) b_X2_compareWords_89 := by show xm_bok cX2_compareWords _; unfold xm_bok; decide +kernel
def b_X2_compareWords_92 : List (Nat × Jvm.ClassFile.Instr × Nat) := [(92, .iconst 1, 1), (93, .goto 4, 3)]
set_option maxRecDepth 20000 in
theorem k_X2_compareWords_92 {sc : xm_Sc} : xm_bok (xe_cy (XE sc) 54) b_X2_compareWords_92 := by show xm_bok cX2_compareWords _; unfold xm_bok; decide +kernel
def b_X2_compareWords_96 : List (Nat × Jvm.ClassFile.Instr × Nat) := [(96, .iconst 0, 1)]
set_option maxRecDepth 20000 in
theorem k_X2_compareWords_96 {sc : xm_Sc} : xm_bok (xe_cy (XE sc) 54) b_X2_compareWords_96 := by show xm_bok cX2_compareWords _; unfold xm_bok; decide +kernel
def b_X2_compareWords_97 : List (Nat × Jvm.ClassFile.Instr × Nat) := [(97, .istore_n 3, 1), (98, .goto 125, 3)]
set_option maxRecDepth 20000 in
theorem k_X2_compareWords_97 {sc : xm_Sc} : xm_bok (xe_cy (XE sc) 54) b_X2_compareWords_97 := by show xm_bok cX2_compareWords _; unfold xm_bok; decide +kernel
def b_X2_compareWords_101 : List (Nat × Jvm.ClassFile.Instr × Nat) := [(101, .aload_n 0, 1), (102, .getfield 73, 3), (105, .bipush 64, 2), (107, .aload_n 0, 1), (108, .getfield 7, 3), (111, .isub, 1), (112, .lshl, 1), (113, .aload_n 0, 1), (114, .getfield 76, 3), (117, .bipush 64, 2), (119, .aload_n 0, 1), (120, .getfield 7, 3), (123, .isub, 1), (124, .lshl, 1), (125, .lcmp, 1), (126, .ifCond .ge 7, 3)]
set_option maxRecDepth 20000 in
theorem k_X2_compareWords_101 {sc : xm_Sc} : xm_bok (xe_cy (XE sc) 54) b_X2_compareWords_101 := by show xm_bok cX2_compareWords _; unfold xm_bok; decide +kernel
def b_X2_compareWords_129 : List (Nat × Jvm.ClassFile.Instr × Nat) := [(129, .iconst 1, 1), (130, .goto 4, 3)]
set_option maxRecDepth 20000 in
theorem k_X2_compareWords_129 {sc : xm_Sc} : xm_bok (xe_cy (XE sc) 54) b_X2_compareWords_129 := by show xm_bok cX2_compareWords _; unfold xm_bok; decide +kernel
def b_X2_compareWords_133 : List (Nat × Jvm.ClassFile.Instr × Nat) := [(133, .iconst 0, 1)]
set_option maxRecDepth 20000 in
theorem k_X2_compareWords_133 {sc : xm_Sc} : xm_bok (xe_cy (XE sc) 54) b_X2_compareWords_133 := by show xm_bok cX2_compareWords _; unfold xm_bok; decide +kernel
def b_X2_compareWords_134 : List (Nat × Jvm.ClassFile.Instr × Nat) := [(134, .istore_n 3, 1), (135, .goto 88, 3)]
set_option maxRecDepth 20000 in
theorem k_X2_compareWords_134 {sc : xm_Sc} : xm_bok (xe_cy (XE sc) 54) b_X2_compareWords_134 := by show xm_bok cX2_compareWords _; unfold xm_bok; decide +kernel
def b_X2_compareWords_138 : List (Nat × Jvm.ClassFile.Instr × Nat) := [(138, .aload_n 0, 1), (139, .iload_n 2, 1), (140, .ifCond .eq 10, 3)]
set_option maxRecDepth 20000 in
theorem k_X2_compareWords_138 {sc : xm_Sc} : xm_bok (xe_cy (XE sc) 54) b_X2_compareWords_138 := by show xm_bok cX2_compareWords _; unfold xm_bok; decide +kernel
def b_X2_compareWords_143 : List (Nat × Jvm.ClassFile.Instr × Nat) := [(143, .aload_n 0, 1), (144, .getfield 73, 3), (147, .goto 7, 3)]
set_option maxRecDepth 20000 in
theorem k_X2_compareWords_143 {sc : xm_Sc} : xm_bok (xe_cy (XE sc) 54) b_X2_compareWords_143 := by show xm_bok cX2_compareWords _; unfold xm_bok; decide +kernel
def b_X2_compareWords_150 : List (Nat × Jvm.ClassFile.Instr × Nat) := [(150, .aload_n 0, 1), (151, .getfield 76, 3)]
set_option maxRecDepth 20000 in
theorem k_X2_compareWords_150 {sc : xm_Sc} : xm_bok (xe_cy (XE sc) 54) b_X2_compareWords_150 := by show xm_bok cX2_compareWords _; unfold xm_bok; decide +kernel
def b_X2_compareWords_154 : List (Nat × Jvm.ClassFile.Instr × Nat) := [(154, .putfield 33, 3), (157, .goto 66, 3)]
set_option maxRecDepth 20000 in
theorem k_X2_compareWords_154 {sc : xm_Sc} : xm_bok (xe_cy (XE sc) 54) b_X2_compareWords_154 := by show xm_bok cX2_compareWords _; unfold xm_bok; decide +kernel
def b_X2_compareWords_160 : List (Nat × Jvm.ClassFile.Instr × Nat) := [(160, .aload_n 0, 1), (161, .iload_n 2, 1), (162, .ifCond .eq 10, 3)]
set_option maxRecDepth 20000 in
theorem k_X2_compareWords_160 {sc : xm_Sc} : xm_bok (xe_cy (XE sc) 54) b_X2_compareWords_160 := by show xm_bok cX2_compareWords _; unfold xm_bok; decide +kernel
def b_X2_compareWords_165 : List (Nat × Jvm.ClassFile.Instr × Nat) := [(165, .aload_n 0, 1), (166, .getfield 76, 3), (169, .goto 7, 3)]
set_option maxRecDepth 20000 in
theorem k_X2_compareWords_165 {sc : xm_Sc} : xm_bok (xe_cy (XE sc) 54) b_X2_compareWords_165 := by show xm_bok cX2_compareWords _; unfold xm_bok; decide +kernel
def b_X2_compareWords_172 : List (Nat × Jvm.ClassFile.Instr × Nat) := [(172, .aload_n 0, 1), (173, .getfield 73, 3)]
set_option maxRecDepth 20000 in
theorem k_X2_compareWords_172 {sc : xm_Sc} : xm_bok (xe_cy (XE sc) 54) b_X2_compareWords_172 := by show xm_bok cX2_compareWords _; unfold xm_bok; decide +kernel
def b_X2_compareWords_176 : List (Nat × Jvm.ClassFile.Instr × Nat) := [(176, .putfield 33, 3), (179, .goto 44, 3)]
set_option maxRecDepth 20000 in
theorem k_X2_compareWords_176 {sc : xm_Sc} : xm_bok (xe_cy (XE sc) 54) b_X2_compareWords_176 := by show xm_bok cX2_compareWords _; unfold xm_bok; decide +kernel
def b_X2_compareWords_182 : List (Nat × Jvm.ClassFile.Instr × Nat) := [(182, .aload_n 0, 1), (183, .iload_n 2, 1), (184, .ifCond .eq 10, 3)]
set_option maxRecDepth 20000 in
theorem k_X2_compareWords_182 {sc : xm_Sc} : xm_bok (xe_cy (XE sc) 54) b_X2_compareWords_182 := by show xm_bok cX2_compareWords _; unfold xm_bok; decide +kernel
def b_X2_compareWords_187 : List (Nat × Jvm.ClassFile.Instr × Nat) := [(187, .aload_n 0, 1), (188, .getfield 73, 3), (191, .goto 7, 3)]
set_option maxRecDepth 20000 in
theorem k_X2_compareWords_187 {sc : xm_Sc} : xm_bok (xe_cy (XE sc) 54) b_X2_compareWords_187 := by show xm_bok cX2_compareWords _; unfold xm_bok; decide +kernel
def b_X2_compareWords_194 : List (Nat × Jvm.ClassFile.Instr × Nat) := [(194, .aload_n 0, 1), (195, .getfield 76, 3)]
set_option maxRecDepth 20000 in
theorem k_X2_compareWords_194 {sc : xm_Sc} : xm_bok (xe_cy (XE sc) 54) b_X2_compareWords_194 := by show xm_bok cX2_compareWords _; unfold xm_bok; decide +kernel
def b_X2_compareWords_198 : List (Nat × Jvm.ClassFile.Instr × Nat) := [(198, .iload_n 2, 1), (199, .ifCond .eq 10, 3)]
set_option maxRecDepth 20000 in
theorem k_X2_compareWords_198 {sc : xm_Sc} : xm_bok (xe_cy (XE sc) 54) b_X2_compareWords_198 := by show xm_bok cX2_compareWords _; unfold xm_bok; decide +kernel
def b_X2_compareWords_202 : List (Nat × Jvm.ClassFile.Instr × Nat) := [(202, .aload_n 0, 1), (203, .getfield 76, 3), (206, .goto 7, 3)]
set_option maxRecDepth 20000 in
theorem k_X2_compareWords_202 {sc : xm_Sc} : xm_bok (xe_cy (XE sc) 54) b_X2_compareWords_202 := by show xm_bok cX2_compareWords _; unfold xm_bok; decide +kernel
def b_X2_compareWords_209 : List (Nat × Jvm.ClassFile.Instr × Nat) := [(209, .aload_n 0, 1), (210, .getfield 73, 3)]
set_option maxRecDepth 20000 in
theorem k_X2_compareWords_209 {sc : xm_Sc} : xm_bok (xe_cy (XE sc) 54) b_X2_compareWords_209 := by show xm_bok cX2_compareWords _; unfold xm_bok; decide +kernel
def b_X2_compareWords_213 : List (Nat × Jvm.ClassFile.Instr × Nat) := [(213, .aload_n 0, 1), (214, .getfield 79, 3), (217, .invokestatic 112, 3)]
set_option maxRecDepth 20000 in
theorem k_X2_compareWords_213 {sc : xm_Sc} : xm_bok (xe_cy (XE sc) 54) b_X2_compareWords_213 := by show xm_bok cX2_compareWords _; unfold xm_bok; decide +kernel
def b_X2_compareWords_220 : List (Nat × Jvm.ClassFile.Instr × Nat) := [(220, .putfield 33, 3)]
set_option maxRecDepth 20000 in
theorem k_X2_compareWords_220 {sc : xm_Sc} : xm_bok (xe_cy (XE sc) 54) b_X2_compareWords_220 := by show xm_bok cX2_compareWords _; unfold xm_bok; decide +kernel
def b_X2_compareWords_223 : List (Nat × Jvm.ClassFile.Instr × Nat) := [(223, .aload_n 0, 1), (224, .iload_n 3, 1), (225, .ifCond .eq 7, 3)]
set_option maxRecDepth 20000 in
theorem k_X2_compareWords_223 {sc : xm_Sc} : xm_bok (xe_cy (XE sc) 54) b_X2_compareWords_223 := by show xm_bok cX2_compareWords _; unfold xm_bok; decide +kernel
def b_X2_compareWords_228 : List (Nat × Jvm.ClassFile.Instr × Nat) := [(228, .lconst 1, 1), (229, .goto 4, 3)]
set_option maxRecDepth 20000 in
theorem k_X2_compareWords_228 {sc : xm_Sc} : xm_bok (xe_cy (XE sc) 54) b_X2_compareWords_228 := by show xm_bok cX2_compareWords _; unfold xm_bok; decide +kernel
def b_X2_compareWords_232 : List (Nat × Jvm.ClassFile.Instr × Nat) := [(232, .lconst 0, 1)]
set_option maxRecDepth 20000 in
theorem k_X2_compareWords_232 {sc : xm_Sc} : xm_bok (xe_cy (XE sc) 54) b_X2_compareWords_232 := by show xm_bok cX2_compareWords _; unfold xm_bok; decide +kernel
def b_X2_compareWords_233 : List (Nat × Jvm.ClassFile.Instr × Nat) := [(233, .putfield 27, 3), (236, .return_, 1)]
set_option maxRecDepth 20000 in
theorem k_X2_compareWords_233 {sc : xm_Sc} : xm_bok (xe_cy (XE sc) 54) b_X2_compareWords_233 := by show xm_bok cX2_compareWords _; unfold xm_bok; decide +kernel
set_option maxRecDepth 20000 in
theorem cn_54 {sc : xm_Sc} : xe_cn (XE sc) 54 = 2 := rfl
set_option maxRecDepth 20000 in
theorem ml_54 {sc : xm_Sc} : xe_ml (XE sc) 54 = 4 := rfl
set_option maxRecDepth 20000 in
theorem ry_54 {sc : xm_Sc} : xe_ry (XE sc) 54 = none := rfl
set_option maxRecDepth 20000 in
theorem is_54 {sc : xm_Sc} : xe_is (XE sc) 54 = false := rfl
set_option maxRecDepth 20000 in
theorem np_54 {sc : xm_Sc} : xe_np (XE sc) 54 = 1 := rfl
/- method 55: X2_divide -/
def b_X2_divide_0 : List (Nat × Jvm.ClassFile.Instr × Nat) := [(0, .iload_n 1, 1), (1, .bipush 11, 2), (3, .if_icmp .ne 10, 3)]
set_option maxRecDepth 20000 in
theorem k_X2_divide_0 {sc : xm_Sc} : xm_bok (xe_cy (XE sc) 55) b_X2_divide_0 := by show xm_bok cX2_divide _; unfold xm_bok; decide +kernel
def b_X2_divide_6 : List (Nat × Jvm.ClassFile.Instr × Nat) := [(6, .aload_n 0, 1), (7, .getfield 76, 3), (10, .goto 7, 3)]
set_option maxRecDepth 20000 in
theorem k_X2_divide_6 {sc : xm_Sc} : xm_bok (xe_cy (XE sc) 55) b_X2_divide_6 := by show xm_bok cX2_divide _; unfold xm_bok; decide +kernel
def b_X2_divide_13 : List (Nat × Jvm.ClassFile.Instr × Nat) := [(13, .aload_n 0, 1), (14, .getfield 73, 3)]
set_option maxRecDepth 20000 in
theorem k_X2_divide_13 {sc : xm_Sc} : xm_bok (xe_cy (XE sc) 55) b_X2_divide_13 := by show xm_bok cX2_divide _; unfold xm_bok; decide +kernel
def b_X2_divide_17 : List (Nat × Jvm.ClassFile.Instr × Nat) := [(17, .lstore_n 2, 1), (18, .iload_n 1, 1), (19, .bipush 11, 2), (21, .if_icmp .ne 10, 3)]
set_option maxRecDepth 20000 in
theorem k_X2_divide_17 {sc : xm_Sc} : xm_bok (xe_cy (XE sc) 55) b_X2_divide_17 := by show xm_bok cX2_divide _; unfold xm_bok; decide +kernel
def b_X2_divide_24 : List (Nat × Jvm.ClassFile.Instr × Nat) := [(24, .aload_n 0, 1), (25, .getfield 73, 3), (28, .goto 7, 3)]
set_option maxRecDepth 20000 in
theorem k_X2_divide_24 {sc : xm_Sc} : xm_bok (xe_cy (XE sc) 55) b_X2_divide_24 := by show xm_bok cX2_divide _; unfold xm_bok; decide +kernel
def b_X2_divide_31 : List (Nat × Jvm.ClassFile.Instr × Nat) := [(31, .aload_n 0, 1), (32, .getfield 76, 3)]
set_option maxRecDepth 20000 in
theorem k_X2_divide_31 {sc : xm_Sc} : xm_bok (xe_cy (XE sc) 55) b_X2_divide_31 := by show xm_bok cX2_divide _; unfold xm_bok; decide +kernel
def b_X2_divide_35 : List (Nat × Jvm.ClassFile.Instr × Nat) := [(35, .lstore 4, 2), (37, .lload 4, 2), (39, .lconst 0, 1), (40, .lcmp, 1), (41, .ifCond .ne 7, 3)]
set_option maxRecDepth 20000 in
theorem k_X2_divide_35 {sc : xm_Sc} : xm_bok (xe_cy (XE sc) 55) b_X2_divide_35 := by show xm_bok cX2_divide _; unfold xm_bok; decide +kernel
def b_X2_divide_44 : List (Nat × Jvm.ClassFile.Instr × Nat) := [(44, .lconst 0, 1), (45, .goto 9, 3)]
set_option maxRecDepth 20000 in
theorem k_X2_divide_44 {sc : xm_Sc} : xm_bok (xe_cy (XE sc) 55) b_X2_divide_44 := by show xm_bok cX2_divide _; unfold xm_bok; decide +kernel
def b_X2_divide_48 : List (Nat × Jvm.ClassFile.Instr × Nat) := [(48, .lload_n 2, 1), (49, .lload 4, 2), (51, .invokestatic 96, 3)]
set_option maxRecDepth 20000 in
theorem k_X2_divide_48 {sc : xm_Sc} : xm_bok (xe_cy (XE sc) 55) b_X2_divide_48 := by show xm_bok cX2_divide _; unfold xm_bok; decide +kernel
def b_X2_divide_54 : List (Nat × Jvm.ClassFile.Instr × Nat) := [(54, .lstore 6, 2), (56, .lload_n 2, 1), (57, .lload 6, 2), (59, .lload 4, 2), (61, .lmul, 1), (62, .lsub, 1), (63, .lstore 8, 2), (65, .aload_n 0, 1), (66, .iload_n 1, 1), (67, .bipush 9, 2), (69, .if_icmp .ne 8, 3)]
set_option maxRecDepth 20000 in
theorem k_X2_divide_54 {sc : xm_Sc} : xm_bok (xe_cy (XE sc) 55) b_X2_divide_54 := by show xm_bok cX2_divide _; unfold xm_bok; decide +kernel
def b_X2_divide_72 : List (Nat × Jvm.ClassFile.Instr × Nat) := [(72, .lload 6, 2), (74, .goto 5, 3)]
set_option maxRecDepth 20000 in
theorem k_X2_divide_72 {sc : xm_Sc} : xm_bok (xe_cy (XE sc) 55) b_X2_divide_72 := by show xm_bok cX2_divide _; unfold xm_bok; decide +kernel
def b_X2_divide_77 : List (Nat × Jvm.ClassFile.Instr × Nat) := [(77, .lload 8, 2)]
set_option maxRecDepth 20000 in
theorem k_X2_divide_77 {sc : xm_Sc} : xm_bok (xe_cy (XE sc) 55) b_X2_divide_77 := by show xm_bok cX2_divide _; unfold xm_bok; decide +kernel
def b_X2_divide_79 : List (Nat × Jvm.ClassFile.Instr × Nat) := [(79, .putfield 33, 3), (82, .aload_n 0, 1), (83, .lload 8, 2), (85, .lconst 0, 1), (86, .lcmp, 1), (87, .ifCond .ne 7, 3)]
set_option maxRecDepth 20000 in
theorem k_X2_divide_79 {sc : xm_Sc} : xm_bok (xe_cy (XE sc) 55) b_X2_divide_79 := by show xm_bok cX2_divide _; unfold xm_bok; decide +kernel
def b_X2_divide_90 : List (Nat × Jvm.ClassFile.Instr × Nat) := [(90, .lconst 1, 1), (91, .goto 4, 3)]
set_option maxRecDepth 20000 in
theorem k_X2_divide_90 {sc : xm_Sc} : xm_bok (xe_cy (XE sc) 55) b_X2_divide_90 := by show xm_bok cX2_divide _; unfold xm_bok; decide +kernel
def b_X2_divide_94 : List (Nat × Jvm.ClassFile.Instr × Nat) := [(94, .lconst 0, 1)]
set_option maxRecDepth 20000 in
theorem k_X2_divide_94 {sc : xm_Sc} : xm_bok (xe_cy (XE sc) 55) b_X2_divide_94 := by show xm_bok cX2_divide _; unfold xm_bok; decide +kernel
def b_X2_divide_95 : List (Nat × Jvm.ClassFile.Instr × Nat) := [(95, .putfield 27, 3), (98, .return_, 1)]
set_option maxRecDepth 20000 in
theorem k_X2_divide_95 {sc : xm_Sc} : xm_bok (xe_cy (XE sc) 55) b_X2_divide_95 := by show xm_bok cX2_divide _; unfold xm_bok; decide +kernel
set_option maxRecDepth 20000 in
theorem cn_55 {sc : xm_Sc} : xe_cn (XE sc) 55 = 2 := rfl
set_option maxRecDepth 20000 in
theorem ml_55 {sc : xm_Sc} : xe_ml (XE sc) 55 = 10 := rfl
set_option maxRecDepth 20000 in
theorem ry_55 {sc : xm_Sc} : xe_ry (XE sc) 55 = none := rfl
set_option maxRecDepth 20000 in
theorem is_55 {sc : xm_Sc} : xe_is (XE sc) 55 = false := rfl
set_option maxRecDepth 20000 in
theorem np_55 {sc : xm_Sc} : xe_np (XE sc) 55 = 1 := rfl
/- method 56: X2_giveWords -/
def b_X2_giveWords_0 : List (Nat × Jvm.ClassFile.Instr × Nat) := [(0, .iload_n 1, 1), (1, .tableswitch 150 1 7 #[43, 56, 150, 116, 150, 74, 88], 43)]
set_option maxRecDepth 20000 in
theorem k_X2_giveWords_0 {sc : xm_Sc} : xm_bok (xe_cy (XE sc) 56) b_X2_giveWords_0 := by show xm_bok cX2_giveWords _; unfold xm_bok; decide +kernel
def b_X2_giveWords_44 : List (Nat × Jvm.ClassFile.Instr × Nat) := [(44, .aload_n 2, 1), (45, .iload_n 3, 1), (46, .iconst 1, 1), (47, .aload_n 0, 1), (48, .getfield 27, 3), (51, .invokevirtual 85, 3)]
set_option maxRecDepth 20000 in
theorem k_X2_giveWords_44 {sc : xm_Sc} : xm_bok (xe_cy (XE sc) 56) b_X2_giveWords_44 := by show xm_bok cX2_giveWords _; unfold xm_bok; decide +kernel
def b_X2_giveWords_54 : List (Nat × Jvm.ClassFile.Instr × Nat) := [(54, .goto 110, 3)]
set_option maxRecDepth 20000 in
theorem k_X2_giveWords_54 {sc : xm_Sc} : xm_bok (xe_cy (XE sc) 56) b_X2_giveWords_54 := by show xm_bok cX2_giveWords _; unfold xm_bok; decide +kernel
def b_X2_giveWords_57 : List (Nat × Jvm.ClassFile.Instr × Nat) := [(57, .aload_n 2, 1), (58, .iload_n 3, 1), (59, .aload_n 0, 1), (60, .getfield 7, 3), (63, .iconst 2, 1), (64, .idiv, 1), (65, .aload_n 0, 1), (66, .getfield 33, 3), (69, .invokevirtual 85, 3)]
set_option maxRecDepth 20000 in
theorem k_X2_giveWords_57 {sc : xm_Sc} : xm_bok (xe_cy (XE sc) 56) b_X2_giveWords_57 := by show xm_bok cX2_giveWords _; unfold xm_bok; decide +kernel
def b_X2_giveWords_72 : List (Nat × Jvm.ClassFile.Instr × Nat) := [(72, .goto 92, 3)]
set_option maxRecDepth 20000 in
theorem k_X2_giveWords_72 {sc : xm_Sc} : xm_bok (xe_cy (XE sc) 56) b_X2_giveWords_72 := by show xm_bok cX2_giveWords _; unfold xm_bok; decide +kernel
def b_X2_giveWords_75 : List (Nat × Jvm.ClassFile.Instr × Nat) := [(75, .aload_n 2, 1), (76, .iload_n 3, 1), (77, .bipush 8, 2), (79, .aload_n 0, 1), (80, .getfield 33, 3), (83, .invokevirtual 85, 3)]
set_option maxRecDepth 20000 in
theorem k_X2_giveWords_75 {sc : xm_Sc} : xm_bok (xe_cy (XE sc) 56) b_X2_giveWords_75 := by show xm_bok cX2_giveWords _; unfold xm_bok; decide +kernel
def b_X2_giveWords_86 : List (Nat × Jvm.ClassFile.Instr × Nat) := [(86, .goto 78, 3)]
set_option maxRecDepth 20000 in
theorem k_X2_giveWords_86 {sc : xm_Sc} : xm_bok (xe_cy (XE sc) 56) b_X2_giveWords_86 := by show xm_bok cX2_giveWords _; unfold xm_bok; decide +kernel
def b_X2_giveWords_89 : List (Nat × Jvm.ClassFile.Instr × Nat) := [(89, .aload_n 2, 1), (90, .iload_n 3, 1), (91, .iconst 1, 1), (92, .aload_n 0, 1), (93, .getfield 27, 3), (96, .invokevirtual 85, 3)]
set_option maxRecDepth 20000 in
theorem k_X2_giveWords_89 {sc : xm_Sc} : xm_bok (xe_cy (XE sc) 56) b_X2_giveWords_89 := by show xm_bok cX2_giveWords _; unfold xm_bok; decide +kernel
def b_X2_giveWords_99 : List (Nat × Jvm.ClassFile.Instr × Nat) := [(99, .aload_n 2, 1), (100, .iload_n 3, 1), (101, .iconst 1, 1), (102, .iadd, 1), (103, .aload_n 0, 1), (104, .getfield 7, 3), (107, .aload_n 0, 1), (108, .getfield 33, 3), (111, .invokevirtual 85, 3)]
set_option maxRecDepth 20000 in
theorem k_X2_giveWords_99 {sc : xm_Sc} : xm_bok (xe_cy (XE sc) 56) b_X2_giveWords_99 := by show xm_bok cX2_giveWords _; unfold xm_bok; decide +kernel
def b_X2_giveWords_114 : List (Nat × Jvm.ClassFile.Instr × Nat) := [(114, .goto 50, 3)]
set_option maxRecDepth 20000 in
theorem k_X2_giveWords_114 {sc : xm_Sc} : xm_bok (xe_cy (XE sc) 56) b_X2_giveWords_114 := by show xm_bok cX2_giveWords _; unfold xm_bok; decide +kernel
def b_X2_giveWords_117 : List (Nat × Jvm.ClassFile.Instr × Nat) := [(117, .aload_n 2, 1), (118, .iload_n 3, 1), (119, .aload_n 0, 1), (120, .getfield 7, 3), (123, .aload_n 0, 1), (124, .getfield 30, 3), (127, .invokevirtual 85, 3)]
set_option maxRecDepth 20000 in
theorem k_X2_giveWords_117 {sc : xm_Sc} : xm_bok (xe_cy (XE sc) 56) b_X2_giveWords_117 := by show xm_bok cX2_giveWords _; unfold xm_bok; decide +kernel
def b_X2_giveWords_130 : List (Nat × Jvm.ClassFile.Instr × Nat) := [(130, .aload_n 2, 1), (131, .iload_n 3, 1), (132, .aload_n 0, 1), (133, .getfield 7, 3), (136, .iadd, 1), (137, .aload_n 0, 1), (138, .getfield 7, 3), (141, .aload_n 0, 1), (142, .getfield 33, 3), (145, .invokevirtual 85, 3)]
set_option maxRecDepth 20000 in
theorem k_X2_giveWords_130 {sc : xm_Sc} : xm_bok (xe_cy (XE sc) 56) b_X2_giveWords_130 := by show xm_bok cX2_giveWords _; unfold xm_bok; decide +kernel
def b_X2_giveWords_148 : List (Nat × Jvm.ClassFile.Instr × Nat) := [(148, .goto 16, 3)]
set_option maxRecDepth 20000 in
theorem k_X2_giveWords_148 {sc : xm_Sc} : xm_bok (xe_cy (XE sc) 56) b_X2_giveWords_148 := by show xm_bok cX2_giveWords _; unfold xm_bok; decide +kernel
def b_X2_giveWords_151 : List (Nat × Jvm.ClassFile.Instr × Nat) := [(151, .aload_n 2, 1), (152, .iload_n 3, 1), (153, .aload_n 0, 1), (154, .getfield 7, 3), (157, .aload_n 0, 1), (158, .getfield 33, 3), (161, .invokevirtual 85, 3)]
set_option maxRecDepth 20000 in
theorem k_X2_giveWords_151 {sc : xm_Sc} : xm_bok (xe_cy (XE sc) 56) b_X2_giveWords_151 := by show xm_bok cX2_giveWords _; unfold xm_bok; decide +kernel
def b_X2_giveWords_164 : List (Nat × Jvm.ClassFile.Instr × Nat) := [(164, .return_, 1)]
set_option maxRecDepth 20000 in
theorem k_X2_giveWords_164 {sc : xm_Sc} : xm_bok (xe_cy (XE sc) 56) b_X2_giveWords_164 := by show xm_bok cX2_giveWords _; unfold xm_bok; decide +kernel
set_option maxRecDepth 20000 in
theorem cn_56 {sc : xm_Sc} : xe_cn (XE sc) 56 = 2 := rfl
set_option maxRecDepth 20000 in
theorem ml_56 {sc : xm_Sc} : xe_ml (XE sc) 56 = 4 := rfl
set_option maxRecDepth 20000 in
theorem ry_56 {sc : xm_Sc} : xe_ry (XE sc) 56 = none := rfl
set_option maxRecDepth 20000 in
theorem is_56 {sc : xm_Sc} : xe_is (XE sc) 56 = false := rfl
set_option maxRecDepth 20000 in
theorem np_56 {sc : xm_Sc} : xe_np (XE sc) 56 = 3 := rfl
/- method 57: X2_isBelow -/
def b_X2_isBelow_0 : List (Nat × Jvm.ClassFile.Instr × Nat) := [(0, .lload_n 0, 1), (1, .ldc2_w 110, 3), (4, .lxor, 1), (5, .lload_n 2, 1), (6, .ldc2_w 110, 3), (9, .lxor, 1), (10, .lcmp, 1), (11, .ifCond .ge 7, 3)]
set_option maxRecDepth 20000 in
theorem k_X2_isBelow_0 {sc : xm_Sc} : xm_bok (xe_cy (XE sc) 57) b_X2_isBelow_0 := by show xm_bok cX2_isBelow _; unfold xm_bok; decide +kernel
def b_X2_isBelow_14 : List (Nat × Jvm.ClassFile.Instr × Nat) := [(14, .iconst 1, 1), (15, .goto 4, 3)]
set_option maxRecDepth 20000 in
theorem k_X2_isBelow_14 {sc : xm_Sc} : xm_bok (xe_cy (XE sc) 57) b_X2_isBelow_14 := by show xm_bok cX2_isBelow _; unfold xm_bok; decide +kernel
def b_X2_isBelow_18 : List (Nat × Jvm.ClassFile.Instr × Nat) := [(18, .iconst 0, 1)]
set_option maxRecDepth 20000 in
theorem k_X2_isBelow_18 {sc : xm_Sc} : xm_bok (xe_cy (XE sc) 57) b_X2_isBelow_18 := by show xm_bok cX2_isBelow _; unfold xm_bok; decide +kernel
def b_X2_isBelow_19 : List (Nat × Jvm.ClassFile.Instr × Nat) := [(19, .ireturn, 1)]
set_option maxRecDepth 20000 in
theorem k_X2_isBelow_19 {sc : xm_Sc} : xm_bok (xe_cy (XE sc) 57) b_X2_isBelow_19 := by show xm_bok cX2_isBelow _; unfold xm_bok; decide +kernel
set_option maxRecDepth 20000 in
theorem cn_57 {sc : xm_Sc} : xe_cn (XE sc) 57 = 2 := rfl
set_option maxRecDepth 20000 in
theorem ml_57 {sc : xm_Sc} : xe_ml (XE sc) 57 = 4 := rfl
set_option maxRecDepth 20000 in
theorem ry_57 {sc : xm_Sc} : xe_ry (XE sc) 57 = (some .boolean) := rfl
set_option maxRecDepth 20000 in
theorem is_57 {sc : xm_Sc} : xe_is (XE sc) 57 = true := rfl
set_option maxRecDepth 20000 in
theorem np_57 {sc : xm_Sc} : xe_np (XE sc) 57 = 2 := rfl
/- method 58: X2_middle -/
def b_X2_middle_0 : List (Nat × Jvm.ClassFile.Instr × Nat) := [(0, .lload 4, 2), (2, .lload_n 0, 1), (3, .invokestatic 106, 3)]
set_option maxRecDepth 20000 in
theorem k_X2_middle_0 {sc : xm_Sc} : xm_bok (xe_cy (XE sc) 58) b_X2_middle_0 := by show xm_bok cX2_middle _; unfold xm_bok; decide +kernel
def b_X2_middle_6 : List (Nat × Jvm.ClassFile.Instr × Nat) := [(6, .ifCond .eq 5, 3)]
set_option maxRecDepth 20000 in
theorem k_X2_middle_6 {sc : xm_Sc} : xm_bok (xe_cy (XE sc) 58) b_X2_middle_6 := by show xm_bok cX2_middle _; unfold xm_bok; decide +kernel
def b_X2_middle_9 : List (Nat × Jvm.ClassFile.Instr × Nat) := [(9, .lload_n 0, 1), (10, .lreturn, 1)]
set_option maxRecDepth 20000 in
theorem k_X2_middle_9 {sc : xm_Sc} : xm_bok (xe_cy (XE sc) 58) b_X2_middle_9 := by show xm_bok cX2_middle _; unfold xm_bok; decide +kernel
def b_X2_middle_11 : List (Nat × Jvm.ClassFile.Instr × Nat) := [(11, .lload_n 2, 1), (12, .lload 4, 2), (14, .invokestatic 106, 3)]
set_option maxRecDepth 20000 in
theorem k_X2_middle_11 {sc : xm_Sc} : xm_bok (xe_cy (XE sc) 58) b_X2_middle_11 := by show xm_bok cX2_middle _; unfold xm_bok; decide +kernel
def b_X2_middle_17 : List (Nat × Jvm.ClassFile.Instr × Nat) := [(17, .ifCond .eq 7, 3)]
set_option maxRecDepth 20000 in
theorem k_X2_middle_17 {sc : xm_Sc} : xm_bok (xe_cy (XE sc) 58) b_X2_middle_17 := by show xm_bok cX2_middle _; unfold xm_bok; decide +kernel
def b_X2_middle_20 : List (Nat × Jvm.ClassFile.Instr × Nat) := [(20, .lload_n 2, 1), (21, .goto 5, 3)]
set_option maxRecDepth 20000 in
theorem k_X2_middle_20 {sc : xm_Sc} : xm_bok (xe_cy (XE sc) 58) b_X2_middle_20 := by show xm_bok cX2_middle _; unfold xm_bok; decide +kernel
def b_X2_middle_24 : List (Nat × Jvm.ClassFile.Instr × Nat) := [(24, .lload 4, 2)]
set_option maxRecDepth 20000 in
theorem k_X2_middle_24 {sc : xm_Sc} : xm_bok (xe_cy (XE sc) 58) b_X2_middle_24 := by show xm_bok cX2_middle _; unfold xm_bok; decide +kernel
def b_X2_middle_26 : List (Nat × Jvm.ClassFile.Instr × Nat) := [(26, .lreturn, 1)]
set_option maxRecDepth 20000 in
theorem k_X2_middle_26 {sc : xm_Sc} : xm_bok (xe_cy (XE sc) 58) b_X2_middle_26 := by show xm_bok cX2_middle _; unfold xm_bok; decide +kernel
set_option maxRecDepth 20000 in
theorem cn_58 {sc : xm_Sc} : xe_cn (XE sc) 58 = 2 := rfl
set_option maxRecDepth 20000 in
theorem ml_58 {sc : xm_Sc} : xe_ml (XE sc) 58 = 6 := rfl
set_option maxRecDepth 20000 in
theorem ry_58 {sc : xm_Sc} : xe_ry (XE sc) 58 = (some .long) := rfl
set_option maxRecDepth 20000 in
theorem is_58 {sc : xm_Sc} : xe_is (XE sc) 58 = true := rfl
set_option maxRecDepth 20000 in
theorem np_58 {sc : xm_Sc} : xe_np (XE sc) 58 = 3 := rfl
/- method 59: X2_mixBits -/
def b_X2_mixBits_0 : List (Nat × Jvm.ClassFile.Instr × Nat) := [(0, .iload_n 1, 1), (1, .tableswitch 210 23 30 #[47, 67, 83, 99, 115, 136, 172, 202], 47)]
set_option maxRecDepth 20000 in
theorem k_X2_mixBits_0 {sc : xm_Sc} : xm_bok (xe_cy (XE sc) 59) b_X2_mixBits_0 := by show xm_bok cX2_mixBits _; unfold xm_bok; decide +kernel
def b_X2_mixBits_48 : List (Nat × Jvm.ClassFile.Instr × Nat) := [(48, .aload_n 0, 1), (49, .aload_n 0, 1), (50, .getfield 73, 3), (53, .ldc2_w 13, 3), (56, .lxor, 1), (57, .aload_n 0, 1), (58, .getfield 15, 3), (61, .land, 1), (62, .putfield 33, 3), (65, .goto 154, 3)]
set_option maxRecDepth 20000 in
theorem k_X2_mixBits_48 {sc : xm_Sc} : xm_bok (xe_cy (XE sc) 59) b_X2_mixBits_48 := by show xm_bok cX2_mixBits _; unfold xm_bok; decide +kernel
def b_X2_mixBits_68 : List (Nat × Jvm.ClassFile.Instr × Nat) := [(68, .aload_n 0, 1), (69, .aload_n 0, 1), (70, .getfield 73, 3), (73, .aload_n 0, 1), (74, .getfield 76, 3), (77, .land, 1), (78, .putfield 33, 3), (81, .goto 138, 3)]
set_option maxRecDepth 20000 in
theorem k_X2_mixBits_68 {sc : xm_Sc} : xm_bok (xe_cy (XE sc) 59) b_X2_mixBits_68 := by show xm_bok cX2_mixBits _; unfold xm_bok; decide +kernel
def b_X2_mixBits_84 : List (Nat × Jvm.ClassFile.Instr × Nat) := [(84, .aload_n 0, 1), (85, .aload_n 0, 1), (86, .getfield 73, 3), (89, .aload_n 0, 1), (90, .getfield 76, 3), (93, .lor, 1), (94, .putfield 33, 3), (97, .goto 122, 3)]
set_option maxRecDepth 20000 in
theorem k_X2_mixBits_84 {sc : xm_Sc} : xm_bok (xe_cy (XE sc) 59) b_X2_mixBits_84 := by show xm_bok cX2_mixBits _; unfold xm_bok; decide +kernel
def b_X2_mixBits_100 : List (Nat × Jvm.ClassFile.Instr × Nat) := [(100, .aload_n 0, 1), (101, .aload_n 0, 1), (102, .getfield 73, 3), (105, .aload_n 0, 1), (106, .getfield 76, 3), (109, .lxor, 1), (110, .putfield 33, 3), (113, .goto 106, 3)]
set_option maxRecDepth 20000 in
theorem k_X2_mixBits_100 {sc : xm_Sc} : xm_bok (xe_cy (XE sc) 59) b_X2_mixBits_100 := by show xm_bok cX2_mixBits _; unfold xm_bok; decide +kernel
def b_X2_mixBits_116 : List (Nat × Jvm.ClassFile.Instr × Nat) := [(116, .aload_n 0, 1), (117, .aload_n 0, 1), (118, .getfield 73, 3), (121, .aload_n 0, 1), (122, .getfield 76, 3), (125, .lxor, 1), (126, .aload_n 0, 1), (127, .getfield 79, 3), (130, .lxor, 1), (131, .putfield 33, 3), (134, .goto 85, 3)]
set_option maxRecDepth 20000 in
theorem k_X2_mixBits_116 {sc : xm_Sc} : xm_bok (xe_cy (XE sc) 59) b_X2_mixBits_116 := by show xm_bok cX2_mixBits _; unfold xm_bok; decide +kernel
def b_X2_mixBits_137 : List (Nat × Jvm.ClassFile.Instr × Nat) := [(137, .aload_n 0, 1), (138, .aload_n 0, 1), (139, .getfield 73, 3), (142, .aload_n 0, 1), (143, .getfield 76, 3), (146, .land, 1), (147, .aload_n 0, 1), (148, .getfield 73, 3), (151, .aload_n 0, 1), (152, .getfield 79, 3), (155, .land, 1), (156, .lor, 1), (157, .aload_n 0, 1), (158, .getfield 76, 3), (161, .aload_n 0, 1), (162, .getfield 79, 3), (165, .land, 1), (166, .lor, 1), (167, .putfield 33, 3), (170, .goto 49, 3)]
set_option maxRecDepth 20000 in
theorem k_X2_mixBits_137 {sc : xm_Sc} : xm_bok (xe_cy (XE sc) 59) b_X2_mixBits_137 := by show xm_bok cX2_mixBits _; unfold xm_bok; decide +kernel
def b_X2_mixBits_173 : List (Nat × Jvm.ClassFile.Instr × Nat) := [(173, .aload_n 0, 1), (174, .aload_n 0, 1), (175, .getfield 73, 3), (178, .aload_n 0, 1), (179, .getfield 76, 3), (182, .land, 1), (183, .aload_n 0, 1), (184, .getfield 73, 3), (187, .ldc2_w 13, 3), (190, .lxor, 1), (191, .aload_n 0, 1), (192, .getfield 79, 3), (195, .land, 1), (196, .lor, 1), (197, .putfield 33, 3), (200, .goto 19, 3)]
set_option maxRecDepth 20000 in
theorem k_X2_mixBits_173 {sc : xm_Sc} : xm_bok (xe_cy (XE sc) 59) b_X2_mixBits_173 := by show xm_bok cX2_mixBits _; unfold xm_bok; decide +kernel
def b_X2_mixBits_203 : List (Nat × Jvm.ClassFile.Instr × Nat) := [(203, .aload_n 0, 1), (204, .lconst 0, 1), (205, .putfield 33, 3), (208, .goto 11, 3)]
set_option maxRecDepth 20000 in
theorem k_X2_mixBits_203 {sc : xm_Sc} : xm_bok (xe_cy (XE sc) 59) b_X2_mixBits_203 := by show xm_bok cX2_mixBits _; unfold xm_bok; decide +kernel
def b_X2_mixBits_211 : List (Nat × Jvm.ClassFile.Instr × Nat) := [(211, .aload_n 0, 1), (212, .aload_n 0, 1), (213, .getfield 15, 3), (216, .putfield 33, 3)]
set_option maxRecDepth 20000 in
theorem k_X2_mixBits_211 {sc : xm_Sc} : xm_bok (xe_cy (XE sc) 59) b_X2_mixBits_211 := by show xm_bok cX2_mixBits _; unfold xm_bok; decide +kernel
def b_X2_mixBits_219 : List (Nat × Jvm.ClassFile.Instr × Nat) := [(219, .return_, 1)]
set_option maxRecDepth 20000 in
theorem k_X2_mixBits_219 {sc : xm_Sc} : xm_bok (xe_cy (XE sc) 59) b_X2_mixBits_219 := by show xm_bok cX2_mixBits _; unfold xm_bok; decide +kernel
set_option maxRecDepth 20000 in
theorem cn_59 {sc : xm_Sc} : xe_cn (XE sc) 59 = 2 := rfl
set_option maxRecDepth 20000 in
theorem ml_59 {sc : xm_Sc} : xe_ml (XE sc) 59 = 2 := rfl
set_option maxRecDepth 20000 in
theorem ry_59 {sc : xm_Sc} : xe_ry (XE sc) 59 = none := rfl
set_option maxRecDepth 20000 in
theorem is_59 {sc : xm_Sc} : xe_is (XE sc) 59 = false := rfl
set_option maxRecDepth 20000 in
theorem np_59 {sc : xm_Sc} : xe_np (XE sc) 59 = 1 := rfl
/- method 60: X2_moveBits -/
def b_X2_moveBits_0 : List (Nat × Jvm.ClassFile.Instr × Nat) := [(0, .aload_n 0, 1), (1, .getfield 64, 3), (4, .aload_n 0, 1), (5, .getfield 7, 3), (8, .iconst 1, 1), (9, .isub, 1), (10, .iand, 1), (11, .istore_n 2, 1), (12, .iload_n 1, 1), (13, .tableswitch 279 32 40 #[51, 87, 118, 159, 200, 215, 227, 245, 268], 51)]
set_option maxRecDepth 20000 in
theorem k_X2_moveBits_0 {sc : xm_Sc} : xm_bok (xe_cy (XE sc) 60) b_X2_moveBits_0 := by show xm_bok cX2_moveBits _; unfold xm_bok; decide +kernel
def b_X2_moveBits_64 : List (Nat × Jvm.ClassFile.Instr × Nat) := [(64, .aload_n 0, 1), (65, .aload_n 0, 1), (66, .getfield 64, 3), (69, .aload_n 0, 1), (70, .getfield 7, 3), (73, .if_icmp .lt 7, 3)]
set_option maxRecDepth 20000 in
theorem k_X2_moveBits_64 {sc : xm_Sc} : xm_bok (xe_cy (XE sc) 60) b_X2_moveBits_64 := by show xm_bok cX2_moveBits _; unfold xm_bok; decide +kernel
def b_X2_moveBits_76 : List (Nat × Jvm.ClassFile.Instr × Nat) := [(76, .lconst 0, 1), (77, .goto 17, 3)]
set_option maxRecDepth 20000 in
theorem k_X2_moveBits_76 {sc : xm_Sc} : xm_bok (xe_cy (XE sc) 60) b_X2_moveBits_76 := by show xm_bok cX2_moveBits _; unfold xm_bok; decide +kernel
def b_X2_moveBits_80 : List (Nat × Jvm.ClassFile.Instr × Nat) := [(80, .aload_n 0, 1), (81, .getfield 73, 3), (84, .aload_n 0, 1), (85, .getfield 64, 3), (88, .lshl, 1), (89, .aload_n 0, 1), (90, .getfield 15, 3), (93, .land, 1)]
set_option maxRecDepth 20000 in
theorem k_X2_moveBits_80 {sc : xm_Sc} : xm_bok (xe_cy (XE sc) 60) b_X2_moveBits_80 := by show xm_bok cX2_moveBits _; unfold xm_bok; decide +kernel
def b_X2_moveBits_94 : List (Nat × Jvm.ClassFile.Instr × Nat) := [(94, .putfield 33, 3), (97, .goto 210, 3)]
set_option maxRecDepth 20000 in
theorem k_X2_moveBits_94 {sc : xm_Sc} : xm_bok (xe_cy (XE sc) 60) b_X2_moveBits_94 := by show xm_bok cX2_moveBits _; unfold xm_bok; decide +kernel
def b_X2_moveBits_100 : List (Nat × Jvm.ClassFile.Instr × Nat) := [(100, .aload_n 0, 1), (101, .aload_n 0, 1), (102, .getfield 64, 3), (105, .aload_n 0, 1), (106, .getfield 7, 3), (109, .if_icmp .lt 7, 3)]
set_option maxRecDepth 20000 in
theorem k_X2_moveBits_100 {sc : xm_Sc} : xm_bok (xe_cy (XE sc) 60) b_X2_moveBits_100 := by show xm_bok cX2_moveBits _; unfold xm_bok; decide +kernel
def b_X2_moveBits_112 : List (Nat × Jvm.ClassFile.Instr × Nat) := [(112, .lconst 0, 1), (113, .goto 12, 3)]
set_option maxRecDepth 20000 in
theorem k_X2_moveBits_112 {sc : xm_Sc} : xm_bok (xe_cy (XE sc) 60) b_X2_moveBits_112 := by show xm_bok cX2_moveBits _; unfold xm_bok; decide +kernel
def b_X2_moveBits_116 : List (Nat × Jvm.ClassFile.Instr × Nat) := [(116, .aload_n 0, 1), (117, .getfield 73, 3), (120, .aload_n 0, 1), (121, .getfield 64, 3), (124, .lushr, 1)]
set_option maxRecDepth 20000 in
theorem k_X2_moveBits_116 {sc : xm_Sc} : xm_bok (xe_cy (XE sc) 60) b_X2_moveBits_116 := by show xm_bok cX2_moveBits _; unfold xm_bok; decide +kernel
def b_X2_moveBits_125 : List (Nat × Jvm.ClassFile.Instr × Nat) := [(125, .putfield 33, 3), (128, .goto 179, 3)]
set_option maxRecDepth 20000 in
theorem k_X2_moveBits_125 {sc : xm_Sc} : xm_bok (xe_cy (XE sc) 60) b_X2_moveBits_125 := by show xm_bok cX2_moveBits _; unfold xm_bok; decide +kernel
def b_X2_moveBits_131 : List (Nat × Jvm.ClassFile.Instr × Nat) := [(131, .aload_n 0, 1), (132, .iload_n 2, 1), (133, .ifCond .ne 10, 3)]
set_option maxRecDepth 20000 in
theorem k_X2_moveBits_131 {sc : xm_Sc} : xm_bok (xe_cy (XE sc) 60) b_X2_moveBits_131 := by show xm_bok cX2_moveBits _; unfold xm_bok; decide +kernel
def b_X2_moveBits_136 : List (Nat × Jvm.ClassFile.Instr × Nat) := [(136, .aload_n 0, 1), (137, .getfield 73, 3), (140, .goto 26, 3)]
set_option maxRecDepth 20000 in
theorem k_X2_moveBits_136 {sc : xm_Sc} : xm_bok (xe_cy (XE sc) 60) b_X2_moveBits_136 := by show xm_bok cX2_moveBits _; unfold xm_bok; decide +kernel
def b_X2_moveBits_143 : List (Nat × Jvm.ClassFile.Instr × Nat) := [(143, .aload_n 0, 1), (144, .getfield 73, 3), (147, .iload_n 2, 1), (148, .lshl, 1), (149, .aload_n 0, 1), (150, .getfield 73, 3), (153, .aload_n 0, 1), (154, .getfield 7, 3), (157, .iload_n 2, 1), (158, .isub, 1), (159, .lushr, 1), (160, .lor, 1), (161, .aload_n 0, 1), (162, .getfield 15, 3), (165, .land, 1)]
set_option maxRecDepth 20000 in
theorem k_X2_moveBits_143 {sc : xm_Sc} : xm_bok (xe_cy (XE sc) 60) b_X2_moveBits_143 := by show xm_bok cX2_moveBits _; unfold xm_bok; decide +kernel
def b_X2_moveBits_166 : List (Nat × Jvm.ClassFile.Instr × Nat) := [(166, .putfield 33, 3), (169, .goto 138, 3)]
set_option maxRecDepth 20000 in
theorem k_X2_moveBits_166 {sc : xm_Sc} : xm_bok (xe_cy (XE sc) 60) b_X2_moveBits_166 := by show xm_bok cX2_moveBits _; unfold xm_bok; decide +kernel
def b_X2_moveBits_172 : List (Nat × Jvm.ClassFile.Instr × Nat) := [(172, .aload_n 0, 1), (173, .iload_n 2, 1), (174, .ifCond .ne 10, 3)]
set_option maxRecDepth 20000 in
theorem k_X2_moveBits_172 {sc : xm_Sc} : xm_bok (xe_cy (XE sc) 60) b_X2_moveBits_172 := by show xm_bok cX2_moveBits _; unfold xm_bok; decide +kernel
def b_X2_moveBits_177 : List (Nat × Jvm.ClassFile.Instr × Nat) := [(177, .aload_n 0, 1), (178, .getfield 73, 3), (181, .goto 26, 3)]
set_option maxRecDepth 20000 in
theorem k_X2_moveBits_177 {sc : xm_Sc} : xm_bok (xe_cy (XE sc) 60) b_X2_moveBits_177 := by show xm_bok cX2_moveBits _; unfold xm_bok; decide +kernel
def b_X2_moveBits_184 : List (Nat × Jvm.ClassFile.Instr × Nat) := [(184, .aload_n 0, 1), (185, .getfield 73, 3), (188, .iload_n 2, 1), (189, .lushr, 1), (190, .aload_n 0, 1), (191, .getfield 73, 3), (194, .aload_n 0, 1), (195, .getfield 7, 3), (198, .iload_n 2, 1), (199, .isub, 1), (200, .lshl, 1), (201, .lor, 1), (202, .aload_n 0, 1), (203, .getfield 15, 3), (206, .land, 1)]
set_option maxRecDepth 20000 in
theorem k_X2_moveBits_184 {sc : xm_Sc} : xm_bok (xe_cy (XE sc) 60) b_X2_moveBits_184 := by show xm_bok cX2_moveBits _; unfold xm_bok; decide +kernel
def b_X2_moveBits_207 : List (Nat × Jvm.ClassFile.Instr × Nat) := [(207, .putfield 33, 3), (210, .goto 97, 3)]
set_option maxRecDepth 20000 in
theorem k_X2_moveBits_207 {sc : xm_Sc} : xm_bok (xe_cy (XE sc) 60) b_X2_moveBits_207 := by show xm_bok cX2_moveBits _; unfold xm_bok; decide +kernel
def b_X2_moveBits_213 : List (Nat × Jvm.ClassFile.Instr × Nat) := [(213, .aload_n 0, 1), (214, .aload_n 0, 1), (215, .getfield 73, 3), (218, .invokestatic 116, 3)]
set_option maxRecDepth 20000 in
theorem k_X2_moveBits_213 {sc : xm_Sc} : xm_bok (xe_cy (XE sc) 60) b_X2_moveBits_213 := by show xm_bok cX2_moveBits _; unfold xm_bok; decide +kernel
def b_X2_moveBits_221 : List (Nat × Jvm.ClassFile.Instr × Nat) := [(221, .i2l, 1), (222, .putfield 33, 3), (225, .goto 82, 3)]
set_option maxRecDepth 20000 in
theorem k_X2_moveBits_221 {sc : xm_Sc} : xm_bok (xe_cy (XE sc) 60) b_X2_moveBits_221 := by show xm_bok cX2_moveBits _; unfold xm_bok; decide +kernel
def b_X2_moveBits_228 : List (Nat × Jvm.ClassFile.Instr × Nat) := [(228, .aload_n 0, 1), (229, .aload_n 0, 1), (230, .invokevirtual 122, 3)]
set_option maxRecDepth 20000 in
theorem k_X2_moveBits_228 {sc : xm_Sc} : xm_bok (xe_cy (XE sc) 60) b_X2_moveBits_228 := by show xm_bok cX2_moveBits _; unfold xm_bok; decide +kernel
def b_X2_moveBits_233 : List (Nat × Jvm.ClassFile.Instr × Nat) := [(233, .i2l, 1), (234, .putfield 33, 3), (237, .goto 70, 3)]
set_option maxRecDepth 20000 in
theorem k_X2_moveBits_233 {sc : xm_Sc} : xm_bok (xe_cy (XE sc) 60) b_X2_moveBits_233 := by show xm_bok cX2_moveBits _; unfold xm_bok; decide +kernel
def b_X2_moveBits_240 : List (Nat × Jvm.ClassFile.Instr × Nat) := [(240, .aload_n 0, 1), (241, .aload_n 0, 1), (242, .getfield 73, 3), (245, .aload_n 0, 1), (246, .getfield 7, 3), (249, .iconst 2, 1), (250, .idiv, 1), (251, .lushr, 1), (252, .putfield 33, 3), (255, .goto 52, 3)]
set_option maxRecDepth 20000 in
theorem k_X2_moveBits_240 {sc : xm_Sc} : xm_bok (xe_cy (XE sc) 60) b_X2_moveBits_240 := by show xm_bok cX2_moveBits _; unfold xm_bok; decide +kernel
def b_X2_moveBits_258 : List (Nat × Jvm.ClassFile.Instr × Nat) := [(258, .aload_n 0, 1), (259, .aload_n 0, 1), (260, .getfield 73, 3), (263, .aload_n 0, 1), (264, .getfield 15, 3), (267, .aload_n 0, 1), (268, .getfield 7, 3), (271, .iconst 2, 1), (272, .idiv, 1), (273, .lushr, 1), (274, .land, 1), (275, .putfield 33, 3), (278, .goto 29, 3)]
set_option maxRecDepth 20000 in
theorem k_X2_moveBits_258 {sc : xm_Sc} : xm_bok (xe_cy (XE sc) 60) b_X2_moveBits_258 := by show xm_bok cX2_moveBits _; unfold xm_bok; decide +kernel
def b_X2_moveBits_281 : List (Nat × Jvm.ClassFile.Instr × Nat) := [(281, .aload_n 0, 1), (282, .aload_n 0, 1), (283, .getfield 73, 3), (286, .putfield 33, 3), (289, .goto 18, 3)]
set_option maxRecDepth 20000 in
theorem k_X2_moveBits_281 {sc : xm_Sc} : xm_bok (xe_cy (XE sc) 60) b_X2_moveBits_281 := by show xm_bok cX2_moveBits _; unfold xm_bok; decide +kernel
def b_X2_moveBits_292 : List (Nat × Jvm.ClassFile.Instr × Nat) := [(292, .aload_n 0, 1), (293, .aload_n 0, 1), (294, .getfield 73, 3), (297, .aload_n 0, 1), (298, .getfield 7, 3), (301, .iconst 2, 1), (302, .idiv, 1), (303, .lshl, 1), (304, .putfield 33, 3)]
set_option maxRecDepth 20000 in
theorem k_X2_moveBits_292 {sc : xm_Sc} : xm_bok (xe_cy (XE sc) 60) b_X2_moveBits_292 := by show xm_bok cX2_moveBits _; unfold xm_bok; decide +kernel
def b_X2_moveBits_307 : List (Nat × Jvm.ClassFile.Instr × Nat) := [(307, .return_, 1)]
set_option maxRecDepth 20000 in
theorem k_X2_moveBits_307 {sc : xm_Sc} : xm_bok (xe_cy (XE sc) 60) b_X2_moveBits_307 := by show xm_bok cX2_moveBits _; unfold xm_bok; decide +kernel
set_option maxRecDepth 20000 in
theorem cn_60 {sc : xm_Sc} : xe_cn (XE sc) 60 = 2 := rfl
set_option maxRecDepth 20000 in
theorem ml_60 {sc : xm_Sc} : xe_ml (XE sc) 60 = 3 := rfl
set_option maxRecDepth 20000 in
theorem ry_60 {sc : xm_Sc} : xe_ry (XE sc) 60 = none := rfl
set_option maxRecDepth 20000 in
theorem is_60 {sc : xm_Sc} : xe_is (XE sc) 60 = false := rfl
set_option maxRecDepth 20000 in
theorem np_60 {sc : xm_Sc} : xe_np (XE sc) 60 = 1 := rfl
/- method 61: X2_multiply -/
def b_X2_multiply_0 : List (Nat × Jvm.ClassFile.Instr × Nat) := [(0, .ldc2_w 100, 3), (3, .lstore_n 1, 1), (4, .aload_n 0, 1), (5, .getfield 73, 3), (8, .lload_n 1, 1), (9, .land, 1), (10, .aload_n 0, 1), (11, .getfield 76, 3), (14, .lload_n 1, 1), (15, .land, 1), (16, .lmul, 1), (17, .lstore_n 3, 1), (18, .aload_n 0, 1), (19, .getfield 73, 3), (22, .bipush 32, 2), (24, .lushr, 1), (25, .aload_n 0, 1), (26, .getfield 76, 3), (29, .lload_n 1, 1), (30, .land, 1), (31, .lmul, 1), (32, .lload_n 3, 1), (33, .bipush 32, 2), (35, .lushr, 1), (36, .ladd, 1), (37, .lstore 5, 2), (39, .aload_n 0, 1), (40, .getfield 73, 3), (43, .lload_n 1, 1), (44, .land, 1), (45, .aload_n 0, 1), (46, .getfield 76, 3), (49, .bipush 32, 2), (51, .lushr, 1), (52, .lmul, 1), (53, .lload 5, 2), (55, .lload_n 1, 1), (56, .land, 1), (57, .ladd, 1), (58, .lstore 7, 2), (60, .aload_n 0, 1), (61, .lload 7, 2), (63, .bipush 32, 2), (65, .lshl, 1), (66, .lload_n 3, 1), (67, .lload_n 1, 1), (68, .land, 1), (69, .lor, 1), (70, .putfield 33, 3), (73, .aload_n 0, 1), (74, .aload_n 0, 1), (75, .getfield 73, 3), (78, .bipush 32, 2), (80, .lushr, 1), (81, .aload_n 0, 1), (82, .getfield 76, 3), (85, .bipush 32, 2), (87, .lushr, 1), (88, .lmul, 1), (89, .lload 5, 2), (91, .bipush 32, 2), (93, .lushr, 1), (94, .ladd, 1), (95, .lload 7, 2), (97, .bipush 32, 2), (99, .lushr, 1), (100, .ladd, 1), (101, .putfield 30, 3), (104, .aload_n 0, 1), (105, .aload_n 0, 1), (106, .getfield 79, 3), (109, .invokevirtual 102, 3)]
set_option maxRecDepth 20000 in
theorem k_X2_multiply_0 {sc : xm_Sc} : xm_bok (xe_cy (XE sc) 61) b_X2_multiply_0 := by show xm_bok cX2_multiply _; unfold xm_bok; decide +kernel
def b_X2_multiply_112 : List (Nat × Jvm.ClassFile.Instr × Nat) := [(112, .aload_n 0, 1), (113, .aload_n 0, 1), (114, .getfield 82, 3), (117, .invokevirtual 102, 3)]
set_option maxRecDepth 20000 in
theorem k_X2_multiply_112 {sc : xm_Sc} : xm_bok (xe_cy (XE sc) 61) b_X2_multiply_112 := by show xm_bok cX2_multiply _; unfold xm_bok; decide +kernel
def b_X2_multiply_120 : List (Nat × Jvm.ClassFile.Instr × Nat) := [(120, .aload_n 0, 1), (121, .getfield 7, 3), (124, .bipush 64, 2), (126, .if_icmp .ge 34, 3)]
set_option maxRecDepth 20000 in
theorem k_X2_multiply_120 {sc : xm_Sc} : xm_bok (xe_cy (XE sc) 61) b_X2_multiply_120 := by show xm_bok cX2_multiply _; unfold xm_bok; decide +kernel
def b_X2_multiply_129 : List (Nat × Jvm.ClassFile.Instr × Nat) := [(129, .aload_n 0, 1), (130, .aload_n 0, 1), (131, .getfield 33, 3), (134, .aload_n 0, 1), (135, .getfield 7, 3), (138, .lushr, 1), (139, .aload_n 0, 1), (140, .getfield 15, 3), (143, .land, 1), (144, .putfield 30, 3), (147, .aload_n 0, 1), (148, .dup, 1), (149, .getfield 33, 3), (152, .aload_n 0, 1), (153, .getfield 15, 3), (156, .land, 1), (157, .putfield 33, 3)]
set_option maxRecDepth 20000 in
theorem k_X2_multiply_129 {sc : xm_Sc} : xm_bok (xe_cy (XE sc) 61) b_X2_multiply_129 := by show xm_bok cX2_multiply _; unfold xm_bok; decide +kernel
def b_X2_multiply_160 : List (Nat × Jvm.ClassFile.Instr × Nat) := [(160, .return_, 1)]
set_option maxRecDepth 20000 in
theorem k_X2_multiply_160 {sc : xm_Sc} : xm_bok (xe_cy (XE sc) 61) b_X2_multiply_160 := by show xm_bok cX2_multiply _; unfold xm_bok; decide +kernel
set_option maxRecDepth 20000 in
theorem cn_61 {sc : xm_Sc} : xe_cn (XE sc) 61 = 2 := rfl
set_option maxRecDepth 20000 in
theorem ml_61 {sc : xm_Sc} : xe_ml (XE sc) 61 = 9 := rfl
set_option maxRecDepth 20000 in
theorem ry_61 {sc : xm_Sc} : xe_ry (XE sc) 61 = none := rfl
set_option maxRecDepth 20000 in
theorem is_61 {sc : xm_Sc} : xe_is (XE sc) 61 = false := rfl
set_option maxRecDepth 20000 in
theorem np_61 {sc : xm_Sc} : xe_np (XE sc) 61 = 0 := rfl
/- method 62: X2_perform -/
def b_X2_perform_0 : List (Nat × Jvm.ClassFile.Instr × Nat) := [(0, .iload_n 1, 1), (1, .iconst 2, 1), (2, .ishr, 1), (3, .istore 5, 2), (5, .aload_n 0, 1), (6, .bipush 8, 2), (8, .iload_n 1, 1), (9, .iconst 3, 1), (10, .iand, 1), (11, .ishl, 1), (12, .putfield 7, 3), (15, .aload_n 0, 1), (16, .ldc2_w 13, 3), (19, .bipush 64, 2), (21, .aload_n 0, 1), (22, .getfield 7, 3), (25, .isub, 1), (26, .lushr, 1), (27, .putfield 15, 3), (30, .aload_n 0, 1), (31, .getstatic 19, 3), (34, .iload 5, 2), (36, .iaload, 1), (37, .aload_n 2, 1), (38, .iload_n 3, 1), (39, .invokevirtual 23, 3)]
set_option maxRecDepth 20000 in
theorem k_X2_perform_0 {sc : xm_Sc} : xm_bok (xe_cy (XE sc) 62) b_X2_perform_0 := by show xm_bok cX2_perform _; unfold xm_bok; decide +kernel
def b_X2_perform_42 : List (Nat × Jvm.ClassFile.Instr × Nat) := [(42, .aload_n 0, 1), (43, .lconst 0, 1), (44, .putfield 27, 3), (47, .aload_n 0, 1), (48, .lconst 0, 1), (49, .putfield 30, 3), (52, .aload_n 0, 1), (53, .lconst 0, 1), (54, .putfield 33, 3), (57, .iload 5, 2), (59, .bipush 7, 2), (61, .if_icmp .ge 12, 3)]
set_option maxRecDepth 20000 in
theorem k_X2_perform_42 {sc : xm_Sc} : xm_bok (xe_cy (XE sc) 62) b_X2_perform_42 := by show xm_bok cX2_perform _; unfold xm_bok; decide +kernel
def b_X2_perform_64 : List (Nat × Jvm.ClassFile.Instr × Nat) := [(64, .aload_n 0, 1), (65, .iload 5, 2), (67, .invokevirtual 36, 3)]
set_option maxRecDepth 20000 in
theorem k_X2_perform_64 {sc : xm_Sc} : xm_bok (xe_cy (XE sc) 62) b_X2_perform_64 := by show xm_bok cX2_perform _; unfold xm_bok; decide +kernel
def b_X2_perform_70 : List (Nat × Jvm.ClassFile.Instr × Nat) := [(70, .goto 87, 3)]
set_option maxRecDepth 20000 in
theorem k_X2_perform_70 {sc : xm_Sc} : xm_bok (xe_cy (XE sc) 62) b_X2_perform_70 := by show xm_bok cX2_perform _; unfold xm_bok; decide +kernel
def b_X2_perform_73 : List (Nat × Jvm.ClassFile.Instr × Nat) := [(73, .iload 5, 2), (75, .bipush 9, 2), (77, .if_icmp .ge 10, 3)]
set_option maxRecDepth 20000 in
theorem k_X2_perform_73 {sc : xm_Sc} : xm_bok (xe_cy (XE sc) 62) b_X2_perform_73 := by show xm_bok cX2_perform _; unfold xm_bok; decide +kernel
def b_X2_perform_80 : List (Nat × Jvm.ClassFile.Instr × Nat) := [(80, .aload_n 0, 1), (81, .invokevirtual 40, 3)]
set_option maxRecDepth 20000 in
theorem k_X2_perform_80 {sc : xm_Sc} : xm_bok (xe_cy (XE sc) 62) b_X2_perform_80 := by show xm_bok cX2_perform _; unfold xm_bok; decide +kernel
def b_X2_perform_84 : List (Nat × Jvm.ClassFile.Instr × Nat) := [(84, .goto 73, 3)]
set_option maxRecDepth 20000 in
theorem k_X2_perform_84 {sc : xm_Sc} : xm_bok (xe_cy (XE sc) 62) b_X2_perform_84 := by show xm_bok cX2_perform _; unfold xm_bok; decide +kernel
def b_X2_perform_87 : List (Nat × Jvm.ClassFile.Instr × Nat) := [(87, .iload 5, 2), (89, .bipush 12, 2), (91, .if_icmp .ge 12, 3)]
set_option maxRecDepth 20000 in
theorem k_X2_perform_87 {sc : xm_Sc} : xm_bok (xe_cy (XE sc) 62) b_X2_perform_87 := by show xm_bok cX2_perform _; unfold xm_bok; decide +kernel
def b_X2_perform_94 : List (Nat × Jvm.ClassFile.Instr × Nat) := [(94, .aload_n 0, 1), (95, .iload 5, 2), (97, .invokevirtual 43, 3)]
set_option maxRecDepth 20000 in
theorem k_X2_perform_94 {sc : xm_Sc} : xm_bok (xe_cy (XE sc) 62) b_X2_perform_94 := by show xm_bok cX2_perform _; unfold xm_bok; decide +kernel
def b_X2_perform_100 : List (Nat × Jvm.ClassFile.Instr × Nat) := [(100, .goto 57, 3)]
set_option maxRecDepth 20000 in
theorem k_X2_perform_100 {sc : xm_Sc} : xm_bok (xe_cy (XE sc) 62) b_X2_perform_100 := by show xm_bok cX2_perform _; unfold xm_bok; decide +kernel
def b_X2_perform_103 : List (Nat × Jvm.ClassFile.Instr × Nat) := [(103, .iload 5, 2), (105, .bipush 19, 2), (107, .if_icmp .ge 12, 3)]
set_option maxRecDepth 20000 in
theorem k_X2_perform_103 {sc : xm_Sc} : xm_bok (xe_cy (XE sc) 62) b_X2_perform_103 := by show xm_bok cX2_perform _; unfold xm_bok; decide +kernel
def b_X2_perform_110 : List (Nat × Jvm.ClassFile.Instr × Nat) := [(110, .aload_n 0, 1), (111, .iload 5, 2), (113, .invokevirtual 46, 3)]
set_option maxRecDepth 20000 in
theorem k_X2_perform_110 {sc : xm_Sc} : xm_bok (xe_cy (XE sc) 62) b_X2_perform_110 := by show xm_bok cX2_perform _; unfold xm_bok; decide +kernel
def b_X2_perform_116 : List (Nat × Jvm.ClassFile.Instr × Nat) := [(116, .goto 41, 3)]
set_option maxRecDepth 20000 in
theorem k_X2_perform_116 {sc : xm_Sc} : xm_bok (xe_cy (XE sc) 62) b_X2_perform_116 := by show xm_bok cX2_perform _; unfold xm_bok; decide +kernel
def b_X2_perform_119 : List (Nat × Jvm.ClassFile.Instr × Nat) := [(119, .iload 5, 2), (121, .bipush 23, 2), (123, .if_icmp .ge 12, 3)]
set_option maxRecDepth 20000 in
theorem k_X2_perform_119 {sc : xm_Sc} : xm_bok (xe_cy (XE sc) 62) b_X2_perform_119 := by show xm_bok cX2_perform _; unfold xm_bok; decide +kernel
def b_X2_perform_126 : List (Nat × Jvm.ClassFile.Instr × Nat) := [(126, .aload_n 0, 1), (127, .iload 5, 2), (129, .invokevirtual 49, 3)]
set_option maxRecDepth 20000 in
theorem k_X2_perform_126 {sc : xm_Sc} : xm_bok (xe_cy (XE sc) 62) b_X2_perform_126 := by show xm_bok cX2_perform _; unfold xm_bok; decide +kernel
def b_X2_perform_132 : List (Nat × Jvm.ClassFile.Instr × Nat) := [(132, .goto 25, 3)]
set_option maxRecDepth 20000 in
theorem k_X2_perform_132 {sc : xm_Sc} : xm_bok (xe_cy (XE sc) 62) b_X2_perform_132 := by show xm_bok cX2_perform _; unfold xm_bok; decide +kernel
def b_X2_perform_135 : List (Nat × Jvm.ClassFile.Instr × Nat) := [(135, .iload 5, 2), (137, .bipush 32, 2), (139, .if_icmp .ge 12, 3)]
set_option maxRecDepth 20000 in
theorem k_X2_perform_135 {sc : xm_Sc} : xm_bok (xe_cy (XE sc) 62) b_X2_perform_135 := by show xm_bok cX2_perform _; unfold xm_bok; decide +kernel
def b_X2_perform_142 : List (Nat × Jvm.ClassFile.Instr × Nat) := [(142, .aload_n 0, 1), (143, .iload 5, 2), (145, .invokevirtual 52, 3)]
set_option maxRecDepth 20000 in
theorem k_X2_perform_142 {sc : xm_Sc} : xm_bok (xe_cy (XE sc) 62) b_X2_perform_142 := by show xm_bok cX2_perform _; unfold xm_bok; decide +kernel
def b_X2_perform_148 : List (Nat × Jvm.ClassFile.Instr × Nat) := [(148, .goto 9, 3)]
set_option maxRecDepth 20000 in
theorem k_X2_perform_148 {sc : xm_Sc} : xm_bok (xe_cy (XE sc) 62) b_X2_perform_148 := by show xm_bok cX2_perform _; unfold xm_bok; decide +kernel
def b_X2_perform_151 : List (Nat × Jvm.ClassFile.Instr × Nat) := [(151, .aload_n 0, 1), (152, .iload 5, 2), (154, .invokevirtual 55, 3)]
set_option maxRecDepth 20000 in
theorem k_X2_perform_151 {sc : xm_Sc} : xm_bok (xe_cy (XE sc) 62) b_X2_perform_151 := by show xm_bok cX2_perform _; unfold xm_bok; decide +kernel
def b_X2_perform_157 : List (Nat × Jvm.ClassFile.Instr × Nat) := [(157, .aload_n 0, 1), (158, .getstatic 58, 3), (161, .iload 5, 2), (163, .iaload, 1), (164, .aload_n 2, 1), (165, .iload 4, 2), (167, .invokevirtual 61, 3)]
set_option maxRecDepth 20000 in
theorem k_X2_perform_157 {sc : xm_Sc} : xm_bok (xe_cy (XE sc) 62) b_X2_perform_157 := by show xm_bok cX2_perform _; unfold xm_bok; decide +kernel
def b_X2_perform_170 : List (Nat × Jvm.ClassFile.Instr × Nat) := [(170, .return_, 1)]
set_option maxRecDepth 20000 in
theorem k_X2_perform_170 {sc : xm_Sc} : xm_bok (xe_cy (XE sc) 62) b_X2_perform_170 := by show xm_bok cX2_perform _; unfold xm_bok; decide +kernel
set_option maxRecDepth 20000 in
theorem cn_62 {sc : xm_Sc} : xe_cn (XE sc) 62 = 2 := rfl
set_option maxRecDepth 20000 in
theorem ml_62 {sc : xm_Sc} : xe_ml (XE sc) 62 = 6 := rfl
set_option maxRecDepth 20000 in
theorem ry_62 {sc : xm_Sc} : xe_ry (XE sc) 62 = none := rfl
set_option maxRecDepth 20000 in
theorem is_62 {sc : xm_Sc} : xe_is (XE sc) 62 = false := rfl
set_option maxRecDepth 20000 in
theorem np_62 {sc : xm_Sc} : xe_np (XE sc) 62 = 4 := rfl
/- method 63: X2_quotient -/
def b_X2_quotient_0 : List (Nat × Jvm.ClassFile.Instr × Nat) := [(0, .lload_n 2, 1), (1, .lconst 0, 1), (2, .lcmp, 1), (3, .ifCond .ge 17, 3)]
set_option maxRecDepth 20000 in
theorem k_X2_quotient_0 {sc : xm_Sc} : xm_bok (xe_cy (XE sc) 63) b_X2_quotient_0 := by show xm_bok cX2_quotient _; unfold xm_bok; decide +kernel
def b_X2_quotient_6 : List (Nat × Jvm.ClassFile.Instr × Nat) := [(6, .lload_n 0, 1), (7, .lload_n 2, 1), (8, .invokestatic 106, 3)]
set_option maxRecDepth 20000 in
theorem k_X2_quotient_6 {sc : xm_Sc} : xm_bok (xe_cy (XE sc) 63) b_X2_quotient_6 := by show xm_bok cX2_quotient _; unfold xm_bok; decide +kernel
def b_X2_quotient_11 : List (Nat × Jvm.ClassFile.Instr × Nat) := [(11, .ifCond .eq 7, 3)]
set_option maxRecDepth 20000 in
theorem k_X2_quotient_11 {sc : xm_Sc} : xm_bok (xe_cy (XE sc) 63) b_X2_quotient_11 := by show xm_bok cX2_quotient _; unfold xm_bok; decide +kernel
def b_X2_quotient_14 : List (Nat × Jvm.ClassFile.Instr × Nat) := [(14, .lconst 0, 1), (15, .goto 4, 3)]
set_option maxRecDepth 20000 in
theorem k_X2_quotient_14 {sc : xm_Sc} : xm_bok (xe_cy (XE sc) 63) b_X2_quotient_14 := by show xm_bok cX2_quotient _; unfold xm_bok; decide +kernel
def b_X2_quotient_18 : List (Nat × Jvm.ClassFile.Instr × Nat) := [(18, .lconst 1, 1)]
set_option maxRecDepth 20000 in
theorem k_X2_quotient_18 {sc : xm_Sc} : xm_bok (xe_cy (XE sc) 63) b_X2_quotient_18 := by show xm_bok cX2_quotient _; unfold xm_bok; decide +kernel
def b_X2_quotient_19 : List (Nat × Jvm.ClassFile.Instr × Nat) := [(19, .lreturn, 1)]
set_option maxRecDepth 20000 in
theorem k_X2_quotient_19 {sc : xm_Sc} : xm_bok (xe_cy (XE sc) 63) b_X2_quotient_19 := by show xm_bok cX2_quotient _; unfold xm_bok; decide +kernel
def b_X2_quotient_20 : List (Nat × Jvm.ClassFile.Instr × Nat) := [(20, .lload_n 2, 1), (21, .lconst 0, 1), (22, .lcmp, 1), (23, .ifCond .ne 5, 3)]
set_option maxRecDepth 20000 in
theorem k_X2_quotient_20 {sc : xm_Sc} : xm_bok (xe_cy (XE sc) 63) b_X2_quotient_20 := by show xm_bok cX2_quotient _; unfold xm_bok; decide +kernel
def b_X2_quotient_26 : List (Nat × Jvm.ClassFile.Instr × Nat) := [(26, .lconst 0, 1), (27, .lreturn, 1)]
set_option maxRecDepth 20000 in
theorem k_X2_quotient_26 {sc : xm_Sc} : xm_bok (xe_cy (XE sc) 63) b_X2_quotient_26 := by show xm_bok cX2_quotient _; unfold xm_bok; decide +kernel
def b_X2_quotient_28 : List (Nat × Jvm.ClassFile.Instr × Nat) := [(28, .lload_n 0, 1), (29, .iconst 1, 1), (30, .lushr, 1), (31, .lload_n 2, 1), (32, .ldiv, 1), (33, .iconst 1, 1), (34, .lshl, 1), (35, .lstore 4, 2), (37, .lload_n 0, 1), (38, .lload 4, 2), (40, .lload_n 2, 1), (41, .lmul, 1), (42, .lsub, 1), (43, .lload_n 2, 1), (44, .invokestatic 106, 3)]
set_option maxRecDepth 20000 in
theorem k_X2_quotient_28 {sc : xm_Sc} : xm_bok (xe_cy (XE sc) 63) b_X2_quotient_28 := by show xm_bok cX2_quotient _; unfold xm_bok; decide +kernel
def b_X2_quotient_47 : List (Nat × Jvm.ClassFile.Instr × Nat) := [(47, .ifCond .eq 8, 3)]
set_option maxRecDepth 20000 in
theorem k_X2_quotient_47 {sc : xm_Sc} : xm_bok (xe_cy (XE sc) 63) b_X2_quotient_47 := by show xm_bok cX2_quotient _; unfold xm_bok; decide +kernel
def b_X2_quotient_50 : List (Nat × Jvm.ClassFile.Instr × Nat) := [(50, .lload 4, 2), (52, .goto 7, 3)]
set_option maxRecDepth 20000 in
theorem k_X2_quotient_50 {sc : xm_Sc} : xm_bok (xe_cy (XE sc) 63) b_X2_quotient_50 := by show xm_bok cX2_quotient _; unfold xm_bok; decide +kernel
def b_X2_quotient_55 : List (Nat × Jvm.ClassFile.Instr × Nat) := [(55, .lload 4, 2), (57, .lconst 1, 1), (58, .ladd, 1)]
set_option maxRecDepth 20000 in
theorem k_X2_quotient_55 {sc : xm_Sc} : xm_bok (xe_cy (XE sc) 63) b_X2_quotient_55 := by show xm_bok cX2_quotient _; unfold xm_bok; decide +kernel
def b_X2_quotient_59 : List (Nat × Jvm.ClassFile.Instr × Nat) := [(59, .lreturn, 1)]
set_option maxRecDepth 20000 in
theorem k_X2_quotient_59 {sc : xm_Sc} : xm_bok (xe_cy (XE sc) 63) b_X2_quotient_59 := by show xm_bok cX2_quotient _; unfold xm_bok; decide +kernel
set_option maxRecDepth 20000 in
theorem cn_63 {sc : xm_Sc} : xe_cn (XE sc) 63 = 2 := rfl
set_option maxRecDepth 20000 in
theorem ml_63 {sc : xm_Sc} : xe_ml (XE sc) 63 = 6 := rfl
set_option maxRecDepth 20000 in
theorem ry_63 {sc : xm_Sc} : xe_ry (XE sc) 63 = (some .long) := rfl
set_option maxRecDepth 20000 in
theorem is_63 {sc : xm_Sc} : xe_is (XE sc) 63 = true := rfl
set_option maxRecDepth 20000 in
theorem np_63 {sc : xm_Sc} : xe_np (XE sc) 63 = 2 := rfl
/- method 64: X2_readWords -/
def b_X2_readWords_0 : List (Nat × Jvm.ClassFile.Instr × Nat) := [(0, .iload_n 3, 1), (1, .istore 4, 2), (3, .aload_n 0, 1), (4, .iconst 0, 1), (5, .putfield 64, 3), (8, .iload_n 1, 1), (9, .bipush 8, 2), (11, .if_icmp .ne 21, 3)]
set_option maxRecDepth 20000 in
theorem k_X2_readWords_0 {sc : xm_Sc} : xm_bok (xe_cy (XE sc) 64) b_X2_readWords_0 := by show xm_bok cX2_readWords _; unfold xm_bok; decide +kernel
def b_X2_readWords_14 : List (Nat × Jvm.ClassFile.Instr × Nat) := [(14, .aload_n 0, 1), (15, .aload_n 2, 1), (16, .iload 4, 2), (18, .iconst 1, 1), (19, .invokevirtual 67, 3)]
set_option maxRecDepth 20000 in
theorem k_X2_readWords_14 {sc : xm_Sc} : xm_bok (xe_cy (XE sc) 64) b_X2_readWords_14 := by show xm_bok cX2_readWords _; unfold xm_bok; decide +kernel
def b_X2_readWords_22 : List (Nat × Jvm.ClassFile.Instr × Nat) := [(22, .l2i, 1), (23, .putfield 64, 3), (26, .iinc 4 1, 3), (29, .goto 25, 3)]
set_option maxRecDepth 20000 in
theorem k_X2_readWords_22 {sc : xm_Sc} : xm_bok (xe_cy (XE sc) 64) b_X2_readWords_22 := by show xm_bok cX2_readWords _; unfold xm_bok; decide +kernel
def b_X2_readWords_32 : List (Nat × Jvm.ClassFile.Instr × Nat) := [(32, .iload_n 1, 1), (33, .bipush 10, 2), (35, .if_icmp .ne 19, 3)]
set_option maxRecDepth 20000 in
theorem k_X2_readWords_32 {sc : xm_Sc} : xm_bok (xe_cy (XE sc) 64) b_X2_readWords_32 := by show xm_bok cX2_readWords _; unfold xm_bok; decide +kernel
def b_X2_readWords_38 : List (Nat × Jvm.ClassFile.Instr × Nat) := [(38, .aload_n 0, 1), (39, .aload_n 2, 1), (40, .iload 4, 2), (42, .bipush 8, 2), (44, .invokevirtual 67, 3)]
set_option maxRecDepth 20000 in
theorem k_X2_readWords_38 {sc : xm_Sc} : xm_bok (xe_cy (XE sc) 64) b_X2_readWords_38 := by show xm_bok cX2_readWords _; unfold xm_bok; decide +kernel
def b_X2_readWords_47 : List (Nat × Jvm.ClassFile.Instr × Nat) := [(47, .l2i, 1), (48, .putfield 64, 3), (51, .iinc 4 8, 3)]
set_option maxRecDepth 20000 in
theorem k_X2_readWords_47 {sc : xm_Sc} : xm_bok (xe_cy (XE sc) 64) b_X2_readWords_47 := by show xm_bok cX2_readWords _; unfold xm_bok; decide +kernel
def b_X2_readWords_54 : List (Nat × Jvm.ClassFile.Instr × Nat) := [(54, .iload_n 1, 1), (55, .iconst 2, 1), (56, .if_icmp .ne 12, 3)]
set_option maxRecDepth 20000 in
theorem k_X2_readWords_54 {sc : xm_Sc} : xm_bok (xe_cy (XE sc) 64) b_X2_readWords_54 := by show xm_bok cX2_readWords _; unfold xm_bok; decide +kernel
def b_X2_readWords_59 : List (Nat × Jvm.ClassFile.Instr × Nat) := [(59, .aload_n 0, 1), (60, .getfield 7, 3), (63, .iconst 2, 1), (64, .idiv, 1), (65, .goto 7, 3)]
set_option maxRecDepth 20000 in
theorem k_X2_readWords_59 {sc : xm_Sc} : xm_bok (xe_cy (XE sc) 64) b_X2_readWords_59 := by show xm_bok cX2_readWords _; unfold xm_bok; decide +kernel
def b_X2_readWords_68 : List (Nat × Jvm.ClassFile.Instr × Nat) := [(68, .aload_n 0, 1), (69, .getfield 7, 3)]
set_option maxRecDepth 20000 in
theorem k_X2_readWords_68 {sc : xm_Sc} : xm_bok (xe_cy (XE sc) 64) b_X2_readWords_68 := by show xm_bok cX2_readWords _; unfold xm_bok; decide +kernel
def b_X2_readWords_72 : List (Nat × Jvm.ClassFile.Instr × Nat) := [(72, .istore 5, 2), (74, .aload_n 0, 1), (75, .iload_n 1, 1), (76, .ifCond .ne 7, 3)]
set_option maxRecDepth 20000 in
theorem k_X2_readWords_72 {sc : xm_Sc} : xm_bok (xe_cy (XE sc) 64) b_X2_readWords_72 := by show xm_bok cX2_readWords _; unfold xm_bok; decide +kernel
def b_X2_readWords_79 : List (Nat × Jvm.ClassFile.Instr × Nat) := [(79, .lconst 0, 1), (80, .goto 11, 3)]
set_option maxRecDepth 20000 in
theorem k_X2_readWords_79 {sc : xm_Sc} : xm_bok (xe_cy (XE sc) 64) b_X2_readWords_79 := by show xm_bok cX2_readWords _; unfold xm_bok; decide +kernel
def b_X2_readWords_83 : List (Nat × Jvm.ClassFile.Instr × Nat) := [(83, .aload_n 2, 1), (84, .iload 4, 2), (86, .iload 5, 2), (88, .invokevirtual 67, 3)]
set_option maxRecDepth 20000 in
theorem k_X2_readWords_83 {sc : xm_Sc} : xm_bok (xe_cy (XE sc) 64) b_X2_readWords_83 := by show xm_bok cX2_readWords _; unfold xm_bok; decide +kernel
def b_X2_readWords_91 : List (Nat × Jvm.ClassFile.Instr × Nat) := [(91, .putfield 73, 3), (94, .aload_n 0, 1), (95, .lconst 0, 1), (96, .putfield 76, 3), (99, .aload_n 0, 1), (100, .lconst 0, 1), (101, .putfield 79, 3), (104, .aload_n 0, 1), (105, .lconst 0, 1), (106, .putfield 82, 3), (109, .iload_n 1, 1), (110, .iconst 4, 1), (111, .if_icmp .eq 20, 3)]
set_option maxRecDepth 20000 in
theorem k_X2_readWords_91 {sc : xm_Sc} : xm_bok (xe_cy (XE sc) 64) b_X2_readWords_91 := by show xm_bok cX2_readWords _; unfold xm_bok; decide +kernel
def b_X2_readWords_114 : List (Nat × Jvm.ClassFile.Instr × Nat) := [(114, .iload_n 1, 1), (115, .bipush 8, 2), (117, .if_icmp .eq 14, 3)]
set_option maxRecDepth 20000 in
theorem k_X2_readWords_114 {sc : xm_Sc} : xm_bok (xe_cy (XE sc) 64) b_X2_readWords_114 := by show xm_bok cX2_readWords _; unfold xm_bok; decide +kernel
def b_X2_readWords_120 : List (Nat × Jvm.ClassFile.Instr × Nat) := [(120, .iload_n 1, 1), (121, .bipush 9, 2), (123, .if_icmp .eq 8, 3)]
set_option maxRecDepth 20000 in
theorem k_X2_readWords_120 {sc : xm_Sc} : xm_bok (xe_cy (XE sc) 64) b_X2_readWords_120 := by show xm_bok cX2_readWords _; unfold xm_bok; decide +kernel
def b_X2_readWords_126 : List (Nat × Jvm.ClassFile.Instr × Nat) := [(126, .iload_n 1, 1), (127, .iconst 5, 1), (128, .if_icmp .ne 22, 3)]
set_option maxRecDepth 20000 in
theorem k_X2_readWords_126 {sc : xm_Sc} : xm_bok (xe_cy (XE sc) 64) b_X2_readWords_126 := by show xm_bok cX2_readWords _; unfold xm_bok; decide +kernel
def b_X2_readWords_131 : List (Nat × Jvm.ClassFile.Instr × Nat) := [(131, .aload_n 0, 1), (132, .aload_n 2, 1), (133, .iload 4, 2), (135, .aload_n 0, 1), (136, .getfield 7, 3), (139, .iadd, 1), (140, .aload_n 0, 1), (141, .getfield 7, 3), (144, .invokevirtual 67, 3)]
set_option maxRecDepth 20000 in
theorem k_X2_readWords_131 {sc : xm_Sc} : xm_bok (xe_cy (XE sc) 64) b_X2_readWords_131 := by show xm_bok cX2_readWords _; unfold xm_bok; decide +kernel
def b_X2_readWords_147 : List (Nat × Jvm.ClassFile.Instr × Nat) := [(147, .putfield 76, 3)]
set_option maxRecDepth 20000 in
theorem k_X2_readWords_147 {sc : xm_Sc} : xm_bok (xe_cy (XE sc) 64) b_X2_readWords_147 := by show xm_bok cX2_readWords _; unfold xm_bok; decide +kernel
def b_X2_readWords_150 : List (Nat × Jvm.ClassFile.Instr × Nat) := [(150, .iload_n 1, 1), (151, .bipush 9, 2), (153, .if_icmp .eq 8, 3)]
set_option maxRecDepth 20000 in
theorem k_X2_readWords_150 {sc : xm_Sc} : xm_bok (xe_cy (XE sc) 64) b_X2_readWords_150 := by show xm_bok cX2_readWords _; unfold xm_bok; decide +kernel
def b_X2_readWords_156 : List (Nat × Jvm.ClassFile.Instr × Nat) := [(156, .iload_n 1, 1), (157, .iconst 5, 1), (158, .if_icmp .ne 24, 3)]
set_option maxRecDepth 20000 in
theorem k_X2_readWords_156 {sc : xm_Sc} : xm_bok (xe_cy (XE sc) 64) b_X2_readWords_156 := by show xm_bok cX2_readWords _; unfold xm_bok; decide +kernel
def b_X2_readWords_161 : List (Nat × Jvm.ClassFile.Instr × Nat) := [(161, .aload_n 0, 1), (162, .aload_n 2, 1), (163, .iload 4, 2), (165, .iconst 2, 1), (166, .aload_n 0, 1), (167, .getfield 7, 3), (170, .imul, 1), (171, .iadd, 1), (172, .aload_n 0, 1), (173, .getfield 7, 3), (176, .invokevirtual 67, 3)]
set_option maxRecDepth 20000 in
theorem k_X2_readWords_161 {sc : xm_Sc} : xm_bok (xe_cy (XE sc) 64) b_X2_readWords_161 := by show xm_bok cX2_readWords _; unfold xm_bok; decide +kernel
def b_X2_readWords_179 : List (Nat × Jvm.ClassFile.Instr × Nat) := [(179, .putfield 79, 3)]
set_option maxRecDepth 20000 in
theorem k_X2_readWords_179 {sc : xm_Sc} : xm_bok (xe_cy (XE sc) 64) b_X2_readWords_179 := by show xm_bok cX2_readWords _; unfold xm_bok; decide +kernel
def b_X2_readWords_182 : List (Nat × Jvm.ClassFile.Instr × Nat) := [(182, .iload_n 1, 1), (183, .iconst 5, 1), (184, .if_icmp .ne 24, 3)]
set_option maxRecDepth 20000 in
theorem k_X2_readWords_182 {sc : xm_Sc} : xm_bok (xe_cy (XE sc) 64) b_X2_readWords_182 := by show xm_bok cX2_readWords _; unfold xm_bok; decide +kernel
def b_X2_readWords_187 : List (Nat × Jvm.ClassFile.Instr × Nat) := [(187, .aload_n 0, 1), (188, .aload_n 2, 1), (189, .iload 4, 2), (191, .iconst 3, 1), (192, .aload_n 0, 1), (193, .getfield 7, 3), (196, .imul, 1), (197, .iadd, 1), (198, .aload_n 0, 1), (199, .getfield 7, 3), (202, .invokevirtual 67, 3)]
set_option maxRecDepth 20000 in
theorem k_X2_readWords_187 {sc : xm_Sc} : xm_bok (xe_cy (XE sc) 64) b_X2_readWords_187 := by show xm_bok cX2_readWords _; unfold xm_bok; decide +kernel
def b_X2_readWords_205 : List (Nat × Jvm.ClassFile.Instr × Nat) := [(205, .putfield 82, 3)]
set_option maxRecDepth 20000 in
theorem k_X2_readWords_205 {sc : xm_Sc} : xm_bok (xe_cy (XE sc) 64) b_X2_readWords_205 := by show xm_bok cX2_readWords _; unfold xm_bok; decide +kernel
def b_X2_readWords_208 : List (Nat × Jvm.ClassFile.Instr × Nat) := [(208, .return_, 1)]
set_option maxRecDepth 20000 in
theorem k_X2_readWords_208 {sc : xm_Sc} : xm_bok (xe_cy (XE sc) 64) b_X2_readWords_208 := by show xm_bok cX2_readWords _; unfold xm_bok; decide +kernel
set_option maxRecDepth 20000 in
theorem cn_64 {sc : xm_Sc} : xe_cn (XE sc) 64 = 2 := rfl
set_option maxRecDepth 20000 in
theorem ml_64 {sc : xm_Sc} : xe_ml (XE sc) 64 = 6 := rfl
set_option maxRecDepth 20000 in
theorem ry_64 {sc : xm_Sc} : xe_ry (XE sc) 64 = none := rfl
set_option maxRecDepth 20000 in
theorem is_64 {sc : xm_Sc} : xe_is (XE sc) 64 = false := rfl
set_option maxRecDepth 20000 in
theorem np_64 {sc : xm_Sc} : xe_np (XE sc) 64 = 3 := rfl
/- method 65: X2_reckon -/
def b_X2_reckon_0 : List (Nat × Jvm.ClassFile.Instr × Nat) := [(0, .iload_n 1, 1), (1, .tableswitch 103 0 5 #[39, 39, 58, 58, 77, 90], 39)]
set_option maxRecDepth 20000 in
theorem k_X2_reckon_0 {sc : xm_Sc} : xm_bok (xe_cy (XE sc) 65) b_X2_reckon_0 := by show xm_bok cX2_reckon _; unfold xm_bok; decide +kernel
def b_X2_reckon_40 : List (Nat × Jvm.ClassFile.Instr × Nat) := [(40, .aload_n 0, 1), (41, .aload_n 0, 1), (42, .getfield 73, 3), (45, .aload_n 0, 1), (46, .getfield 76, 3), (49, .aload_n 0, 1), (50, .getfield 64, 3), (53, .invokevirtual 89, 3)]
set_option maxRecDepth 20000 in
theorem k_X2_reckon_40 {sc : xm_Sc} : xm_bok (xe_cy (XE sc) 65) b_X2_reckon_40 := by show xm_bok cX2_reckon _; unfold xm_bok; decide +kernel
def b_X2_reckon_56 : List (Nat × Jvm.ClassFile.Instr × Nat) := [(56, .goto 58, 3)]
set_option maxRecDepth 20000 in
theorem k_X2_reckon_56 {sc : xm_Sc} : xm_bok (xe_cy (XE sc) 65) b_X2_reckon_56 := by show xm_bok cX2_reckon _; unfold xm_bok; decide +kernel
def b_X2_reckon_59 : List (Nat × Jvm.ClassFile.Instr × Nat) := [(59, .aload_n 0, 1), (60, .aload_n 0, 1), (61, .getfield 73, 3), (64, .aload_n 0, 1), (65, .getfield 76, 3), (68, .aload_n 0, 1), (69, .getfield 64, 3), (72, .invokevirtual 93, 3)]
set_option maxRecDepth 20000 in
theorem k_X2_reckon_59 {sc : xm_Sc} : xm_bok (xe_cy (XE sc) 65) b_X2_reckon_59 := by show xm_bok cX2_reckon _; unfold xm_bok; decide +kernel
def b_X2_reckon_75 : List (Nat × Jvm.ClassFile.Instr × Nat) := [(75, .goto 39, 3)]
set_option maxRecDepth 20000 in
theorem k_X2_reckon_75 {sc : xm_Sc} : xm_bok (xe_cy (XE sc) 65) b_X2_reckon_75 := by show xm_bok cX2_reckon _; unfold xm_bok; decide +kernel
def b_X2_reckon_78 : List (Nat × Jvm.ClassFile.Instr × Nat) := [(78, .aload_n 0, 1), (79, .aload_n 0, 1), (80, .getfield 73, 3), (83, .lconst 0, 1), (84, .iconst 1, 1), (85, .invokevirtual 89, 3)]
set_option maxRecDepth 20000 in
theorem k_X2_reckon_78 {sc : xm_Sc} : xm_bok (xe_cy (XE sc) 65) b_X2_reckon_78 := by show xm_bok cX2_reckon _; unfold xm_bok; decide +kernel
def b_X2_reckon_88 : List (Nat × Jvm.ClassFile.Instr × Nat) := [(88, .goto 26, 3)]
set_option maxRecDepth 20000 in
theorem k_X2_reckon_88 {sc : xm_Sc} : xm_bok (xe_cy (XE sc) 65) b_X2_reckon_88 := by show xm_bok cX2_reckon _; unfold xm_bok; decide +kernel
def b_X2_reckon_91 : List (Nat × Jvm.ClassFile.Instr × Nat) := [(91, .aload_n 0, 1), (92, .aload_n 0, 1), (93, .getfield 73, 3), (96, .lconst 0, 1), (97, .iconst 1, 1), (98, .invokevirtual 93, 3)]
set_option maxRecDepth 20000 in
theorem k_X2_reckon_91 {sc : xm_Sc} : xm_bok (xe_cy (XE sc) 65) b_X2_reckon_91 := by show xm_bok cX2_reckon _; unfold xm_bok; decide +kernel
def b_X2_reckon_101 : List (Nat × Jvm.ClassFile.Instr × Nat) := [(101, .goto 13, 3)]
set_option maxRecDepth 20000 in
theorem k_X2_reckon_101 {sc : xm_Sc} : xm_bok (xe_cy (XE sc) 65) b_X2_reckon_101 := by show xm_bok cX2_reckon _; unfold xm_bok; decide +kernel
def b_X2_reckon_104 : List (Nat × Jvm.ClassFile.Instr × Nat) := [(104, .aload_n 0, 1), (105, .lconst 0, 1), (106, .aload_n 0, 1), (107, .getfield 73, 3), (110, .iconst 0, 1), (111, .invokevirtual 93, 3)]
set_option maxRecDepth 20000 in
theorem k_X2_reckon_104 {sc : xm_Sc} : xm_bok (xe_cy (XE sc) 65) b_X2_reckon_104 := by show xm_bok cX2_reckon _; unfold xm_bok; decide +kernel
def b_X2_reckon_114 : List (Nat × Jvm.ClassFile.Instr × Nat) := [(114, .return_, 1)]
set_option maxRecDepth 20000 in
theorem k_X2_reckon_114 {sc : xm_Sc} : xm_bok (xe_cy (XE sc) 65) b_X2_reckon_114 := by show xm_bok cX2_reckon _; unfold xm_bok; decide +kernel
set_option maxRecDepth 20000 in
theorem cn_65 {sc : xm_Sc} : xe_cn (XE sc) 65 = 2 := rfl
set_option maxRecDepth 20000 in
theorem ml_65 {sc : xm_Sc} : xe_ml (XE sc) 65 = 2 := rfl
set_option maxRecDepth 20000 in
theorem ry_65 {sc : xm_Sc} : xe_ry (XE sc) 65 = none := rfl
set_option maxRecDepth 20000 in
theorem is_65 {sc : xm_Sc} : xe_is (XE sc) 65 = false := rfl
set_option maxRecDepth 20000 in
theorem np_65 {sc : xm_Sc} : xe_np (XE sc) 65 = 1 := rfl
/- method 66: X2_subtract -/
def b_X2_subtract_0 : List (Nat × Jvm.ClassFile.Instr × Nat) := [(0, .lload_n 1, 1), (1, .lload_n 3, 1), (2, .lsub, 1), (3, .iload 5, 2), (5, .i2l, 1), (6, .lsub, 1), (7, .lstore 6, 2), (9, .aload_n 0, 1), (10, .lload 6, 2), (12, .aload_n 0, 1), (13, .getfield 15, 3), (16, .land, 1), (17, .putfield 33, 3), (20, .aload_n 0, 1), (21, .lload_n 1, 1), (22, .ldc2_w 13, 3), (25, .lxor, 1), (26, .lload_n 3, 1), (27, .land, 1), (28, .lload_n 1, 1), (29, .ldc2_w 13, 3), (32, .lxor, 1), (33, .lload_n 3, 1), (34, .lor, 1), (35, .lload 6, 2), (37, .land, 1), (38, .lor, 1), (39, .aload_n 0, 1), (40, .getfield 7, 3), (43, .iconst 1, 1), (44, .isub, 1), (45, .lushr, 1), (46, .lconst 1, 1), (47, .land, 1), (48, .putfield 27, 3), (51, .return_, 1)]
set_option maxRecDepth 20000 in
theorem k_X2_subtract_0 {sc : xm_Sc} : xm_bok (xe_cy (XE sc) 66) b_X2_subtract_0 := by show xm_bok cX2_subtract _; unfold xm_bok; decide +kernel
set_option maxRecDepth 20000 in
theorem cn_66 {sc : xm_Sc} : xe_cn (XE sc) 66 = 2 := rfl
set_option maxRecDepth 20000 in
theorem ml_66 {sc : xm_Sc} : xe_ml (XE sc) 66 = 8 := rfl
set_option maxRecDepth 20000 in
theorem ry_66 {sc : xm_Sc} : xe_ry (XE sc) 66 = none := rfl
set_option maxRecDepth 20000 in
theorem is_66 {sc : xm_Sc} : xe_is (XE sc) 66 = false := rfl
set_option maxRecDepth 20000 in
theorem np_66 {sc : xm_Sc} : xe_np (XE sc) 66 = 3 := rfl
/- method 67: X2_testWord -/
def b_X2_testWord_0 : List (Nat × Jvm.ClassFile.Instr × Nat) := [(0, .iload_n 1, 1), (1, .tableswitch 84 19 21 #[27, 45, 63], 27)]
set_option maxRecDepth 20000 in
theorem k_X2_testWord_0 {sc : xm_Sc} : xm_bok (xe_cy (XE sc) 67) b_X2_testWord_0 := by show xm_bok cX2_testWord _; unfold xm_bok; decide +kernel
def b_X2_testWord_28 : List (Nat × Jvm.ClassFile.Instr × Nat) := [(28, .aload_n 0, 1), (29, .getfield 73, 3), (32, .lconst 0, 1), (33, .lcmp, 1), (34, .ifCond .ne 7, 3)]
set_option maxRecDepth 20000 in
theorem k_X2_testWord_28 {sc : xm_Sc} : xm_bok (xe_cy (XE sc) 67) b_X2_testWord_28 := by show xm_bok cX2_testWord _; unfold xm_bok; decide +kernel
def b_X2_testWord_37 : List (Nat × Jvm.ClassFile.Instr × Nat) := [(37, .iconst 1, 1), (38, .goto 4, 3)]
set_option maxRecDepth 20000 in
theorem k_X2_testWord_37 {sc : xm_Sc} : xm_bok (xe_cy (XE sc) 67) b_X2_testWord_37 := by show xm_bok cX2_testWord _; unfold xm_bok; decide +kernel
def b_X2_testWord_41 : List (Nat × Jvm.ClassFile.Instr × Nat) := [(41, .iconst 0, 1)]
set_option maxRecDepth 20000 in
theorem k_X2_testWord_41 {sc : xm_Sc} : xm_bok (xe_cy (XE sc) 67) b_X2_testWord_41 := by show xm_bok cX2_testWord _; unfold xm_bok; decide +kernel
def b_X2_testWord_42 : List (Nat × Jvm.ClassFile.Instr × Nat) := [(42, .istore_n 2, 1), (43, .goto 57, 3)]
set_option maxRecDepth 20000 in
theorem k_X2_testWord_42 {sc : xm_Sc} : xm_bok (xe_cy (XE sc) 67) b_X2_testWord_42 := by show xm_bok cX2_testWord _; unfold xm_bok; decide +kernel
def b_X2_testWord_46 : List (Nat × Jvm.ClassFile.Instr × Nat) := [(46, .aload_n 0, 1), (47, .getfield 73, 3), (50, .lconst 1, 1), (51, .lcmp, 1), (52, .ifCond .ne 7, 3)]
set_option maxRecDepth 20000 in
theorem k_X2_testWord_46 {sc : xm_Sc} : xm_bok (xe_cy (XE sc) 67) b_X2_testWord_46 := by show xm_bok cX2_testWord _; unfold xm_bok; decide +kernel
def b_X2_testWord_55 : List (Nat × Jvm.ClassFile.Instr × Nat) := [(55, .iconst 1, 1), (56, .goto 4, 3)]
set_option maxRecDepth 20000 in
theorem k_X2_testWord_55 {sc : xm_Sc} : xm_bok (xe_cy (XE sc) 67) b_X2_testWord_55 := by show xm_bok cX2_testWord _; unfold xm_bok; decide +kernel
def b_X2_testWord_59 : List (Nat × Jvm.ClassFile.Instr × Nat) := [(59, .iconst 0, 1)]
set_option maxRecDepth 20000 in
theorem k_X2_testWord_59 {sc : xm_Sc} : xm_bok (xe_cy (XE sc) 67) b_X2_testWord_59 := by show xm_bok cX2_testWord _; unfold xm_bok; decide +kernel
def b_X2_testWord_60 : List (Nat × Jvm.ClassFile.Instr × Nat) := [(60, .istore_n 2, 1), (61, .goto 39, 3)]
set_option maxRecDepth 20000 in
theorem k_X2_testWord_60 {sc : xm_Sc} : xm_bok (xe_cy (XE sc) 67) b_X2_testWord_60 := by show xm_bok cX2_testWord _; unfold xm_bok; decide +kernel
def b_X2_testWord_64 : List (Nat × Jvm.ClassFile.Instr × Nat) := [(64, .aload_n 0, 1), (65, .getfield 73, 3), (68, .aload_n 0, 1), (69, .getfield 15, 3), (72, .lcmp, 1), (73, .ifCond .ne 7, 3)]
set_option maxRecDepth 20000 in
theorem k_X2_testWord_64 {sc : xm_Sc} : xm_bok (xe_cy (XE sc) 67) b_X2_testWord_64 := by show xm_bok cX2_testWord _; unfold xm_bok; decide +kernel
def b_X2_testWord_76 : List (Nat × Jvm.ClassFile.Instr × Nat) := [(76, .iconst 1, 1), (77, .goto 4, 3)]
set_option maxRecDepth 20000 in
theorem k_X2_testWord_76 {sc : xm_Sc} : xm_bok (xe_cy (XE sc) 67) b_X2_testWord_76 := by show xm_bok cX2_testWord _; unfold xm_bok; decide +kernel
def b_X2_testWord_80 : List (Nat × Jvm.ClassFile.Instr × Nat) := [(80, .iconst 0, 1)]
set_option maxRecDepth 20000 in
theorem k_X2_testWord_80 {sc : xm_Sc} : xm_bok (xe_cy (XE sc) 67) b_X2_testWord_80 := by show xm_bok cX2_testWord _; unfold xm_bok; decide +kernel
def b_X2_testWord_81 : List (Nat × Jvm.ClassFile.Instr × Nat) := [(81, .istore_n 2, 1), (82, .goto 18, 3)]
set_option maxRecDepth 20000 in
theorem k_X2_testWord_81 {sc : xm_Sc} : xm_bok (xe_cy (XE sc) 67) b_X2_testWord_81 := by show xm_bok cX2_testWord _; unfold xm_bok; decide +kernel
def b_X2_testWord_85 : List (Nat × Jvm.ClassFile.Instr × Nat) := [(85, .aload_n 0, 1), (86, .getfield 73, 3), (89, .lconst 0, 1), (90, .lcmp, 1), (91, .ifCond .eq 7, 3)]
set_option maxRecDepth 20000 in
theorem k_X2_testWord_85 {sc : xm_Sc} : xm_bok (xe_cy (XE sc) 67) b_X2_testWord_85 := by show xm_bok cX2_testWord _; unfold xm_bok; decide +kernel
def b_X2_testWord_94 : List (Nat × Jvm.ClassFile.Instr × Nat) := [(94, .iconst 1, 1), (95, .goto 4, 3)]
set_option maxRecDepth 20000 in
theorem k_X2_testWord_94 {sc : xm_Sc} : xm_bok (xe_cy (XE sc) 67) b_X2_testWord_94 := by show xm_bok cX2_testWord _; unfold xm_bok; decide +kernel
def b_X2_testWord_98 : List (Nat × Jvm.ClassFile.Instr × Nat) := [(98, .iconst 0, 1)]
set_option maxRecDepth 20000 in
theorem k_X2_testWord_98 {sc : xm_Sc} : xm_bok (xe_cy (XE sc) 67) b_X2_testWord_98 := by show xm_bok cX2_testWord _; unfold xm_bok; decide +kernel
def b_X2_testWord_99 : List (Nat × Jvm.ClassFile.Instr × Nat) := [(99, .istore_n 2, 1)]
set_option maxRecDepth 20000 in
theorem k_X2_testWord_99 {sc : xm_Sc} : xm_bok (xe_cy (XE sc) 67) b_X2_testWord_99 := by show xm_bok cX2_testWord _; unfold xm_bok; decide +kernel
def b_X2_testWord_100 : List (Nat × Jvm.ClassFile.Instr × Nat) := [(100, .aload_n 0, 1), (101, .iload_n 2, 1), (102, .ifCond .eq 7, 3)]
set_option maxRecDepth 20000 in
theorem k_X2_testWord_100 {sc : xm_Sc} : xm_bok (xe_cy (XE sc) 67) b_X2_testWord_100 := by show xm_bok cX2_testWord _; unfold xm_bok; decide +kernel
def b_X2_testWord_105 : List (Nat × Jvm.ClassFile.Instr × Nat) := [(105, .lconst 1, 1), (106, .goto 4, 3)]
set_option maxRecDepth 20000 in
theorem k_X2_testWord_105 {sc : xm_Sc} : xm_bok (xe_cy (XE sc) 67) b_X2_testWord_105 := by show xm_bok cX2_testWord _; unfold xm_bok; decide +kernel
def b_X2_testWord_109 : List (Nat × Jvm.ClassFile.Instr × Nat) := [(109, .lconst 0, 1)]
set_option maxRecDepth 20000 in
theorem k_X2_testWord_109 {sc : xm_Sc} : xm_bok (xe_cy (XE sc) 67) b_X2_testWord_109 := by show xm_bok cX2_testWord _; unfold xm_bok; decide +kernel
def b_X2_testWord_110 : List (Nat × Jvm.ClassFile.Instr × Nat) := [(110, .putfield 27, 3), (113, .return_, 1)]
set_option maxRecDepth 20000 in
theorem k_X2_testWord_110 {sc : xm_Sc} : xm_bok (xe_cy (XE sc) 67) b_X2_testWord_110 := by show xm_bok cX2_testWord _; unfold xm_bok; decide +kernel
set_option maxRecDepth 20000 in
theorem cn_67 {sc : xm_Sc} : xe_cn (XE sc) 67 = 2 := rfl
set_option maxRecDepth 20000 in
theorem ml_67 {sc : xm_Sc} : xe_ml (XE sc) 67 = 3 := rfl
set_option maxRecDepth 20000 in
theorem ry_67 {sc : xm_Sc} : xe_ry (XE sc) 67 = none := rfl
set_option maxRecDepth 20000 in
theorem is_67 {sc : xm_Sc} : xe_is (XE sc) 67 = false := rfl
set_option maxRecDepth 20000 in
theorem np_67 {sc : xm_Sc} : xe_np (XE sc) 67 = 1 := rfl
/- method 68: X2_zerosAhead -/
def b_X2_zerosAhead_0 : List (Nat × Jvm.ClassFile.Instr × Nat) := [(0, .iconst 0, 1), (1, .istore_n 1, 1)]
set_option maxRecDepth 20000 in
theorem k_X2_zerosAhead_0 {sc : xm_Sc} : xm_bok (xe_cy (XE sc) 68) b_X2_zerosAhead_0 := by show xm_bok cX2_zerosAhead _; unfold xm_bok; decide +kernel
def b_X2_zerosAhead_2 : List (Nat × Jvm.ClassFile.Instr × Nat) := [(2, .iload_n 1, 1), (3, .aload_n 0, 1), (4, .getfield 7, 3), (7, .if_icmp .ge 31, 3)]
set_option maxRecDepth 20000 in
theorem k_X2_zerosAhead_2 {sc : xm_Sc} : xm_bok (xe_cy (XE sc) 68) b_X2_zerosAhead_2 := by show xm_bok cX2_zerosAhead _; unfold xm_bok; decide +kernel
def b_X2_zerosAhead_10 : List (Nat × Jvm.ClassFile.Instr × Nat) := [(10, .aload_n 0, 1), (11, .getfield 73, 3), (14, .aload_n 0, 1), (15, .getfield 7, 3), (18, .iconst 1, 1), (19, .isub, 1), (20, .iload_n 1, 1), (21, .isub, 1), (22, .lushr, 1), (23, .lconst 1, 1), (24, .land, 1), (25, .lconst 0, 1), (26, .lcmp, 1), (27, .ifCond .eq 5, 3)]
set_option maxRecDepth 20000 in
theorem k_X2_zerosAhead_10 {sc : xm_Sc} : xm_bok (xe_cy (XE sc) 68) b_X2_zerosAhead_10 := by show xm_bok cX2_zerosAhead _; unfold xm_bok; decide +kernel
def b_X2_zerosAhead_30 : List (Nat × Jvm.ClassFile.Instr × Nat) := [(30, .iload_n 1, 1), (31, .ireturn, 1)]
set_option maxRecDepth 20000 in
theorem k_X2_zerosAhead_30 {sc : xm_Sc} : xm_bok (xe_cy (XE sc) 68) b_X2_zerosAhead_30 := by show xm_bok cX2_zerosAhead _; unfold xm_bok; decide +kernel
def b_X2_zerosAhead_32 : List (Nat × Jvm.ClassFile.Instr × Nat) := [(32, .iinc 1 1, 3), (35, .goto (-33), 3)]
set_option maxRecDepth 20000 in
theorem k_X2_zerosAhead_32 {sc : xm_Sc} : xm_bok (xe_cy (XE sc) 68) b_X2_zerosAhead_32 := by show xm_bok cX2_zerosAhead _; unfold xm_bok; decide +kernel
def b_X2_zerosAhead_38 : List (Nat × Jvm.ClassFile.Instr × Nat) := [(38, .aload_n 0, 1), (39, .getfield 7, 3), (42, .ireturn, 1)]
set_option maxRecDepth 20000 in
theorem k_X2_zerosAhead_38 {sc : xm_Sc} : xm_bok (xe_cy (XE sc) 68) b_X2_zerosAhead_38 := by show xm_bok cX2_zerosAhead _; unfold xm_bok; decide +kernel
set_option maxRecDepth 20000 in
theorem cn_68 {sc : xm_Sc} : xe_cn (XE sc) 68 = 2 := rfl
set_option maxRecDepth 20000 in
theorem ml_68 {sc : xm_Sc} : xe_ml (XE sc) 68 = 2 := rfl
set_option maxRecDepth 20000 in
theorem ry_68 {sc : xm_Sc} : xe_ry (XE sc) 68 = (some .int) := rfl
set_option maxRecDepth 20000 in
theorem is_68 {sc : xm_Sc} : xe_is (XE sc) 68 = false := rfl
set_option maxRecDepth 20000 in
theorem np_68 {sc : xm_Sc} : xe_np (XE sc) 68 = 0 := rfl
set_option maxRecDepth 20000 in
theorem fl_2_7 {sc : xm_Sc} : xe_fl (XE sc) 2 7 = some (2, 0) := rfl
set_option maxRecDepth 20000 in
theorem fl_2_15 {sc : xm_Sc} : xe_fl (XE sc) 2 15 = some (2, 1) := rfl
set_option maxRecDepth 20000 in
theorem fl_2_27 {sc : xm_Sc} : xe_fl (XE sc) 2 27 = some (2, 7) := rfl
set_option maxRecDepth 20000 in
theorem fl_2_30 {sc : xm_Sc} : xe_fl (XE sc) 2 30 = some (2, 8) := rfl
set_option maxRecDepth 20000 in
theorem fl_2_33 {sc : xm_Sc} : xe_fl (XE sc) 2 33 = some (2, 9) := rfl
set_option maxRecDepth 20000 in
theorem fl_2_64 {sc : xm_Sc} : xe_fl (XE sc) 2 64 = some (2, 2) := rfl
set_option maxRecDepth 20000 in
theorem fl_2_73 {sc : xm_Sc} : xe_fl (XE sc) 2 73 = some (2, 3) := rfl
set_option maxRecDepth 20000 in
theorem fl_2_76 {sc : xm_Sc} : xe_fl (XE sc) 2 76 = some (2, 4) := rfl
set_option maxRecDepth 20000 in
theorem fl_2_79 {sc : xm_Sc} : xe_fl (XE sc) 2 79 = some (2, 5) := rfl
set_option maxRecDepth 20000 in
theorem fl_2_82 {sc : xm_Sc} : xe_fl (XE sc) 2 82 = some (2, 6) := rfl
set_option maxRecDepth 20000 in
theorem kl_2_13 {sc : xm_Sc} : xe_kL (XE sc) 2 13 = some (-1) := rfl
set_option maxRecDepth 20000 in
theorem kl_2_100 {sc : xm_Sc} : xe_kL (XE sc) 2 100 = some 4294967295 := rfl
set_option maxRecDepth 20000 in
theorem kl_2_110 {sc : xm_Sc} : xe_kL (XE sc) 2 110 = some (-9223372036854775808) := rfl
set_option maxRecDepth 20000 in
theorem gs_2_19 {sc : xm_Sc} : xe_gs (XE sc) 2 19 = some 200 := rfl
set_option maxRecDepth 20000 in
theorem gs_2_58 {sc : xm_Sc} : xe_gs (XE sc) 2 58 = some 201 := rfl
set_option maxRecDepth 20000 in
theorem lk_2_23 {sc : xm_Sc} : xe_lk (XE sc) 2 23 = some 64 := rfl
set_option maxRecDepth 20000 in
theorem lk_2_36 {sc : xm_Sc} : xe_lk (XE sc) 2 36 = some 65 := rfl
set_option maxRecDepth 20000 in
theorem lk_2_40 {sc : xm_Sc} : xe_lk (XE sc) 2 40 = some 61 := rfl
set_option maxRecDepth 20000 in
theorem lk_2_43 {sc : xm_Sc} : xe_lk (XE sc) 2 43 = some 55 := rfl
set_option maxRecDepth 20000 in
theorem lk_2_46 {sc : xm_Sc} : xe_lk (XE sc) 2 46 = some 54 := rfl
set_option maxRecDepth 20000 in
theorem lk_2_49 {sc : xm_Sc} : xe_lk (XE sc) 2 49 = some 67 := rfl
set_option maxRecDepth 20000 in
theorem lk_2_52 {sc : xm_Sc} : xe_lk (XE sc) 2 52 = some 59 := rfl
set_option maxRecDepth 20000 in
theorem lk_2_55 {sc : xm_Sc} : xe_lk (XE sc) 2 55 = some 60 := rfl
set_option maxRecDepth 20000 in
theorem lk_2_61 {sc : xm_Sc} : xe_lk (XE sc) 2 61 = some 56 := rfl
set_option maxRecDepth 20000 in
theorem lk_2_67 {sc : xm_Sc} : xe_lk (XE sc) 2 67 = some 83 := rfl
set_option maxRecDepth 20000 in
theorem lk_2_85 {sc : xm_Sc} : xe_lk (XE sc) 2 85 = some 86 := rfl
set_option maxRecDepth 20000 in
theorem lk_2_89 {sc : xm_Sc} : xe_lk (XE sc) 2 89 = some 53 := rfl
set_option maxRecDepth 20000 in
theorem lk_2_93 {sc : xm_Sc} : xe_lk (XE sc) 2 93 = some 66 := rfl
set_option maxRecDepth 20000 in
theorem lk_2_96 {sc : xm_Sc} : xe_lk (XE sc) 2 96 = some 63 := rfl
set_option maxRecDepth 20000 in
theorem lk_2_102 {sc : xm_Sc} : xe_lk (XE sc) 2 102 = some 52 := rfl
set_option maxRecDepth 20000 in
theorem lk_2_106 {sc : xm_Sc} : xe_lk (XE sc) 2 106 = some 57 := rfl
set_option maxRecDepth 20000 in
theorem lk_2_112 {sc : xm_Sc} : xe_lk (XE sc) 2 112 = some 58 := rfl
set_option maxRecDepth 20000 in
theorem lk_2_116 {sc : xm_Sc} : xe_lk (XE sc) 2 116 = some 329 := rfl
set_option maxRecDepth 20000 in
theorem lk_2_122 {sc : xm_Sc} : xe_lk (XE sc) 2 122 = some 68 := rfl
