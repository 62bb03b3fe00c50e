/- method 164: X10_add -/
def b_X10_add_0 : List (Nat × Jvm.ClassFile.Instr × Nat) := [(0, .iload_n 1, 1), (1, .bipush 31, 2), (3, .iload_n 2, 1), (4, .imul, 1), (5, .iadd, 1), (6, .sipush 1009, 3), (9, .iload_n 3, 1), (10, .imul, 1), (11, .iadd, 1), (12, .ldc 47, 2), (14, .imul, 1), (15, .iconst 4, 1), (16, .iushr, 1), (17, .sipush 2047, 3), (20, .iand, 1), (21, .istore 4, 2), (23, .aload_n 0, 1), (24, .getfield 37, 3), (27, .iload 4, 2), (29, .iaload, 1), (30, .istore 5, 2), (32, .iconst 0, 1), (33, .istore 6, 2)]
set_option maxRecDepth 20000 in
theorem k_X10_add_0 {sc : xm_Sc} : xm_bok (xe_cy (XE sc) 164) b_X10_add_0 := by show xm_bok cX10_add _; unfold xm_bok; decide +kernel
def b_X10_add_35 : List (Nat × Jvm.ClassFile.Instr × Nat) := [(35, .iload 6, 2), (37, .sipush 14032, 3), (40, .if_icmp .ge 59, 3)]
set_option maxRecDepth 20000 in
theorem k_X10_add_35 {sc : xm_Sc} : xm_bok (xe_cy (XE sc) 164) b_X10_add_35 := by show xm_bok cX10_add _; unfold xm_bok; decide +kernel
def b_X10_add_43 : List (Nat × Jvm.ClassFile.Instr × Nat) := [(43, .iload 5, 2), (45, .ifCond .lt 54, 3)]
set_option maxRecDepth 20000 in
theorem k_X10_add_43 {sc : xm_Sc} : xm_bok (xe_cy (XE sc) 164) b_X10_add_43 := by show xm_bok cX10_add _; unfold xm_bok; decide +kernel
def b_X10_add_48 : List (Nat × Jvm.ClassFile.Instr × Nat) := [(48, .aload_n 0, 1), (49, .getfield 11, 3), (52, .iload 5, 2), (54, .iaload, 1), (55, .iload_n 1, 1), (56, .if_icmp .ne 28, 3)]
set_option maxRecDepth 20000 in
theorem k_X10_add_48 {sc : xm_Sc} : xm_bok (xe_cy (XE sc) 164) b_X10_add_48 := by show xm_bok cX10_add _; unfold xm_bok; decide +kernel
def b_X10_add_59 : List (Nat × Jvm.ClassFile.Instr × Nat) := [(59, .aload_n 0, 1), (60, .getfield 15, 3), (63, .iload 5, 2), (65, .iaload, 1), (66, .iload_n 2, 1), (67, .if_icmp .ne 17, 3)]
set_option maxRecDepth 20000 in
theorem k_X10_add_59 {sc : xm_Sc} : xm_bok (xe_cy (XE sc) 164) b_X10_add_59 := by show xm_bok cX10_add _; unfold xm_bok; decide +kernel
def b_X10_add_70 : List (Nat × Jvm.ClassFile.Instr × Nat) := [(70, .aload_n 0, 1), (71, .getfield 18, 3), (74, .iload 5, 2), (76, .iaload, 1), (77, .iload_n 3, 1), (78, .if_icmp .ne 6, 3)]
set_option maxRecDepth 20000 in
theorem k_X10_add_70 {sc : xm_Sc} : xm_bok (xe_cy (XE sc) 164) b_X10_add_70 := by show xm_bok cX10_add _; unfold xm_bok; decide +kernel
def b_X10_add_81 : List (Nat × Jvm.ClassFile.Instr × Nat) := [(81, .iload 5, 2), (83, .ireturn, 1)]
set_option maxRecDepth 20000 in
theorem k_X10_add_81 {sc : xm_Sc} : xm_bok (xe_cy (XE sc) 164) b_X10_add_81 := by show xm_bok cX10_add _; unfold xm_bok; decide +kernel
def b_X10_add_84 : List (Nat × Jvm.ClassFile.Instr × Nat) := [(84, .aload_n 0, 1), (85, .getfield 34, 3), (88, .iload 5, 2), (90, .iaload, 1), (91, .istore 5, 2), (93, .iinc 6 1, 3), (96, .goto (-61), 3)]
set_option maxRecDepth 20000 in
theorem k_X10_add_84 {sc : xm_Sc} : xm_bok (xe_cy (XE sc) 164) b_X10_add_84 := by show xm_bok cX10_add _; unfold xm_bok; decide +kernel
def b_X10_add_99 : List (Nat × Jvm.ClassFile.Instr × Nat) := [(99, .aload_n 0, 1), (100, .getfield 43, 3), (103, .sipush 14032, 3), (106, .if_icmp .lt 5, 3)]
set_option maxRecDepth 20000 in
theorem k_X10_add_99 {sc : xm_Sc} : xm_bok (xe_cy (XE sc) 164) b_X10_add_99 := by show xm_bok cX10_add _; unfold xm_bok; decide +kernel
def b_X10_add_109 : List (Nat × Jvm.ClassFile.Instr × Nat) := [(109, .iconst 0, 1), (110, .ireturn, 1)]
set_option maxRecDepth 20000 in
theorem k_X10_add_109 {sc : xm_Sc} : xm_bok (xe_cy (XE sc) 164) b_X10_add_109 := by show xm_bok cX10_add _; unfold xm_bok; decide +kernel
def b_X10_add_111 : List (Nat × Jvm.ClassFile.Instr × Nat) := [(111, .aload_n 0, 1), (112, .getfield 43, 3), (115, .istore 5, 2), (117, .aload_n 0, 1), (118, .dup, 1), (119, .getfield 43, 3), (122, .iconst 1, 1), (123, .iadd, 1), (124, .putfield 43, 3), (127, .aload_n 0, 1), (128, .getfield 34, 3), (131, .iload 5, 2), (133, .aload_n 0, 1), (134, .getfield 37, 3), (137, .iload 4, 2), (139, .iaload, 1), (140, .iastore, 1), (141, .aload_n 0, 1), (142, .getfield 37, 3), (145, .iload 4, 2), (147, .iload 5, 2), (149, .iastore, 1), (150, .aload_n 0, 1), (151, .iload 5, 2), (153, .iload_n 1, 1), (154, .iload_n 2, 1), (155, .iload_n 3, 1), (156, .invokevirtual 48, 3)]
set_option maxRecDepth 20000 in
theorem k_X10_add_111 {sc : xm_Sc} : xm_bok (xe_cy (XE sc) 164) b_X10_add_111 := by show xm_bok cX10_add _; unfold xm_bok; decide +kernel
def b_X10_add_159 : List (Nat × Jvm.ClassFile.Instr × Nat) := [(159, .iload 5, 2), (161, .ireturn, 1)]
set_option maxRecDepth 20000 in
theorem k_X10_add_159 {sc : xm_Sc} : xm_bok (xe_cy (XE sc) 164) b_X10_add_159 := by show xm_bok cX10_add _; unfold xm_bok; decide +kernel
set_option maxRecDepth 20000 in
theorem cn_164 {sc : xm_Sc} : xe_cn (XE sc) 164 = 10 := rfl
set_option maxRecDepth 20000 in
theorem ml_164 {sc : xm_Sc} : xe_ml (XE sc) 164 = 7 := rfl
set_option maxRecDepth 20000 in
theorem ry_164 {sc : xm_Sc} : xe_ry (XE sc) 164 = (some .int) := rfl
set_option maxRecDepth 20000 in
theorem is_164 {sc : xm_Sc} : xe_is (XE sc) 164 = false := rfl
set_option maxRecDepth 20000 in
theorem np_164 {sc : xm_Sc} : xe_np (XE sc) 164 = 3 := rfl
/- method 165: X10_clear -/
def b_X10_clear_0 : List (Nat × Jvm.ClassFile.Instr × Nat) := [(0, .aload_n 0, 1), (1, .iconst 0, 1), (2, .putfield 43, 3), (5, .iconst 0, 1), (6, .istore_n 1, 1)]
set_option maxRecDepth 20000 in
theorem k_X10_clear_0 {sc : xm_Sc} : xm_bok (xe_cy (XE sc) 165) b_X10_clear_0 := by show xm_bok cX10_clear _; unfold xm_bok; decide +kernel
def b_X10_clear_7 : List (Nat × Jvm.ClassFile.Instr × Nat) := [(7, .iload_n 1, 1), (8, .sipush 2048, 3), (11, .if_icmp .ge 16, 3)]
set_option maxRecDepth 20000 in
theorem k_X10_clear_7 {sc : xm_Sc} : xm_bok (xe_cy (XE sc) 165) b_X10_clear_7 := by show xm_bok cX10_clear _; unfold xm_bok; decide +kernel
def b_X10_clear_14 : List (Nat × Jvm.ClassFile.Instr × Nat) := [(14, .aload_n 0, 1), (15, .getfield 37, 3), (18, .iload_n 1, 1), (19, .iconst (-1), 1), (20, .iastore, 1), (21, .iinc 1 1, 3), (24, .goto (-17), 3)]
set_option maxRecDepth 20000 in
theorem k_X10_clear_14 {sc : xm_Sc} : xm_bok (xe_cy (XE sc) 165) b_X10_clear_14 := by show xm_bok cX10_clear _; unfold xm_bok; decide +kernel
def b_X10_clear_27 : List (Nat × Jvm.ClassFile.Instr × Nat) := [(27, .return_, 1)]
set_option maxRecDepth 20000 in
theorem k_X10_clear_27 {sc : xm_Sc} : xm_bok (xe_cy (XE sc) 165) b_X10_clear_27 := by show xm_bok cX10_clear _; unfold xm_bok; decide +kernel
set_option maxRecDepth 20000 in
theorem cn_165 {sc : xm_Sc} : xe_cn (XE sc) 165 = 10 := rfl
set_option maxRecDepth 20000 in
theorem ml_165 {sc : xm_Sc} : xe_ml (XE sc) 165 = 2 := rfl
set_option maxRecDepth 20000 in
theorem ry_165 {sc : xm_Sc} : xe_ry (XE sc) 165 = none := rfl
set_option maxRecDepth 20000 in
theorem is_165 {sc : xm_Sc} : xe_is (XE sc) 165 = false := rfl
set_option maxRecDepth 20000 in
theorem np_165 {sc : xm_Sc} : xe_np (XE sc) 165 = 0 := rfl
/- method 166: X10_describe -/
def b_X10_describe_0 : List (Nat × Jvm.ClassFile.Instr × Nat) := [(0, .aload_n 0, 1), (1, .getfield 11, 3), (4, .iload_n 1, 1), (5, .iload_n 2, 1), (6, .iastore, 1), (7, .aload_n 0, 1), (8, .getfield 15, 3), (11, .iload_n 1, 1), (12, .iload_n 3, 1), (13, .iastore, 1), (14, .aload_n 0, 1), (15, .getfield 18, 3), (18, .iload_n 1, 1), (19, .iload 4, 2), (21, .iastore, 1), (22, .aload_n 0, 1), (23, .getfield 21, 3), (26, .iload_n 1, 1), (27, .iconst 0, 1), (28, .iastore, 1), (29, .aload_n 0, 1), (30, .getfield 24, 3), (33, .iload_n 1, 1), (34, .iconst 0, 1), (35, .iastore, 1), (36, .aload_n 0, 1), (37, .getfield 27, 3), (40, .iload_n 1, 1), (41, .iconst 1, 1), (42, .bastore, 1), (43, .aload_n 0, 1), (44, .getfield 31, 3), (47, .iload_n 1, 1), (48, .iconst 1, 1), (49, .iastore, 1), (50, .iload_n 2, 1), (51, .ifCond .ne 4, 3)]
set_option maxRecDepth 20000 in
theorem k_X10_describe_0 {sc : xm_Sc} : xm_bok (xe_cy (XE sc) 166) b_X10_describe_0 := by show xm_bok cX10_describe _; unfold xm_bok; decide +kernel
def b_X10_describe_54 : List (Nat × Jvm.ClassFile.Instr × Nat) := [(54, .return_, 1)]
set_option maxRecDepth 20000 in
theorem k_X10_describe_54 {sc : xm_Sc} : xm_bok (xe_cy (XE sc) 166) b_X10_describe_54 := by show xm_bok cX10_describe _; unfold xm_bok; decide +kernel
def b_X10_describe_55 : List (Nat × Jvm.ClassFile.Instr × Nat) := [(55, .aload_n 0, 1), (56, .getfield 31, 3), (59, .iload_n 1, 1), (60, .ldc 52, 2), (62, .iconst 3, 1), (63, .aload_n 0, 1), (64, .getfield 31, 3), (67, .iload_n 3, 1), (68, .iaload, 1), (69, .iadd, 1), (70, .aload_n 0, 1), (71, .getfield 31, 3), (74, .iload 4, 2), (76, .iaload, 1), (77, .iadd, 1), (78, .invokestatic 53, 3)]
set_option maxRecDepth 20000 in
theorem k_X10_describe_55 {sc : xm_Sc} : xm_bok (xe_cy (XE sc) 166) b_X10_describe_55 := by show xm_bok cX10_describe _; unfold xm_bok; decide +kernel
def b_X10_describe_81 : List (Nat × Jvm.ClassFile.Instr × Nat) := [(81, .iastore, 1), (82, .aload_n 0, 1), (83, .getfield 27, 3), (86, .iload_n 1, 1), (87, .aload_n 0, 1), (88, .getfield 27, 3), (91, .iload_n 3, 1), (92, .baload, 1), (93, .ifCond .eq 17, 3)]
set_option maxRecDepth 20000 in
theorem k_X10_describe_81 {sc : xm_Sc} : xm_bok (xe_cy (XE sc) 166) b_X10_describe_81 := by show xm_bok cX10_describe _; unfold xm_bok; decide +kernel
def b_X10_describe_96 : List (Nat × Jvm.ClassFile.Instr × Nat) := [(96, .aload_n 0, 1), (97, .getfield 27, 3), (100, .iload 4, 2), (102, .baload, 1), (103, .ifCond .eq 7, 3)]
set_option maxRecDepth 20000 in
theorem k_X10_describe_96 {sc : xm_Sc} : xm_bok (xe_cy (XE sc) 166) b_X10_describe_96 := by show xm_bok cX10_describe _; unfold xm_bok; decide +kernel
def b_X10_describe_106 : List (Nat × Jvm.ClassFile.Instr × Nat) := [(106, .iconst 1, 1), (107, .goto 4, 3)]
set_option maxRecDepth 20000 in
theorem k_X10_describe_106 {sc : xm_Sc} : xm_bok (xe_cy (XE sc) 166) b_X10_describe_106 := by show xm_bok cX10_describe _; unfold xm_bok; decide +kernel
def b_X10_describe_110 : List (Nat × Jvm.ClassFile.Instr × Nat) := [(110, .iconst 0, 1)]
set_option maxRecDepth 20000 in
theorem k_X10_describe_110 {sc : xm_Sc} : xm_bok (xe_cy (XE sc) 166) b_X10_describe_110 := by show xm_bok cX10_describe _; unfold xm_bok; decide +kernel
def b_X10_describe_111 : List (Nat × Jvm.ClassFile.Instr × Nat) := [(111, .bastore, 1), (112, .iload_n 2, 1), (113, .iconst 1, 1), (114, .if_icmp .ne 101, 3)]
set_option maxRecDepth 20000 in
theorem k_X10_describe_111 {sc : xm_Sc} : xm_bok (xe_cy (XE sc) 166) b_X10_describe_111 := by show xm_bok cX10_describe _; unfold xm_bok; decide +kernel
def b_X10_describe_117 : List (Nat × Jvm.ClassFile.Instr × Nat) := [(117, .aload_n 0, 1), (118, .getfield 21, 3), (121, .iload_n 1, 1), (122, .ldc 52, 2), (124, .iconst 1, 1), (125, .aload_n 0, 1), (126, .getfield 21, 3), (129, .iload_n 3, 1), (130, .iaload, 1), (131, .aload_n 0, 1), (132, .getfield 21, 3), (135, .iload 4, 2), (137, .iaload, 1), (138, .invokestatic 59, 3)]
set_option maxRecDepth 20000 in
theorem k_X10_describe_117 {sc : xm_Sc} : xm_bok (xe_cy (XE sc) 166) b_X10_describe_117 := by show xm_bok cX10_describe _; unfold xm_bok; decide +kernel
def b_X10_describe_141 : List (Nat × Jvm.ClassFile.Instr × Nat) := [(141, .iadd, 1), (142, .invokestatic 53, 3)]
set_option maxRecDepth 20000 in
theorem k_X10_describe_141 {sc : xm_Sc} : xm_bok (xe_cy (XE sc) 166) b_X10_describe_141 := by show xm_bok cX10_describe _; unfold xm_bok; decide +kernel
def b_X10_describe_145 : List (Nat × Jvm.ClassFile.Instr × Nat) := [(145, .iastore, 1), (146, .aload_n 0, 1), (147, .getfield 27, 3), (150, .iload_n 1, 1), (151, .aload_n 0, 1), (152, .getfield 27, 3), (155, .iload_n 1, 1), (156, .baload, 1), (157, .ifCond .eq 23, 3)]
set_option maxRecDepth 20000 in
theorem k_X10_describe_145 {sc : xm_Sc} : xm_bok (xe_cy (XE sc) 166) b_X10_describe_145 := by show xm_bok cX10_describe _; unfold xm_bok; decide +kernel
def b_X10_describe_160 : List (Nat × Jvm.ClassFile.Instr × Nat) := [(160, .aload_n 0, 1), (161, .getfield 21, 3), (164, .iload_n 3, 1), (165, .iaload, 1), (166, .aload_n 0, 1), (167, .getfield 21, 3), (170, .iload 4, 2), (172, .iaload, 1), (173, .if_icmp .ne 7, 3)]
set_option maxRecDepth 20000 in
theorem k_X10_describe_160 {sc : xm_Sc} : xm_bok (xe_cy (XE sc) 166) b_X10_describe_160 := by show xm_bok cX10_describe _; unfold xm_bok; decide +kernel
def b_X10_describe_176 : List (Nat × Jvm.ClassFile.Instr × Nat) := [(176, .iconst 1, 1), (177, .goto 4, 3)]
set_option maxRecDepth 20000 in
theorem k_X10_describe_176 {sc : xm_Sc} : xm_bok (xe_cy (XE sc) 166) b_X10_describe_176 := by show xm_bok cX10_describe _; unfold xm_bok; decide +kernel
def b_X10_describe_180 : List (Nat × Jvm.ClassFile.Instr × Nat) := [(180, .iconst 0, 1)]
set_option maxRecDepth 20000 in
theorem k_X10_describe_180 {sc : xm_Sc} : xm_bok (xe_cy (XE sc) 166) b_X10_describe_180 := by show xm_bok cX10_describe _; unfold xm_bok; decide +kernel
def b_X10_describe_181 : List (Nat × Jvm.ClassFile.Instr × Nat) := [(181, .bastore, 1), (182, .aload_n 0, 1), (183, .getfield 24, 3), (186, .iload_n 1, 1), (187, .aload_n 0, 1), (188, .getfield 11, 3), (191, .iload_n 3, 1), (192, .iaload, 1), (193, .ifCond .ne 17, 3)]
set_option maxRecDepth 20000 in
theorem k_X10_describe_181 {sc : xm_Sc} : xm_bok (xe_cy (XE sc) 166) b_X10_describe_181 := by show xm_bok cX10_describe _; unfold xm_bok; decide +kernel
def b_X10_describe_196 : List (Nat × Jvm.ClassFile.Instr × Nat) := [(196, .aload_n 0, 1), (197, .getfield 11, 3), (200, .iload 4, 2), (202, .iaload, 1), (203, .ifCond .ne 7, 3)]
set_option maxRecDepth 20000 in
theorem k_X10_describe_196 {sc : xm_Sc} : xm_bok (xe_cy (XE sc) 166) b_X10_describe_196 := by show xm_bok cX10_describe _; unfold xm_bok; decide +kernel
def b_X10_describe_206 : List (Nat × Jvm.ClassFile.Instr × Nat) := [(206, .iconst 1, 1), (207, .goto 4, 3)]
set_option maxRecDepth 20000 in
theorem k_X10_describe_206 {sc : xm_Sc} : xm_bok (xe_cy (XE sc) 166) b_X10_describe_206 := by show xm_bok cX10_describe _; unfold xm_bok; decide +kernel
def b_X10_describe_210 : List (Nat × Jvm.ClassFile.Instr × Nat) := [(210, .iconst 0, 1)]
set_option maxRecDepth 20000 in
theorem k_X10_describe_210 {sc : xm_Sc} : xm_bok (xe_cy (XE sc) 166) b_X10_describe_210 := by show xm_bok cX10_describe _; unfold xm_bok; decide +kernel
def b_X10_describe_211 : List (Nat × Jvm.ClassFile.Instr × Nat) := [(211, .iastore, 1), (212, .goto 57, 3)]
set_option maxRecDepth 20000 in
theorem k_X10_describe_211 {sc : xm_Sc} : xm_bok (xe_cy (XE sc) 166) b_X10_describe_211 := by show xm_bok cX10_describe _; unfold xm_bok; decide +kernel
def b_X10_describe_215 : List (Nat × Jvm.ClassFile.Instr × Nat) := [(215, .aload_n 0, 1), (216, .getfield 21, 3), (219, .iload_n 1, 1), (220, .ldc 52, 2), (222, .aload_n 0, 1), (223, .getfield 21, 3), (226, .iload_n 3, 1), (227, .iaload, 1), (228, .aload_n 0, 1), (229, .getfield 21, 3), (232, .iload 4, 2), (234, .iaload, 1), (235, .iadd, 1), (236, .invokestatic 53, 3)]
set_option maxRecDepth 20000 in
theorem k_X10_describe_215 {sc : xm_Sc} : xm_bok (xe_cy (XE sc) 166) b_X10_describe_215 := by show xm_bok cX10_describe _; unfold xm_bok; decide +kernel
def b_X10_describe_239 : List (Nat × Jvm.ClassFile.Instr × Nat) := [(239, .iastore, 1), (240, .aload_n 0, 1), (241, .getfield 24, 3), (244, .iload_n 1, 1), (245, .iload_n 3, 1), (246, .iload 4, 2), (248, .if_icmp .ne 19, 3)]
set_option maxRecDepth 20000 in
theorem k_X10_describe_239 {sc : xm_Sc} : xm_bok (xe_cy (XE sc) 166) b_X10_describe_239 := by show xm_bok cX10_describe _; unfold xm_bok; decide +kernel
def b_X10_describe_251 : List (Nat × Jvm.ClassFile.Instr × Nat) := [(251, .ldc 52, 2), (253, .iconst 2, 1), (254, .aload_n 0, 1), (255, .getfield 24, 3), (258, .iload_n 3, 1), (259, .iaload, 1), (260, .imul, 1), (261, .invokestatic 53, 3)]
set_option maxRecDepth 20000 in
theorem k_X10_describe_251 {sc : xm_Sc} : xm_bok (xe_cy (XE sc) 166) b_X10_describe_251 := by show xm_bok cX10_describe _; unfold xm_bok; decide +kernel
def b_X10_describe_264 : List (Nat × Jvm.ClassFile.Instr × Nat) := [(264, .goto 4, 3)]
set_option maxRecDepth 20000 in
theorem k_X10_describe_264 {sc : xm_Sc} : xm_bok (xe_cy (XE sc) 166) b_X10_describe_264 := by show xm_bok cX10_describe _; unfold xm_bok; decide +kernel
def b_X10_describe_267 : List (Nat × Jvm.ClassFile.Instr × Nat) := [(267, .iconst 0, 1)]
set_option maxRecDepth 20000 in
theorem k_X10_describe_267 {sc : xm_Sc} : xm_bok (xe_cy (XE sc) 166) b_X10_describe_267 := by show xm_bok cX10_describe _; unfold xm_bok; decide +kernel
def b_X10_describe_268 : List (Nat × Jvm.ClassFile.Instr × Nat) := [(268, .iastore, 1)]
set_option maxRecDepth 20000 in
theorem k_X10_describe_268 {sc : xm_Sc} : xm_bok (xe_cy (XE sc) 166) b_X10_describe_268 := by show xm_bok cX10_describe _; unfold xm_bok; decide +kernel
def b_X10_describe_269 : List (Nat × Jvm.ClassFile.Instr × Nat) := [(269, .return_, 1)]
set_option maxRecDepth 20000 in
theorem k_X10_describe_269 {sc : xm_Sc} : xm_bok (xe_cy (XE sc) 166) b_X10_describe_269 := by show xm_bok cX10_describe _; unfold xm_bok; decide +kernel
set_option maxRecDepth 20000 in
theorem cn_166 {sc : xm_Sc} : xe_cn (XE sc) 166 = 10 := rfl
set_option maxRecDepth 20000 in
theorem ml_166 {sc : xm_Sc} : xe_ml (XE sc) 166 = 5 := rfl
set_option maxRecDepth 20000 in
theorem ry_166 {sc : xm_Sc} : xe_ry (XE sc) 166 = none := rfl
set_option maxRecDepth 20000 in
theorem is_166 {sc : xm_Sc} : xe_is (XE sc) 166 = false := rfl
set_option maxRecDepth 20000 in
theorem np_166 {sc : xm_Sc} : xe_np (XE sc) 166 = 4 := rfl
/- method 167: X10_fits -/
def b_X10_fits_0 : List (Nat × Jvm.ClassFile.Instr × Nat) := [(0, .iload_n 2, 1), (1, .istore 4, 2), (3, .aload_n 0, 1), (4, .iconst 0, 1), (5, .putfield 62, 3), (8, .aload_n 0, 1), (9, .iload_n 3, 1), (10, .invokevirtual 78, 3)]
set_option maxRecDepth 20000 in
theorem k_X10_fits_0 {sc : xm_Sc} : xm_bok (xe_cy (XE sc) 167) b_X10_fits_0 := by show xm_bok cX10_fits _; unfold xm_bok; decide +kernel
def b_X10_fits_13 : List (Nat × Jvm.ClassFile.Instr × Nat) := [(13, .iconst 0, 1), (14, .istore 5, 2)]
set_option maxRecDepth 20000 in
theorem k_X10_fits_13 {sc : xm_Sc} : xm_bok (xe_cy (XE sc) 167) b_X10_fits_13 := by show xm_bok cX10_fits _; unfold xm_bok; decide +kernel
def b_X10_fits_16 : List (Nat × Jvm.ClassFile.Instr × Nat) := [(16, .iload 5, 2), (18, .ldc 82, 2), (20, .if_icmp .ge 166, 3)]
set_option maxRecDepth 20000 in
theorem k_X10_fits_16 {sc : xm_Sc} : xm_bok (xe_cy (XE sc) 167) b_X10_fits_16 := by show xm_bok cX10_fits _; unfold xm_bok; decide +kernel
def b_X10_fits_23 : List (Nat × Jvm.ClassFile.Instr × Nat) := [(23, .aload_n 0, 1), (24, .getfield 62, 3), (27, .ifCond .le 159, 3)]
set_option maxRecDepth 20000 in
theorem k_X10_fits_23 {sc : xm_Sc} : xm_bok (xe_cy (XE sc) 167) b_X10_fits_23 := by show xm_bok cX10_fits _; unfold xm_bok; decide +kernel
def b_X10_fits_30 : List (Nat × Jvm.ClassFile.Instr × Nat) := [(30, .aload_n 0, 1), (31, .dup, 1), (32, .getfield 62, 3), (35, .iconst 1, 1), (36, .isub, 1), (37, .putfield 62, 3), (40, .aload_n 0, 1), (41, .getfield 40, 3), (44, .aload_n 0, 1), (45, .getfield 62, 3), (48, .iaload, 1), (49, .istore 6, 2), (51, .aload_n 0, 1), (52, .getfield 27, 3), (55, .iload 6, 2), (57, .baload, 1), (58, .ifCond .eq 18, 3)]
set_option maxRecDepth 20000 in
theorem k_X10_fits_30 {sc : xm_Sc} : xm_bok (xe_cy (XE sc) 167) b_X10_fits_30 := by show xm_bok cX10_fits _; unfold xm_bok; decide +kernel
def b_X10_fits_61 : List (Nat × Jvm.ClassFile.Instr × Nat) := [(61, .iload 4, 2), (63, .aload_n 0, 1), (64, .getfield 21, 3), (67, .iload 6, 2), (69, .iaload, 1), (70, .iadd, 1), (71, .istore 4, 2), (73, .goto 107, 3)]
set_option maxRecDepth 20000 in
theorem k_X10_fits_61 {sc : xm_Sc} : xm_bok (xe_cy (XE sc) 167) b_X10_fits_61 := by show xm_bok cX10_fits _; unfold xm_bok; decide +kernel
def b_X10_fits_76 : List (Nat × Jvm.ClassFile.Instr × Nat) := [(76, .aload_n 0, 1), (77, .getfield 11, 3), (80, .iload 6, 2), (82, .iaload, 1), (83, .iconst 2, 1), (84, .if_icmp .ne 28, 3)]
set_option maxRecDepth 20000 in
theorem k_X10_fits_76 {sc : xm_Sc} : xm_bok (xe_cy (XE sc) 167) b_X10_fits_76 := by show xm_bok cX10_fits _; unfold xm_bok; decide +kernel
def b_X10_fits_87 : List (Nat × Jvm.ClassFile.Instr × Nat) := [(87, .aload_n 0, 1), (88, .aload_n 0, 1), (89, .getfield 18, 3), (92, .iload 6, 2), (94, .iaload, 1), (95, .invokevirtual 78, 3)]
set_option maxRecDepth 20000 in
theorem k_X10_fits_87 {sc : xm_Sc} : xm_bok (xe_cy (XE sc) 167) b_X10_fits_87 := by show xm_bok cX10_fits _; unfold xm_bok; decide +kernel
def b_X10_fits_98 : List (Nat × Jvm.ClassFile.Instr × Nat) := [(98, .aload_n 0, 1), (99, .aload_n 0, 1), (100, .getfield 15, 3), (103, .iload 6, 2), (105, .iaload, 1), (106, .invokevirtual 78, 3)]
set_option maxRecDepth 20000 in
theorem k_X10_fits_98 {sc : xm_Sc} : xm_bok (xe_cy (XE sc) 167) b_X10_fits_98 := by show xm_bok cX10_fits _; unfold xm_bok; decide +kernel
def b_X10_fits_109 : List (Nat × Jvm.ClassFile.Instr × Nat) := [(109, .goto 71, 3)]
set_option maxRecDepth 20000 in
theorem k_X10_fits_109 {sc : xm_Sc} : xm_bok (xe_cy (XE sc) 167) b_X10_fits_109 := by show xm_bok cX10_fits _; unfold xm_bok; decide +kernel
def b_X10_fits_112 : List (Nat × Jvm.ClassFile.Instr × Nat) := [(112, .aload_n 1, 1), (113, .iload 4, 2), (115, .invokevirtual 83, 3)]
set_option maxRecDepth 20000 in
theorem k_X10_fits_112 {sc : xm_Sc} : xm_bok (xe_cy (XE sc) 167) b_X10_fits_112 := by show xm_bok cX10_fits _; unfold xm_bok; decide +kernel
def b_X10_fits_118 : List (Nat × Jvm.ClassFile.Instr × Nat) := [(118, .ifCond .ne 13, 3)]
set_option maxRecDepth 20000 in
theorem k_X10_fits_118 {sc : xm_Sc} : xm_bok (xe_cy (XE sc) 167) b_X10_fits_118 := by show xm_bok cX10_fits _; unfold xm_bok; decide +kernel
def b_X10_fits_121 : List (Nat × Jvm.ClassFile.Instr × Nat) := [(121, .aload_n 0, 1), (122, .getfield 15, 3), (125, .iload 6, 2), (127, .iaload, 1), (128, .goto 10, 3)]
set_option maxRecDepth 20000 in
theorem k_X10_fits_121 {sc : xm_Sc} : xm_bok (xe_cy (XE sc) 167) b_X10_fits_121 := by show xm_bok cX10_fits _; unfold xm_bok; decide +kernel
def b_X10_fits_131 : List (Nat × Jvm.ClassFile.Instr × Nat) := [(131, .aload_n 0, 1), (132, .getfield 18, 3), (135, .iload 6, 2), (137, .iaload, 1)]
set_option maxRecDepth 20000 in
theorem k_X10_fits_131 {sc : xm_Sc} : xm_bok (xe_cy (XE sc) 167) b_X10_fits_131 := by show xm_bok cX10_fits _; unfold xm_bok; decide +kernel
def b_X10_fits_138 : List (Nat × Jvm.ClassFile.Instr × Nat) := [(138, .istore 7, 2), (140, .aload_n 0, 1), (141, .iload 6, 2), (143, .iload 7, 2), (145, .invokevirtual 87, 3)]
set_option maxRecDepth 20000 in
theorem k_X10_fits_138 {sc : xm_Sc} : xm_bok (xe_cy (XE sc) 167) b_X10_fits_138 := by show xm_bok cX10_fits _; unfold xm_bok; decide +kernel
def b_X10_fits_148 : List (Nat × Jvm.ClassFile.Instr × Nat) := [(148, .istore 8, 2), (150, .aload_n 1, 1), (151, .iload 4, 2), (153, .iconst 1, 1), (154, .iadd, 1), (155, .iload 8, 2), (157, .invokevirtual 70, 3)]
set_option maxRecDepth 20000 in
theorem k_X10_fits_148 {sc : xm_Sc} : xm_bok (xe_cy (XE sc) 167) b_X10_fits_148 := by show xm_bok cX10_fits _; unfold xm_bok; decide +kernel
def b_X10_fits_160 : List (Nat × Jvm.ClassFile.Instr × Nat) := [(160, .ifCond .ne 5, 3)]
set_option maxRecDepth 20000 in
theorem k_X10_fits_160 {sc : xm_Sc} : xm_bok (xe_cy (XE sc) 167) b_X10_fits_160 := by show xm_bok cX10_fits _; unfold xm_bok; decide +kernel
def b_X10_fits_163 : List (Nat × Jvm.ClassFile.Instr × Nat) := [(163, .iconst 0, 1), (164, .ireturn, 1)]
set_option maxRecDepth 20000 in
theorem k_X10_fits_163 {sc : xm_Sc} : xm_bok (xe_cy (XE sc) 167) b_X10_fits_163 := by show xm_bok cX10_fits _; unfold xm_bok; decide +kernel
def b_X10_fits_165 : List (Nat × Jvm.ClassFile.Instr × Nat) := [(165, .iload 4, 2), (167, .iconst 1, 1), (168, .iload 8, 2), (170, .iadd, 1), (171, .iadd, 1), (172, .istore 4, 2), (174, .aload_n 0, 1), (175, .iload 7, 2), (177, .invokevirtual 78, 3)]
set_option maxRecDepth 20000 in
theorem k_X10_fits_165 {sc : xm_Sc} : xm_bok (xe_cy (XE sc) 167) b_X10_fits_165 := by show xm_bok cX10_fits _; unfold xm_bok; decide +kernel
def b_X10_fits_180 : List (Nat × Jvm.ClassFile.Instr × Nat) := [(180, .iinc 5 1, 3), (183, .goto (-167), 3)]
set_option maxRecDepth 20000 in
theorem k_X10_fits_180 {sc : xm_Sc} : xm_bok (xe_cy (XE sc) 167) b_X10_fits_180 := by show xm_bok cX10_fits _; unfold xm_bok; decide +kernel
def b_X10_fits_186 : List (Nat × Jvm.ClassFile.Instr × Nat) := [(186, .iconst 1, 1), (187, .ireturn, 1)]
set_option maxRecDepth 20000 in
theorem k_X10_fits_186 {sc : xm_Sc} : xm_bok (xe_cy (XE sc) 167) b_X10_fits_186 := by show xm_bok cX10_fits _; unfold xm_bok; decide +kernel
set_option maxRecDepth 20000 in
theorem cn_167 {sc : xm_Sc} : xe_cn (XE sc) 167 = 10 := rfl
set_option maxRecDepth 20000 in
theorem ml_167 {sc : xm_Sc} : xe_ml (XE sc) 167 = 9 := rfl
set_option maxRecDepth 20000 in
theorem ry_167 {sc : xm_Sc} : xe_ry (XE sc) 167 = (some .boolean) := rfl
set_option maxRecDepth 20000 in
theorem is_167 {sc : xm_Sc} : xe_is (XE sc) 167 = false := rfl
set_option maxRecDepth 20000 in
theorem np_167 {sc : xm_Sc} : xe_np (XE sc) 167 = 3 := rfl
/- method 168: X10_fitsWhole -/
def b_X10_fitsWhole_0 : List (Nat × Jvm.ClassFile.Instr × Nat) := [(0, .aload_n 0, 1), (1, .getfield 21, 3), (4, .iload_n 2, 1), (5, .iaload, 1), (6, .istore_n 3, 1), (7, .aload_n 1, 1), (8, .getfield 65, 3), (11, .iload_n 3, 1), (12, .bipush 7, 2), (14, .iadd, 1), (15, .bipush 8, 2), (17, .idiv, 1), (18, .if_icmp .ne 34, 3)]
set_option maxRecDepth 20000 in
theorem k_X10_fitsWhole_0 {sc : xm_Sc} : xm_bok (xe_cy (XE sc) 168) b_X10_fitsWhole_0 := by show xm_bok cX10_fitsWhole _; unfold xm_bok; decide +kernel
def b_X10_fitsWhole_21 : List (Nat × Jvm.ClassFile.Instr × Nat) := [(21, .aload_n 1, 1), (22, .iload_n 3, 1), (23, .bipush 8, 2), (25, .aload_n 1, 1), (26, .getfield 65, 3), (29, .imul, 1), (30, .iload_n 3, 1), (31, .isub, 1), (32, .invokevirtual 70, 3)]
set_option maxRecDepth 20000 in
theorem k_X10_fitsWhole_21 {sc : xm_Sc} : xm_bok (xe_cy (XE sc) 168) b_X10_fitsWhole_21 := by show xm_bok cX10_fitsWhole _; unfold xm_bok; decide +kernel
def b_X10_fitsWhole_35 : List (Nat × Jvm.ClassFile.Instr × Nat) := [(35, .ifCond .eq 17, 3)]
set_option maxRecDepth 20000 in
theorem k_X10_fitsWhole_35 {sc : xm_Sc} : xm_bok (xe_cy (XE sc) 168) b_X10_fitsWhole_35 := by show xm_bok cX10_fitsWhole _; unfold xm_bok; decide +kernel
def b_X10_fitsWhole_38 : List (Nat × Jvm.ClassFile.Instr × Nat) := [(38, .aload_n 0, 1), (39, .aload_n 1, 1), (40, .iconst 0, 1), (41, .iload_n 2, 1), (42, .invokevirtual 74, 3)]
set_option maxRecDepth 20000 in
theorem k_X10_fitsWhole_38 {sc : xm_Sc} : xm_bok (xe_cy (XE sc) 168) b_X10_fitsWhole_38 := by show xm_bok cX10_fitsWhole _; unfold xm_bok; decide +kernel
def b_X10_fitsWhole_45 : List (Nat × Jvm.ClassFile.Instr × Nat) := [(45, .ifCond .eq 7, 3)]
set_option maxRecDepth 20000 in
theorem k_X10_fitsWhole_45 {sc : xm_Sc} : xm_bok (xe_cy (XE sc) 168) b_X10_fitsWhole_45 := by show xm_bok cX10_fitsWhole _; unfold xm_bok; decide +kernel
def b_X10_fitsWhole_48 : List (Nat × Jvm.ClassFile.Instr × Nat) := [(48, .iconst 1, 1), (49, .goto 4, 3)]
set_option maxRecDepth 20000 in
theorem k_X10_fitsWhole_48 {sc : xm_Sc} : xm_bok (xe_cy (XE sc) 168) b_X10_fitsWhole_48 := by show xm_bok cX10_fitsWhole _; unfold xm_bok; decide +kernel
def b_X10_fitsWhole_52 : List (Nat × Jvm.ClassFile.Instr × Nat) := [(52, .iconst 0, 1)]
set_option maxRecDepth 20000 in
theorem k_X10_fitsWhole_52 {sc : xm_Sc} : xm_bok (xe_cy (XE sc) 168) b_X10_fitsWhole_52 := by show xm_bok cX10_fitsWhole _; unfold xm_bok; decide +kernel
def b_X10_fitsWhole_53 : List (Nat × Jvm.ClassFile.Instr × Nat) := [(53, .ireturn, 1)]
set_option maxRecDepth 20000 in
theorem k_X10_fitsWhole_53 {sc : xm_Sc} : xm_bok (xe_cy (XE sc) 168) b_X10_fitsWhole_53 := by show xm_bok cX10_fitsWhole _; unfold xm_bok; decide +kernel
set_option maxRecDepth 20000 in
theorem cn_168 {sc : xm_Sc} : xe_cn (XE sc) 168 = 10 := rfl
set_option maxRecDepth 20000 in
theorem ml_168 {sc : xm_Sc} : xe_ml (XE sc) 168 = 4 := rfl
set_option maxRecDepth 20000 in
theorem ry_168 {sc : xm_Sc} : xe_ry (XE sc) 168 = (some .boolean) := rfl
set_option maxRecDepth 20000 in
theorem is_168 {sc : xm_Sc} : xe_is (XE sc) 168 = false := rfl
set_option maxRecDepth 20000 in
theorem np_168 {sc : xm_Sc} : xe_np (XE sc) 168 = 2 := rfl
/- method 169: X10_padding -/
def b_X10_padding_0 : List (Nat × Jvm.ClassFile.Instr × Nat) := [(0, .aload_n 0, 1), (1, .getfield 21, 3), (4, .iload_n 1, 1), (5, .iaload, 1), (6, .iconst 1, 1), (7, .isub, 1), (8, .aload_n 0, 1), (9, .getfield 21, 3), (12, .iload_n 2, 1), (13, .iaload, 1), (14, .isub, 1), (15, .ireturn, 1)]
set_option maxRecDepth 20000 in
theorem k_X10_padding_0 {sc : xm_Sc} : xm_bok (xe_cy (XE sc) 169) b_X10_padding_0 := by show xm_bok cX10_padding _; unfold xm_bok; decide +kernel
set_option maxRecDepth 20000 in
theorem cn_169 {sc : xm_Sc} : xe_cn (XE sc) 169 = 10 := rfl
set_option maxRecDepth 20000 in
theorem ml_169 {sc : xm_Sc} : xe_ml (XE sc) 169 = 3 := rfl
set_option maxRecDepth 20000 in
theorem ry_169 {sc : xm_Sc} : xe_ry (XE sc) 169 = (some .int) := rfl
set_option maxRecDepth 20000 in
theorem is_169 {sc : xm_Sc} : xe_is (XE sc) 169 = false := rfl
set_option maxRecDepth 20000 in
theorem np_169 {sc : xm_Sc} : xe_np (XE sc) 169 = 2 := rfl
/- method 170: X10_push -/
def b_X10_push_0 : List (Nat × Jvm.ClassFile.Instr × Nat) := [(0, .aload_n 0, 1), (1, .getfield 62, 3), (4, .sipush 14048, 3), (7, .if_icmp .ge 23, 3)]
set_option maxRecDepth 20000 in
theorem k_X10_push_0 {sc : xm_Sc} : xm_bok (xe_cy (XE sc) 170) b_X10_push_0 := by show xm_bok cX10_push _; unfold xm_bok; decide +kernel
def b_X10_push_10 : List (Nat × Jvm.ClassFile.Instr × Nat) := [(10, .aload_n 0, 1), (11, .getfield 40, 3), (14, .aload_n 0, 1), (15, .getfield 62, 3), (18, .iload_n 1, 1), (19, .iastore, 1), (20, .aload_n 0, 1), (21, .dup, 1), (22, .getfield 62, 3), (25, .iconst 1, 1), (26, .iadd, 1), (27, .putfield 62, 3)]
set_option maxRecDepth 20000 in
theorem k_X10_push_10 {sc : xm_Sc} : xm_bok (xe_cy (XE sc) 170) b_X10_push_10 := by show xm_bok cX10_push _; unfold xm_bok; decide +kernel
def b_X10_push_30 : List (Nat × Jvm.ClassFile.Instr × Nat) := [(30, .return_, 1)]
set_option maxRecDepth 20000 in
theorem k_X10_push_30 {sc : xm_Sc} : xm_bok (xe_cy (XE sc) 170) b_X10_push_30 := by show xm_bok cX10_push _; unfold xm_bok; decide +kernel
set_option maxRecDepth 20000 in
theorem cn_170 {sc : xm_Sc} : xe_cn (XE sc) 170 = 10 := rfl
set_option maxRecDepth 20000 in
theorem ml_170 {sc : xm_Sc} : xe_ml (XE sc) 170 = 2 := rfl
set_option maxRecDepth 20000 in
theorem ry_170 {sc : xm_Sc} : xe_ry (XE sc) 170 = none := rfl
set_option maxRecDepth 20000 in
theorem is_170 {sc : xm_Sc} : xe_is (XE sc) 170 = false := rfl
set_option maxRecDepth 20000 in
theorem np_170 {sc : xm_Sc} : xe_np (XE sc) 170 = 1 := rfl
/- method 171: X10_pushParts -/
def b_X10_pushParts_0 : List (Nat × Jvm.ClassFile.Instr × Nat) := [(0, .aload_n 0, 1), (1, .bipush (-41), 2), (3, .invokevirtual 78, 3)]
set_option maxRecDepth 20000 in
theorem k_X10_pushParts_0 {sc : xm_Sc} : xm_bok (xe_cy (XE sc) 171) b_X10_pushParts_0 := by show xm_bok cX10_pushParts _; unfold xm_bok; decide +kernel
def b_X10_pushParts_6 : List (Nat × Jvm.ClassFile.Instr × Nat) := [(6, .aload_n 0, 1), (7, .aload_n 0, 1), (8, .getfield 18, 3), (11, .iload_n 1, 1), (12, .iaload, 1), (13, .invokevirtual 78, 3)]
set_option maxRecDepth 20000 in
theorem k_X10_pushParts_6 {sc : xm_Sc} : xm_bok (xe_cy (XE sc) 171) b_X10_pushParts_6 := by show xm_bok cX10_pushParts _; unfold xm_bok; decide +kernel
def b_X10_pushParts_16 : List (Nat × Jvm.ClassFile.Instr × Nat) := [(16, .aload_n 0, 1), (17, .iload_n 2, 1), (18, .ineg, 1), (19, .invokevirtual 78, 3)]
set_option maxRecDepth 20000 in
theorem k_X10_pushParts_16 {sc : xm_Sc} : xm_bok (xe_cy (XE sc) 171) b_X10_pushParts_16 := by show xm_bok cX10_pushParts _; unfold xm_bok; decide +kernel
def b_X10_pushParts_22 : List (Nat × Jvm.ClassFile.Instr × Nat) := [(22, .aload_n 0, 1), (23, .aload_n 0, 1), (24, .getfield 15, 3), (27, .iload_n 1, 1), (28, .iaload, 1), (29, .invokevirtual 78, 3)]
set_option maxRecDepth 20000 in
theorem k_X10_pushParts_22 {sc : xm_Sc} : xm_bok (xe_cy (XE sc) 171) b_X10_pushParts_22 := by show xm_bok cX10_pushParts _; unfold xm_bok; decide +kernel
def b_X10_pushParts_32 : List (Nat × Jvm.ClassFile.Instr × Nat) := [(32, .return_, 1)]
set_option maxRecDepth 20000 in
theorem k_X10_pushParts_32 {sc : xm_Sc} : xm_bok (xe_cy (XE sc) 171) b_X10_pushParts_32 := by show xm_bok cX10_pushParts _; unfold xm_bok; decide +kernel
set_option maxRecDepth 20000 in
theorem cn_171 {sc : xm_Sc} : xe_cn (XE sc) 171 = 10 := rfl
set_option maxRecDepth 20000 in
theorem ml_171 {sc : xm_Sc} : xe_ml (XE sc) 171 = 3 := rfl
set_option maxRecDepth 20000 in
theorem ry_171 {sc : xm_Sc} : xe_ry (XE sc) 171 = none := rfl
set_option maxRecDepth 20000 in
theorem is_171 {sc : xm_Sc} : xe_is (XE sc) 171 = false := rfl
set_option maxRecDepth 20000 in
theorem np_171 {sc : xm_Sc} : xe_np (XE sc) 171 = 2 := rfl
/- method 172: X10_readDigits -/
def b_X10_readDigits_0 : List (Nat × Jvm.ClassFile.Instr × Nat) := [(0, .iconst 0, 1), (1, .istore 4, 2)]
set_option maxRecDepth 20000 in
theorem k_X10_readDigits_0 {sc : xm_Sc} : xm_bok (xe_cy (XE sc) 172) b_X10_readDigits_0 := by show xm_bok cX10_readDigits _; unfold xm_bok; decide +kernel
def b_X10_readDigits_3 : List (Nat × Jvm.ClassFile.Instr × Nat) := [(3, .iload 4, 2), (5, .iload_n 2, 1), (6, .if_icmp .ge 37, 3)]
set_option maxRecDepth 20000 in
theorem k_X10_readDigits_3 {sc : xm_Sc} : xm_bok (xe_cy (XE sc) 172) b_X10_readDigits_3 := by show xm_bok cX10_readDigits _; unfold xm_bok; decide +kernel
def b_X10_readDigits_9 : List (Nat × Jvm.ClassFile.Instr × Nat) := [(9, .aload_n 0, 1), (10, .iload_n 1, 1), (11, .iload 4, 2), (13, .iadd, 1), (14, .invokevirtual 111, 3)]
set_option maxRecDepth 20000 in
theorem k_X10_readDigits_9 {sc : xm_Sc} : xm_bok (xe_cy (XE sc) 172) b_X10_readDigits_9 := by show xm_bok cX10_readDigits _; unfold xm_bok; decide +kernel
def b_X10_readDigits_17 : List (Nat × Jvm.ClassFile.Instr × Nat) := [(17, .invokestatic 124, 3)]
set_option maxRecDepth 20000 in
theorem k_X10_readDigits_17 {sc : xm_Sc} : xm_bok (xe_cy (XE sc) 172) b_X10_readDigits_17 := by show xm_bok cX10_readDigits _; unfold xm_bok; decide +kernel
def b_X10_readDigits_20 : List (Nat × Jvm.ClassFile.Instr × Nat) := [(20, .istore 5, 2), (22, .iload 5, 2), (24, .ifCond .ge 5, 3)]
set_option maxRecDepth 20000 in
theorem k_X10_readDigits_20 {sc : xm_Sc} : xm_bok (xe_cy (XE sc) 172) b_X10_readDigits_20 := by show xm_bok cX10_readDigits _; unfold xm_bok; decide +kernel
def b_X10_readDigits_27 : List (Nat × Jvm.ClassFile.Instr × Nat) := [(27, .iconst (-1), 1), (28, .ireturn, 1)]
set_option maxRecDepth 20000 in
theorem k_X10_readDigits_27 {sc : xm_Sc} : xm_bok (xe_cy (XE sc) 172) b_X10_readDigits_27 := by show xm_bok cX10_readDigits _; unfold xm_bok; decide +kernel
def b_X10_readDigits_29 : List (Nat × Jvm.ClassFile.Instr × Nat) := [(29, .aload_n 3, 1), (30, .iload 5, 2), (32, .i2l, 1), (33, .iconst 4, 1), (34, .invokevirtual 120, 3)]
set_option maxRecDepth 20000 in
theorem k_X10_readDigits_29 {sc : xm_Sc} : xm_bok (xe_cy (XE sc) 172) b_X10_readDigits_29 := by show xm_bok cX10_readDigits _; unfold xm_bok; decide +kernel
def b_X10_readDigits_37 : List (Nat × Jvm.ClassFile.Instr × Nat) := [(37, .iinc 4 1, 3), (40, .goto (-37), 3)]
set_option maxRecDepth 20000 in
theorem k_X10_readDigits_37 {sc : xm_Sc} : xm_bok (xe_cy (XE sc) 172) b_X10_readDigits_37 := by show xm_bok cX10_readDigits _; unfold xm_bok; decide +kernel
def b_X10_readDigits_43 : List (Nat × Jvm.ClassFile.Instr × Nat) := [(43, .iload_n 1, 1), (44, .iload_n 2, 1), (45, .iadd, 1), (46, .ireturn, 1)]
set_option maxRecDepth 20000 in
theorem k_X10_readDigits_43 {sc : xm_Sc} : xm_bok (xe_cy (XE sc) 172) b_X10_readDigits_43 := by show xm_bok cX10_readDigits _; unfold xm_bok; decide +kernel
set_option maxRecDepth 20000 in
theorem cn_172 {sc : xm_Sc} : xe_cn (XE sc) 172 = 10 := rfl
set_option maxRecDepth 20000 in
theorem ml_172 {sc : xm_Sc} : xe_ml (XE sc) 172 = 6 := rfl
set_option maxRecDepth 20000 in
theorem ry_172 {sc : xm_Sc} : xe_ry (XE sc) 172 = (some .int) := rfl
set_option maxRecDepth 20000 in
theorem is_172 {sc : xm_Sc} : xe_is (XE sc) 172 = true := rfl
set_option maxRecDepth 20000 in
theorem np_172 {sc : xm_Sc} : xe_np (XE sc) 172 = 4 := rfl
/- method 173: X10_readPart -/
def b_X10_readPart_0 : List (Nat × Jvm.ClassFile.Instr × Nat) := [(0, .aload_n 1, 1), (1, .iload_n 2, 1), (2, .invokevirtual 111, 3)]
set_option maxRecDepth 20000 in
theorem k_X10_readPart_0 {sc : xm_Sc} : xm_bok (xe_cy (XE sc) 173) b_X10_readPart_0 := by show xm_bok cX10_readPart _; unfold xm_bok; decide +kernel
def b_X10_readPart_5 : List (Nat × Jvm.ClassFile.Instr × Nat) := [(5, .istore 5, 2), (7, .aload_n 0, 1), (8, .getfield 11, 3), (11, .iload_n 3, 1), (12, .iaload, 1), (13, .ifCond .ne 18, 3)]
set_option maxRecDepth 20000 in
theorem k_X10_readPart_5 {sc : xm_Sc} : xm_bok (xe_cy (XE sc) 173) b_X10_readPart_5 := by show xm_bok cX10_readPart _; unfold xm_bok; decide +kernel
def b_X10_readPart_16 : List (Nat × Jvm.ClassFile.Instr × Nat) := [(16, .iload 5, 2), (18, .bipush 85, 2), (20, .if_icmp .ne 9, 3)]
set_option maxRecDepth 20000 in
theorem k_X10_readPart_16 {sc : xm_Sc} : xm_bok (xe_cy (XE sc) 173) b_X10_readPart_16 := by show xm_bok cX10_readPart _; unfold xm_bok; decide +kernel
def b_X10_readPart_23 : List (Nat × Jvm.ClassFile.Instr × Nat) := [(23, .iload_n 2, 1), (24, .iconst 1, 1), (25, .iadd, 1), (26, .goto 4, 3)]
set_option maxRecDepth 20000 in
theorem k_X10_readPart_23 {sc : xm_Sc} : xm_bok (xe_cy (XE sc) 173) b_X10_readPart_23 := by show xm_bok cX10_readPart _; unfold xm_bok; decide +kernel
def b_X10_readPart_29 : List (Nat × Jvm.ClassFile.Instr × Nat) := [(29, .iconst (-1), 1)]
set_option maxRecDepth 20000 in
theorem k_X10_readPart_29 {sc : xm_Sc} : xm_bok (xe_cy (XE sc) 173) b_X10_readPart_29 := by show xm_bok cX10_readPart _; unfold xm_bok; decide +kernel
def b_X10_readPart_30 : List (Nat × Jvm.ClassFile.Instr × Nat) := [(30, .ireturn, 1)]
set_option maxRecDepth 20000 in
theorem k_X10_readPart_30 {sc : xm_Sc} : xm_bok (xe_cy (XE sc) 173) b_X10_readPart_30 := by show xm_bok cX10_readPart _; unfold xm_bok; decide +kernel
def b_X10_readPart_31 : List (Nat × Jvm.ClassFile.Instr × Nat) := [(31, .aload_n 0, 1), (32, .getfield 24, 3), (35, .iload_n 3, 1), (36, .iaload, 1), (37, .iconst 1, 1), (38, .if_icmp .ne 35, 3)]
set_option maxRecDepth 20000 in
theorem k_X10_readPart_31 {sc : xm_Sc} : xm_bok (xe_cy (XE sc) 173) b_X10_readPart_31 := by show xm_bok cX10_readPart _; unfold xm_bok; decide +kernel
def b_X10_readPart_41 : List (Nat × Jvm.ClassFile.Instr × Nat) := [(41, .aload 4, 2), (43, .iload 5, 2), (45, .bipush 48, 2), (47, .isub, 1), (48, .invokevirtual 114, 3)]
set_option maxRecDepth 20000 in
theorem k_X10_readPart_41 {sc : xm_Sc} : xm_bok (xe_cy (XE sc) 173) b_X10_readPart_41 := by show xm_bok cX10_readPart _; unfold xm_bok; decide +kernel
def b_X10_readPart_51 : List (Nat × Jvm.ClassFile.Instr × Nat) := [(51, .iload 5, 2), (53, .bipush 48, 2), (55, .if_icmp .eq 10, 3)]
set_option maxRecDepth 20000 in
theorem k_X10_readPart_51 {sc : xm_Sc} : xm_bok (xe_cy (XE sc) 173) b_X10_readPart_51 := by show xm_bok cX10_readPart _; unfold xm_bok; decide +kernel
def b_X10_readPart_58 : List (Nat × Jvm.ClassFile.Instr × Nat) := [(58, .iload 5, 2), (60, .bipush 49, 2), (62, .if_icmp .ne 9, 3)]
set_option maxRecDepth 20000 in
theorem k_X10_readPart_58 {sc : xm_Sc} : xm_bok (xe_cy (XE sc) 173) b_X10_readPart_58 := by show xm_bok cX10_readPart _; unfold xm_bok; decide +kernel
def b_X10_readPart_65 : List (Nat × Jvm.ClassFile.Instr × Nat) := [(65, .iload_n 2, 1), (66, .iconst 1, 1), (67, .iadd, 1), (68, .goto 4, 3)]
set_option maxRecDepth 20000 in
theorem k_X10_readPart_65 {sc : xm_Sc} : xm_bok (xe_cy (XE sc) 173) b_X10_readPart_65 := by show xm_bok cX10_readPart _; unfold xm_bok; decide +kernel
def b_X10_readPart_71 : List (Nat × Jvm.ClassFile.Instr × Nat) := [(71, .iconst (-1), 1)]
set_option maxRecDepth 20000 in
theorem k_X10_readPart_71 {sc : xm_Sc} : xm_bok (xe_cy (XE sc) 173) b_X10_readPart_71 := by show xm_bok cX10_readPart _; unfold xm_bok; decide +kernel
def b_X10_readPart_72 : List (Nat × Jvm.ClassFile.Instr × Nat) := [(72, .ireturn, 1)]
set_option maxRecDepth 20000 in
theorem k_X10_readPart_72 {sc : xm_Sc} : xm_bok (xe_cy (XE sc) 173) b_X10_readPart_72 := by show xm_bok cX10_readPart _; unfold xm_bok; decide +kernel
def b_X10_readPart_73 : List (Nat × Jvm.ClassFile.Instr × Nat) := [(73, .aload_n 0, 1), (74, .getfield 24, 3), (77, .iload_n 3, 1), (78, .iaload, 1), (79, .iconst 4, 1), (80, .if_icmp .lt 32, 3)]
set_option maxRecDepth 20000 in
theorem k_X10_readPart_73 {sc : xm_Sc} : xm_bok (xe_cy (XE sc) 173) b_X10_readPart_73 := by show xm_bok cX10_readPart _; unfold xm_bok; decide +kernel
def b_X10_readPart_83 : List (Nat × Jvm.ClassFile.Instr × Nat) := [(83, .iload 5, 2), (85, .bipush 35, 2), (87, .if_icmp .ne 23, 3)]
set_option maxRecDepth 20000 in
theorem k_X10_readPart_83 {sc : xm_Sc} : xm_bok (xe_cy (XE sc) 173) b_X10_readPart_83 := by show xm_bok cX10_readPart _; unfold xm_bok; decide +kernel
def b_X10_readPart_90 : List (Nat × Jvm.ClassFile.Instr × Nat) := [(90, .aload_n 1, 1), (91, .iload_n 2, 1), (92, .iconst 1, 1), (93, .iadd, 1), (94, .aload_n 0, 1), (95, .getfield 24, 3), (98, .iload_n 3, 1), (99, .iaload, 1), (100, .iconst 4, 1), (101, .idiv, 1), (102, .aload 4, 2), (104, .invokestatic 117, 3)]
set_option maxRecDepth 20000 in
theorem k_X10_readPart_90 {sc : xm_Sc} : xm_bok (xe_cy (XE sc) 173) b_X10_readPart_90 := by show xm_bok cX10_readPart _; unfold xm_bok; decide +kernel
def b_X10_readPart_107 : List (Nat × Jvm.ClassFile.Instr × Nat) := [(107, .goto 4, 3)]
set_option maxRecDepth 20000 in
theorem k_X10_readPart_107 {sc : xm_Sc} : xm_bok (xe_cy (XE sc) 173) b_X10_readPart_107 := by show xm_bok cX10_readPart _; unfold xm_bok; decide +kernel
def b_X10_readPart_110 : List (Nat × Jvm.ClassFile.Instr × Nat) := [(110, .iconst (-1), 1)]
set_option maxRecDepth 20000 in
theorem k_X10_readPart_110 {sc : xm_Sc} : xm_bok (xe_cy (XE sc) 173) b_X10_readPart_110 := by show xm_bok cX10_readPart _; unfold xm_bok; decide +kernel
def b_X10_readPart_111 : List (Nat × Jvm.ClassFile.Instr × Nat) := [(111, .ireturn, 1)]
set_option maxRecDepth 20000 in
theorem k_X10_readPart_111 {sc : xm_Sc} : xm_bok (xe_cy (XE sc) 173) b_X10_readPart_111 := by show xm_bok cX10_readPart _; unfold xm_bok; decide +kernel
def b_X10_readPart_112 : List (Nat × Jvm.ClassFile.Instr × Nat) := [(112, .aload_n 0, 1), (113, .getfield 11, 3), (116, .iload_n 3, 1), (117, .iaload, 1), (118, .iconst 2, 1), (119, .if_icmp .ne 25, 3)]
set_option maxRecDepth 20000 in
theorem k_X10_readPart_112 {sc : xm_Sc} : xm_bok (xe_cy (XE sc) 173) b_X10_readPart_112 := by show xm_bok cX10_readPart _; unfold xm_bok; decide +kernel
def b_X10_readPart_122 : List (Nat × Jvm.ClassFile.Instr × Nat) := [(122, .aload_n 0, 1), (123, .iload_n 3, 1), (124, .bipush 44, 2), (126, .invokevirtual 93, 3)]
set_option maxRecDepth 20000 in
theorem k_X10_readPart_122 {sc : xm_Sc} : xm_bok (xe_cy (XE sc) 173) b_X10_readPart_122 := by show xm_bok cX10_readPart _; unfold xm_bok; decide +kernel
def b_X10_readPart_129 : List (Nat × Jvm.ClassFile.Instr × Nat) := [(129, .iload 5, 2), (131, .bipush 40, 2), (133, .if_icmp .ne 9, 3)]
set_option maxRecDepth 20000 in
theorem k_X10_readPart_129 {sc : xm_Sc} : xm_bok (xe_cy (XE sc) 173) b_X10_readPart_129 := by show xm_bok cX10_readPart _; unfold xm_bok; decide +kernel
def b_X10_readPart_136 : List (Nat × Jvm.ClassFile.Instr × Nat) := [(136, .iload_n 2, 1), (137, .iconst 1, 1), (138, .iadd, 1), (139, .goto 4, 3)]
set_option maxRecDepth 20000 in
theorem k_X10_readPart_136 {sc : xm_Sc} : xm_bok (xe_cy (XE sc) 173) b_X10_readPart_136 := by show xm_bok cX10_readPart _; unfold xm_bok; decide +kernel
def b_X10_readPart_142 : List (Nat × Jvm.ClassFile.Instr × Nat) := [(142, .iconst (-1), 1)]
set_option maxRecDepth 20000 in
theorem k_X10_readPart_142 {sc : xm_Sc} : xm_bok (xe_cy (XE sc) 173) b_X10_readPart_142 := by show xm_bok cX10_readPart _; unfold xm_bok; decide +kernel
def b_X10_readPart_143 : List (Nat × Jvm.ClassFile.Instr × Nat) := [(143, .ireturn, 1)]
set_option maxRecDepth 20000 in
theorem k_X10_readPart_143 {sc : xm_Sc} : xm_bok (xe_cy (XE sc) 173) b_X10_readPart_143 := by show xm_bok cX10_readPart _; unfold xm_bok; decide +kernel
def b_X10_readPart_144 : List (Nat × Jvm.ClassFile.Instr × Nat) := [(144, .iload 5, 2), (146, .bipush 76, 2), (148, .if_icmp .eq 12, 3)]
set_option maxRecDepth 20000 in
theorem k_X10_readPart_144 {sc : xm_Sc} : xm_bok (xe_cy (XE sc) 173) b_X10_readPart_144 := by show xm_bok cX10_readPart _; unfold xm_bok; decide +kernel
def b_X10_readPart_151 : List (Nat × Jvm.ClassFile.Instr × Nat) := [(151, .iload 5, 2), (153, .bipush 82, 2), (155, .if_icmp .eq 5, 3)]
set_option maxRecDepth 20000 in
theorem k_X10_readPart_151 {sc : xm_Sc} : xm_bok (xe_cy (XE sc) 173) b_X10_readPart_151 := by show xm_bok cX10_readPart _; unfold xm_bok; decide +kernel
def b_X10_readPart_158 : List (Nat × Jvm.ClassFile.Instr × Nat) := [(158, .iconst (-1), 1), (159, .ireturn, 1)]
set_option maxRecDepth 20000 in
theorem k_X10_readPart_158 {sc : xm_Sc} : xm_bok (xe_cy (XE sc) 173) b_X10_readPart_158 := by show xm_bok cX10_readPart _; unfold xm_bok; decide +kernel
def b_X10_readPart_160 : List (Nat × Jvm.ClassFile.Instr × Nat) := [(160, .iload 5, 2), (162, .bipush 76, 2), (164, .if_icmp .ne 12, 3)]
set_option maxRecDepth 20000 in
theorem k_X10_readPart_160 {sc : xm_Sc} : xm_bok (xe_cy (XE sc) 173) b_X10_readPart_160 := by show xm_bok cX10_readPart _; unfold xm_bok; decide +kernel
def b_X10_readPart_167 : List (Nat × Jvm.ClassFile.Instr × Nat) := [(167, .aload_n 0, 1), (168, .getfield 15, 3), (171, .iload_n 3, 1), (172, .iaload, 1), (173, .goto 9, 3)]
set_option maxRecDepth 20000 in
theorem k_X10_readPart_167 {sc : xm_Sc} : xm_bok (xe_cy (XE sc) 173) b_X10_readPart_167 := by show xm_bok cX10_readPart _; unfold xm_bok; decide +kernel
def b_X10_readPart_176 : List (Nat × Jvm.ClassFile.Instr × Nat) := [(176, .aload_n 0, 1), (177, .getfield 18, 3), (180, .iload_n 3, 1), (181, .iaload, 1)]
set_option maxRecDepth 20000 in
theorem k_X10_readPart_176 {sc : xm_Sc} : xm_bok (xe_cy (XE sc) 173) b_X10_readPart_176 := by show xm_bok cX10_readPart _; unfold xm_bok; decide +kernel
def b_X10_readPart_182 : List (Nat × Jvm.ClassFile.Instr × Nat) := [(182, .istore 6, 2), (184, .aload 4, 2), (186, .iload 5, 2), (188, .bipush 76, 2), (190, .if_icmp .ne 7, 3)]
set_option maxRecDepth 20000 in
theorem k_X10_readPart_182 {sc : xm_Sc} : xm_bok (xe_cy (XE sc) 173) b_X10_readPart_182 := by show xm_bok cX10_readPart _; unfold xm_bok; decide +kernel
def b_X10_readPart_193 : List (Nat × Jvm.ClassFile.Instr × Nat) := [(193, .iconst 0, 1), (194, .goto 4, 3)]
set_option maxRecDepth 20000 in
theorem k_X10_readPart_193 {sc : xm_Sc} : xm_bok (xe_cy (XE sc) 173) b_X10_readPart_193 := by show xm_bok cX10_readPart _; unfold xm_bok; decide +kernel
def b_X10_readPart_197 : List (Nat × Jvm.ClassFile.Instr × Nat) := [(197, .iconst 1, 1)]
set_option maxRecDepth 20000 in
theorem k_X10_readPart_197 {sc : xm_Sc} : xm_bok (xe_cy (XE sc) 173) b_X10_readPart_197 := by show xm_bok cX10_readPart _; unfold xm_bok; decide +kernel
def b_X10_readPart_198 : List (Nat × Jvm.ClassFile.Instr × Nat) := [(198, .invokevirtual 114, 3)]
set_option maxRecDepth 20000 in
theorem k_X10_readPart_198 {sc : xm_Sc} : xm_bok (xe_cy (XE sc) 173) b_X10_readPart_198 := by show xm_bok cX10_readPart _; unfold xm_bok; decide +kernel
def b_X10_readPart_201 : List (Nat × Jvm.ClassFile.Instr × Nat) := [(201, .aload 4, 2), (203, .lconst 0, 1), (204, .aload_n 0, 1), (205, .iload_n 3, 1), (206, .iload 6, 2), (208, .invokevirtual 87, 3)]
set_option maxRecDepth 20000 in
theorem k_X10_readPart_201 {sc : xm_Sc} : xm_bok (xe_cy (XE sc) 173) b_X10_readPart_201 := by show xm_bok cX10_readPart _; unfold xm_bok; decide +kernel
def b_X10_readPart_211 : List (Nat × Jvm.ClassFile.Instr × Nat) := [(211, .invokevirtual 120, 3)]
set_option maxRecDepth 20000 in
theorem k_X10_readPart_211 {sc : xm_Sc} : xm_bok (xe_cy (XE sc) 173) b_X10_readPart_211 := by show xm_bok cX10_readPart _; unfold xm_bok; decide +kernel
def b_X10_readPart_214 : List (Nat × Jvm.ClassFile.Instr × Nat) := [(214, .aload_n 0, 1), (215, .iload 6, 2), (217, .invokevirtual 78, 3)]
set_option maxRecDepth 20000 in
theorem k_X10_readPart_214 {sc : xm_Sc} : xm_bok (xe_cy (XE sc) 173) b_X10_readPart_214 := by show xm_bok cX10_readPart _; unfold xm_bok; decide +kernel
def b_X10_readPart_220 : List (Nat × Jvm.ClassFile.Instr × Nat) := [(220, .iload_n 2, 1), (221, .iconst 1, 1), (222, .iadd, 1), (223, .ireturn, 1)]
set_option maxRecDepth 20000 in
theorem k_X10_readPart_220 {sc : xm_Sc} : xm_bok (xe_cy (XE sc) 173) b_X10_readPart_220 := by show xm_bok cX10_readPart _; unfold xm_bok; decide +kernel
set_option maxRecDepth 20000 in
theorem cn_173 {sc : xm_Sc} : xe_cn (XE sc) 173 = 10 := rfl
set_option maxRecDepth 20000 in
theorem ml_173 {sc : xm_Sc} : xe_ml (XE sc) 173 = 7 := rfl
set_option maxRecDepth 20000 in
theorem ry_173 {sc : xm_Sc} : xe_ry (XE sc) 173 = (some .int) := rfl
set_option maxRecDepth 20000 in
theorem is_173 {sc : xm_Sc} : xe_is (XE sc) 173 = false := rfl
set_option maxRecDepth 20000 in
theorem np_173 {sc : xm_Sc} : xe_np (XE sc) 173 = 4 := rfl
/- method 174: X10_readValue -/
def b_X10_readValue_0 : List (Nat × Jvm.ClassFile.Instr × Nat) := [(0, .iconst 0, 1), (1, .istore 4, 2), (3, .aload_n 0, 1), (4, .iconst 0, 1), (5, .putfield 62, 3), (8, .aload_n 0, 1), (9, .iload_n 2, 1), (10, .invokevirtual 78, 3)]
set_option maxRecDepth 20000 in
theorem k_X10_readValue_0 {sc : xm_Sc} : xm_bok (xe_cy (XE sc) 174) b_X10_readValue_0 := by show xm_bok cX10_readValue _; unfold xm_bok; decide +kernel
def b_X10_readValue_13 : List (Nat × Jvm.ClassFile.Instr × Nat) := [(13, .iconst 0, 1), (14, .istore 5, 2)]
set_option maxRecDepth 20000 in
theorem k_X10_readValue_13 {sc : xm_Sc} : xm_bok (xe_cy (XE sc) 174) b_X10_readValue_13 := by show xm_bok cX10_readValue _; unfold xm_bok; decide +kernel
def b_X10_readValue_16 : List (Nat × Jvm.ClassFile.Instr × Nat) := [(16, .iload 5, 2), (18, .sipush 8192, 3), (21, .if_icmp .gt 86, 3)]
set_option maxRecDepth 20000 in
theorem k_X10_readValue_16 {sc : xm_Sc} : xm_bok (xe_cy (XE sc) 174) b_X10_readValue_16 := by show xm_bok cX10_readValue _; unfold xm_bok; decide +kernel
def b_X10_readValue_24 : List (Nat × Jvm.ClassFile.Instr × Nat) := [(24, .aload_n 0, 1), (25, .getfield 62, 3), (28, .ifCond .le 79, 3)]
set_option maxRecDepth 20000 in
theorem k_X10_readValue_24 {sc : xm_Sc} : xm_bok (xe_cy (XE sc) 174) b_X10_readValue_24 := by show xm_bok cX10_readValue _; unfold xm_bok; decide +kernel
def b_X10_readValue_31 : List (Nat × Jvm.ClassFile.Instr × Nat) := [(31, .aload_n 0, 1), (32, .dup, 1), (33, .getfield 62, 3), (36, .iconst 1, 1), (37, .isub, 1), (38, .putfield 62, 3), (41, .aload_n 0, 1), (42, .getfield 40, 3), (45, .aload_n 0, 1), (46, .getfield 62, 3), (49, .iaload, 1), (50, .istore 6, 2), (52, .iload 6, 2), (54, .ifCond .lt 18, 3)]
set_option maxRecDepth 20000 in
theorem k_X10_readValue_31 {sc : xm_Sc} : xm_bok (xe_cy (XE sc) 174) b_X10_readValue_31 := by show xm_bok cX10_readValue _; unfold xm_bok; decide +kernel
def b_X10_readValue_57 : List (Nat × Jvm.ClassFile.Instr × Nat) := [(57, .aload_n 0, 1), (58, .aload_n 1, 1), (59, .iload 4, 2), (61, .iload 6, 2), (63, .aload_n 3, 1), (64, .invokevirtual 108, 3)]
set_option maxRecDepth 20000 in
theorem k_X10_readValue_57 {sc : xm_Sc} : xm_bok (xe_cy (XE sc) 174) b_X10_readValue_57 := by show xm_bok cX10_readValue _; unfold xm_bok; decide +kernel
def b_X10_readValue_67 : List (Nat × Jvm.ClassFile.Instr × Nat) := [(67, .istore 4, 2), (69, .goto 25, 3)]
set_option maxRecDepth 20000 in
theorem k_X10_readValue_67 {sc : xm_Sc} : xm_bok (xe_cy (XE sc) 174) b_X10_readValue_67 := by show xm_bok cX10_readValue _; unfold xm_bok; decide +kernel
def b_X10_readValue_72 : List (Nat × Jvm.ClassFile.Instr × Nat) := [(72, .aload_n 1, 1), (73, .iload 4, 2), (75, .invokevirtual 111, 3)]
set_option maxRecDepth 20000 in
theorem k_X10_readValue_72 {sc : xm_Sc} : xm_bok (xe_cy (XE sc) 174) b_X10_readValue_72 := by show xm_bok cX10_readValue _; unfold xm_bok; decide +kernel
def b_X10_readValue_78 : List (Nat × Jvm.ClassFile.Instr × Nat) := [(78, .iload 6, 2), (80, .ineg, 1), (81, .if_icmp .ne 10, 3)]
set_option maxRecDepth 20000 in
theorem k_X10_readValue_78 {sc : xm_Sc} : xm_bok (xe_cy (XE sc) 174) b_X10_readValue_78 := by show xm_bok cX10_readValue _; unfold xm_bok; decide +kernel
def b_X10_readValue_84 : List (Nat × Jvm.ClassFile.Instr × Nat) := [(84, .iload 4, 2), (86, .iconst 1, 1), (87, .iadd, 1), (88, .goto 4, 3)]
set_option maxRecDepth 20000 in
theorem k_X10_readValue_84 {sc : xm_Sc} : xm_bok (xe_cy (XE sc) 174) b_X10_readValue_84 := by show xm_bok cX10_readValue _; unfold xm_bok; decide +kernel
def b_X10_readValue_91 : List (Nat × Jvm.ClassFile.Instr × Nat) := [(91, .iconst (-1), 1)]
set_option maxRecDepth 20000 in
theorem k_X10_readValue_91 {sc : xm_Sc} : xm_bok (xe_cy (XE sc) 174) b_X10_readValue_91 := by show xm_bok cX10_readValue _; unfold xm_bok; decide +kernel
def b_X10_readValue_92 : List (Nat × Jvm.ClassFile.Instr × Nat) := [(92, .istore 4, 2)]
set_option maxRecDepth 20000 in
theorem k_X10_readValue_92 {sc : xm_Sc} : xm_bok (xe_cy (XE sc) 174) b_X10_readValue_92 := by show xm_bok cX10_readValue _; unfold xm_bok; decide +kernel
def b_X10_readValue_94 : List (Nat × Jvm.ClassFile.Instr × Nat) := [(94, .iload 4, 2), (96, .ifCond .ge 5, 3)]
set_option maxRecDepth 20000 in
theorem k_X10_readValue_94 {sc : xm_Sc} : xm_bok (xe_cy (XE sc) 174) b_X10_readValue_94 := by show xm_bok cX10_readValue _; unfold xm_bok; decide +kernel
def b_X10_readValue_99 : List (Nat × Jvm.ClassFile.Instr × Nat) := [(99, .iconst 0, 1), (100, .ireturn, 1)]
set_option maxRecDepth 20000 in
theorem k_X10_readValue_99 {sc : xm_Sc} : xm_bok (xe_cy (XE sc) 174) b_X10_readValue_99 := by show xm_bok cX10_readValue _; unfold xm_bok; decide +kernel
def b_X10_readValue_101 : List (Nat × Jvm.ClassFile.Instr × Nat) := [(101, .iinc 5 1, 3), (104, .goto (-88), 3)]
set_option maxRecDepth 20000 in
theorem k_X10_readValue_101 {sc : xm_Sc} : xm_bok (xe_cy (XE sc) 174) b_X10_readValue_101 := by show xm_bok cX10_readValue _; unfold xm_bok; decide +kernel
def b_X10_readValue_107 : List (Nat × Jvm.ClassFile.Instr × Nat) := [(107, .aload_n 0, 1), (108, .getfield 62, 3), (111, .ifCond .ne 16, 3)]
set_option maxRecDepth 20000 in
theorem k_X10_readValue_107 {sc : xm_Sc} : xm_bok (xe_cy (XE sc) 174) b_X10_readValue_107 := by show xm_bok cX10_readValue _; unfold xm_bok; decide +kernel
def b_X10_readValue_114 : List (Nat × Jvm.ClassFile.Instr × Nat) := [(114, .iload 4, 2), (116, .aload_n 1, 1), (117, .getfield 65, 3), (120, .if_icmp .ne 7, 3)]
set_option maxRecDepth 20000 in
theorem k_X10_readValue_114 {sc : xm_Sc} : xm_bok (xe_cy (XE sc) 174) b_X10_readValue_114 := by show xm_bok cX10_readValue _; unfold xm_bok; decide +kernel
def b_X10_readValue_123 : List (Nat × Jvm.ClassFile.Instr × Nat) := [(123, .iconst 1, 1), (124, .goto 4, 3)]
set_option maxRecDepth 20000 in
theorem k_X10_readValue_123 {sc : xm_Sc} : xm_bok (xe_cy (XE sc) 174) b_X10_readValue_123 := by show xm_bok cX10_readValue _; unfold xm_bok; decide +kernel
def b_X10_readValue_127 : List (Nat × Jvm.ClassFile.Instr × Nat) := [(127, .iconst 0, 1)]
set_option maxRecDepth 20000 in
theorem k_X10_readValue_127 {sc : xm_Sc} : xm_bok (xe_cy (XE sc) 174) b_X10_readValue_127 := by show xm_bok cX10_readValue _; unfold xm_bok; decide +kernel
def b_X10_readValue_128 : List (Nat × Jvm.ClassFile.Instr × Nat) := [(128, .ireturn, 1)]
set_option maxRecDepth 20000 in
theorem k_X10_readValue_128 {sc : xm_Sc} : xm_bok (xe_cy (XE sc) 174) b_X10_readValue_128 := by show xm_bok cX10_readValue _; unfold xm_bok; decide +kernel
set_option maxRecDepth 20000 in
theorem cn_174 {sc : xm_Sc} : xe_cn (XE sc) 174 = 10 := rfl
set_option maxRecDepth 20000 in
theorem ml_174 {sc : xm_Sc} : xe_ml (XE sc) 174 = 7 := rfl
set_option maxRecDepth 20000 in
theorem ry_174 {sc : xm_Sc} : xe_ry (XE sc) 174 = (some .boolean) := rfl
set_option maxRecDepth 20000 in
theorem is_174 {sc : xm_Sc} : xe_is (XE sc) 174 = false := rfl
set_option maxRecDepth 20000 in
theorem np_174 {sc : xm_Sc} : xe_np (XE sc) 174 = 3 := rfl
/- method 175: X10_writePart -/
def b_X10_writePart_0 : List (Nat × Jvm.ClassFile.Instr × Nat) := [(0, .aload_n 0, 1), (1, .getfield 11, 3), (4, .iload_n 3, 1), (5, .iaload, 1), (6, .ifCond .ne 12, 3)]
set_option maxRecDepth 20000 in
theorem k_X10_writePart_0 {sc : xm_Sc} : xm_bok (xe_cy (XE sc) 175) b_X10_writePart_0 := by show xm_bok cX10_writePart _; unfold xm_bok; decide +kernel
def b_X10_writePart_9 : List (Nat × Jvm.ClassFile.Instr × Nat) := [(9, .aload 4, 2), (11, .bipush 85, 2), (13, .invokevirtual 90, 3)]
set_option maxRecDepth 20000 in
theorem k_X10_writePart_9 {sc : xm_Sc} : xm_bok (xe_cy (XE sc) 175) b_X10_writePart_9 := by show xm_bok cX10_writePart _; unfold xm_bok; decide +kernel
def b_X10_writePart_16 : List (Nat × Jvm.ClassFile.Instr × Nat) := [(16, .iload_n 2, 1), (17, .ireturn, 1)]
set_option maxRecDepth 20000 in
theorem k_X10_writePart_16 {sc : xm_Sc} : xm_bok (xe_cy (XE sc) 175) b_X10_writePart_16 := by show xm_bok cX10_writePart _; unfold xm_bok; decide +kernel
def b_X10_writePart_18 : List (Nat × Jvm.ClassFile.Instr × Nat) := [(18, .aload_n 0, 1), (19, .getfield 24, 3), (22, .iload_n 3, 1), (23, .iaload, 1), (24, .iconst 1, 1), (25, .if_icmp .ne 20, 3)]
set_option maxRecDepth 20000 in
theorem k_X10_writePart_18 {sc : xm_Sc} : xm_bok (xe_cy (XE sc) 175) b_X10_writePart_18 := by show xm_bok cX10_writePart _; unfold xm_bok; decide +kernel
def b_X10_writePart_28 : List (Nat × Jvm.ClassFile.Instr × Nat) := [(28, .aload 4, 2), (30, .bipush 48, 2), (32, .aload_n 1, 1), (33, .iload_n 2, 1), (34, .invokevirtual 83, 3)]
set_option maxRecDepth 20000 in
theorem k_X10_writePart_28 {sc : xm_Sc} : xm_bok (xe_cy (XE sc) 175) b_X10_writePart_28 := by show xm_bok cX10_writePart _; unfold xm_bok; decide +kernel
def b_X10_writePart_37 : List (Nat × Jvm.ClassFile.Instr × Nat) := [(37, .iadd, 1), (38, .invokevirtual 90, 3)]
set_option maxRecDepth 20000 in
theorem k_X10_writePart_37 {sc : xm_Sc} : xm_bok (xe_cy (XE sc) 175) b_X10_writePart_37 := by show xm_bok cX10_writePart _; unfold xm_bok; decide +kernel
def b_X10_writePart_41 : List (Nat × Jvm.ClassFile.Instr × Nat) := [(41, .iload_n 2, 1), (42, .iconst 1, 1), (43, .iadd, 1), (44, .ireturn, 1)]
set_option maxRecDepth 20000 in
theorem k_X10_writePart_41 {sc : xm_Sc} : xm_bok (xe_cy (XE sc) 175) b_X10_writePart_41 := by show xm_bok cX10_writePart _; unfold xm_bok; decide +kernel
def b_X10_writePart_45 : List (Nat × Jvm.ClassFile.Instr × Nat) := [(45, .aload_n 0, 1), (46, .getfield 24, 3), (49, .iload_n 3, 1), (50, .iaload, 1), (51, .iconst 4, 1), (52, .if_icmp .lt 92, 3)]
set_option maxRecDepth 20000 in
theorem k_X10_writePart_45 {sc : xm_Sc} : xm_bok (xe_cy (XE sc) 175) b_X10_writePart_45 := by show xm_bok cX10_writePart _; unfold xm_bok; decide +kernel
def b_X10_writePart_55 : List (Nat × Jvm.ClassFile.Instr × Nat) := [(55, .aload 4, 2), (57, .bipush 35, 2), (59, .invokevirtual 90, 3)]
set_option maxRecDepth 20000 in
theorem k_X10_writePart_55 {sc : xm_Sc} : xm_bok (xe_cy (XE sc) 175) b_X10_writePart_55 := by show xm_bok cX10_writePart _; unfold xm_bok; decide +kernel
def b_X10_writePart_62 : List (Nat × Jvm.ClassFile.Instr × Nat) := [(62, .iconst 0, 1), (63, .istore 5, 2)]
set_option maxRecDepth 20000 in
theorem k_X10_writePart_62 {sc : xm_Sc} : xm_bok (xe_cy (XE sc) 175) b_X10_writePart_62 := by show xm_bok cX10_writePart _; unfold xm_bok; decide +kernel
def b_X10_writePart_65 : List (Nat × Jvm.ClassFile.Instr × Nat) := [(65, .iload 5, 2), (67, .aload_n 0, 1), (68, .getfield 24, 3), (71, .iload_n 3, 1), (72, .iaload, 1), (73, .if_icmp .ge 62, 3)]
set_option maxRecDepth 20000 in
theorem k_X10_writePart_65 {sc : xm_Sc} : xm_bok (xe_cy (XE sc) 175) b_X10_writePart_65 := by show xm_bok cX10_writePart _; unfold xm_bok; decide +kernel
def b_X10_writePart_76 : List (Nat × Jvm.ClassFile.Instr × Nat) := [(76, .aload 4, 2), (78, .bipush 8, 2), (80, .aload_n 1, 1), (81, .iload_n 2, 1), (82, .iload 5, 2), (84, .iadd, 1), (85, .invokevirtual 83, 3)]
set_option maxRecDepth 20000 in
theorem k_X10_writePart_76 {sc : xm_Sc} : xm_bok (xe_cy (XE sc) 175) b_X10_writePart_76 := by show xm_bok cX10_writePart _; unfold xm_bok; decide +kernel
def b_X10_writePart_88 : List (Nat × Jvm.ClassFile.Instr × Nat) := [(88, .imul, 1), (89, .iconst 4, 1), (90, .aload_n 1, 1), (91, .iload_n 2, 1), (92, .iload 5, 2), (94, .iadd, 1), (95, .iconst 1, 1), (96, .iadd, 1), (97, .invokevirtual 83, 3)]
set_option maxRecDepth 20000 in
theorem k_X10_writePart_88 {sc : xm_Sc} : xm_bok (xe_cy (XE sc) 175) b_X10_writePart_88 := by show xm_bok cX10_writePart _; unfold xm_bok; decide +kernel
def b_X10_writePart_100 : List (Nat × Jvm.ClassFile.Instr × Nat) := [(100, .imul, 1), (101, .iadd, 1), (102, .iconst 2, 1), (103, .aload_n 1, 1), (104, .iload_n 2, 1), (105, .iload 5, 2), (107, .iadd, 1), (108, .iconst 2, 1), (109, .iadd, 1), (110, .invokevirtual 83, 3)]
set_option maxRecDepth 20000 in
theorem k_X10_writePart_100 {sc : xm_Sc} : xm_bok (xe_cy (XE sc) 175) b_X10_writePart_100 := by show xm_bok cX10_writePart _; unfold xm_bok; decide +kernel
def b_X10_writePart_113 : List (Nat × Jvm.ClassFile.Instr × Nat) := [(113, .imul, 1), (114, .iadd, 1), (115, .aload_n 1, 1), (116, .iload_n 2, 1), (117, .iload 5, 2), (119, .iadd, 1), (120, .iconst 3, 1), (121, .iadd, 1), (122, .invokevirtual 83, 3)]
set_option maxRecDepth 20000 in
theorem k_X10_writePart_113 {sc : xm_Sc} : xm_bok (xe_cy (XE sc) 175) b_X10_writePart_113 := by show xm_bok cX10_writePart _; unfold xm_bok; decide +kernel
def b_X10_writePart_125 : List (Nat × Jvm.ClassFile.Instr × Nat) := [(125, .iadd, 1), (126, .invokevirtual 105, 3)]
set_option maxRecDepth 20000 in
theorem k_X10_writePart_125 {sc : xm_Sc} : xm_bok (xe_cy (XE sc) 175) b_X10_writePart_125 := by show xm_bok cX10_writePart _; unfold xm_bok; decide +kernel
def b_X10_writePart_129 : List (Nat × Jvm.ClassFile.Instr × Nat) := [(129, .iinc 5 4, 3), (132, .goto (-67), 3)]
set_option maxRecDepth 20000 in
theorem k_X10_writePart_129 {sc : xm_Sc} : xm_bok (xe_cy (XE sc) 175) b_X10_writePart_129 := by show xm_bok cX10_writePart _; unfold xm_bok; decide +kernel
def b_X10_writePart_135 : List (Nat × Jvm.ClassFile.Instr × Nat) := [(135, .iload_n 2, 1), (136, .aload_n 0, 1), (137, .getfield 24, 3), (140, .iload_n 3, 1), (141, .iaload, 1), (142, .iadd, 1), (143, .ireturn, 1)]
set_option maxRecDepth 20000 in
theorem k_X10_writePart_135 {sc : xm_Sc} : xm_bok (xe_cy (XE sc) 175) b_X10_writePart_135 := by show xm_bok cX10_writePart _; unfold xm_bok; decide +kernel
def b_X10_writePart_144 : List (Nat × Jvm.ClassFile.Instr × Nat) := [(144, .aload_n 0, 1), (145, .getfield 11, 3), (148, .iload_n 3, 1), (149, .iaload, 1), (150, .iconst 2, 1), (151, .if_icmp .ne 19, 3)]
set_option maxRecDepth 20000 in
theorem k_X10_writePart_144 {sc : xm_Sc} : xm_bok (xe_cy (XE sc) 175) b_X10_writePart_144 := by show xm_bok cX10_writePart _; unfold xm_bok; decide +kernel
def b_X10_writePart_154 : List (Nat × Jvm.ClassFile.Instr × Nat) := [(154, .aload 4, 2), (156, .bipush 40, 2), (158, .invokevirtual 90, 3)]
set_option maxRecDepth 20000 in
theorem k_X10_writePart_154 {sc : xm_Sc} : xm_bok (xe_cy (XE sc) 175) b_X10_writePart_154 := by show xm_bok cX10_writePart _; unfold xm_bok; decide +kernel
def b_X10_writePart_161 : List (Nat × Jvm.ClassFile.Instr × Nat) := [(161, .aload_n 0, 1), (162, .iload_n 3, 1), (163, .bipush 44, 2), (165, .invokevirtual 93, 3)]
set_option maxRecDepth 20000 in
theorem k_X10_writePart_161 {sc : xm_Sc} : xm_bok (xe_cy (XE sc) 175) b_X10_writePart_161 := by show xm_bok cX10_writePart _; unfold xm_bok; decide +kernel
def b_X10_writePart_168 : List (Nat × Jvm.ClassFile.Instr × Nat) := [(168, .iload_n 2, 1), (169, .ireturn, 1)]
set_option maxRecDepth 20000 in
theorem k_X10_writePart_168 {sc : xm_Sc} : xm_bok (xe_cy (XE sc) 175) b_X10_writePart_168 := by show xm_bok cX10_writePart _; unfold xm_bok; decide +kernel
def b_X10_writePart_170 : List (Nat × Jvm.ClassFile.Instr × Nat) := [(170, .aload_n 1, 1), (171, .iload_n 2, 1), (172, .invokevirtual 83, 3)]
set_option maxRecDepth 20000 in
theorem k_X10_writePart_170 {sc : xm_Sc} : xm_bok (xe_cy (XE sc) 175) b_X10_writePart_170 := by show xm_bok cX10_writePart _; unfold xm_bok; decide +kernel
def b_X10_writePart_175 : List (Nat × Jvm.ClassFile.Instr × Nat) := [(175, .ifCond .ne 7, 3)]
set_option maxRecDepth 20000 in
theorem k_X10_writePart_175 {sc : xm_Sc} : xm_bok (xe_cy (XE sc) 175) b_X10_writePart_175 := by show xm_bok cX10_writePart _; unfold xm_bok; decide +kernel
def b_X10_writePart_178 : List (Nat × Jvm.ClassFile.Instr × Nat) := [(178, .iconst 1, 1), (179, .goto 4, 3)]
set_option maxRecDepth 20000 in
theorem k_X10_writePart_178 {sc : xm_Sc} : xm_bok (xe_cy (XE sc) 175) b_X10_writePart_178 := by show xm_bok cX10_writePart _; unfold xm_bok; decide +kernel
def b_X10_writePart_182 : List (Nat × Jvm.ClassFile.Instr × Nat) := [(182, .iconst 0, 1)]
set_option maxRecDepth 20000 in
theorem k_X10_writePart_182 {sc : xm_Sc} : xm_bok (xe_cy (XE sc) 175) b_X10_writePart_182 := by show xm_bok cX10_writePart _; unfold xm_bok; decide +kernel
def b_X10_writePart_183 : List (Nat × Jvm.ClassFile.Instr × Nat) := [(183, .istore 5, 2), (185, .iload 5, 2), (187, .ifCond .eq 12, 3)]
set_option maxRecDepth 20000 in
theorem k_X10_writePart_183 {sc : xm_Sc} : xm_bok (xe_cy (XE sc) 175) b_X10_writePart_183 := by show xm_bok cX10_writePart _; unfold xm_bok; decide +kernel
def b_X10_writePart_190 : List (Nat × Jvm.ClassFile.Instr × Nat) := [(190, .aload_n 0, 1), (191, .getfield 15, 3), (194, .iload_n 3, 1), (195, .iaload, 1), (196, .goto 9, 3)]
set_option maxRecDepth 20000 in
theorem k_X10_writePart_190 {sc : xm_Sc} : xm_bok (xe_cy (XE sc) 175) b_X10_writePart_190 := by show xm_bok cX10_writePart _; unfold xm_bok; decide +kernel
def b_X10_writePart_199 : List (Nat × Jvm.ClassFile.Instr × Nat) := [(199, .aload_n 0, 1), (200, .getfield 18, 3), (203, .iload_n 3, 1), (204, .iaload, 1)]
set_option maxRecDepth 20000 in
theorem k_X10_writePart_199 {sc : xm_Sc} : xm_bok (xe_cy (XE sc) 175) b_X10_writePart_199 := by show xm_bok cX10_writePart _; unfold xm_bok; decide +kernel
def b_X10_writePart_205 : List (Nat × Jvm.ClassFile.Instr × Nat) := [(205, .istore 6, 2), (207, .aload 4, 2), (209, .iload 5, 2), (211, .ifCond .eq 8, 3)]
set_option maxRecDepth 20000 in
theorem k_X10_writePart_205 {sc : xm_Sc} : xm_bok (xe_cy (XE sc) 175) b_X10_writePart_205 := by show xm_bok cX10_writePart _; unfold xm_bok; decide +kernel
def b_X10_writePart_214 : List (Nat × Jvm.ClassFile.Instr × Nat) := [(214, .bipush 76, 2), (216, .goto 5, 3)]
set_option maxRecDepth 20000 in
theorem k_X10_writePart_214 {sc : xm_Sc} : xm_bok (xe_cy (XE sc) 175) b_X10_writePart_214 := by show xm_bok cX10_writePart _; unfold xm_bok; decide +kernel
def b_X10_writePart_219 : List (Nat × Jvm.ClassFile.Instr × Nat) := [(219, .bipush 82, 2)]
set_option maxRecDepth 20000 in
theorem k_X10_writePart_219 {sc : xm_Sc} : xm_bok (xe_cy (XE sc) 175) b_X10_writePart_219 := by show xm_bok cX10_writePart _; unfold xm_bok; decide +kernel
def b_X10_writePart_221 : List (Nat × Jvm.ClassFile.Instr × Nat) := [(221, .invokevirtual 90, 3)]
set_option maxRecDepth 20000 in
theorem k_X10_writePart_221 {sc : xm_Sc} : xm_bok (xe_cy (XE sc) 175) b_X10_writePart_221 := by show xm_bok cX10_writePart _; unfold xm_bok; decide +kernel
def b_X10_writePart_224 : List (Nat × Jvm.ClassFile.Instr × Nat) := [(224, .aload_n 0, 1), (225, .iload 6, 2), (227, .invokevirtual 78, 3)]
set_option maxRecDepth 20000 in
theorem k_X10_writePart_224 {sc : xm_Sc} : xm_bok (xe_cy (XE sc) 175) b_X10_writePart_224 := by show xm_bok cX10_writePart _; unfold xm_bok; decide +kernel
def b_X10_writePart_230 : List (Nat × Jvm.ClassFile.Instr × Nat) := [(230, .iload_n 2, 1), (231, .iconst 1, 1), (232, .iadd, 1), (233, .aload_n 0, 1), (234, .iload_n 3, 1), (235, .iload 6, 2), (237, .invokevirtual 87, 3)]
set_option maxRecDepth 20000 in
theorem k_X10_writePart_230 {sc : xm_Sc} : xm_bok (xe_cy (XE sc) 175) b_X10_writePart_230 := by show xm_bok cX10_writePart _; unfold xm_bok; decide +kernel
def b_X10_writePart_240 : List (Nat × Jvm.ClassFile.Instr × Nat) := [(240, .iadd, 1), (241, .ireturn, 1)]
set_option maxRecDepth 20000 in
theorem k_X10_writePart_240 {sc : xm_Sc} : xm_bok (xe_cy (XE sc) 175) b_X10_writePart_240 := by show xm_bok cX10_writePart _; unfold xm_bok; decide +kernel
set_option maxRecDepth 20000 in
theorem cn_175 {sc : xm_Sc} : xe_cn (XE sc) 175 = 10 := rfl
set_option maxRecDepth 20000 in
theorem ml_175 {sc : xm_Sc} : xe_ml (XE sc) 175 = 7 := rfl
set_option maxRecDepth 20000 in
theorem ry_175 {sc : xm_Sc} : xe_ry (XE sc) 175 = (some .int) := rfl
set_option maxRecDepth 20000 in
theorem is_175 {sc : xm_Sc} : xe_is (XE sc) 175 = false := rfl
set_option maxRecDepth 20000 in
theorem np_175 {sc : xm_Sc} : xe_np (XE sc) 175 = 4 := rfl
/- method 176: X10_writeType -/
def b_X10_writeType_0 : List (Nat × Jvm.ClassFile.Instr × Nat) := [(0, .aload_n 0, 1), (1, .iconst 0, 1), (2, .putfield 62, 3), (5, .aload_n 0, 1), (6, .iload_n 1, 1), (7, .invokevirtual 78, 3)]
set_option maxRecDepth 20000 in
theorem k_X10_writeType_0 {sc : xm_Sc} : xm_bok (xe_cy (XE sc) 176) b_X10_writeType_0 := by show xm_bok cX10_writeType _; unfold xm_bok; decide +kernel
def b_X10_writeType_10 : List (Nat × Jvm.ClassFile.Instr × Nat) := [(10, .iconst 0, 1), (11, .istore_n 3, 1)]
set_option maxRecDepth 20000 in
theorem k_X10_writeType_10 {sc : xm_Sc} : xm_bok (xe_cy (XE sc) 176) b_X10_writeType_10 := by show xm_bok cX10_writeType _; unfold xm_bok; decide +kernel
def b_X10_writeType_12 : List (Nat × Jvm.ClassFile.Instr × Nat) := [(12, .iload_n 3, 1), (13, .sipush 300, 3), (16, .if_icmp .gt 101, 3)]
set_option maxRecDepth 20000 in
theorem k_X10_writeType_12 {sc : xm_Sc} : xm_bok (xe_cy (XE sc) 176) b_X10_writeType_12 := by show xm_bok cX10_writeType _; unfold xm_bok; decide +kernel
def b_X10_writeType_19 : List (Nat × Jvm.ClassFile.Instr × Nat) := [(19, .aload_n 0, 1), (20, .getfield 62, 3), (23, .ifCond .le 94, 3)]
set_option maxRecDepth 20000 in
theorem k_X10_writeType_19 {sc : xm_Sc} : xm_bok (xe_cy (XE sc) 176) b_X10_writeType_19 := by show xm_bok cX10_writeType _; unfold xm_bok; decide +kernel
def b_X10_writeType_26 : List (Nat × Jvm.ClassFile.Instr × Nat) := [(26, .aload_n 0, 1), (27, .dup, 1), (28, .getfield 62, 3), (31, .iconst 1, 1), (32, .isub, 1), (33, .putfield 62, 3), (36, .aload_n 0, 1), (37, .getfield 40, 3), (40, .aload_n 0, 1), (41, .getfield 62, 3), (44, .iaload, 1), (45, .istore 4, 2), (47, .iload 4, 2), (49, .ifCond .ge 13, 3)]
set_option maxRecDepth 20000 in
theorem k_X10_writeType_26 {sc : xm_Sc} : xm_bok (xe_cy (XE sc) 176) b_X10_writeType_26 := by show xm_bok cX10_writeType _; unfold xm_bok; decide +kernel
def b_X10_writeType_52 : List (Nat × Jvm.ClassFile.Instr × Nat) := [(52, .aload_n 2, 1), (53, .iload 4, 2), (55, .ineg, 1), (56, .invokevirtual 90, 3)]
set_option maxRecDepth 20000 in
theorem k_X10_writeType_52 {sc : xm_Sc} : xm_bok (xe_cy (XE sc) 176) b_X10_writeType_52 := by show xm_bok cX10_writeType _; unfold xm_bok; decide +kernel
def b_X10_writeType_59 : List (Nat × Jvm.ClassFile.Instr × Nat) := [(59, .goto 52, 3)]
set_option maxRecDepth 20000 in
theorem k_X10_writeType_59 {sc : xm_Sc} : xm_bok (xe_cy (XE sc) 176) b_X10_writeType_59 := by show xm_bok cX10_writeType _; unfold xm_bok; decide +kernel
def b_X10_writeType_62 : List (Nat × Jvm.ClassFile.Instr × Nat) := [(62, .aload_n 0, 1), (63, .getfield 11, 3), (66, .iload 4, 2), (68, .iaload, 1), (69, .ifCond .ne 12, 3)]
set_option maxRecDepth 20000 in
theorem k_X10_writeType_62 {sc : xm_Sc} : xm_bok (xe_cy (XE sc) 176) b_X10_writeType_62 := by show xm_bok cX10_writeType _; unfold xm_bok; decide +kernel
def b_X10_writeType_72 : List (Nat × Jvm.ClassFile.Instr × Nat) := [(72, .aload_n 2, 1), (73, .bipush 49, 2), (75, .invokevirtual 90, 3)]
set_option maxRecDepth 20000 in
theorem k_X10_writeType_72 {sc : xm_Sc} : xm_bok (xe_cy (XE sc) 176) b_X10_writeType_72 := by show xm_bok cX10_writeType _; unfold xm_bok; decide +kernel
def b_X10_writeType_78 : List (Nat × Jvm.ClassFile.Instr × Nat) := [(78, .goto 33, 3)]
set_option maxRecDepth 20000 in
theorem k_X10_writeType_78 {sc : xm_Sc} : xm_bok (xe_cy (XE sc) 176) b_X10_writeType_78 := by show xm_bok cX10_writeType _; unfold xm_bok; decide +kernel
def b_X10_writeType_81 : List (Nat × Jvm.ClassFile.Instr × Nat) := [(81, .aload_n 2, 1), (82, .bipush 40, 2), (84, .invokevirtual 90, 3)]
set_option maxRecDepth 20000 in
theorem k_X10_writeType_81 {sc : xm_Sc} : xm_bok (xe_cy (XE sc) 176) b_X10_writeType_81 := by show xm_bok cX10_writeType _; unfold xm_bok; decide +kernel
def b_X10_writeType_87 : List (Nat × Jvm.ClassFile.Instr × Nat) := [(87, .aload_n 0, 1), (88, .iload 4, 2), (90, .aload_n 0, 1), (91, .getfield 11, 3), (94, .iload 4, 2), (96, .iaload, 1), (97, .iconst 1, 1), (98, .if_icmp .ne 8, 3)]
set_option maxRecDepth 20000 in
theorem k_X10_writeType_87 {sc : xm_Sc} : xm_bok (xe_cy (XE sc) 176) b_X10_writeType_87 := by show xm_bok cX10_writeType _; unfold xm_bok; decide +kernel
def b_X10_writeType_101 : List (Nat × Jvm.ClassFile.Instr × Nat) := [(101, .bipush 43, 2), (103, .goto 5, 3)]
set_option maxRecDepth 20000 in
theorem k_X10_writeType_101 {sc : xm_Sc} : xm_bok (xe_cy (XE sc) 176) b_X10_writeType_101 := by show xm_bok cX10_writeType _; unfold xm_bok; decide +kernel
def b_X10_writeType_106 : List (Nat × Jvm.ClassFile.Instr × Nat) := [(106, .bipush 42, 2)]
set_option maxRecDepth 20000 in
theorem k_X10_writeType_106 {sc : xm_Sc} : xm_bok (xe_cy (XE sc) 176) b_X10_writeType_106 := by show xm_bok cX10_writeType _; unfold xm_bok; decide +kernel
def b_X10_writeType_108 : List (Nat × Jvm.ClassFile.Instr × Nat) := [(108, .invokevirtual 93, 3)]
set_option maxRecDepth 20000 in
theorem k_X10_writeType_108 {sc : xm_Sc} : xm_bok (xe_cy (XE sc) 176) b_X10_writeType_108 := by show xm_bok cX10_writeType _; unfold xm_bok; decide +kernel
def b_X10_writeType_111 : List (Nat × Jvm.ClassFile.Instr × Nat) := [(111, .iinc 3 1, 3), (114, .goto (-102), 3)]
set_option maxRecDepth 20000 in
theorem k_X10_writeType_111 {sc : xm_Sc} : xm_bok (xe_cy (XE sc) 176) b_X10_writeType_111 := by show xm_bok cX10_writeType _; unfold xm_bok; decide +kernel
def b_X10_writeType_117 : List (Nat × Jvm.ClassFile.Instr × Nat) := [(117, .return_, 1)]
set_option maxRecDepth 20000 in
theorem k_X10_writeType_117 {sc : xm_Sc} : xm_bok (xe_cy (XE sc) 176) b_X10_writeType_117 := by show xm_bok cX10_writeType _; unfold xm_bok; decide +kernel
set_option maxRecDepth 20000 in
theorem cn_176 {sc : xm_Sc} : xe_cn (XE sc) 176 = 10 := rfl
set_option maxRecDepth 20000 in
theorem ml_176 {sc : xm_Sc} : xe_ml (XE sc) 176 = 5 := rfl
set_option maxRecDepth 20000 in
theorem ry_176 {sc : xm_Sc} : xe_ry (XE sc) 176 = none := rfl
set_option maxRecDepth 20000 in
theorem is_176 {sc : xm_Sc} : xe_is (XE sc) 176 = false := rfl
set_option maxRecDepth 20000 in
theorem np_176 {sc : xm_Sc} : xe_np (XE sc) 176 = 2 := rfl
/- method 177: X10_writeValue -/
def b_X10_writeValue_0 : List (Nat × Jvm.ClassFile.Instr × Nat) := [(0, .iconst 0, 1), (1, .istore 4, 2), (3, .aload_n 0, 1), (4, .iconst 0, 1), (5, .putfield 62, 3), (8, .aload_n 0, 1), (9, .iload_n 2, 1), (10, .invokevirtual 78, 3)]
set_option maxRecDepth 20000 in
theorem k_X10_writeValue_0 {sc : xm_Sc} : xm_bok (xe_cy (XE sc) 177) b_X10_writeValue_0 := by show xm_bok cX10_writeValue _; unfold xm_bok; decide +kernel
def b_X10_writeValue_13 : List (Nat × Jvm.ClassFile.Instr × Nat) := [(13, .iconst 0, 1), (14, .istore 5, 2)]
set_option maxRecDepth 20000 in
theorem k_X10_writeValue_13 {sc : xm_Sc} : xm_bok (xe_cy (XE sc) 177) b_X10_writeValue_13 := by show xm_bok cX10_writeValue _; unfold xm_bok; decide +kernel
def b_X10_writeValue_16 : List (Nat × Jvm.ClassFile.Instr × Nat) := [(16, .iload 5, 2), (18, .sipush 8192, 3), (21, .if_icmp .gt 71, 3)]
set_option maxRecDepth 20000 in
theorem k_X10_writeValue_16 {sc : xm_Sc} : xm_bok (xe_cy (XE sc) 177) b_X10_writeValue_16 := by show xm_bok cX10_writeValue _; unfold xm_bok; decide +kernel
def b_X10_writeValue_24 : List (Nat × Jvm.ClassFile.Instr × Nat) := [(24, .aload_n 0, 1), (25, .getfield 62, 3), (28, .ifCond .le 64, 3)]
set_option maxRecDepth 20000 in
theorem k_X10_writeValue_24 {sc : xm_Sc} : xm_bok (xe_cy (XE sc) 177) b_X10_writeValue_24 := by show xm_bok cX10_writeValue _; unfold xm_bok; decide +kernel
def b_X10_writeValue_31 : List (Nat × Jvm.ClassFile.Instr × Nat) := [(31, .aload_n 3, 1), (32, .getfield 97, 3), (35, .ifCond .ne 57, 3)]
set_option maxRecDepth 20000 in
theorem k_X10_writeValue_31 {sc : xm_Sc} : xm_bok (xe_cy (XE sc) 177) b_X10_writeValue_31 := by show xm_bok cX10_writeValue _; unfold xm_bok; decide +kernel
def b_X10_writeValue_38 : List (Nat × Jvm.ClassFile.Instr × Nat) := [(38, .aload_n 0, 1), (39, .dup, 1), (40, .getfield 62, 3), (43, .iconst 1, 1), (44, .isub, 1), (45, .putfield 62, 3), (48, .aload_n 0, 1), (49, .getfield 40, 3), (52, .aload_n 0, 1), (53, .getfield 62, 3), (56, .iaload, 1), (57, .istore 6, 2), (59, .iload 6, 2), (61, .ifCond .ge 13, 3)]
set_option maxRecDepth 20000 in
theorem k_X10_writeValue_38 {sc : xm_Sc} : xm_bok (xe_cy (XE sc) 177) b_X10_writeValue_38 := by show xm_bok cX10_writeValue _; unfold xm_bok; decide +kernel
def b_X10_writeValue_64 : List (Nat × Jvm.ClassFile.Instr × Nat) := [(64, .aload_n 3, 1), (65, .iload 6, 2), (67, .ineg, 1), (68, .invokevirtual 90, 3)]
set_option maxRecDepth 20000 in
theorem k_X10_writeValue_64 {sc : xm_Sc} : xm_bok (xe_cy (XE sc) 177) b_X10_writeValue_64 := by show xm_bok cX10_writeValue _; unfold xm_bok; decide +kernel
def b_X10_writeValue_71 : List (Nat × Jvm.ClassFile.Instr × Nat) := [(71, .goto 15, 3)]
set_option maxRecDepth 20000 in
theorem k_X10_writeValue_71 {sc : xm_Sc} : xm_bok (xe_cy (XE sc) 177) b_X10_writeValue_71 := by show xm_bok cX10_writeValue _; unfold xm_bok; decide +kernel
def b_X10_writeValue_74 : List (Nat × Jvm.ClassFile.Instr × Nat) := [(74, .aload_n 0, 1), (75, .aload_n 1, 1), (76, .iload 4, 2), (78, .iload 6, 2), (80, .aload_n 3, 1), (81, .invokevirtual 101, 3)]
set_option maxRecDepth 20000 in
theorem k_X10_writeValue_74 {sc : xm_Sc} : xm_bok (xe_cy (XE sc) 177) b_X10_writeValue_74 := by show xm_bok cX10_writeValue _; unfold xm_bok; decide +kernel
def b_X10_writeValue_84 : List (Nat × Jvm.ClassFile.Instr × Nat) := [(84, .istore 4, 2)]
set_option maxRecDepth 20000 in
theorem k_X10_writeValue_84 {sc : xm_Sc} : xm_bok (xe_cy (XE sc) 177) b_X10_writeValue_84 := by show xm_bok cX10_writeValue _; unfold xm_bok; decide +kernel
def b_X10_writeValue_86 : List (Nat × Jvm.ClassFile.Instr × Nat) := [(86, .iinc 5 1, 3), (89, .goto (-73), 3)]
set_option maxRecDepth 20000 in
theorem k_X10_writeValue_86 {sc : xm_Sc} : xm_bok (xe_cy (XE sc) 177) b_X10_writeValue_86 := by show xm_bok cX10_writeValue _; unfold xm_bok; decide +kernel
def b_X10_writeValue_92 : List (Nat × Jvm.ClassFile.Instr × Nat) := [(92, .return_, 1)]
set_option maxRecDepth 20000 in
theorem k_X10_writeValue_92 {sc : xm_Sc} : xm_bok (xe_cy (XE sc) 177) b_X10_writeValue_92 := by show xm_bok cX10_writeValue _; unfold xm_bok; decide +kernel
set_option maxRecDepth 20000 in
theorem cn_177 {sc : xm_Sc} : xe_cn (XE sc) 177 = 10 := rfl
set_option maxRecDepth 20000 in
theorem ml_177 {sc : xm_Sc} : xe_ml (XE sc) 177 = 7 := rfl
set_option maxRecDepth 20000 in
theorem ry_177 {sc : xm_Sc} : xe_ry (XE sc) 177 = none := rfl
set_option maxRecDepth 20000 in
theorem is_177 {sc : xm_Sc} : xe_is (XE sc) 177 = false := rfl
set_option maxRecDepth 20000 in
theorem np_177 {sc : xm_Sc} : xe_np (XE sc) 177 = 3 := rfl
set_option maxRecDepth 20000 in
theorem fl_10_11 {sc : xm_Sc} : xe_fl (XE sc) 10 11 = some (10, 1) := rfl
set_option maxRecDepth 20000 in
theorem fl_10_15 {sc : xm_Sc} : xe_fl (XE sc) 10 15 = some (10, 2) := rfl
set_option maxRecDepth 20000 in
theorem fl_10_18 {sc : xm_Sc} : xe_fl (XE sc) 10 18 = some (10, 3) := rfl
set_option maxRecDepth 20000 in
theorem fl_10_21 {sc : xm_Sc} : xe_fl (XE sc) 10 21 = some (10, 4) := rfl
set_option maxRecDepth 20000 in
theorem fl_10_24 {sc : xm_Sc} : xe_fl (XE sc) 10 24 = some (10, 5) := rfl
set_option maxRecDepth 20000 in
theorem fl_10_27 {sc : xm_Sc} : xe_fl (XE sc) 10 27 = some (10, 6) := rfl
set_option maxRecDepth 20000 in
theorem fl_10_31 {sc : xm_Sc} : xe_fl (XE sc) 10 31 = some (10, 7) := rfl
set_option maxRecDepth 20000 in
theorem fl_10_34 {sc : xm_Sc} : xe_fl (XE sc) 10 34 = some (10, 8) := rfl
set_option maxRecDepth 20000 in
theorem fl_10_37 {sc : xm_Sc} : xe_fl (XE sc) 10 37 = some (10, 9) := rfl
set_option maxRecDepth 20000 in
theorem fl_10_40 {sc : xm_Sc} : xe_fl (XE sc) 10 40 = some (10, 10) := rfl
set_option maxRecDepth 20000 in
theorem fl_10_43 {sc : xm_Sc} : xe_fl (XE sc) 10 43 = some (10, 0) := rfl
set_option maxRecDepth 20000 in
theorem fl_10_62 {sc : xm_Sc} : xe_fl (XE sc) 10 62 = some (10, 11) := rfl
set_option maxRecDepth 20000 in
theorem fl_10_65 {sc : xm_Sc} : xe_fl (XE sc) 10 65 = some (8, 1) := rfl
set_option maxRecDepth 20000 in
theorem fl_10_97 {sc : xm_Sc} : xe_fl (XE sc) 10 97 = some (8, 2) := rfl
set_option maxRecDepth 20000 in
theorem ki_10_47 {sc : xm_Sc} : xe_kI (XE sc) 10 47 = some 40503 := rfl
set_option maxRecDepth 20000 in
theorem ki_10_52 {sc : xm_Sc} : xe_kI (XE sc) 10 52 = some 1000000 := rfl
set_option maxRecDepth 20000 in
theorem ki_10_82 {sc : xm_Sc} : xe_kI (XE sc) 10 82 = some 28737536 := rfl
set_option maxRecDepth 20000 in
theorem lk_10_48 {sc : xm_Sc} : xe_lk (XE sc) 10 48 = some 166 := rfl
set_option maxRecDepth 20000 in
theorem lk_10_53 {sc : xm_Sc} : xe_lk (XE sc) 10 53 = some 332 := rfl
set_option maxRecDepth 20000 in
theorem lk_10_59 {sc : xm_Sc} : xe_lk (XE sc) 10 59 = some 331 := rfl
set_option maxRecDepth 20000 in
theorem lk_10_70 {sc : xm_Sc} : xe_lk (XE sc) 10 70 = some 131 := rfl
set_option maxRecDepth 20000 in
theorem lk_10_74 {sc : xm_Sc} : xe_lk (XE sc) 10 74 = some 167 := rfl
set_option maxRecDepth 20000 in
theorem lk_10_78 {sc : xm_Sc} : xe_lk (XE sc) 10 78 = some 170 := rfl
set_option maxRecDepth 20000 in
theorem lk_10_83 {sc : xm_Sc} : xe_lk (XE sc) 10 83 = some 127 := rfl
set_option maxRecDepth 20000 in
theorem lk_10_87 {sc : xm_Sc} : xe_lk (XE sc) 10 87 = some 169 := rfl
set_option maxRecDepth 20000 in
theorem lk_10_90 {sc : xm_Sc} : xe_lk (XE sc) 10 90 = some 133 := rfl
set_option maxRecDepth 20000 in
theorem lk_10_93 {sc : xm_Sc} : xe_lk (XE sc) 10 93 = some 171 := rfl
set_option maxRecDepth 20000 in
theorem lk_10_101 {sc : xm_Sc} : xe_lk (XE sc) 10 101 = some 175 := rfl
set_option maxRecDepth 20000 in
theorem lk_10_105 {sc : xm_Sc} : xe_lk (XE sc) 10 105 = some 136 := rfl
set_option maxRecDepth 20000 in
theorem lk_10_108 {sc : xm_Sc} : xe_lk (XE sc) 10 108 = some 173 := rfl
set_option maxRecDepth 20000 in
theorem lk_10_111 {sc : xm_Sc} : xe_lk (XE sc) 10 111 = some 126 := rfl
set_option maxRecDepth 20000 in
theorem lk_10_114 {sc : xm_Sc} : xe_lk (XE sc) 10 114 = some 134 := rfl
set_option maxRecDepth 20000 in
theorem lk_10_117 {sc : xm_Sc} : xe_lk (XE sc) 10 117 = some 172 := rfl
set_option maxRecDepth 20000 in
theorem lk_10_120 {sc : xm_Sc} : xe_lk (XE sc) 10 120 = some 135 := rfl
set_option maxRecDepth 20000 in
theorem lk_10_124 {sc : xm_Sc} : xe_lk (XE sc) 10 124 = some 130 := rfl
