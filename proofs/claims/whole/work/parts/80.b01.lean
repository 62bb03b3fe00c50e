/- method 40: X1_caseRule -/
def b_X1_caseRule_0 : List (Nat × Jvm.ClassFile.Instr × Nat) := [(0, .aload_n 0, 1), (1, .invokevirtual 92, 3)]
set_option maxRecDepth 20000 in
theorem k_X1_caseRule_0 {sc : xm_Sc} : xm_bok (xe_cy (XE sc) 40) b_X1_caseRule_0 := by show xm_bok cX1_caseRule _; unfold xm_bok; decide +kernel
def b_X1_caseRule_4 : List (Nat × Jvm.ClassFile.Instr × Nat) := [(4, .istore 5, 2), (6, .aload_n 0, 1), (7, .invokevirtual 92, 3)]
set_option maxRecDepth 20000 in
theorem k_X1_caseRule_4 {sc : xm_Sc} : xm_bok (xe_cy (XE sc) 40) b_X1_caseRule_4 := by show xm_bok cX1_caseRule _; unfold xm_bok; decide +kernel
def b_X1_caseRule_10 : List (Nat × Jvm.ClassFile.Instr × Nat) := [(10, .istore 6, 2), (12, .aload_n 0, 1), (13, .invokevirtual 92, 3)]
set_option maxRecDepth 20000 in
theorem k_X1_caseRule_10 {sc : xm_Sc} : xm_bok (xe_cy (XE sc) 40) b_X1_caseRule_10 := by show xm_bok cX1_caseRule _; unfold xm_bok; decide +kernel
def b_X1_caseRule_16 : List (Nat × Jvm.ClassFile.Instr × Nat) := [(16, .istore 7, 2), (18, .aload_n 1, 1), (19, .getfield 53, 3), (22, .iload_n 3, 1), (23, .iaload, 1), (24, .bipush 11, 2), (26, .if_icmp .eq 12, 3)]
set_option maxRecDepth 20000 in
theorem k_X1_caseRule_16 {sc : xm_Sc} : xm_bok (xe_cy (XE sc) 40) b_X1_caseRule_16 := by show xm_bok cX1_caseRule _; unfold xm_bok; decide +kernel
def b_X1_caseRule_29 : List (Nat × Jvm.ClassFile.Instr × Nat) := [(29, .aload_n 1, 1), (30, .getfield 63, 3), (33, .iload_n 3, 1), (34, .iaload, 1), (35, .goto 10, 3)]
set_option maxRecDepth 20000 in
theorem k_X1_caseRule_29 {sc : xm_Sc} : xm_bok (xe_cy (XE sc) 40) b_X1_caseRule_29 := by show xm_bok cX1_caseRule _; unfold xm_bok; decide +kernel
def b_X1_caseRule_38 : List (Nat × Jvm.ClassFile.Instr × Nat) := [(38, .aload_n 1, 1), (39, .getfield 63, 3), (42, .iload 4, 2), (44, .iaload, 1)]
set_option maxRecDepth 20000 in
theorem k_X1_caseRule_38 {sc : xm_Sc} : xm_bok (xe_cy (XE sc) 40) b_X1_caseRule_38 := by show xm_bok cX1_caseRule _; unfold xm_bok; decide +kernel
def b_X1_caseRule_45 : List (Nat × Jvm.ClassFile.Instr × Nat) := [(45, .istore 8, 2), (47, .aload_n 1, 1), (48, .iload_n 2, 1), (49, .aload_n 0, 1), (50, .iconst 2, 1), (51, .aload_n 0, 1), (52, .iconst 1, 1), (53, .iload 5, 2), (55, .iload 6, 2), (57, .invokevirtual 88, 3)]
set_option maxRecDepth 20000 in
theorem k_X1_caseRule_45 {sc : xm_Sc} : xm_bok (xe_cy (XE sc) 40) b_X1_caseRule_45 := by show xm_bok cX1_caseRule _; unfold xm_bok; decide +kernel
def b_X1_caseRule_60 : List (Nat × Jvm.ClassFile.Instr × Nat) := [(60, .iload 7, 2), (62, .invokevirtual 88, 3)]
set_option maxRecDepth 20000 in
theorem k_X1_caseRule_60 {sc : xm_Sc} : xm_bok (xe_cy (XE sc) 40) b_X1_caseRule_60 := by show xm_bok cX1_caseRule _; unfold xm_bok; decide +kernel
def b_X1_caseRule_65 : List (Nat × Jvm.ClassFile.Instr × Nat) := [(65, .iload 8, 2), (67, .invokestatic 76, 3)]
set_option maxRecDepth 20000 in
theorem k_X1_caseRule_65 {sc : xm_Sc} : xm_bok (xe_cy (XE sc) 40) b_X1_caseRule_65 := by show xm_bok cX1_caseRule _; unfold xm_bok; decide +kernel
def b_X1_caseRule_70 : List (Nat × Jvm.ClassFile.Instr × Nat) := [(70, .iconst 1, 1), (71, .istore 9, 2), (73, .aload_n 1, 1), (74, .getfield 53, 3), (77, .iload_n 3, 1), (78, .iaload, 1), (79, .bipush 11, 2), (81, .if_icmp .eq 24, 3)]
set_option maxRecDepth 20000 in
theorem k_X1_caseRule_70 {sc : xm_Sc} : xm_bok (xe_cy (XE sc) 40) b_X1_caseRule_70 := by show xm_bok cX1_caseRule _; unfold xm_bok; decide +kernel
def b_X1_caseRule_84 : List (Nat × Jvm.ClassFile.Instr × Nat) := [(84, .aload_n 0, 1), (85, .aload_n 0, 1), (86, .iconst 2, 1), (87, .iload 5, 2), (89, .iload 7, 2), (91, .invokevirtual 88, 3)]
set_option maxRecDepth 20000 in
theorem k_X1_caseRule_84 {sc : xm_Sc} : xm_bok (xe_cy (XE sc) 40) b_X1_caseRule_84 := by show xm_bok cX1_caseRule _; unfold xm_bok; decide +kernel
def b_X1_caseRule_94 : List (Nat × Jvm.ClassFile.Instr × Nat) := [(94, .aload_n 1, 1), (95, .getfield 56, 3), (98, .iload_n 3, 1), (99, .iaload, 1), (100, .invokevirtual 80, 3)]
set_option maxRecDepth 20000 in
theorem k_X1_caseRule_94 {sc : xm_Sc} : xm_bok (xe_cy (XE sc) 40) b_X1_caseRule_94 := by show xm_bok cX1_caseRule _; unfold xm_bok; decide +kernel
def b_X1_caseRule_103 : List (Nat × Jvm.ClassFile.Instr × Nat) := [(103, .istore 9, 2)]
set_option maxRecDepth 20000 in
theorem k_X1_caseRule_103 {sc : xm_Sc} : xm_bok (xe_cy (XE sc) 40) b_X1_caseRule_103 := by show xm_bok cX1_caseRule _; unfold xm_bok; decide +kernel
def b_X1_caseRule_105 : List (Nat × Jvm.ClassFile.Instr × Nat) := [(105, .aload_n 1, 1), (106, .getfield 53, 3), (109, .iload 4, 2), (111, .iaload, 1), (112, .bipush 11, 2), (114, .if_icmp .eq 54, 3)]
set_option maxRecDepth 20000 in
theorem k_X1_caseRule_105 {sc : xm_Sc} : xm_bok (xe_cy (XE sc) 40) b_X1_caseRule_105 := by show xm_bok cX1_caseRule _; unfold xm_bok; decide +kernel
def b_X1_caseRule_117 : List (Nat × Jvm.ClassFile.Instr × Nat) := [(117, .iload 9, 2), (119, .ifCond .eq 46, 3)]
set_option maxRecDepth 20000 in
theorem k_X1_caseRule_117 {sc : xm_Sc} : xm_bok (xe_cy (XE sc) 40) b_X1_caseRule_117 := by show xm_bok cX1_caseRule _; unfold xm_bok; decide +kernel
def b_X1_caseRule_122 : List (Nat × Jvm.ClassFile.Instr × Nat) := [(122, .aload_n 0, 1), (123, .aload_n 0, 1), (124, .iconst 2, 1), (125, .iload 6, 2), (127, .iload 7, 2), (129, .invokevirtual 88, 3)]
set_option maxRecDepth 20000 in
theorem k_X1_caseRule_122 {sc : xm_Sc} : xm_bok (xe_cy (XE sc) 40) b_X1_caseRule_122 := by show xm_bok cX1_caseRule _; unfold xm_bok; decide +kernel
def b_X1_caseRule_132 : List (Nat × Jvm.ClassFile.Instr × Nat) := [(132, .aload_n 1, 1), (133, .getfield 56, 3), (136, .iload 4, 2), (138, .iaload, 1), (139, .invokevirtual 80, 3)]
set_option maxRecDepth 20000 in
theorem k_X1_caseRule_132 {sc : xm_Sc} : xm_bok (xe_cy (XE sc) 40) b_X1_caseRule_132 := by show xm_bok cX1_caseRule _; unfold xm_bok; decide +kernel
def b_X1_caseRule_142 : List (Nat × Jvm.ClassFile.Instr × Nat) := [(142, .ifCond .eq 23, 3)]
set_option maxRecDepth 20000 in
theorem k_X1_caseRule_142 {sc : xm_Sc} : xm_bok (xe_cy (XE sc) 40) b_X1_caseRule_142 := by show xm_bok cX1_caseRule _; unfold xm_bok; decide +kernel
def b_X1_caseRule_145 : List (Nat × Jvm.ClassFile.Instr × Nat) := [(145, .aload_n 0, 1), (146, .iload 8, 2), (148, .aload_n 1, 1), (149, .getfield 63, 3), (152, .iload 4, 2), (154, .iaload, 1), (155, .invokevirtual 80, 3)]
set_option maxRecDepth 20000 in
theorem k_X1_caseRule_145 {sc : xm_Sc} : xm_bok (xe_cy (XE sc) 40) b_X1_caseRule_145 := by show xm_bok cX1_caseRule _; unfold xm_bok; decide +kernel
def b_X1_caseRule_158 : List (Nat × Jvm.ClassFile.Instr × Nat) := [(158, .ifCond .eq 7, 3)]
set_option maxRecDepth 20000 in
theorem k_X1_caseRule_158 {sc : xm_Sc} : xm_bok (xe_cy (XE sc) 40) b_X1_caseRule_158 := by show xm_bok cX1_caseRule _; unfold xm_bok; decide +kernel
def b_X1_caseRule_161 : List (Nat × Jvm.ClassFile.Instr × Nat) := [(161, .iconst 1, 1), (162, .goto 4, 3)]
set_option maxRecDepth 20000 in
theorem k_X1_caseRule_161 {sc : xm_Sc} : xm_bok (xe_cy (XE sc) 40) b_X1_caseRule_161 := by show xm_bok cX1_caseRule _; unfold xm_bok; decide +kernel
def b_X1_caseRule_165 : List (Nat × Jvm.ClassFile.Instr × Nat) := [(165, .iconst 0, 1)]
set_option maxRecDepth 20000 in
theorem k_X1_caseRule_165 {sc : xm_Sc} : xm_bok (xe_cy (XE sc) 40) b_X1_caseRule_165 := by show xm_bok cX1_caseRule _; unfold xm_bok; decide +kernel
def b_X1_caseRule_166 : List (Nat × Jvm.ClassFile.Instr × Nat) := [(166, .istore 9, 2)]
set_option maxRecDepth 20000 in
theorem k_X1_caseRule_166 {sc : xm_Sc} : xm_bok (xe_cy (XE sc) 40) b_X1_caseRule_166 := by show xm_bok cX1_caseRule _; unfold xm_bok; decide +kernel
def b_X1_caseRule_168 : List (Nat × Jvm.ClassFile.Instr × Nat) := [(168, .iload 9, 2), (170, .ireturn, 1)]
set_option maxRecDepth 20000 in
theorem k_X1_caseRule_168 {sc : xm_Sc} : xm_bok (xe_cy (XE sc) 40) b_X1_caseRule_168 := by show xm_bok cX1_caseRule _; unfold xm_bok; decide +kernel
set_option maxRecDepth 20000 in
theorem cn_40 {sc : xm_Sc} : xe_cn (XE sc) 40 = 1 := rfl
set_option maxRecDepth 20000 in
theorem ml_40 {sc : xm_Sc} : xe_ml (XE sc) 40 = 10 := rfl
set_option maxRecDepth 20000 in
theorem ry_40 {sc : xm_Sc} : xe_ry (XE sc) 40 = (some .boolean) := rfl
set_option maxRecDepth 20000 in
theorem is_40 {sc : xm_Sc} : xe_is (XE sc) 40 = false := rfl
set_option maxRecDepth 20000 in
theorem np_40 {sc : xm_Sc} : xe_np (XE sc) 40 = 4 := rfl
/- method 41: X1_find -/
def b_X1_find_0 : List (Nat × Jvm.ClassFile.Instr × Nat) := [(0, .iload_n 1, 1), (1, .istore_n 2, 1), (2, .iconst 0, 1), (3, .istore_n 3, 1)]
set_option maxRecDepth 20000 in
theorem k_X1_find_0 {sc : xm_Sc} : xm_bok (xe_cy (XE sc) 41) b_X1_find_0 := by show xm_bok cX1_find _; unfold xm_bok; decide +kernel
def b_X1_find_4 : List (Nat × Jvm.ClassFile.Instr × Nat) := [(4, .iload_n 3, 1), (5, .sipush 14032, 3), (8, .if_icmp .ge 43, 3)]
set_option maxRecDepth 20000 in
theorem k_X1_find_4 {sc : xm_Sc} : xm_bok (xe_cy (XE sc) 41) b_X1_find_4 := by show xm_bok cX1_find _; unfold xm_bok; decide +kernel
def b_X1_find_11 : List (Nat × Jvm.ClassFile.Instr × Nat) := [(11, .aload_n 0, 1), (12, .getfield 23, 3), (15, .iload_n 2, 1), (16, .iaload, 1), (17, .iload_n 2, 1), (18, .if_icmp .eq 33, 3)]
set_option maxRecDepth 20000 in
theorem k_X1_find_11 {sc : xm_Sc} : xm_bok (xe_cy (XE sc) 41) b_X1_find_11 := by show xm_bok cX1_find _; unfold xm_bok; decide +kernel
def b_X1_find_21 : List (Nat × Jvm.ClassFile.Instr × Nat) := [(21, .aload_n 0, 1), (22, .getfield 23, 3), (25, .iload_n 2, 1), (26, .aload_n 0, 1), (27, .getfield 23, 3), (30, .aload_n 0, 1), (31, .getfield 23, 3), (34, .iload_n 2, 1), (35, .iaload, 1), (36, .iaload, 1), (37, .iastore, 1), (38, .aload_n 0, 1), (39, .getfield 23, 3), (42, .iload_n 2, 1), (43, .iaload, 1), (44, .istore_n 2, 1), (45, .iinc 3 1, 3), (48, .goto (-44), 3)]
set_option maxRecDepth 20000 in
theorem k_X1_find_21 {sc : xm_Sc} : xm_bok (xe_cy (XE sc) 41) b_X1_find_21 := by show xm_bok cX1_find _; unfold xm_bok; decide +kernel
def b_X1_find_51 : List (Nat × Jvm.ClassFile.Instr × Nat) := [(51, .iload_n 2, 1), (52, .ireturn, 1)]
set_option maxRecDepth 20000 in
theorem k_X1_find_51 {sc : xm_Sc} : xm_bok (xe_cy (XE sc) 41) b_X1_find_51 := by show xm_bok cX1_find _; unfold xm_bok; decide +kernel
set_option maxRecDepth 20000 in
theorem cn_41 {sc : xm_Sc} : xe_cn (XE sc) 41 = 1 := rfl
set_option maxRecDepth 20000 in
theorem ml_41 {sc : xm_Sc} : xe_ml (XE sc) 41 = 4 := rfl
set_option maxRecDepth 20000 in
theorem ry_41 {sc : xm_Sc} : xe_ry (XE sc) 41 = (some .int) := rfl
set_option maxRecDepth 20000 in
theorem is_41 {sc : xm_Sc} : xe_is (XE sc) 41 = false := rfl
set_option maxRecDepth 20000 in
theorem np_41 {sc : xm_Sc} : xe_np (XE sc) 41 = 1 := rfl
/- method 42: X1_fix -/
def b_X1_fix_0 : List (Nat × Jvm.ClassFile.Instr × Nat) := [(0, .aload_n 0, 1), (1, .getfield 13, 3), (4, .iload_n 1, 1), (5, .iload_n 2, 1), (6, .iastore, 1), (7, .aload_n 0, 1), (8, .getfield 17, 3), (11, .iload_n 1, 1), (12, .iload_n 3, 1), (13, .iastore, 1), (14, .aload_n 0, 1), (15, .getfield 20, 3), (18, .iload_n 1, 1), (19, .iload 4, 2), (21, .iastore, 1), (22, .return_, 1)]
set_option maxRecDepth 20000 in
theorem k_X1_fix_0 {sc : xm_Sc} : xm_bok (xe_cy (XE sc) 42) b_X1_fix_0 := by show xm_bok cX1_fix _; unfold xm_bok; decide +kernel
set_option maxRecDepth 20000 in
theorem cn_42 {sc : xm_Sc} : xe_cn (XE sc) 42 = 1 := rfl
set_option maxRecDepth 20000 in
theorem ml_42 {sc : xm_Sc} : xe_ml (XE sc) 42 = 5 := rfl
set_option maxRecDepth 20000 in
theorem ry_42 {sc : xm_Sc} : xe_ry (XE sc) 42 = none := rfl
set_option maxRecDepth 20000 in
theorem is_42 {sc : xm_Sc} : xe_is (XE sc) 42 = false := rfl
set_option maxRecDepth 20000 in
theorem np_42 {sc : xm_Sc} : xe_np (XE sc) 42 = 4 := rfl
/- method 43: X1_open -/
def b_X1_open_0 : List (Nat × Jvm.ClassFile.Instr × Nat) := [(0, .aload_n 0, 1), (1, .iconst 3, 1), (2, .iconst 0, 1), (3, .iconst 0, 1), (4, .invokevirtual 88, 3)]
set_option maxRecDepth 20000 in
theorem k_X1_open_0 {sc : xm_Sc} : xm_bok (xe_cy (XE sc) 43) b_X1_open_0 := by show xm_bok cX1_open _; unfold xm_bok; decide +kernel
def b_X1_open_7 : List (Nat × Jvm.ClassFile.Instr × Nat) := [(7, .ireturn, 1)]
set_option maxRecDepth 20000 in
theorem k_X1_open_7 {sc : xm_Sc} : xm_bok (xe_cy (XE sc) 43) b_X1_open_7 := by show xm_bok cX1_open _; unfold xm_bok; decide +kernel
set_option maxRecDepth 20000 in
theorem cn_43 {sc : xm_Sc} : xe_cn (XE sc) 43 = 1 := rfl
set_option maxRecDepth 20000 in
theorem ml_43 {sc : xm_Sc} : xe_ml (XE sc) 43 = 1 := rfl
set_option maxRecDepth 20000 in
theorem ry_43 {sc : xm_Sc} : xe_ry (XE sc) 43 = (some .int) := rfl
set_option maxRecDepth 20000 in
theorem is_43 {sc : xm_Sc} : xe_is (XE sc) 43 = false := rfl
set_option maxRecDepth 20000 in
theorem np_43 {sc : xm_Sc} : xe_np (XE sc) 43 = 0 := rfl
/- method 44: X1_pushPair -/
def b_X1_pushPair_0 : List (Nat × Jvm.ClassFile.Instr × Nat) := [(0, .aload_n 0, 1), (1, .getfield 111, 3), (4, .iconst 1, 1), (5, .iadd, 1), (6, .sipush 28064, 3), (9, .if_icmp .ge 35, 3)]
set_option maxRecDepth 20000 in
theorem k_X1_pushPair_0 {sc : xm_Sc} : xm_bok (xe_cy (XE sc) 44) b_X1_pushPair_0 := by show xm_bok cX1_pushPair _; unfold xm_bok; decide +kernel
def b_X1_pushPair_12 : List (Nat × Jvm.ClassFile.Instr × Nat) := [(12, .aload_n 0, 1), (13, .getfield 29, 3), (16, .aload_n 0, 1), (17, .getfield 111, 3), (20, .iload_n 1, 1), (21, .iastore, 1), (22, .aload_n 0, 1), (23, .getfield 29, 3), (26, .aload_n 0, 1), (27, .getfield 111, 3), (30, .iconst 1, 1), (31, .iadd, 1), (32, .iload_n 2, 1), (33, .iastore, 1), (34, .aload_n 0, 1), (35, .dup, 1), (36, .getfield 111, 3), (39, .iconst 2, 1), (40, .iadd, 1), (41, .putfield 111, 3)]
set_option maxRecDepth 20000 in
theorem k_X1_pushPair_12 {sc : xm_Sc} : xm_bok (xe_cy (XE sc) 44) b_X1_pushPair_12 := by show xm_bok cX1_pushPair _; unfold xm_bok; decide +kernel
def b_X1_pushPair_44 : List (Nat × Jvm.ClassFile.Instr × Nat) := [(44, .return_, 1)]
set_option maxRecDepth 20000 in
theorem k_X1_pushPair_44 {sc : xm_Sc} : xm_bok (xe_cy (XE sc) 44) b_X1_pushPair_44 := by show xm_bok cX1_pushPair _; unfold xm_bok; decide +kernel
set_option maxRecDepth 20000 in
theorem cn_44 {sc : xm_Sc} : xe_cn (XE sc) 44 = 1 := rfl
set_option maxRecDepth 20000 in
theorem ml_44 {sc : xm_Sc} : xe_ml (XE sc) 44 = 3 := rfl
set_option maxRecDepth 20000 in
theorem ry_44 {sc : xm_Sc} : xe_ry (XE sc) 44 = none := rfl
set_option maxRecDepth 20000 in
theorem is_44 {sc : xm_Sc} : xe_is (XE sc) 44 = false := rfl
set_option maxRecDepth 20000 in
theorem np_44 {sc : xm_Sc} : xe_np (XE sc) 44 = 2 := rfl
/- method 45: X1_resolve -/
def b_X1_resolve_0 : List (Nat × Jvm.ClassFile.Instr × Nat) := [(0, .aload_n 0, 1), (1, .getfield 29, 3), (4, .iconst 0, 1), (5, .aload_n 0, 1), (6, .iload_n 1, 1), (7, .invokevirtual 66, 3)]
set_option maxRecDepth 20000 in
theorem k_X1_resolve_0 {sc : xm_Sc} : xm_bok (xe_cy (XE sc) 45) b_X1_resolve_0 := by show xm_bok cX1_resolve _; unfold xm_bok; decide +kernel
def b_X1_resolve_10 : List (Nat × Jvm.ClassFile.Instr × Nat) := [(10, .iastore, 1), (11, .aload_n 0, 1), (12, .iconst 1, 1), (13, .putfield 111, 3), (16, .iconst 0, 1), (17, .istore_n 3, 1)]
set_option maxRecDepth 20000 in
theorem k_X1_resolve_10 {sc : xm_Sc} : xm_bok (xe_cy (XE sc) 45) b_X1_resolve_10 := by show xm_bok cX1_resolve _; unfold xm_bok; decide +kernel
def b_X1_resolve_18 : List (Nat × Jvm.ClassFile.Instr × Nat) := [(18, .iload_n 3, 1), (19, .ldc 118, 2), (21, .if_icmp .ge 242, 3)]
set_option maxRecDepth 20000 in
theorem k_X1_resolve_18 {sc : xm_Sc} : xm_bok (xe_cy (XE sc) 45) b_X1_resolve_18 := by show xm_bok cX1_resolve _; unfold xm_bok; decide +kernel
def b_X1_resolve_24 : List (Nat × Jvm.ClassFile.Instr × Nat) := [(24, .aload_n 0, 1), (25, .getfield 111, 3), (28, .ifCond .le 235, 3)]
set_option maxRecDepth 20000 in
theorem k_X1_resolve_24 {sc : xm_Sc} : xm_bok (xe_cy (XE sc) 45) b_X1_resolve_24 := by show xm_bok cX1_resolve _; unfold xm_bok; decide +kernel
def b_X1_resolve_31 : List (Nat × Jvm.ClassFile.Instr × Nat) := [(31, .aload_n 0, 1), (32, .getfield 29, 3), (35, .aload_n 0, 1), (36, .getfield 111, 3), (39, .iconst 1, 1), (40, .isub, 1), (41, .iaload, 1), (42, .istore 4, 2), (44, .aload_n 0, 1), (45, .getfield 26, 3), (48, .iload 4, 2), (50, .iaload, 1), (51, .ifCond .lt 16, 3)]
set_option maxRecDepth 20000 in
theorem k_X1_resolve_31 {sc : xm_Sc} : xm_bok (xe_cy (XE sc) 45) b_X1_resolve_31 := by show xm_bok cX1_resolve _; unfold xm_bok; decide +kernel
def b_X1_resolve_54 : List (Nat × Jvm.ClassFile.Instr × Nat) := [(54, .aload_n 0, 1), (55, .dup, 1), (56, .getfield 111, 3), (59, .iconst 1, 1), (60, .isub, 1), (61, .putfield 111, 3), (64, .goto 193, 3)]
set_option maxRecDepth 20000 in
theorem k_X1_resolve_54 {sc : xm_Sc} : xm_bok (xe_cy (XE sc) 45) b_X1_resolve_54 := by show xm_bok cX1_resolve _; unfold xm_bok; decide +kernel
def b_X1_resolve_67 : List (Nat × Jvm.ClassFile.Instr × Nat) := [(67, .aload_n 0, 1), (68, .getfield 13, 3), (71, .iload 4, 2), (73, .iaload, 1), (74, .iconst 3, 1), (75, .if_icmp .eq 13, 3)]
set_option maxRecDepth 20000 in
theorem k_X1_resolve_67 {sc : xm_Sc} : xm_bok (xe_cy (XE sc) 45) b_X1_resolve_67 := by show xm_bok cX1_resolve _; unfold xm_bok; decide +kernel
def b_X1_resolve_78 : List (Nat × Jvm.ClassFile.Instr × Nat) := [(78, .aload_n 0, 1), (79, .getfield 13, 3), (82, .iload 4, 2), (84, .iaload, 1), (85, .ifCond .ne 20, 3)]
set_option maxRecDepth 20000 in
theorem k_X1_resolve_78 {sc : xm_Sc} : xm_bok (xe_cy (XE sc) 45) b_X1_resolve_78 := by show xm_bok cX1_resolve _; unfold xm_bok; decide +kernel
def b_X1_resolve_88 : List (Nat × Jvm.ClassFile.Instr × Nat) := [(88, .aload_n 0, 1), (89, .getfield 26, 3), (92, .iload 4, 2), (94, .aload_n 2, 1), (95, .iconst 0, 1), (96, .iconst 0, 1), (97, .iconst 0, 1), (98, .invokevirtual 119, 3)]
set_option maxRecDepth 20000 in
theorem k_X1_resolve_88 {sc : xm_Sc} : xm_bok (xe_cy (XE sc) 45) b_X1_resolve_88 := by show xm_bok cX1_resolve _; unfold xm_bok; decide +kernel
def b_X1_resolve_101 : List (Nat × Jvm.ClassFile.Instr × Nat) := [(101, .iastore, 1), (102, .goto 155, 3)]
set_option maxRecDepth 20000 in
theorem k_X1_resolve_101 {sc : xm_Sc} : xm_bok (xe_cy (XE sc) 45) b_X1_resolve_101 := by show xm_bok cX1_resolve _; unfold xm_bok; decide +kernel
def b_X1_resolve_105 : List (Nat × Jvm.ClassFile.Instr × Nat) := [(105, .aload_n 0, 1), (106, .getfield 26, 3), (109, .iload 4, 2), (111, .bipush (-2), 2), (113, .iastore, 1), (114, .aload_n 0, 1), (115, .aload_n 0, 1), (116, .getfield 17, 3), (119, .iload 4, 2), (121, .iaload, 1), (122, .invokevirtual 66, 3)]
set_option maxRecDepth 20000 in
theorem k_X1_resolve_105 {sc : xm_Sc} : xm_bok (xe_cy (XE sc) 45) b_X1_resolve_105 := by show xm_bok cX1_resolve _; unfold xm_bok; decide +kernel
def b_X1_resolve_125 : List (Nat × Jvm.ClassFile.Instr × Nat) := [(125, .istore 5, 2), (127, .aload_n 0, 1), (128, .aload_n 0, 1), (129, .getfield 20, 3), (132, .iload 4, 2), (134, .iaload, 1), (135, .invokevirtual 66, 3)]
set_option maxRecDepth 20000 in
theorem k_X1_resolve_125 {sc : xm_Sc} : xm_bok (xe_cy (XE sc) 45) b_X1_resolve_125 := by show xm_bok cX1_resolve _; unfold xm_bok; decide +kernel
def b_X1_resolve_138 : List (Nat × Jvm.ClassFile.Instr × Nat) := [(138, .istore 6, 2), (140, .aload_n 0, 1), (141, .getfield 26, 3), (144, .iload 5, 2), (146, .iaload, 1), (147, .bipush (-2), 2), (149, .if_icmp .eq 15, 3)]
set_option maxRecDepth 20000 in
theorem k_X1_resolve_138 {sc : xm_Sc} : xm_bok (xe_cy (XE sc) 45) b_X1_resolve_138 := by show xm_bok cX1_resolve _; unfold xm_bok; decide +kernel
def b_X1_resolve_152 : List (Nat × Jvm.ClassFile.Instr × Nat) := [(152, .aload_n 0, 1), (153, .getfield 26, 3), (156, .iload 6, 2), (158, .iaload, 1), (159, .bipush (-2), 2), (161, .if_icmp .ne 5, 3)]
set_option maxRecDepth 20000 in
theorem k_X1_resolve_152 {sc : xm_Sc} : xm_bok (xe_cy (XE sc) 45) b_X1_resolve_152 := by show xm_bok cX1_resolve _; unfold xm_bok; decide +kernel
def b_X1_resolve_164 : List (Nat × Jvm.ClassFile.Instr × Nat) := [(164, .iconst 0, 1), (165, .ireturn, 1)]
set_option maxRecDepth 20000 in
theorem k_X1_resolve_164 {sc : xm_Sc} : xm_bok (xe_cy (XE sc) 45) b_X1_resolve_164 := by show xm_bok cX1_resolve _; unfold xm_bok; decide +kernel
def b_X1_resolve_166 : List (Nat × Jvm.ClassFile.Instr × Nat) := [(166, .aload_n 0, 1), (167, .getfield 26, 3), (170, .iload 5, 2), (172, .iaload, 1), (173, .ifCond .lt 48, 3)]
set_option maxRecDepth 20000 in
theorem k_X1_resolve_166 {sc : xm_Sc} : xm_bok (xe_cy (XE sc) 45) b_X1_resolve_166 := by show xm_bok cX1_resolve _; unfold xm_bok; decide +kernel
def b_X1_resolve_176 : List (Nat × Jvm.ClassFile.Instr × Nat) := [(176, .aload_n 0, 1), (177, .getfield 26, 3), (180, .iload 6, 2), (182, .iaload, 1), (183, .ifCond .lt 38, 3)]
set_option maxRecDepth 20000 in
theorem k_X1_resolve_176 {sc : xm_Sc} : xm_bok (xe_cy (XE sc) 45) b_X1_resolve_176 := by show xm_bok cX1_resolve _; unfold xm_bok; decide +kernel
def b_X1_resolve_186 : List (Nat × Jvm.ClassFile.Instr × Nat) := [(186, .aload_n 0, 1), (187, .getfield 26, 3), (190, .iload 4, 2), (192, .aload_n 2, 1), (193, .aload_n 0, 1), (194, .getfield 13, 3), (197, .iload 4, 2), (199, .iaload, 1), (200, .aload_n 0, 1), (201, .getfield 26, 3), (204, .iload 5, 2), (206, .iaload, 1), (207, .aload_n 0, 1), (208, .getfield 26, 3), (211, .iload 6, 2), (213, .iaload, 1), (214, .invokevirtual 119, 3)]
set_option maxRecDepth 20000 in
theorem k_X1_resolve_186 {sc : xm_Sc} : xm_bok (xe_cy (XE sc) 45) b_X1_resolve_186 := by show xm_bok cX1_resolve _; unfold xm_bok; decide +kernel
def b_X1_resolve_217 : List (Nat × Jvm.ClassFile.Instr × Nat) := [(217, .iastore, 1), (218, .goto 39, 3)]
set_option maxRecDepth 20000 in
theorem k_X1_resolve_217 {sc : xm_Sc} : xm_bok (xe_cy (XE sc) 45) b_X1_resolve_217 := by show xm_bok cX1_resolve _; unfold xm_bok; decide +kernel
def b_X1_resolve_221 : List (Nat × Jvm.ClassFile.Instr × Nat) := [(221, .aload_n 0, 1), (222, .getfield 29, 3), (225, .aload_n 0, 1), (226, .getfield 111, 3), (229, .aload_n 0, 1), (230, .getfield 26, 3), (233, .iload 5, 2), (235, .iaload, 1), (236, .ifCond .ge 8, 3)]
set_option maxRecDepth 20000 in
theorem k_X1_resolve_221 {sc : xm_Sc} : xm_bok (xe_cy (XE sc) 45) b_X1_resolve_221 := by show xm_bok cX1_resolve _; unfold xm_bok; decide +kernel
def b_X1_resolve_239 : List (Nat × Jvm.ClassFile.Instr × Nat) := [(239, .iload 5, 2), (241, .goto 5, 3)]
set_option maxRecDepth 20000 in
theorem k_X1_resolve_239 {sc : xm_Sc} : xm_bok (xe_cy (XE sc) 45) b_X1_resolve_239 := by show xm_bok cX1_resolve _; unfold xm_bok; decide +kernel
def b_X1_resolve_244 : List (Nat × Jvm.ClassFile.Instr × Nat) := [(244, .iload 6, 2)]
set_option maxRecDepth 20000 in
theorem k_X1_resolve_244 {sc : xm_Sc} : xm_bok (xe_cy (XE sc) 45) b_X1_resolve_244 := by show xm_bok cX1_resolve _; unfold xm_bok; decide +kernel
def b_X1_resolve_246 : List (Nat × Jvm.ClassFile.Instr × Nat) := [(246, .iastore, 1), (247, .aload_n 0, 1), (248, .dup, 1), (249, .getfield 111, 3), (252, .iconst 1, 1), (253, .iadd, 1), (254, .putfield 111, 3)]
set_option maxRecDepth 20000 in
theorem k_X1_resolve_246 {sc : xm_Sc} : xm_bok (xe_cy (XE sc) 45) b_X1_resolve_246 := by show xm_bok cX1_resolve _; unfold xm_bok; decide +kernel
def b_X1_resolve_257 : List (Nat × Jvm.ClassFile.Instr × Nat) := [(257, .iinc 3 1, 3), (260, .goto (-242), 3)]
set_option maxRecDepth 20000 in
theorem k_X1_resolve_257 {sc : xm_Sc} : xm_bok (xe_cy (XE sc) 45) b_X1_resolve_257 := by show xm_bok cX1_resolve _; unfold xm_bok; decide +kernel
def b_X1_resolve_263 : List (Nat × Jvm.ClassFile.Instr × Nat) := [(263, .iconst 1, 1), (264, .ireturn, 1)]
set_option maxRecDepth 20000 in
theorem k_X1_resolve_263 {sc : xm_Sc} : xm_bok (xe_cy (XE sc) 45) b_X1_resolve_263 := by show xm_bok cX1_resolve _; unfold xm_bok; decide +kernel
set_option maxRecDepth 20000 in
theorem cn_45 {sc : xm_Sc} : xe_cn (XE sc) 45 = 1 := rfl
set_option maxRecDepth 20000 in
theorem ml_45 {sc : xm_Sc} : xe_ml (XE sc) 45 = 7 := rfl
set_option maxRecDepth 20000 in
theorem ry_45 {sc : xm_Sc} : xe_ry (XE sc) 45 = (some .boolean) := rfl
set_option maxRecDepth 20000 in
theorem is_45 {sc : xm_Sc} : xe_is (XE sc) 45 = false := rfl
set_option maxRecDepth 20000 in
theorem np_45 {sc : xm_Sc} : xe_np (XE sc) 45 = 2 := rfl
/- method 46: X1_rule -/
def b_X1_rule_0 : List (Nat × Jvm.ClassFile.Instr × Nat) := [(0, .aload_n 1, 1), (1, .getfield 70, 3), (4, .iload_n 2, 1), (5, .iaload, 1), (6, .istore_n 3, 1), (7, .aload_n 1, 1), (8, .getfield 73, 3), (11, .iload_n 2, 1), (12, .iaload, 1), (13, .istore 4, 2), (15, .aload_n 1, 1), (16, .getfield 53, 3), (19, .iload_n 2, 1), (20, .iaload, 1), (21, .tableswitch 359 0 12 #[67, 103, 113, 160, 188, 216, 244, 272, 289, 359, 359, 350, 301], 67)]
set_option maxRecDepth 20000 in
theorem k_X1_rule_0 {sc : xm_Sc} : xm_bok (xe_cy (XE sc) 46) b_X1_rule_0 := by show xm_bok cX1_rule _; unfold xm_bok; decide +kernel
def b_X1_rule_88 : List (Nat × Jvm.ClassFile.Instr × Nat) := [(88, .aload_n 1, 1), (89, .iload_n 2, 1), (90, .aload_n 1, 1), (91, .getfield 56, 3), (94, .iload_n 3, 1), (95, .iaload, 1), (96, .aload_n 1, 1), (97, .getfield 63, 3), (100, .iload 4, 2), (102, .iaload, 1), (103, .invokestatic 76, 3)]
set_option maxRecDepth 20000 in
theorem k_X1_rule_88 {sc : xm_Sc} : xm_bok (xe_cy (XE sc) 46) b_X1_rule_88 := by show xm_bok cX1_rule _; unfold xm_bok; decide +kernel
def b_X1_rule_106 : List (Nat × Jvm.ClassFile.Instr × Nat) := [(106, .aload_n 0, 1), (107, .aload_n 1, 1), (108, .getfield 63, 3), (111, .iload_n 3, 1), (112, .iaload, 1), (113, .aload_n 1, 1), (114, .getfield 56, 3), (117, .iload 4, 2), (119, .iaload, 1), (120, .invokevirtual 80, 3)]
set_option maxRecDepth 20000 in
theorem k_X1_rule_106 {sc : xm_Sc} : xm_bok (xe_cy (XE sc) 46) b_X1_rule_106 := by show xm_bok cX1_rule _; unfold xm_bok; decide +kernel
def b_X1_rule_123 : List (Nat × Jvm.ClassFile.Instr × Nat) := [(123, .ireturn, 1)]
set_option maxRecDepth 20000 in
theorem k_X1_rule_123 {sc : xm_Sc} : xm_bok (xe_cy (XE sc) 46) b_X1_rule_123 := by show xm_bok cX1_rule _; unfold xm_bok; decide +kernel
def b_X1_rule_124 : List (Nat × Jvm.ClassFile.Instr × Nat) := [(124, .aload_n 0, 1), (125, .aload_n 1, 1), (126, .iload_n 2, 1), (127, .iload_n 3, 1), (128, .iload 4, 2), (130, .invokevirtual 84, 3)]
set_option maxRecDepth 20000 in
theorem k_X1_rule_124 {sc : xm_Sc} : xm_bok (xe_cy (XE sc) 46) b_X1_rule_124 := by show xm_bok cX1_rule _; unfold xm_bok; decide +kernel
def b_X1_rule_133 : List (Nat × Jvm.ClassFile.Instr × Nat) := [(133, .ireturn, 1)]
set_option maxRecDepth 20000 in
theorem k_X1_rule_133 {sc : xm_Sc} : xm_bok (xe_cy (XE sc) 46) b_X1_rule_133 := by show xm_bok cX1_rule _; unfold xm_bok; decide +kernel
def b_X1_rule_134 : List (Nat × Jvm.ClassFile.Instr × Nat) := [(134, .aload_n 1, 1), (135, .iload_n 2, 1), (136, .aload_n 1, 1), (137, .getfield 56, 3), (140, .iload_n 3, 1), (141, .iaload, 1), (142, .aload_n 0, 1), (143, .iconst 2, 1), (144, .aload_n 1, 1), (145, .getfield 63, 3), (148, .iload_n 3, 1), (149, .iaload, 1), (150, .aload_n 1, 1), (151, .getfield 63, 3), (154, .iload 4, 2), (156, .iaload, 1), (157, .invokevirtual 88, 3)]
set_option maxRecDepth 20000 in
theorem k_X1_rule_134 {sc : xm_Sc} : xm_bok (xe_cy (XE sc) 46) b_X1_rule_134 := by show xm_bok cX1_rule _; unfold xm_bok; decide +kernel
def b_X1_rule_160 : List (Nat × Jvm.ClassFile.Instr × Nat) := [(160, .invokestatic 76, 3)]
set_option maxRecDepth 20000 in
theorem k_X1_rule_160 {sc : xm_Sc} : xm_bok (xe_cy (XE sc) 46) b_X1_rule_160 := by show xm_bok cX1_rule _; unfold xm_bok; decide +kernel
def b_X1_rule_163 : List (Nat × Jvm.ClassFile.Instr × Nat) := [(163, .aload_n 0, 1), (164, .aload_n 1, 1), (165, .getfield 56, 3), (168, .iload_n 3, 1), (169, .iaload, 1), (170, .aload_n 1, 1), (171, .getfield 56, 3), (174, .iload 4, 2), (176, .iaload, 1), (177, .invokevirtual 80, 3)]
set_option maxRecDepth 20000 in
theorem k_X1_rule_163 {sc : xm_Sc} : xm_bok (xe_cy (XE sc) 46) b_X1_rule_163 := by show xm_bok cX1_rule _; unfold xm_bok; decide +kernel
def b_X1_rule_180 : List (Nat × Jvm.ClassFile.Instr × Nat) := [(180, .ireturn, 1)]
set_option maxRecDepth 20000 in
theorem k_X1_rule_180 {sc : xm_Sc} : xm_bok (xe_cy (XE sc) 46) b_X1_rule_180 := by show xm_bok cX1_rule _; unfold xm_bok; decide +kernel
def b_X1_rule_181 : List (Nat × Jvm.ClassFile.Instr × Nat) := [(181, .aload_n 1, 1), (182, .iload_n 2, 1), (183, .aload_n 1, 1), (184, .getfield 56, 3), (187, .iload_n 3, 1), (188, .iaload, 1), (189, .aload_n 0, 1), (190, .iconst 1, 1), (191, .aload_n 1, 1), (192, .getfield 63, 3), (195, .iload_n 3, 1), (196, .iaload, 1), (197, .aload_n 0, 1), (198, .invokevirtual 92, 3)]
set_option maxRecDepth 20000 in
theorem k_X1_rule_181 {sc : xm_Sc} : xm_bok (xe_cy (XE sc) 46) b_X1_rule_181 := by show xm_bok cX1_rule _; unfold xm_bok; decide +kernel
def b_X1_rule_201 : List (Nat × Jvm.ClassFile.Instr × Nat) := [(201, .invokevirtual 88, 3)]
set_option maxRecDepth 20000 in
theorem k_X1_rule_201 {sc : xm_Sc} : xm_bok (xe_cy (XE sc) 46) b_X1_rule_201 := by show xm_bok cX1_rule _; unfold xm_bok; decide +kernel
def b_X1_rule_204 : List (Nat × Jvm.ClassFile.Instr × Nat) := [(204, .invokestatic 76, 3)]
set_option maxRecDepth 20000 in
theorem k_X1_rule_204 {sc : xm_Sc} : xm_bok (xe_cy (XE sc) 46) b_X1_rule_204 := by show xm_bok cX1_rule _; unfold xm_bok; decide +kernel
def b_X1_rule_207 : List (Nat × Jvm.ClassFile.Instr × Nat) := [(207, .iconst 1, 1), (208, .ireturn, 1)]
set_option maxRecDepth 20000 in
theorem k_X1_rule_207 {sc : xm_Sc} : xm_bok (xe_cy (XE sc) 46) b_X1_rule_207 := by show xm_bok cX1_rule _; unfold xm_bok; decide +kernel
def b_X1_rule_209 : List (Nat × Jvm.ClassFile.Instr × Nat) := [(209, .aload_n 1, 1), (210, .iload_n 2, 1), (211, .aload_n 1, 1), (212, .getfield 56, 3), (215, .iload_n 3, 1), (216, .iaload, 1), (217, .aload_n 0, 1), (218, .iconst 1, 1), (219, .aload_n 0, 1), (220, .invokevirtual 92, 3)]
set_option maxRecDepth 20000 in
theorem k_X1_rule_209 {sc : xm_Sc} : xm_bok (xe_cy (XE sc) 46) b_X1_rule_209 := by show xm_bok cX1_rule _; unfold xm_bok; decide +kernel
def b_X1_rule_223 : List (Nat × Jvm.ClassFile.Instr × Nat) := [(223, .aload_n 1, 1), (224, .getfield 63, 3), (227, .iload_n 3, 1), (228, .iaload, 1), (229, .invokevirtual 88, 3)]
set_option maxRecDepth 20000 in
theorem k_X1_rule_223 {sc : xm_Sc} : xm_bok (xe_cy (XE sc) 46) b_X1_rule_223 := by show xm_bok cX1_rule _; unfold xm_bok; decide +kernel
def b_X1_rule_232 : List (Nat × Jvm.ClassFile.Instr × Nat) := [(232, .invokestatic 76, 3)]
set_option maxRecDepth 20000 in
theorem k_X1_rule_232 {sc : xm_Sc} : xm_bok (xe_cy (XE sc) 46) b_X1_rule_232 := by show xm_bok cX1_rule _; unfold xm_bok; decide +kernel
def b_X1_rule_235 : List (Nat × Jvm.ClassFile.Instr × Nat) := [(235, .iconst 1, 1), (236, .ireturn, 1)]
set_option maxRecDepth 20000 in
theorem k_X1_rule_235 {sc : xm_Sc} : xm_bok (xe_cy (XE sc) 46) b_X1_rule_235 := by show xm_bok cX1_rule _; unfold xm_bok; decide +kernel
def b_X1_rule_237 : List (Nat × Jvm.ClassFile.Instr × Nat) := [(237, .aload_n 1, 1), (238, .iload_n 2, 1), (239, .aload_n 0, 1), (240, .iconst 2, 1), (241, .aload_n 1, 1), (242, .getfield 56, 3), (245, .iload_n 3, 1), (246, .iaload, 1), (247, .aload_n 0, 1), (248, .invokevirtual 92, 3)]
set_option maxRecDepth 20000 in
theorem k_X1_rule_237 {sc : xm_Sc} : xm_bok (xe_cy (XE sc) 46) b_X1_rule_237 := by show xm_bok cX1_rule _; unfold xm_bok; decide +kernel
def b_X1_rule_251 : List (Nat × Jvm.ClassFile.Instr × Nat) := [(251, .invokevirtual 88, 3)]
set_option maxRecDepth 20000 in
theorem k_X1_rule_251 {sc : xm_Sc} : xm_bok (xe_cy (XE sc) 46) b_X1_rule_251 := by show xm_bok cX1_rule _; unfold xm_bok; decide +kernel
def b_X1_rule_254 : List (Nat × Jvm.ClassFile.Instr × Nat) := [(254, .aload_n 1, 1), (255, .getfield 63, 3), (258, .iload_n 3, 1), (259, .iaload, 1), (260, .invokestatic 76, 3)]
set_option maxRecDepth 20000 in
theorem k_X1_rule_254 {sc : xm_Sc} : xm_bok (xe_cy (XE sc) 46) b_X1_rule_254 := by show xm_bok cX1_rule _; unfold xm_bok; decide +kernel
def b_X1_rule_263 : List (Nat × Jvm.ClassFile.Instr × Nat) := [(263, .iconst 1, 1), (264, .ireturn, 1)]
set_option maxRecDepth 20000 in
theorem k_X1_rule_263 {sc : xm_Sc} : xm_bok (xe_cy (XE sc) 46) b_X1_rule_263 := by show xm_bok cX1_rule _; unfold xm_bok; decide +kernel
def b_X1_rule_265 : List (Nat × Jvm.ClassFile.Instr × Nat) := [(265, .aload_n 1, 1), (266, .iload_n 2, 1), (267, .aload_n 0, 1), (268, .iconst 2, 1), (269, .aload_n 0, 1), (270, .invokevirtual 92, 3)]
set_option maxRecDepth 20000 in
theorem k_X1_rule_265 {sc : xm_Sc} : xm_bok (xe_cy (XE sc) 46) b_X1_rule_265 := by show xm_bok cX1_rule _; unfold xm_bok; decide +kernel
def b_X1_rule_273 : List (Nat × Jvm.ClassFile.Instr × Nat) := [(273, .aload_n 1, 1), (274, .getfield 56, 3), (277, .iload_n 3, 1), (278, .iaload, 1), (279, .invokevirtual 88, 3)]
set_option maxRecDepth 20000 in
theorem k_X1_rule_273 {sc : xm_Sc} : xm_bok (xe_cy (XE sc) 46) b_X1_rule_273 := by show xm_bok cX1_rule _; unfold xm_bok; decide +kernel
def b_X1_rule_282 : List (Nat × Jvm.ClassFile.Instr × Nat) := [(282, .aload_n 1, 1), (283, .getfield 63, 3), (286, .iload_n 3, 1), (287, .iaload, 1), (288, .invokestatic 76, 3)]
set_option maxRecDepth 20000 in
theorem k_X1_rule_282 {sc : xm_Sc} : xm_bok (xe_cy (XE sc) 46) b_X1_rule_282 := by show xm_bok cX1_rule _; unfold xm_bok; decide +kernel
def b_X1_rule_291 : List (Nat × Jvm.ClassFile.Instr × Nat) := [(291, .iconst 1, 1), (292, .ireturn, 1)]
set_option maxRecDepth 20000 in
theorem k_X1_rule_291 {sc : xm_Sc} : xm_bok (xe_cy (XE sc) 46) b_X1_rule_291 := by show xm_bok cX1_rule _; unfold xm_bok; decide +kernel
def b_X1_rule_293 : List (Nat × Jvm.ClassFile.Instr × Nat) := [(293, .aload_n 0, 1), (294, .invokevirtual 92, 3)]
set_option maxRecDepth 20000 in
theorem k_X1_rule_293 {sc : xm_Sc} : xm_bok (xe_cy (XE sc) 46) b_X1_rule_293 := by show xm_bok cX1_rule _; unfold xm_bok; decide +kernel
def b_X1_rule_297 : List (Nat × Jvm.ClassFile.Instr × Nat) := [(297, .istore 5, 2), (299, .aload_n 1, 1), (300, .iload_n 2, 1), (301, .iload 5, 2), (303, .iload 5, 2), (305, .invokestatic 76, 3)]
set_option maxRecDepth 20000 in
theorem k_X1_rule_297 {sc : xm_Sc} : xm_bok (xe_cy (XE sc) 46) b_X1_rule_297 := by show xm_bok cX1_rule _; unfold xm_bok; decide +kernel
def b_X1_rule_308 : List (Nat × Jvm.ClassFile.Instr × Nat) := [(308, .iconst 1, 1), (309, .ireturn, 1)]
set_option maxRecDepth 20000 in
theorem k_X1_rule_308 {sc : xm_Sc} : xm_bok (xe_cy (XE sc) 46) b_X1_rule_308 := by show xm_bok cX1_rule _; unfold xm_bok; decide +kernel
def b_X1_rule_310 : List (Nat × Jvm.ClassFile.Instr × Nat) := [(310, .aload_n 1, 1), (311, .iload_n 2, 1), (312, .aload_n 0, 1), (313, .invokevirtual 92, 3)]
set_option maxRecDepth 20000 in
theorem k_X1_rule_310 {sc : xm_Sc} : xm_bok (xe_cy (XE sc) 46) b_X1_rule_310 := by show xm_bok cX1_rule _; unfold xm_bok; decide +kernel
def b_X1_rule_316 : List (Nat × Jvm.ClassFile.Instr × Nat) := [(316, .iconst 0, 1), (317, .invokestatic 76, 3)]
set_option maxRecDepth 20000 in
theorem k_X1_rule_316 {sc : xm_Sc} : xm_bok (xe_cy (XE sc) 46) b_X1_rule_316 := by show xm_bok cX1_rule _; unfold xm_bok; decide +kernel
def b_X1_rule_320 : List (Nat × Jvm.ClassFile.Instr × Nat) := [(320, .iconst 1, 1), (321, .ireturn, 1)]
set_option maxRecDepth 20000 in
theorem k_X1_rule_320 {sc : xm_Sc} : xm_bok (xe_cy (XE sc) 46) b_X1_rule_320 := by show xm_bok cX1_rule _; unfold xm_bok; decide +kernel
def b_X1_rule_322 : List (Nat × Jvm.ClassFile.Instr × Nat) := [(322, .aload_n 1, 1), (323, .getfield 96, 3), (326, .iload_n 2, 1), (327, .iaload, 1), (328, .iconst 2, 1), (329, .ishr, 1), (330, .istore 6, 2), (332, .aload_n 1, 1), (333, .getfield 96, 3), (336, .iload_n 2, 1), (337, .iaload, 1), (338, .iconst 3, 1), (339, .iand, 1), (340, .istore 7, 2), (342, .aload_n 1, 1), (343, .iload_n 2, 1), (344, .getstatic 99, 3), (347, .iload 6, 2), (349, .iaload, 1), (350, .iload 7, 2), (352, .invokestatic 104, 3)]
set_option maxRecDepth 20000 in
theorem k_X1_rule_322 {sc : xm_Sc} : xm_bok (xe_cy (XE sc) 46) b_X1_rule_322 := by show xm_bok cX1_rule _; unfold xm_bok; decide +kernel
def b_X1_rule_355 : List (Nat × Jvm.ClassFile.Instr × Nat) := [(355, .getstatic 108, 3), (358, .iload 6, 2), (360, .iaload, 1), (361, .iload 7, 2), (363, .invokestatic 104, 3)]
set_option maxRecDepth 20000 in
theorem k_X1_rule_355 {sc : xm_Sc} : xm_bok (xe_cy (XE sc) 46) b_X1_rule_355 := by show xm_bok cX1_rule _; unfold xm_bok; decide +kernel
def b_X1_rule_366 : List (Nat × Jvm.ClassFile.Instr × Nat) := [(366, .invokestatic 76, 3)]
set_option maxRecDepth 20000 in
theorem k_X1_rule_366 {sc : xm_Sc} : xm_bok (xe_cy (XE sc) 46) b_X1_rule_366 := by show xm_bok cX1_rule _; unfold xm_bok; decide +kernel
def b_X1_rule_369 : List (Nat × Jvm.ClassFile.Instr × Nat) := [(369, .iconst 1, 1), (370, .ireturn, 1)]
set_option maxRecDepth 20000 in
theorem k_X1_rule_369 {sc : xm_Sc} : xm_bok (xe_cy (XE sc) 46) b_X1_rule_369 := by show xm_bok cX1_rule _; unfold xm_bok; decide +kernel
def b_X1_rule_371 : List (Nat × Jvm.ClassFile.Instr × Nat) := [(371, .aload_n 1, 1), (372, .iload_n 2, 1), (373, .iconst (-1), 1), (374, .iconst (-1), 1), (375, .invokestatic 76, 3)]
set_option maxRecDepth 20000 in
theorem k_X1_rule_371 {sc : xm_Sc} : xm_bok (xe_cy (XE sc) 46) b_X1_rule_371 := by show xm_bok cX1_rule _; unfold xm_bok; decide +kernel
def b_X1_rule_378 : List (Nat × Jvm.ClassFile.Instr × Nat) := [(378, .iconst 1, 1), (379, .ireturn, 1)]
set_option maxRecDepth 20000 in
theorem k_X1_rule_378 {sc : xm_Sc} : xm_bok (xe_cy (XE sc) 46) b_X1_rule_378 := by show xm_bok cX1_rule _; unfold xm_bok; decide +kernel
def b_X1_rule_380 : List (Nat × Jvm.ClassFile.Instr × Nat) := [(380, .aload_n 1, 1), (381, .iload_n 2, 1), (382, .aload_n 0, 1), (383, .invokevirtual 92, 3)]
set_option maxRecDepth 20000 in
theorem k_X1_rule_380 {sc : xm_Sc} : xm_bok (xe_cy (XE sc) 46) b_X1_rule_380 := by show xm_bok cX1_rule _; unfold xm_bok; decide +kernel
def b_X1_rule_386 : List (Nat × Jvm.ClassFile.Instr × Nat) := [(386, .aload_n 0, 1), (387, .invokevirtual 92, 3)]
set_option maxRecDepth 20000 in
theorem k_X1_rule_386 {sc : xm_Sc} : xm_bok (xe_cy (XE sc) 46) b_X1_rule_386 := by show xm_bok cX1_rule _; unfold xm_bok; decide +kernel
def b_X1_rule_390 : List (Nat × Jvm.ClassFile.Instr × Nat) := [(390, .invokestatic 76, 3)]
set_option maxRecDepth 20000 in
theorem k_X1_rule_390 {sc : xm_Sc} : xm_bok (xe_cy (XE sc) 46) b_X1_rule_390 := by show xm_bok cX1_rule _; unfold xm_bok; decide +kernel
def b_X1_rule_393 : List (Nat × Jvm.ClassFile.Instr × Nat) := [(393, .iconst 1, 1), (394, .ireturn, 1)]
set_option maxRecDepth 20000 in
theorem k_X1_rule_393 {sc : xm_Sc} : xm_bok (xe_cy (XE sc) 46) b_X1_rule_393 := by show xm_bok cX1_rule _; unfold xm_bok; decide +kernel
set_option maxRecDepth 20000 in
theorem cn_46 {sc : xm_Sc} : xe_cn (XE sc) 46 = 1 := rfl
set_option maxRecDepth 20000 in
theorem ml_46 {sc : xm_Sc} : xe_ml (XE sc) 46 = 8 := rfl
set_option maxRecDepth 20000 in
theorem ry_46 {sc : xm_Sc} : xe_ry (XE sc) 46 = (some .boolean) := rfl
set_option maxRecDepth 20000 in
theorem is_46 {sc : xm_Sc} : xe_is (XE sc) 46 = false := rfl
set_option maxRecDepth 20000 in
theorem np_46 {sc : xm_Sc} : xe_np (XE sc) 46 = 2 := rfl
/- method 47: X1_set -/
def b_X1_set_0 : List (Nat × Jvm.ClassFile.Instr × Nat) := [(0, .aload_n 0, 1), (1, .getfield 56, 3), (4, .iload_n 1, 1), (5, .iload_n 2, 1), (6, .iastore, 1), (7, .aload_n 0, 1), (8, .getfield 63, 3), (11, .iload_n 1, 1), (12, .iload_n 3, 1), (13, .iastore, 1), (14, .return_, 1)]
set_option maxRecDepth 20000 in
theorem k_X1_set_0 {sc : xm_Sc} : xm_bok (xe_cy (XE sc) 47) b_X1_set_0 := by show xm_bok cX1_set _; unfold xm_bok; decide +kernel
set_option maxRecDepth 20000 in
theorem cn_47 {sc : xm_Sc} : xe_cn (XE sc) 47 = 1 := rfl
set_option maxRecDepth 20000 in
theorem ml_47 {sc : xm_Sc} : xe_ml (XE sc) 47 = 4 := rfl
set_option maxRecDepth 20000 in
theorem ry_47 {sc : xm_Sc} : xe_ry (XE sc) 47 = none := rfl
set_option maxRecDepth 20000 in
theorem is_47 {sc : xm_Sc} : xe_is (XE sc) 47 = true := rfl
set_option maxRecDepth 20000 in
theorem np_47 {sc : xm_Sc} : xe_np (XE sc) 47 = 4 := rfl
/- method 48: X1_shapeTerm -/
def b_X1_shapeTerm_0 : List (Nat × Jvm.ClassFile.Instr × Nat) := [(0, .iload_n 0, 1), (1, .tableswitch 96 1 10 #[55, 57, 61, 65, 69, 74, 76, 81, 86, 91], 55)]
set_option maxRecDepth 20000 in
theorem k_X1_shapeTerm_0 {sc : xm_Sc} : xm_bok (xe_cy (XE sc) 48) b_X1_shapeTerm_0 := by show xm_bok cX1_shapeTerm _; unfold xm_bok; decide +kernel
def b_X1_shapeTerm_56 : List (Nat × Jvm.ClassFile.Instr × Nat) := [(56, .iconst 1, 1), (57, .ireturn, 1)]
set_option maxRecDepth 20000 in
theorem k_X1_shapeTerm_56 {sc : xm_Sc} : xm_bok (xe_cy (XE sc) 48) b_X1_shapeTerm_56 := by show xm_bok cX1_shapeTerm _; unfold xm_bok; decide +kernel
def b_X1_shapeTerm_58 : List (Nat × Jvm.ClassFile.Instr × Nat) := [(58, .iconst 3, 1), (59, .iload_n 1, 1), (60, .iadd, 1), (61, .ireturn, 1)]
set_option maxRecDepth 20000 in
theorem k_X1_shapeTerm_58 {sc : xm_Sc} : xm_bok (xe_cy (XE sc) 48) b_X1_shapeTerm_58 := by show xm_bok cX1_shapeTerm _; unfold xm_bok; decide +kernel
def b_X1_shapeTerm_62 : List (Nat × Jvm.ClassFile.Instr × Nat) := [(62, .iconst 4, 1), (63, .iload_n 1, 1), (64, .iadd, 1), (65, .ireturn, 1)]
set_option maxRecDepth 20000 in
theorem k_X1_shapeTerm_62 {sc : xm_Sc} : xm_bok (xe_cy (XE sc) 48) b_X1_shapeTerm_62 := by show xm_bok cX1_shapeTerm _; unfold xm_bok; decide +kernel
def b_X1_shapeTerm_66 : List (Nat × Jvm.ClassFile.Instr × Nat) := [(66, .iconst 5, 1), (67, .iload_n 1, 1), (68, .iadd, 1), (69, .ireturn, 1)]
set_option maxRecDepth 20000 in
theorem k_X1_shapeTerm_66 {sc : xm_Sc} : xm_bok (xe_cy (XE sc) 48) b_X1_shapeTerm_66 := by show xm_bok cX1_shapeTerm _; unfold xm_bok; decide +kernel
def b_X1_shapeTerm_70 : List (Nat × Jvm.ClassFile.Instr × Nat) := [(70, .bipush 6, 2), (72, .iload_n 1, 1), (73, .iadd, 1), (74, .ireturn, 1)]
set_option maxRecDepth 20000 in
theorem k_X1_shapeTerm_70 {sc : xm_Sc} : xm_bok (xe_cy (XE sc) 48) b_X1_shapeTerm_70 := by show xm_bok cX1_shapeTerm _; unfold xm_bok; decide +kernel
def b_X1_shapeTerm_75 : List (Nat × Jvm.ClassFile.Instr × Nat) := [(75, .iconst 4, 1), (76, .ireturn, 1)]
set_option maxRecDepth 20000 in
theorem k_X1_shapeTerm_75 {sc : xm_Sc} : xm_bok (xe_cy (XE sc) 48) b_X1_shapeTerm_75 := by show xm_bok cX1_shapeTerm _; unfold xm_bok; decide +kernel
def b_X1_shapeTerm_77 : List (Nat × Jvm.ClassFile.Instr × Nat) := [(77, .bipush 10, 2), (79, .iload_n 1, 1), (80, .iadd, 1), (81, .ireturn, 1)]
set_option maxRecDepth 20000 in
theorem k_X1_shapeTerm_77 {sc : xm_Sc} : xm_bok (xe_cy (XE sc) 48) b_X1_shapeTerm_77 := by show xm_bok cX1_shapeTerm _; unfold xm_bok; decide +kernel
def b_X1_shapeTerm_82 : List (Nat × Jvm.ClassFile.Instr × Nat) := [(82, .bipush 14, 2), (84, .iload_n 1, 1), (85, .iadd, 1), (86, .ireturn, 1)]
set_option maxRecDepth 20000 in
theorem k_X1_shapeTerm_82 {sc : xm_Sc} : xm_bok (xe_cy (XE sc) 48) b_X1_shapeTerm_82 := by show xm_bok cX1_shapeTerm _; unfold xm_bok; decide +kernel
def b_X1_shapeTerm_87 : List (Nat × Jvm.ClassFile.Instr × Nat) := [(87, .bipush 18, 2), (89, .iload_n 1, 1), (90, .iadd, 1), (91, .ireturn, 1)]
set_option maxRecDepth 20000 in
theorem k_X1_shapeTerm_87 {sc : xm_Sc} : xm_bok (xe_cy (XE sc) 48) b_X1_shapeTerm_87 := by show xm_bok cX1_shapeTerm _; unfold xm_bok; decide +kernel
def b_X1_shapeTerm_92 : List (Nat × Jvm.ClassFile.Instr × Nat) := [(92, .bipush 22, 2), (94, .iload_n 1, 1), (95, .iadd, 1), (96, .ireturn, 1)]
set_option maxRecDepth 20000 in
theorem k_X1_shapeTerm_92 {sc : xm_Sc} : xm_bok (xe_cy (XE sc) 48) b_X1_shapeTerm_92 := by show xm_bok cX1_shapeTerm _; unfold xm_bok; decide +kernel
def b_X1_shapeTerm_97 : List (Nat × Jvm.ClassFile.Instr × Nat) := [(97, .iconst 0, 1), (98, .ireturn, 1)]
set_option maxRecDepth 20000 in
theorem k_X1_shapeTerm_97 {sc : xm_Sc} : xm_bok (xe_cy (XE sc) 48) b_X1_shapeTerm_97 := by show xm_bok cX1_shapeTerm _; unfold xm_bok; decide +kernel
set_option maxRecDepth 20000 in
theorem cn_48 {sc : xm_Sc} : xe_cn (XE sc) 48 = 1 := rfl
set_option maxRecDepth 20000 in
theorem ml_48 {sc : xm_Sc} : xe_ml (XE sc) 48 = 2 := rfl
set_option maxRecDepth 20000 in
theorem ry_48 {sc : xm_Sc} : xe_ry (XE sc) 48 = (some .int) := rfl
set_option maxRecDepth 20000 in
theorem is_48 {sc : xm_Sc} : xe_is (XE sc) 48 = true := rfl
set_option maxRecDepth 20000 in
theorem np_48 {sc : xm_Sc} : xe_np (XE sc) 48 = 2 := rfl
/- method 49: X1_solve -/
def b_X1_solve_0 : List (Nat × Jvm.ClassFile.Instr × Nat) := [(0, .iconst 0, 1), (1, .istore 4, 2)]
set_option maxRecDepth 20000 in
theorem k_X1_solve_0 {sc : xm_Sc} : xm_bok (xe_cy (XE sc) 49) b_X1_solve_0 := by show xm_bok cX1_solve _; unfold xm_bok; decide +kernel
def b_X1_solve_3 : List (Nat × Jvm.ClassFile.Instr × Nat) := [(3, .iload 4, 2), (5, .bipush 26, 2), (7, .if_icmp .ge 26, 3)]
set_option maxRecDepth 20000 in
theorem k_X1_solve_3 {sc : xm_Sc} : xm_bok (xe_cy (XE sc) 49) b_X1_solve_3 := by show xm_bok cX1_solve _; unfold xm_bok; decide +kernel
def b_X1_solve_10 : List (Nat × Jvm.ClassFile.Instr × Nat) := [(10, .aload_n 0, 1), (11, .getfield 23, 3), (14, .iload 4, 2), (16, .iload 4, 2), (18, .iastore, 1), (19, .aload_n 0, 1), (20, .getfield 26, 3), (23, .iload 4, 2), (25, .iconst (-1), 1), (26, .iastore, 1), (27, .iinc 4 1, 3), (30, .goto (-27), 3)]
set_option maxRecDepth 20000 in
theorem k_X1_solve_10 {sc : xm_Sc} : xm_bok (xe_cy (XE sc) 49) b_X1_solve_10 := by show xm_bok cX1_solve _; unfold xm_bok; decide +kernel
def b_X1_solve_33 : List (Nat × Jvm.ClassFile.Instr × Nat) := [(33, .aload_n 0, 1), (34, .bipush 26, 2), (36, .putfield 36, 3), (39, .iconst 0, 1), (40, .istore 4, 2)]
set_option maxRecDepth 20000 in
theorem k_X1_solve_33 {sc : xm_Sc} : xm_bok (xe_cy (XE sc) 49) b_X1_solve_33 := by show xm_bok cX1_solve _; unfold xm_bok; decide +kernel
def b_X1_solve_42 : List (Nat × Jvm.ClassFile.Instr × Nat) := [(42, .iload 4, 2), (44, .iload_n 3, 1), (45, .if_icmp .ge 23, 3)]
set_option maxRecDepth 20000 in
theorem k_X1_solve_42 {sc : xm_Sc} : xm_bok (xe_cy (XE sc) 49) b_X1_solve_42 := by show xm_bok cX1_solve _; unfold xm_bok; decide +kernel
def b_X1_solve_48 : List (Nat × Jvm.ClassFile.Instr × Nat) := [(48, .aload_n 0, 1), (49, .aload_n 1, 1), (50, .aload_n 2, 1), (51, .iload 4, 2), (53, .iaload, 1), (54, .invokevirtual 40, 3)]
set_option maxRecDepth 20000 in
theorem k_X1_solve_48 {sc : xm_Sc} : xm_bok (xe_cy (XE sc) 49) b_X1_solve_48 := by show xm_bok cX1_solve _; unfold xm_bok; decide +kernel
def b_X1_solve_57 : List (Nat × Jvm.ClassFile.Instr × Nat) := [(57, .ifCond .ne 5, 3)]
set_option maxRecDepth 20000 in
theorem k_X1_solve_57 {sc : xm_Sc} : xm_bok (xe_cy (XE sc) 49) b_X1_solve_57 := by show xm_bok cX1_solve _; unfold xm_bok; decide +kernel
def b_X1_solve_60 : List (Nat × Jvm.ClassFile.Instr × Nat) := [(60, .iconst 0, 1), (61, .ireturn, 1)]
set_option maxRecDepth 20000 in
theorem k_X1_solve_60 {sc : xm_Sc} : xm_bok (xe_cy (XE sc) 49) b_X1_solve_60 := by show xm_bok cX1_solve _; unfold xm_bok; decide +kernel
def b_X1_solve_62 : List (Nat × Jvm.ClassFile.Instr × Nat) := [(62, .iinc 4 1, 3), (65, .goto (-23), 3)]
set_option maxRecDepth 20000 in
theorem k_X1_solve_62 {sc : xm_Sc} : xm_bok (xe_cy (XE sc) 49) b_X1_solve_62 := by show xm_bok cX1_solve _; unfold xm_bok; decide +kernel
def b_X1_solve_68 : List (Nat × Jvm.ClassFile.Instr × Nat) := [(68, .aload_n 1, 1), (69, .getfield 44, 3), (72, .invokevirtual 50, 3)]
set_option maxRecDepth 20000 in
theorem k_X1_solve_68 {sc : xm_Sc} : xm_bok (xe_cy (XE sc) 49) b_X1_solve_68 := by show xm_bok cX1_solve _; unfold xm_bok; decide +kernel
def b_X1_solve_75 : List (Nat × Jvm.ClassFile.Instr × Nat) := [(75, .iconst 0, 1), (76, .istore 4, 2)]
set_option maxRecDepth 20000 in
theorem k_X1_solve_75 {sc : xm_Sc} : xm_bok (xe_cy (XE sc) 49) b_X1_solve_75 := by show xm_bok cX1_solve _; unfold xm_bok; decide +kernel
def b_X1_solve_78 : List (Nat × Jvm.ClassFile.Instr × Nat) := [(78, .iload 4, 2), (80, .iload_n 3, 1), (81, .if_icmp .ge 111, 3)]
set_option maxRecDepth 20000 in
theorem k_X1_solve_78 {sc : xm_Sc} : xm_bok (xe_cy (XE sc) 49) b_X1_solve_78 := by show xm_bok cX1_solve _; unfold xm_bok; decide +kernel
def b_X1_solve_84 : List (Nat × Jvm.ClassFile.Instr × Nat) := [(84, .aload_n 2, 1), (85, .iload 4, 2), (87, .iaload, 1), (88, .istore 5, 2), (90, .aload_n 1, 1), (91, .getfield 53, 3), (94, .iload 5, 2), (96, .iaload, 1), (97, .bipush 11, 2), (99, .if_icmp .eq 87, 3)]
set_option maxRecDepth 20000 in
theorem k_X1_solve_84 {sc : xm_Sc} : xm_bok (xe_cy (XE sc) 49) b_X1_solve_84 := by show xm_bok cX1_solve _; unfold xm_bok; decide +kernel
def b_X1_solve_102 : List (Nat × Jvm.ClassFile.Instr × Nat) := [(102, .aload_n 0, 1), (103, .aload_n 1, 1), (104, .getfield 56, 3), (107, .iload 5, 2), (109, .iaload, 1), (110, .aload_n 1, 1), (111, .getfield 44, 3), (114, .invokevirtual 59, 3)]
set_option maxRecDepth 20000 in
theorem k_X1_solve_102 {sc : xm_Sc} : xm_bok (xe_cy (XE sc) 49) b_X1_solve_102 := by show xm_bok cX1_solve _; unfold xm_bok; decide +kernel
def b_X1_solve_117 : List (Nat × Jvm.ClassFile.Instr × Nat) := [(117, .ifCond .eq 21, 3)]
set_option maxRecDepth 20000 in
theorem k_X1_solve_117 {sc : xm_Sc} : xm_bok (xe_cy (XE sc) 49) b_X1_solve_117 := by show xm_bok cX1_solve _; unfold xm_bok; decide +kernel
def b_X1_solve_120 : List (Nat × Jvm.ClassFile.Instr × Nat) := [(120, .aload_n 0, 1), (121, .aload_n 1, 1), (122, .getfield 63, 3), (125, .iload 5, 2), (127, .iaload, 1), (128, .aload_n 1, 1), (129, .getfield 44, 3), (132, .invokevirtual 59, 3)]
set_option maxRecDepth 20000 in
theorem k_X1_solve_120 {sc : xm_Sc} : xm_bok (xe_cy (XE sc) 49) b_X1_solve_120 := by show xm_bok cX1_solve _; unfold xm_bok; decide +kernel
def b_X1_solve_135 : List (Nat × Jvm.ClassFile.Instr × Nat) := [(135, .ifCond .ne 5, 3)]
set_option maxRecDepth 20000 in
theorem k_X1_solve_135 {sc : xm_Sc} : xm_bok (xe_cy (XE sc) 49) b_X1_solve_135 := by show xm_bok cX1_solve _; unfold xm_bok; decide +kernel
def b_X1_solve_138 : List (Nat × Jvm.ClassFile.Instr × Nat) := [(138, .iconst 0, 1), (139, .ireturn, 1)]
set_option maxRecDepth 20000 in
theorem k_X1_solve_138 {sc : xm_Sc} : xm_bok (xe_cy (XE sc) 49) b_X1_solve_138 := by show xm_bok cX1_solve _; unfold xm_bok; decide +kernel
def b_X1_solve_140 : List (Nat × Jvm.ClassFile.Instr × Nat) := [(140, .aload_n 1, 1), (141, .getfield 56, 3), (144, .iload 5, 2), (146, .aload_n 0, 1), (147, .getfield 26, 3), (150, .aload_n 0, 1), (151, .aload_n 1, 1), (152, .getfield 56, 3), (155, .iload 5, 2), (157, .iaload, 1), (158, .invokevirtual 66, 3)]
set_option maxRecDepth 20000 in
theorem k_X1_solve_140 {sc : xm_Sc} : xm_bok (xe_cy (XE sc) 49) b_X1_solve_140 := by show xm_bok cX1_solve _; unfold xm_bok; decide +kernel
def b_X1_solve_161 : List (Nat × Jvm.ClassFile.Instr × Nat) := [(161, .iaload, 1), (162, .iastore, 1), (163, .aload_n 1, 1), (164, .getfield 63, 3), (167, .iload 5, 2), (169, .aload_n 0, 1), (170, .getfield 26, 3), (173, .aload_n 0, 1), (174, .aload_n 1, 1), (175, .getfield 63, 3), (178, .iload 5, 2), (180, .iaload, 1), (181, .invokevirtual 66, 3)]
set_option maxRecDepth 20000 in
theorem k_X1_solve_161 {sc : xm_Sc} : xm_bok (xe_cy (XE sc) 49) b_X1_solve_161 := by show xm_bok cX1_solve _; unfold xm_bok; decide +kernel
def b_X1_solve_184 : List (Nat × Jvm.ClassFile.Instr × Nat) := [(184, .iaload, 1), (185, .iastore, 1)]
set_option maxRecDepth 20000 in
theorem k_X1_solve_184 {sc : xm_Sc} : xm_bok (xe_cy (XE sc) 49) b_X1_solve_184 := by show xm_bok cX1_solve _; unfold xm_bok; decide +kernel
def b_X1_solve_186 : List (Nat × Jvm.ClassFile.Instr × Nat) := [(186, .iinc 4 1, 3), (189, .goto (-111), 3)]
set_option maxRecDepth 20000 in
theorem k_X1_solve_186 {sc : xm_Sc} : xm_bok (xe_cy (XE sc) 49) b_X1_solve_186 := by show xm_bok cX1_solve _; unfold xm_bok; decide +kernel
def b_X1_solve_192 : List (Nat × Jvm.ClassFile.Instr × Nat) := [(192, .iconst 1, 1), (193, .ireturn, 1)]
set_option maxRecDepth 20000 in
theorem k_X1_solve_192 {sc : xm_Sc} : xm_bok (xe_cy (XE sc) 49) b_X1_solve_192 := by show xm_bok cX1_solve _; unfold xm_bok; decide +kernel
set_option maxRecDepth 20000 in
theorem cn_49 {sc : xm_Sc} : xe_cn (XE sc) 49 = 1 := rfl
set_option maxRecDepth 20000 in
theorem ml_49 {sc : xm_Sc} : xe_ml (XE sc) 49 = 6 := rfl
set_option maxRecDepth 20000 in
theorem ry_49 {sc : xm_Sc} : xe_ry (XE sc) 49 = (some .boolean) := rfl
set_option maxRecDepth 20000 in
theorem is_49 {sc : xm_Sc} : xe_is (XE sc) 49 = false := rfl
set_option maxRecDepth 20000 in
theorem np_49 {sc : xm_Sc} : xe_np (XE sc) 49 = 3 := rfl
/- method 50: X1_term -/
def b_X1_term_0 : List (Nat × Jvm.ClassFile.Instr × Nat) := [(0, .aload_n 0, 1), (1, .getfield 36, 3), (4, .sipush 14032, 3), (7, .if_icmp .lt 5, 3)]
set_option maxRecDepth 20000 in
theorem k_X1_term_0 {sc : xm_Sc} : xm_bok (xe_cy (XE sc) 50) b_X1_term_0 := by show xm_bok cX1_term _; unfold xm_bok; decide +kernel
def b_X1_term_10 : List (Nat × Jvm.ClassFile.Instr × Nat) := [(10, .iconst 0, 1), (11, .ireturn, 1)]
set_option maxRecDepth 20000 in
theorem k_X1_term_10 {sc : xm_Sc} : xm_bok (xe_cy (XE sc) 50) b_X1_term_10 := by show xm_bok cX1_term _; unfold xm_bok; decide +kernel
def b_X1_term_12 : List (Nat × Jvm.ClassFile.Instr × Nat) := [(12, .aload_n 0, 1), (13, .getfield 36, 3), (16, .istore 4, 2), (18, .aload_n 0, 1), (19, .dup, 1), (20, .getfield 36, 3), (23, .iconst 1, 1), (24, .iadd, 1), (25, .putfield 36, 3), (28, .aload_n 0, 1), (29, .getfield 13, 3), (32, .iload 4, 2), (34, .iload_n 1, 1), (35, .iastore, 1), (36, .aload_n 0, 1), (37, .getfield 17, 3), (40, .iload 4, 2), (42, .iload_n 2, 1), (43, .iastore, 1), (44, .aload_n 0, 1), (45, .getfield 20, 3), (48, .iload 4, 2), (50, .iload_n 3, 1), (51, .iastore, 1), (52, .aload_n 0, 1), (53, .getfield 23, 3), (56, .iload 4, 2), (58, .iload 4, 2), (60, .iastore, 1), (61, .aload_n 0, 1), (62, .getfield 26, 3), (65, .iload 4, 2), (67, .iconst (-1), 1), (68, .iastore, 1), (69, .iload 4, 2), (71, .ireturn, 1)]
set_option maxRecDepth 20000 in
theorem k_X1_term_12 {sc : xm_Sc} : xm_bok (xe_cy (XE sc) 50) b_X1_term_12 := by show xm_bok cX1_term _; unfold xm_bok; decide +kernel
set_option maxRecDepth 20000 in
theorem cn_50 {sc : xm_Sc} : xe_cn (XE sc) 50 = 1 := rfl
set_option maxRecDepth 20000 in
theorem ml_50 {sc : xm_Sc} : xe_ml (XE sc) 50 = 5 := rfl
set_option maxRecDepth 20000 in
theorem ry_50 {sc : xm_Sc} : xe_ry (XE sc) 50 = (some .int) := rfl
set_option maxRecDepth 20000 in
theorem is_50 {sc : xm_Sc} : xe_is (XE sc) 50 = false := rfl
set_option maxRecDepth 20000 in
theorem np_50 {sc : xm_Sc} : xe_np (XE sc) 50 = 3 := rfl
/- method 51: X1_unify -/
def b_X1_unify_0 : List (Nat × Jvm.ClassFile.Instr × Nat) := [(0, .aload_n 0, 1), (1, .iconst 0, 1), (2, .putfield 111, 3), (5, .aload_n 0, 1), (6, .iload_n 1, 1), (7, .iload_n 2, 1), (8, .invokevirtual 114, 3)]
set_option maxRecDepth 20000 in
theorem k_X1_unify_0 {sc : xm_Sc} : xm_bok (xe_cy (XE sc) 51) b_X1_unify_0 := by show xm_bok cX1_unify _; unfold xm_bok; decide +kernel
def b_X1_unify_11 : List (Nat × Jvm.ClassFile.Instr × Nat) := [(11, .iconst 0, 1), (12, .istore_n 3, 1)]
set_option maxRecDepth 20000 in
theorem k_X1_unify_11 {sc : xm_Sc} : xm_bok (xe_cy (XE sc) 51) b_X1_unify_11 := by show xm_bok cX1_unify _; unfold xm_bok; decide +kernel
def b_X1_unify_13 : List (Nat × Jvm.ClassFile.Instr × Nat) := [(13, .iload_n 3, 1), (14, .ldc 118, 2), (16, .if_icmp .ge 188, 3)]
set_option maxRecDepth 20000 in
theorem k_X1_unify_13 {sc : xm_Sc} : xm_bok (xe_cy (XE sc) 51) b_X1_unify_13 := by show xm_bok cX1_unify _; unfold xm_bok; decide +kernel
def b_X1_unify_19 : List (Nat × Jvm.ClassFile.Instr × Nat) := [(19, .aload_n 0, 1), (20, .getfield 111, 3), (23, .ifCond .le 181, 3)]
set_option maxRecDepth 20000 in
theorem k_X1_unify_19 {sc : xm_Sc} : xm_bok (xe_cy (XE sc) 51) b_X1_unify_19 := by show xm_bok cX1_unify _; unfold xm_bok; decide +kernel
def b_X1_unify_26 : List (Nat × Jvm.ClassFile.Instr × Nat) := [(26, .aload_n 0, 1), (27, .dup, 1), (28, .getfield 111, 3), (31, .iconst 2, 1), (32, .isub, 1), (33, .putfield 111, 3), (36, .aload_n 0, 1), (37, .aload_n 0, 1), (38, .getfield 29, 3), (41, .aload_n 0, 1), (42, .getfield 111, 3), (45, .iaload, 1), (46, .invokevirtual 66, 3)]
set_option maxRecDepth 20000 in
theorem k_X1_unify_26 {sc : xm_Sc} : xm_bok (xe_cy (XE sc) 51) b_X1_unify_26 := by show xm_bok cX1_unify _; unfold xm_bok; decide +kernel
def b_X1_unify_49 : List (Nat × Jvm.ClassFile.Instr × Nat) := [(49, .istore 4, 2), (51, .aload_n 0, 1), (52, .aload_n 0, 1), (53, .getfield 29, 3), (56, .aload_n 0, 1), (57, .getfield 111, 3), (60, .iconst 1, 1), (61, .iadd, 1), (62, .iaload, 1), (63, .invokevirtual 66, 3)]
set_option maxRecDepth 20000 in
theorem k_X1_unify_49 {sc : xm_Sc} : xm_bok (xe_cy (XE sc) 51) b_X1_unify_49 := by show xm_bok cX1_unify _; unfold xm_bok; decide +kernel
def b_X1_unify_66 : List (Nat × Jvm.ClassFile.Instr × Nat) := [(66, .istore 5, 2), (68, .iload 4, 2), (70, .iload 5, 2), (72, .if_icmp .ne 6, 3)]
set_option maxRecDepth 20000 in
theorem k_X1_unify_66 {sc : xm_Sc} : xm_bok (xe_cy (XE sc) 51) b_X1_unify_66 := by show xm_bok cX1_unify _; unfold xm_bok; decide +kernel
def b_X1_unify_75 : List (Nat × Jvm.ClassFile.Instr × Nat) := [(75, .goto 123, 3)]
set_option maxRecDepth 20000 in
theorem k_X1_unify_75 {sc : xm_Sc} : xm_bok (xe_cy (XE sc) 51) b_X1_unify_75 := by show xm_bok cX1_unify _; unfold xm_bok; decide +kernel
def b_X1_unify_78 : List (Nat × Jvm.ClassFile.Instr × Nat) := [(78, .aload_n 0, 1), (79, .getfield 13, 3), (82, .iload 4, 2), (84, .iaload, 1), (85, .iconst 3, 1), (86, .if_icmp .ne 15, 3)]
set_option maxRecDepth 20000 in
theorem k_X1_unify_78 {sc : xm_Sc} : xm_bok (xe_cy (XE sc) 51) b_X1_unify_78 := by show xm_bok cX1_unify _; unfold xm_bok; decide +kernel
def b_X1_unify_89 : List (Nat × Jvm.ClassFile.Instr × Nat) := [(89, .aload_n 0, 1), (90, .getfield 23, 3), (93, .iload 4, 2), (95, .iload 5, 2), (97, .iastore, 1), (98, .goto 100, 3)]
set_option maxRecDepth 20000 in
theorem k_X1_unify_89 {sc : xm_Sc} : xm_bok (xe_cy (XE sc) 51) b_X1_unify_89 := by show xm_bok cX1_unify _; unfold xm_bok; decide +kernel
def b_X1_unify_101 : List (Nat × Jvm.ClassFile.Instr × Nat) := [(101, .aload_n 0, 1), (102, .getfield 13, 3), (105, .iload 5, 2), (107, .iaload, 1), (108, .iconst 3, 1), (109, .if_icmp .ne 15, 3)]
set_option maxRecDepth 20000 in
theorem k_X1_unify_101 {sc : xm_Sc} : xm_bok (xe_cy (XE sc) 51) b_X1_unify_101 := by show xm_bok cX1_unify _; unfold xm_bok; decide +kernel
def b_X1_unify_112 : List (Nat × Jvm.ClassFile.Instr × Nat) := [(112, .aload_n 0, 1), (113, .getfield 23, 3), (116, .iload 5, 2), (118, .iload 4, 2), (120, .iastore, 1), (121, .goto 77, 3)]
set_option maxRecDepth 20000 in
theorem k_X1_unify_112 {sc : xm_Sc} : xm_bok (xe_cy (XE sc) 51) b_X1_unify_112 := by show xm_bok cX1_unify _; unfold xm_bok; decide +kernel
def b_X1_unify_124 : List (Nat × Jvm.ClassFile.Instr × Nat) := [(124, .aload_n 0, 1), (125, .getfield 13, 3), (128, .iload 4, 2), (130, .iaload, 1), (131, .aload_n 0, 1), (132, .getfield 13, 3), (135, .iload 5, 2), (137, .iaload, 1), (138, .if_icmp .eq 5, 3)]
set_option maxRecDepth 20000 in
theorem k_X1_unify_124 {sc : xm_Sc} : xm_bok (xe_cy (XE sc) 51) b_X1_unify_124 := by show xm_bok cX1_unify _; unfold xm_bok; decide +kernel
def b_X1_unify_141 : List (Nat × Jvm.ClassFile.Instr × Nat) := [(141, .iconst 0, 1), (142, .ireturn, 1)]
set_option maxRecDepth 20000 in
theorem k_X1_unify_141 {sc : xm_Sc} : xm_bok (xe_cy (XE sc) 51) b_X1_unify_141 := by show xm_bok cX1_unify _; unfold xm_bok; decide +kernel
def b_X1_unify_143 : List (Nat × Jvm.ClassFile.Instr × Nat) := [(143, .aload_n 0, 1), (144, .getfield 23, 3), (147, .iload 5, 2), (149, .iload 4, 2), (151, .iastore, 1), (152, .aload_n 0, 1), (153, .getfield 13, 3), (156, .iload 4, 2), (158, .iaload, 1), (159, .ifCond .eq 39, 3)]
set_option maxRecDepth 20000 in
theorem k_X1_unify_143 {sc : xm_Sc} : xm_bok (xe_cy (XE sc) 51) b_X1_unify_143 := by show xm_bok cX1_unify _; unfold xm_bok; decide +kernel
def b_X1_unify_162 : List (Nat × Jvm.ClassFile.Instr × Nat) := [(162, .aload_n 0, 1), (163, .aload_n 0, 1), (164, .getfield 20, 3), (167, .iload 4, 2), (169, .iaload, 1), (170, .aload_n 0, 1), (171, .getfield 20, 3), (174, .iload 5, 2), (176, .iaload, 1), (177, .invokevirtual 114, 3)]
set_option maxRecDepth 20000 in
theorem k_X1_unify_162 {sc : xm_Sc} : xm_bok (xe_cy (XE sc) 51) b_X1_unify_162 := by show xm_bok cX1_unify _; unfold xm_bok; decide +kernel
def b_X1_unify_180 : List (Nat × Jvm.ClassFile.Instr × Nat) := [(180, .aload_n 0, 1), (181, .aload_n 0, 1), (182, .getfield 17, 3), (185, .iload 4, 2), (187, .iaload, 1), (188, .aload_n 0, 1), (189, .getfield 17, 3), (192, .iload 5, 2), (194, .iaload, 1), (195, .invokevirtual 114, 3)]
set_option maxRecDepth 20000 in
theorem k_X1_unify_180 {sc : xm_Sc} : xm_bok (xe_cy (XE sc) 51) b_X1_unify_180 := by show xm_bok cX1_unify _; unfold xm_bok; decide +kernel
def b_X1_unify_198 : List (Nat × Jvm.ClassFile.Instr × Nat) := [(198, .iinc 3 1, 3), (201, .goto (-188), 3)]
set_option maxRecDepth 20000 in
theorem k_X1_unify_198 {sc : xm_Sc} : xm_bok (xe_cy (XE sc) 51) b_X1_unify_198 := by show xm_bok cX1_unify _; unfold xm_bok; decide +kernel
def b_X1_unify_204 : List (Nat × Jvm.ClassFile.Instr × Nat) := [(204, .iconst 1, 1), (205, .ireturn, 1)]
set_option maxRecDepth 20000 in
theorem k_X1_unify_204 {sc : xm_Sc} : xm_bok (xe_cy (XE sc) 51) b_X1_unify_204 := by show xm_bok cX1_unify _; unfold xm_bok; decide +kernel
set_option maxRecDepth 20000 in
theorem cn_51 {sc : xm_Sc} : xe_cn (XE sc) 51 = 1 := rfl
set_option maxRecDepth 20000 in
theorem ml_51 {sc : xm_Sc} : xe_ml (XE sc) 51 = 6 := rfl
set_option maxRecDepth 20000 in
theorem ry_51 {sc : xm_Sc} : xe_ry (XE sc) 51 = (some .boolean) := rfl
set_option maxRecDepth 20000 in
theorem is_51 {sc : xm_Sc} : xe_is (XE sc) 51 = false := rfl
set_option maxRecDepth 20000 in
theorem np_51 {sc : xm_Sc} : xe_np (XE sc) 51 = 2 := rfl
set_option maxRecDepth 20000 in
theorem fl_1_13 {sc : xm_Sc} : xe_fl (XE sc) 1 13 = some (1, 0) := rfl
set_option maxRecDepth 20000 in
theorem fl_1_17 {sc : xm_Sc} : xe_fl (XE sc) 1 17 = some (1, 1) := rfl
set_option maxRecDepth 20000 in
theorem fl_1_20 {sc : xm_Sc} : xe_fl (XE sc) 1 20 = some (1, 2) := rfl
set_option maxRecDepth 20000 in
theorem fl_1_23 {sc : xm_Sc} : xe_fl (XE sc) 1 23 = some (1, 3) := rfl
set_option maxRecDepth 20000 in
theorem fl_1_26 {sc : xm_Sc} : xe_fl (XE sc) 1 26 = some (1, 4) := rfl
set_option maxRecDepth 20000 in
theorem fl_1_29 {sc : xm_Sc} : xe_fl (XE sc) 1 29 = some (1, 5) := rfl
set_option maxRecDepth 20000 in
theorem fl_1_36 {sc : xm_Sc} : xe_fl (XE sc) 1 36 = some (1, 6) := rfl
set_option maxRecDepth 20000 in
theorem fl_1_44 {sc : xm_Sc} : xe_fl (XE sc) 1 44 = some (6, 13) := rfl
set_option maxRecDepth 20000 in
theorem fl_1_53 {sc : xm_Sc} : xe_fl (XE sc) 1 53 = some (6, 1) := rfl
set_option maxRecDepth 20000 in
theorem fl_1_56 {sc : xm_Sc} : xe_fl (XE sc) 1 56 = some (6, 6) := rfl
set_option maxRecDepth 20000 in
theorem fl_1_63 {sc : xm_Sc} : xe_fl (XE sc) 1 63 = some (6, 7) := rfl
set_option maxRecDepth 20000 in
theorem fl_1_70 {sc : xm_Sc} : xe_fl (XE sc) 1 70 = some (6, 2) := rfl
set_option maxRecDepth 20000 in
theorem fl_1_73 {sc : xm_Sc} : xe_fl (XE sc) 1 73 = some (6, 3) := rfl
set_option maxRecDepth 20000 in
theorem fl_1_96 {sc : xm_Sc} : xe_fl (XE sc) 1 96 = some (6, 4) := rfl
set_option maxRecDepth 20000 in
theorem fl_1_111 {sc : xm_Sc} : xe_fl (XE sc) 1 111 = some (1, 7) := rfl
set_option maxRecDepth 20000 in
theorem ki_1_118 {sc : xm_Sc} : xe_kI (XE sc) 1 118 = some 56128 := rfl
set_option maxRecDepth 20000 in
theorem gs_1_99 {sc : xm_Sc} : xe_gs (XE sc) 1 99 = some 200 := rfl
set_option maxRecDepth 20000 in
theorem gs_1_108 {sc : xm_Sc} : xe_gs (XE sc) 1 108 = some 201 := rfl
set_option maxRecDepth 20000 in
theorem lk_1_40 {sc : xm_Sc} : xe_lk (XE sc) 1 40 = some 46 := rfl
set_option maxRecDepth 20000 in
theorem lk_1_50 {sc : xm_Sc} : xe_lk (XE sc) 1 50 = some 165 := rfl
set_option maxRecDepth 20000 in
theorem lk_1_59 {sc : xm_Sc} : xe_lk (XE sc) 1 59 = some 45 := rfl
set_option maxRecDepth 20000 in
theorem lk_1_66 {sc : xm_Sc} : xe_lk (XE sc) 1 66 = some 41 := rfl
set_option maxRecDepth 20000 in
theorem lk_1_76 {sc : xm_Sc} : xe_lk (XE sc) 1 76 = some 47 := rfl
set_option maxRecDepth 20000 in
theorem lk_1_80 {sc : xm_Sc} : xe_lk (XE sc) 1 80 = some 51 := rfl
set_option maxRecDepth 20000 in
theorem lk_1_84 {sc : xm_Sc} : xe_lk (XE sc) 1 84 = some 40 := rfl
set_option maxRecDepth 20000 in
theorem lk_1_88 {sc : xm_Sc} : xe_lk (XE sc) 1 88 = some 50 := rfl
set_option maxRecDepth 20000 in
theorem lk_1_92 {sc : xm_Sc} : xe_lk (XE sc) 1 92 = some 43 := rfl
set_option maxRecDepth 20000 in
theorem lk_1_104 {sc : xm_Sc} : xe_lk (XE sc) 1 104 = some 48 := rfl
set_option maxRecDepth 20000 in
theorem lk_1_114 {sc : xm_Sc} : xe_lk (XE sc) 1 114 = some 44 := rfl
set_option maxRecDepth 20000 in
theorem lk_1_119 {sc : xm_Sc} : xe_lk (XE sc) 1 119 = some 164 := rfl
