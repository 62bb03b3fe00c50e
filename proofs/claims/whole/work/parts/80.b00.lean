/- method 0: X0_add -/
def b_X0_add_0 : List (Nat × Jvm.ClassFile.Instr × Nat) := [(0, .aload_n 0, 1), (1, .getfield 39, 3), (4, .sipush 8000, 3), (7, .if_icmp .ge 10, 3)]
set_option maxRecDepth 20000 in
theorem k_X0_add_0 {sc : xm_Sc} : xm_bok (xe_cy (XE sc) 0) b_X0_add_0 := by show xm_bok cX0_add _; unfold xm_bok; decide +kernel
def b_X0_add_10 : List (Nat × Jvm.ClassFile.Instr × Nat) := [(10, .aload_n 0, 1), (11, .getfield 39, 3), (14, .goto 6, 3)]
set_option maxRecDepth 20000 in
theorem k_X0_add_10 {sc : xm_Sc} : xm_bok (xe_cy (XE sc) 0) b_X0_add_10 := by show xm_bok cX0_add _; unfold xm_bok; decide +kernel
def b_X0_add_17 : List (Nat × Jvm.ClassFile.Instr × Nat) := [(17, .sipush 7999, 3)]
set_option maxRecDepth 20000 in
theorem k_X0_add_17 {sc : xm_Sc} : xm_bok (xe_cy (XE sc) 0) b_X0_add_17 := by show xm_bok cX0_add _; unfold xm_bok; decide +kernel
def b_X0_add_20 : List (Nat × Jvm.ClassFile.Instr × Nat) := [(20, .istore 8, 2), (22, .aload_n 0, 1), (23, .iload 8, 2), (25, .iconst 1, 1), (26, .iadd, 1), (27, .putfield 39, 3), (30, .aload_n 0, 1), (31, .getfield 11, 3), (34, .iload 8, 2), (36, .iload_n 1, 1), (37, .iastore, 1), (38, .aload_n 0, 1), (39, .getfield 15, 3), (42, .iload 8, 2), (44, .iload_n 2, 1), (45, .iastore, 1), (46, .aload_n 0, 1), (47, .getfield 18, 3), (50, .iload 8, 2), (52, .iload_n 3, 1), (53, .iastore, 1), (54, .aload_n 0, 1), (55, .getfield 21, 3), (58, .iload 8, 2), (60, .iload 4, 2), (62, .iastore, 1), (63, .aload_n 0, 1), (64, .getfield 24, 3), (67, .iload 8, 2), (69, .iload 5, 2), (71, .iastore, 1), (72, .aload_n 0, 1), (73, .getfield 30, 3), (76, .iload 8, 2), (78, .iload 6, 2), (80, .iastore, 1), (81, .aload_n 0, 1), (82, .getfield 33, 3), (85, .iload 8, 2), (87, .iload 7, 2), (89, .iastore, 1), (90, .iload 8, 2), (92, .ireturn, 1)]
set_option maxRecDepth 20000 in
theorem k_X0_add_20 {sc : xm_Sc} : xm_bok (xe_cy (XE sc) 0) b_X0_add_20 := by show xm_bok cX0_add _; unfold xm_bok; decide +kernel
set_option maxRecDepth 20000 in
theorem cn_0 {sc : xm_Sc} : xe_cn (XE sc) 0 = 0 := rfl
set_option maxRecDepth 20000 in
theorem ml_0 {sc : xm_Sc} : xe_ml (XE sc) 0 = 9 := rfl
set_option maxRecDepth 20000 in
theorem ry_0 {sc : xm_Sc} : xe_ry (XE sc) 0 = (some .int) := rfl
set_option maxRecDepth 20000 in
theorem is_0 {sc : xm_Sc} : xe_is (XE sc) 0 = false := rfl
set_option maxRecDepth 20000 in
theorem np_0 {sc : xm_Sc} : xe_np (XE sc) 0 = 7 := rfl
/- method 1: X0_addedBytes -/
def b_X0_addedBytes_0 : List (Nat × Jvm.ClassFile.Instr × Nat) := [(0, .aload_n 0, 1), (1, .aload_n 0, 1), (2, .iconst 0, 1), (3, .iconst 3, 1), (4, .invokevirtual 83, 3)]
set_option maxRecDepth 20000 in
theorem k_X0_addedBytes_0 {sc : xm_Sc} : xm_bok (xe_cy (XE sc) 1) b_X0_addedBytes_0 := by show xm_bok cX0_addedBytes _; unfold xm_bok; decide +kernel
def b_X0_addedBytes_7 : List (Nat × Jvm.ClassFile.Instr × Nat) := [(7, .aload_n 0, 1), (8, .iconst 1, 1), (9, .bipush 8, 2), (11, .invokevirtual 92, 3)]
set_option maxRecDepth 20000 in
theorem k_X0_addedBytes_7 {sc : xm_Sc} : xm_bok (xe_cy (XE sc) 1) b_X0_addedBytes_7 := by show xm_bok cX0_addedBytes _; unfold xm_bok; decide +kernel
def b_X0_addedBytes_14 : List (Nat × Jvm.ClassFile.Instr × Nat) := [(14, .invokevirtual 86, 3)]
set_option maxRecDepth 20000 in
theorem k_X0_addedBytes_14 {sc : xm_Sc} : xm_bok (xe_cy (XE sc) 1) b_X0_addedBytes_14 := by show xm_bok cX0_addedBytes _; unfold xm_bok; decide +kernel
def b_X0_addedBytes_17 : List (Nat × Jvm.ClassFile.Instr × Nat) := [(17, .ireturn, 1)]
set_option maxRecDepth 20000 in
theorem k_X0_addedBytes_17 {sc : xm_Sc} : xm_bok (xe_cy (XE sc) 1) b_X0_addedBytes_17 := by show xm_bok cX0_addedBytes _; unfold xm_bok; decide +kernel
set_option maxRecDepth 20000 in
theorem cn_1 {sc : xm_Sc} : xe_cn (XE sc) 1 = 0 := rfl
set_option maxRecDepth 20000 in
theorem ml_1 {sc : xm_Sc} : xe_ml (XE sc) 1 = 1 := rfl
set_option maxRecDepth 20000 in
theorem ry_1 {sc : xm_Sc} : xe_ry (XE sc) 1 = (some .int) := rfl
set_option maxRecDepth 20000 in
theorem is_1 {sc : xm_Sc} : xe_is (XE sc) 1 = false := rfl
set_option maxRecDepth 20000 in
theorem np_1 {sc : xm_Sc} : xe_np (XE sc) 1 = 0 := rfl
/- method 2: X0_barrel -/
def b_X0_barrel_0 : List (Nat × Jvm.ClassFile.Instr × Nat) := [(0, .iconst 1, 1), (1, .iload_n 2, 1), (2, .ishl, 1), (3, .istore_n 3, 1), (4, .iload_n 1, 1), (5, .bipush 33, 2), (7, .if_icmp .ne 12, 3)]
set_option maxRecDepth 20000 in
theorem k_X0_barrel_0 {sc : xm_Sc} : xm_bok (xe_cy (XE sc) 2) b_X0_barrel_0 := by show xm_bok cX0_barrel _; unfold xm_bok; decide +kernel
def b_X0_barrel_10 : List (Nat × Jvm.ClassFile.Instr × Nat) := [(10, .aload_n 0, 1), (11, .iload_n 2, 1), (12, .iload_n 3, 1), (13, .invokevirtual 89, 3)]
set_option maxRecDepth 20000 in
theorem k_X0_barrel_10 {sc : xm_Sc} : xm_bok (xe_cy (XE sc) 2) b_X0_barrel_10 := by show xm_bok cX0_barrel _; unfold xm_bok; decide +kernel
def b_X0_barrel_16 : List (Nat × Jvm.ClassFile.Instr × Nat) := [(16, .goto 8, 3)]
set_option maxRecDepth 20000 in
theorem k_X0_barrel_16 {sc : xm_Sc} : xm_bok (xe_cy (XE sc) 2) b_X0_barrel_16 := by show xm_bok cX0_barrel _; unfold xm_bok; decide +kernel
def b_X0_barrel_19 : List (Nat × Jvm.ClassFile.Instr × Nat) := [(19, .aload_n 0, 1), (20, .iload_n 3, 1), (21, .invokevirtual 76, 3)]
set_option maxRecDepth 20000 in
theorem k_X0_barrel_19 {sc : xm_Sc} : xm_bok (xe_cy (XE sc) 2) b_X0_barrel_19 := by show xm_bok cX0_barrel _; unfold xm_bok; decide +kernel
def b_X0_barrel_24 : List (Nat × Jvm.ClassFile.Instr × Nat) := [(24, .istore 4, 2), (26, .iload_n 1, 1), (27, .bipush 32, 2), (29, .if_icmp .ne 12, 3)]
set_option maxRecDepth 20000 in
theorem k_X0_barrel_24 {sc : xm_Sc} : xm_bok (xe_cy (XE sc) 2) b_X0_barrel_24 := by show xm_bok cX0_barrel _; unfold xm_bok; decide +kernel
def b_X0_barrel_32 : List (Nat × Jvm.ClassFile.Instr × Nat) := [(32, .aload_n 0, 1), (33, .iload_n 2, 1), (34, .iload_n 3, 1), (35, .invokevirtual 89, 3)]
set_option maxRecDepth 20000 in
theorem k_X0_barrel_32 {sc : xm_Sc} : xm_bok (xe_cy (XE sc) 2) b_X0_barrel_32 := by show xm_bok cX0_barrel _; unfold xm_bok; decide +kernel
def b_X0_barrel_38 : List (Nat × Jvm.ClassFile.Instr × Nat) := [(38, .goto 8, 3)]
set_option maxRecDepth 20000 in
theorem k_X0_barrel_38 {sc : xm_Sc} : xm_bok (xe_cy (XE sc) 2) b_X0_barrel_38 := by show xm_bok cX0_barrel _; unfold xm_bok; decide +kernel
def b_X0_barrel_41 : List (Nat × Jvm.ClassFile.Instr × Nat) := [(41, .aload_n 0, 1), (42, .iload_n 3, 1), (43, .invokevirtual 76, 3)]
set_option maxRecDepth 20000 in
theorem k_X0_barrel_41 {sc : xm_Sc} : xm_bok (xe_cy (XE sc) 2) b_X0_barrel_41 := by show xm_bok cX0_barrel _; unfold xm_bok; decide +kernel
def b_X0_barrel_46 : List (Nat × Jvm.ClassFile.Instr × Nat) := [(46, .istore 5, 2), (48, .aload_n 0, 1), (49, .bipush 8, 2), (51, .iload_n 3, 1), (52, .iadd, 1), (53, .invokevirtual 76, 3)]
set_option maxRecDepth 20000 in
theorem k_X0_barrel_46 {sc : xm_Sc} : xm_bok (xe_cy (XE sc) 2) b_X0_barrel_46 := by show xm_bok cX0_barrel _; unfold xm_bok; decide +kernel
def b_X0_barrel_56 : List (Nat × Jvm.ClassFile.Instr × Nat) := [(56, .istore 6, 2), (58, .iconst 0, 1), (59, .istore 7, 2)]
set_option maxRecDepth 20000 in
theorem k_X0_barrel_56 {sc : xm_Sc} : xm_bok (xe_cy (XE sc) 2) b_X0_barrel_56 := by show xm_bok cX0_barrel _; unfold xm_bok; decide +kernel
def b_X0_barrel_61 : List (Nat × Jvm.ClassFile.Instr × Nat) := [(61, .iload 7, 2), (63, .bipush 8, 2), (65, .if_icmp .ge 133, 3)]
set_option maxRecDepth 20000 in
theorem k_X0_barrel_61 {sc : xm_Sc} : xm_bok (xe_cy (XE sc) 2) b_X0_barrel_61 := by show xm_bok cX0_barrel _; unfold xm_bok; decide +kernel
def b_X0_barrel_68 : List (Nat × Jvm.ClassFile.Instr × Nat) := [(68, .aload_n 0, 1), (69, .iload_n 2, 1), (70, .iload_n 3, 1), (71, .invokevirtual 89, 3)]
set_option maxRecDepth 20000 in
theorem k_X0_barrel_68 {sc : xm_Sc} : xm_bok (xe_cy (XE sc) 2) b_X0_barrel_68 := by show xm_bok cX0_barrel _; unfold xm_bok; decide +kernel
def b_X0_barrel_74 : List (Nat × Jvm.ClassFile.Instr × Nat) := [(74, .istore 8, 2), (76, .iload 7, 2), (78, .iload_n 2, 1), (79, .if_icmp .ge 41, 3)]
set_option maxRecDepth 20000 in
theorem k_X0_barrel_74 {sc : xm_Sc} : xm_bok (xe_cy (XE sc) 2) b_X0_barrel_74 := by show xm_bok cX0_barrel _; unfold xm_bok; decide +kernel
def b_X0_barrel_82 : List (Nat × Jvm.ClassFile.Instr × Nat) := [(82, .aload_n 0, 1), (83, .aload_n 0, 1), (84, .iload 4, 2), (86, .iload 5, 2), (88, .invokevirtual 80, 3)]
set_option maxRecDepth 20000 in
theorem k_X0_barrel_82 {sc : xm_Sc} : xm_bok (xe_cy (XE sc) 2) b_X0_barrel_82 := by show xm_bok cX0_barrel _; unfold xm_bok; decide +kernel
def b_X0_barrel_91 : List (Nat × Jvm.ClassFile.Instr × Nat) := [(91, .aload_n 0, 1), (92, .iload_n 2, 1), (93, .iload 7, 2), (95, .iload_n 1, 1), (96, .bipush 33, 2), (98, .if_icmp .eq 9, 3)]
set_option maxRecDepth 20000 in
theorem k_X0_barrel_91 {sc : xm_Sc} : xm_bok (xe_cy (XE sc) 2) b_X0_barrel_91 := by show xm_bok cX0_barrel _; unfold xm_bok; decide +kernel
def b_X0_barrel_101 : List (Nat × Jvm.ClassFile.Instr × Nat) := [(101, .iload_n 1, 1), (102, .bipush 35, 2), (104, .if_icmp .ne 7, 3)]
set_option maxRecDepth 20000 in
theorem k_X0_barrel_101 {sc : xm_Sc} : xm_bok (xe_cy (XE sc) 2) b_X0_barrel_101 := by show xm_bok cX0_barrel _; unfold xm_bok; decide +kernel
def b_X0_barrel_107 : List (Nat × Jvm.ClassFile.Instr × Nat) := [(107, .iconst 1, 1), (108, .goto 4, 3)]
set_option maxRecDepth 20000 in
theorem k_X0_barrel_107 {sc : xm_Sc} : xm_bok (xe_cy (XE sc) 2) b_X0_barrel_107 := by show xm_bok cX0_barrel _; unfold xm_bok; decide +kernel
def b_X0_barrel_111 : List (Nat × Jvm.ClassFile.Instr × Nat) := [(111, .iconst 0, 1)]
set_option maxRecDepth 20000 in
theorem k_X0_barrel_111 {sc : xm_Sc} : xm_bok (xe_cy (XE sc) 2) b_X0_barrel_111 := by show xm_bok cX0_barrel _; unfold xm_bok; decide +kernel
def b_X0_barrel_112 : List (Nat × Jvm.ClassFile.Instr × Nat) := [(112, .invokevirtual 159, 3)]
set_option maxRecDepth 20000 in
theorem k_X0_barrel_112 {sc : xm_Sc} : xm_bok (xe_cy (XE sc) 2) b_X0_barrel_112 := by show xm_bok cX0_barrel _; unfold xm_bok; decide +kernel
def b_X0_barrel_115 : List (Nat × Jvm.ClassFile.Instr × Nat) := [(115, .invokevirtual 86, 3)]
set_option maxRecDepth 20000 in
theorem k_X0_barrel_115 {sc : xm_Sc} : xm_bok (xe_cy (XE sc) 2) b_X0_barrel_115 := by show xm_bok cX0_barrel _; unfold xm_bok; decide +kernel
def b_X0_barrel_118 : List (Nat × Jvm.ClassFile.Instr × Nat) := [(118, .istore 8, 2)]
set_option maxRecDepth 20000 in
theorem k_X0_barrel_118 {sc : xm_Sc} : xm_bok (xe_cy (XE sc) 2) b_X0_barrel_118 := by show xm_bok cX0_barrel _; unfold xm_bok; decide +kernel
def b_X0_barrel_120 : List (Nat × Jvm.ClassFile.Instr × Nat) := [(120, .iload 7, 2), (122, .iload_n 2, 1), (123, .if_icmp .lt 9, 3)]
set_option maxRecDepth 20000 in
theorem k_X0_barrel_120 {sc : xm_Sc} : xm_bok (xe_cy (XE sc) 2) b_X0_barrel_120 := by show xm_bok cX0_barrel _; unfold xm_bok; decide +kernel
def b_X0_barrel_126 : List (Nat × Jvm.ClassFile.Instr × Nat) := [(126, .iload_n 1, 1), (127, .bipush 34, 2), (129, .if_icmp .ge 63, 3)]
set_option maxRecDepth 20000 in
theorem k_X0_barrel_126 {sc : xm_Sc} : xm_bok (xe_cy (XE sc) 2) b_X0_barrel_126 := by show xm_bok cX0_barrel _; unfold xm_bok; decide +kernel
def b_X0_barrel_132 : List (Nat × Jvm.ClassFile.Instr × Nat) := [(132, .aload_n 0, 1), (133, .aload_n 0, 1), (134, .aload_n 0, 1), (135, .aload_n 0, 1), (136, .iload 7, 2), (138, .invokevirtual 162, 3)]
set_option maxRecDepth 20000 in
theorem k_X0_barrel_132 {sc : xm_Sc} : xm_bok (xe_cy (XE sc) 2) b_X0_barrel_132 := by show xm_bok cX0_barrel _; unfold xm_bok; decide +kernel
def b_X0_barrel_141 : List (Nat × Jvm.ClassFile.Instr × Nat) := [(141, .iload_n 3, 1), (142, .invokevirtual 101, 3)]
set_option maxRecDepth 20000 in
theorem k_X0_barrel_141 {sc : xm_Sc} : xm_bok (xe_cy (XE sc) 2) b_X0_barrel_141 := by show xm_bok cX0_barrel _; unfold xm_bok; decide +kernel
def b_X0_barrel_145 : List (Nat × Jvm.ClassFile.Instr × Nat) := [(145, .aload_n 0, 1), (146, .bipush 8, 2), (148, .iload_n 3, 1), (149, .invokevirtual 92, 3)]
set_option maxRecDepth 20000 in
theorem k_X0_barrel_145 {sc : xm_Sc} : xm_bok (xe_cy (XE sc) 2) b_X0_barrel_145 := by show xm_bok cX0_barrel _; unfold xm_bok; decide +kernel
def b_X0_barrel_152 : List (Nat × Jvm.ClassFile.Instr × Nat) := [(152, .invokevirtual 80, 3)]
set_option maxRecDepth 20000 in
theorem k_X0_barrel_152 {sc : xm_Sc} : xm_bok (xe_cy (XE sc) 2) b_X0_barrel_152 := by show xm_bok cX0_barrel _; unfold xm_bok; decide +kernel
def b_X0_barrel_155 : List (Nat × Jvm.ClassFile.Instr × Nat) := [(155, .aload_n 0, 1), (156, .aload_n 0, 1), (157, .iload_n 3, 1), (158, .invokevirtual 76, 3)]
set_option maxRecDepth 20000 in
theorem k_X0_barrel_155 {sc : xm_Sc} : xm_bok (xe_cy (XE sc) 2) b_X0_barrel_155 := by show xm_bok cX0_barrel _; unfold xm_bok; decide +kernel
def b_X0_barrel_161 : List (Nat × Jvm.ClassFile.Instr × Nat) := [(161, .iload 8, 2), (163, .invokevirtual 98, 3)]
set_option maxRecDepth 20000 in
theorem k_X0_barrel_161 {sc : xm_Sc} : xm_bok (xe_cy (XE sc) 2) b_X0_barrel_161 := by show xm_bok cX0_barrel _; unfold xm_bok; decide +kernel
def b_X0_barrel_166 : List (Nat × Jvm.ClassFile.Instr × Nat) := [(166, .invokevirtual 86, 3)]
set_option maxRecDepth 20000 in
theorem k_X0_barrel_166 {sc : xm_Sc} : xm_bok (xe_cy (XE sc) 2) b_X0_barrel_166 := by show xm_bok cX0_barrel _; unfold xm_bok; decide +kernel
def b_X0_barrel_169 : List (Nat × Jvm.ClassFile.Instr × Nat) := [(169, .istore 9, 2), (171, .aload_n 0, 1), (172, .iload 6, 2), (174, .aload_n 0, 1), (175, .aload_n 0, 1), (176, .bipush 8, 2), (178, .iload_n 3, 1), (179, .invokevirtual 95, 3)]
set_option maxRecDepth 20000 in
theorem k_X0_barrel_169 {sc : xm_Sc} : xm_bok (xe_cy (XE sc) 2) b_X0_barrel_169 := by show xm_bok cX0_barrel _; unfold xm_bok; decide +kernel
def b_X0_barrel_182 : List (Nat × Jvm.ClassFile.Instr × Nat) := [(182, .iload 9, 2), (184, .invokevirtual 80, 3)]
set_option maxRecDepth 20000 in
theorem k_X0_barrel_182 {sc : xm_Sc} : xm_bok (xe_cy (XE sc) 2) b_X0_barrel_182 := by show xm_bok cX0_barrel _; unfold xm_bok; decide +kernel
def b_X0_barrel_187 : List (Nat × Jvm.ClassFile.Instr × Nat) := [(187, .invokevirtual 86, 3)]
set_option maxRecDepth 20000 in
theorem k_X0_barrel_187 {sc : xm_Sc} : xm_bok (xe_cy (XE sc) 2) b_X0_barrel_187 := by show xm_bok cX0_barrel _; unfold xm_bok; decide +kernel
def b_X0_barrel_190 : List (Nat × Jvm.ClassFile.Instr × Nat) := [(190, .istore 6, 2)]
set_option maxRecDepth 20000 in
theorem k_X0_barrel_190 {sc : xm_Sc} : xm_bok (xe_cy (XE sc) 2) b_X0_barrel_190 := by show xm_bok cX0_barrel _; unfold xm_bok; decide +kernel
def b_X0_barrel_192 : List (Nat × Jvm.ClassFile.Instr × Nat) := [(192, .iinc 7 1, 3), (195, .goto (-134), 3)]
set_option maxRecDepth 20000 in
theorem k_X0_barrel_192 {sc : xm_Sc} : xm_bok (xe_cy (XE sc) 2) b_X0_barrel_192 := by show xm_bok cX0_barrel _; unfold xm_bok; decide +kernel
def b_X0_barrel_198 : List (Nat × Jvm.ClassFile.Instr × Nat) := [(198, .aload_n 0, 1), (199, .iload 6, 2), (201, .aload_n 0, 1), (202, .bipush 8, 2), (204, .iload_n 3, 1), (205, .invokevirtual 92, 3)]
set_option maxRecDepth 20000 in
theorem k_X0_barrel_198 {sc : xm_Sc} : xm_bok (xe_cy (XE sc) 2) b_X0_barrel_198 := by show xm_bok cX0_barrel _; unfold xm_bok; decide +kernel
def b_X0_barrel_208 : List (Nat × Jvm.ClassFile.Instr × Nat) := [(208, .invokevirtual 86, 3)]
set_option maxRecDepth 20000 in
theorem k_X0_barrel_208 {sc : xm_Sc} : xm_bok (xe_cy (XE sc) 2) b_X0_barrel_208 := by show xm_bok cX0_barrel _; unfold xm_bok; decide +kernel
def b_X0_barrel_211 : List (Nat × Jvm.ClassFile.Instr × Nat) := [(211, .ireturn, 1)]
set_option maxRecDepth 20000 in
theorem k_X0_barrel_211 {sc : xm_Sc} : xm_bok (xe_cy (XE sc) 2) b_X0_barrel_211 := by show xm_bok cX0_barrel _; unfold xm_bok; decide +kernel
set_option maxRecDepth 20000 in
theorem cn_2 {sc : xm_Sc} : xe_cn (XE sc) 2 = 0 := rfl
set_option maxRecDepth 20000 in
theorem ml_2 {sc : xm_Sc} : xe_ml (XE sc) 2 = 10 := rfl
set_option maxRecDepth 20000 in
theorem ry_2 {sc : xm_Sc} : xe_ry (XE sc) 2 = (some .int) := rfl
set_option maxRecDepth 20000 in
theorem is_2 {sc : xm_Sc} : xe_is (XE sc) 2 = false := rfl
set_option maxRecDepth 20000 in
theorem np_2 {sc : xm_Sc} : xe_np (XE sc) 2 = 2 := rfl
/- method 3: X0_bit -/
def b_X0_bit_0 : List (Nat × Jvm.ClassFile.Instr × Nat) := [(0, .aload_n 0, 1), (1, .bipush 8, 2), (3, .iconst (-1), 1), (4, .iconst (-1), 1), (5, .iconst 0, 1), (6, .iconst 0, 1), (7, .iload_n 2, 1), (8, .iconst 0, 1), (9, .invokevirtual 43, 3)]
set_option maxRecDepth 20000 in
theorem k_X0_bit_0 {sc : xm_Sc} : xm_bok (xe_cy (XE sc) 3) b_X0_bit_0 := by show xm_bok cX0_bit _; unfold xm_bok; decide +kernel
def b_X0_bit_12 : List (Nat × Jvm.ClassFile.Instr × Nat) := [(12, .istore_n 3, 1), (13, .aload_n 0, 1), (14, .iload_n 1, 1), (15, .ifCond .ne 7, 3)]
set_option maxRecDepth 20000 in
theorem k_X0_bit_12 {sc : xm_Sc} : xm_bok (xe_cy (XE sc) 3) b_X0_bit_12 := by show xm_bok cX0_bit _; unfold xm_bok; decide +kernel
def b_X0_bit_18 : List (Nat × Jvm.ClassFile.Instr × Nat) := [(18, .iconst 3, 1), (19, .goto 4, 3)]
set_option maxRecDepth 20000 in
theorem k_X0_bit_18 {sc : xm_Sc} : xm_bok (xe_cy (XE sc) 3) b_X0_bit_18 := by show xm_bok cX0_bit _; unfold xm_bok; decide +kernel
def b_X0_bit_22 : List (Nat × Jvm.ClassFile.Instr × Nat) := [(22, .iconst 4, 1)]
set_option maxRecDepth 20000 in
theorem k_X0_bit_22 {sc : xm_Sc} : xm_bok (xe_cy (XE sc) 3) b_X0_bit_22 := by show xm_bok cX0_bit _; unfold xm_bok; decide +kernel
def b_X0_bit_23 : List (Nat × Jvm.ClassFile.Instr × Nat) := [(23, .iload_n 3, 1), (24, .iconst (-1), 1), (25, .iconst 0, 1), (26, .iconst 0, 1), (27, .iload_n 2, 1), (28, .iconst 1, 1), (29, .invokevirtual 43, 3)]
set_option maxRecDepth 20000 in
theorem k_X0_bit_23 {sc : xm_Sc} : xm_bok (xe_cy (XE sc) 3) b_X0_bit_23 := by show xm_bok cX0_bit _; unfold xm_bok; decide +kernel
def b_X0_bit_32 : List (Nat × Jvm.ClassFile.Instr × Nat) := [(32, .ireturn, 1)]
set_option maxRecDepth 20000 in
theorem k_X0_bit_32 {sc : xm_Sc} : xm_bok (xe_cy (XE sc) 3) b_X0_bit_32 := by show xm_bok cX0_bit _; unfold xm_bok; decide +kernel
set_option maxRecDepth 20000 in
theorem cn_3 {sc : xm_Sc} : xe_cn (XE sc) 3 = 0 := rfl
set_option maxRecDepth 20000 in
theorem ml_3 {sc : xm_Sc} : xe_ml (XE sc) 3 = 4 := rfl
set_option maxRecDepth 20000 in
theorem ry_3 {sc : xm_Sc} : xe_ry (XE sc) 3 = (some .int) := rfl
set_option maxRecDepth 20000 in
theorem is_3 {sc : xm_Sc} : xe_is (XE sc) 3 = false := rfl
set_option maxRecDepth 20000 in
theorem np_3 {sc : xm_Sc} : xe_np (XE sc) 3 = 2 := rfl
/- method 4: X0_bitOfByte -/
def b_X0_bitOfByte_0 : List (Nat × Jvm.ClassFile.Instr × Nat) := [(0, .iload_n 1, 1), (1, .iconst 1, 1), (2, .iand, 1), (3, .ifCond .eq 12, 3)]
set_option maxRecDepth 20000 in
theorem k_X0_bitOfByte_0 {sc : xm_Sc} : xm_bok (xe_cy (XE sc) 4) b_X0_bitOfByte_0 := by show xm_bok cX0_bitOfByte _; unfold xm_bok; decide +kernel
def b_X0_bitOfByte_6 : List (Nat × Jvm.ClassFile.Instr × Nat) := [(6, .aload_n 0, 1), (7, .iconst 1, 1), (8, .iconst 1, 1), (9, .invokevirtual 95, 3)]
set_option maxRecDepth 20000 in
theorem k_X0_bitOfByte_6 {sc : xm_Sc} : xm_bok (xe_cy (XE sc) 4) b_X0_bitOfByte_6 := by show xm_bok cX0_bitOfByte _; unfold xm_bok; decide +kernel
def b_X0_bitOfByte_12 : List (Nat × Jvm.ClassFile.Instr × Nat) := [(12, .goto 9, 3)]
set_option maxRecDepth 20000 in
theorem k_X0_bitOfByte_12 {sc : xm_Sc} : xm_bok (xe_cy (XE sc) 4) b_X0_bitOfByte_12 := by show xm_bok cX0_bitOfByte _; unfold xm_bok; decide +kernel
def b_X0_bitOfByte_15 : List (Nat × Jvm.ClassFile.Instr × Nat) := [(15, .aload_n 0, 1), (16, .iconst 1, 1), (17, .iconst 1, 1), (18, .invokevirtual 92, 3)]
set_option maxRecDepth 20000 in
theorem k_X0_bitOfByte_15 {sc : xm_Sc} : xm_bok (xe_cy (XE sc) 4) b_X0_bitOfByte_15 := by show xm_bok cX0_bitOfByte _; unfold xm_bok; decide +kernel
def b_X0_bitOfByte_21 : List (Nat × Jvm.ClassFile.Instr × Nat) := [(21, .istore_n 2, 1), (22, .iload_n 1, 1), (23, .iconst 2, 1), (24, .iand, 1), (25, .ifCond .eq 12, 3)]
set_option maxRecDepth 20000 in
theorem k_X0_bitOfByte_21 {sc : xm_Sc} : xm_bok (xe_cy (XE sc) 4) b_X0_bitOfByte_21 := by show xm_bok cX0_bitOfByte _; unfold xm_bok; decide +kernel
def b_X0_bitOfByte_28 : List (Nat × Jvm.ClassFile.Instr × Nat) := [(28, .aload_n 0, 1), (29, .iload_n 2, 1), (30, .iconst 2, 1), (31, .invokevirtual 101, 3)]
set_option maxRecDepth 20000 in
theorem k_X0_bitOfByte_28 {sc : xm_Sc} : xm_bok (xe_cy (XE sc) 4) b_X0_bitOfByte_28 := by show xm_bok cX0_bitOfByte _; unfold xm_bok; decide +kernel
def b_X0_bitOfByte_34 : List (Nat × Jvm.ClassFile.Instr × Nat) := [(34, .goto 9, 3)]
set_option maxRecDepth 20000 in
theorem k_X0_bitOfByte_34 {sc : xm_Sc} : xm_bok (xe_cy (XE sc) 4) b_X0_bitOfByte_34 := by show xm_bok cX0_bitOfByte _; unfold xm_bok; decide +kernel
def b_X0_bitOfByte_37 : List (Nat × Jvm.ClassFile.Instr × Nat) := [(37, .aload_n 0, 1), (38, .iconst 2, 1), (39, .iload_n 2, 1), (40, .invokevirtual 47, 3)]
set_option maxRecDepth 20000 in
theorem k_X0_bitOfByte_37 {sc : xm_Sc} : xm_bok (xe_cy (XE sc) 4) b_X0_bitOfByte_37 := by show xm_bok cX0_bitOfByte _; unfold xm_bok; decide +kernel
def b_X0_bitOfByte_43 : List (Nat × Jvm.ClassFile.Instr × Nat) := [(43, .istore_n 2, 1), (44, .iload_n 1, 1), (45, .iconst 4, 1), (46, .iand, 1), (47, .ifCond .eq 12, 3)]
set_option maxRecDepth 20000 in
theorem k_X0_bitOfByte_43 {sc : xm_Sc} : xm_bok (xe_cy (XE sc) 4) b_X0_bitOfByte_43 := by show xm_bok cX0_bitOfByte _; unfold xm_bok; decide +kernel
def b_X0_bitOfByte_50 : List (Nat × Jvm.ClassFile.Instr × Nat) := [(50, .aload_n 0, 1), (51, .iload_n 2, 1), (52, .iconst 4, 1), (53, .invokevirtual 101, 3)]
set_option maxRecDepth 20000 in
theorem k_X0_bitOfByte_50 {sc : xm_Sc} : xm_bok (xe_cy (XE sc) 4) b_X0_bitOfByte_50 := by show xm_bok cX0_bitOfByte _; unfold xm_bok; decide +kernel
def b_X0_bitOfByte_56 : List (Nat × Jvm.ClassFile.Instr × Nat) := [(56, .goto 9, 3)]
set_option maxRecDepth 20000 in
theorem k_X0_bitOfByte_56 {sc : xm_Sc} : xm_bok (xe_cy (XE sc) 4) b_X0_bitOfByte_56 := by show xm_bok cX0_bitOfByte _; unfold xm_bok; decide +kernel
def b_X0_bitOfByte_59 : List (Nat × Jvm.ClassFile.Instr × Nat) := [(59, .aload_n 0, 1), (60, .iconst 4, 1), (61, .iload_n 2, 1), (62, .invokevirtual 47, 3)]
set_option maxRecDepth 20000 in
theorem k_X0_bitOfByte_59 {sc : xm_Sc} : xm_bok (xe_cy (XE sc) 4) b_X0_bitOfByte_59 := by show xm_bok cX0_bitOfByte _; unfold xm_bok; decide +kernel
def b_X0_bitOfByte_65 : List (Nat × Jvm.ClassFile.Instr × Nat) := [(65, .ireturn, 1)]
set_option maxRecDepth 20000 in
theorem k_X0_bitOfByte_65 {sc : xm_Sc} : xm_bok (xe_cy (XE sc) 4) b_X0_bitOfByte_65 := by show xm_bok cX0_bitOfByte _; unfold xm_bok; decide +kernel
set_option maxRecDepth 20000 in
theorem cn_4 {sc : xm_Sc} : xe_cn (XE sc) 4 = 0 := rfl
set_option maxRecDepth 20000 in
theorem ml_4 {sc : xm_Sc} : xe_ml (XE sc) 4 = 3 := rfl
set_option maxRecDepth 20000 in
theorem ry_4 {sc : xm_Sc} : xe_ry (XE sc) 4 = (some .int) := rfl
set_option maxRecDepth 20000 in
theorem is_4 {sc : xm_Sc} : xe_is (XE sc) 4 = false := rfl
set_option maxRecDepth 20000 in
theorem np_4 {sc : xm_Sc} : xe_np (XE sc) 4 = 1 := rfl
/- method 5: X0_byHalves -/
def b_X0_byHalves_0 : List (Nat × Jvm.ClassFile.Instr × Nat) := [(0, .aload_n 0, 1), (1, .aload_n 0, 1), (2, .aload_n 0, 1), (3, .iload_n 2, 1), (4, .iload_n 3, 1), (5, .iconst 0, 1), (6, .invokevirtual 148, 3)]
set_option maxRecDepth 20000 in
theorem k_X0_byHalves_0 {sc : xm_Sc} : xm_bok (xe_cy (XE sc) 5) b_X0_byHalves_0 := by show xm_bok cX0_byHalves _; unfold xm_bok; decide +kernel
def b_X0_byHalves_9 : List (Nat × Jvm.ClassFile.Instr × Nat) := [(9, .iload_n 1, 1), (10, .invokevirtual 86, 3)]
set_option maxRecDepth 20000 in
theorem k_X0_byHalves_9 {sc : xm_Sc} : xm_bok (xe_cy (XE sc) 5) b_X0_byHalves_9 := by show xm_bok cX0_byHalves _; unfold xm_bok; decide +kernel
def b_X0_byHalves_13 : List (Nat × Jvm.ClassFile.Instr × Nat) := [(13, .aload_n 0, 1), (14, .aload_n 0, 1), (15, .iload_n 2, 1), (16, .iload_n 3, 1), (17, .iconst 1, 1), (18, .invokevirtual 148, 3)]
set_option maxRecDepth 20000 in
theorem k_X0_byHalves_13 {sc : xm_Sc} : xm_bok (xe_cy (XE sc) 5) b_X0_byHalves_13 := by show xm_bok cX0_byHalves _; unfold xm_bok; decide +kernel
def b_X0_byHalves_21 : List (Nat × Jvm.ClassFile.Instr × Nat) := [(21, .iload_n 1, 1), (22, .invokevirtual 86, 3)]
set_option maxRecDepth 20000 in
theorem k_X0_byHalves_21 {sc : xm_Sc} : xm_bok (xe_cy (XE sc) 5) b_X0_byHalves_21 := by show xm_bok cX0_byHalves _; unfold xm_bok; decide +kernel
def b_X0_byHalves_25 : List (Nat × Jvm.ClassFile.Instr × Nat) := [(25, .invokevirtual 80, 3)]
set_option maxRecDepth 20000 in
theorem k_X0_byHalves_25 {sc : xm_Sc} : xm_bok (xe_cy (XE sc) 5) b_X0_byHalves_25 := by show xm_bok cX0_byHalves _; unfold xm_bok; decide +kernel
def b_X0_byHalves_28 : List (Nat × Jvm.ClassFile.Instr × Nat) := [(28, .ireturn, 1)]
set_option maxRecDepth 20000 in
theorem k_X0_byHalves_28 {sc : xm_Sc} : xm_bok (xe_cy (XE sc) 5) b_X0_byHalves_28 := by show xm_bok cX0_byHalves _; unfold xm_bok; decide +kernel
set_option maxRecDepth 20000 in
theorem cn_5 {sc : xm_Sc} : xe_cn (XE sc) 5 = 0 := rfl
set_option maxRecDepth 20000 in
theorem ml_5 {sc : xm_Sc} : xe_ml (XE sc) 5 = 4 := rfl
set_option maxRecDepth 20000 in
theorem ry_5 {sc : xm_Sc} : xe_ry (XE sc) 5 = (some .int) := rfl
set_option maxRecDepth 20000 in
theorem is_5 {sc : xm_Sc} : xe_is (XE sc) 5 = false := rfl
set_option maxRecDepth 20000 in
theorem np_5 {sc : xm_Sc} : xe_np (XE sc) 5 = 3 := rfl
/- method 6: X0_choose -/
def b_X0_choose_0 : List (Nat × Jvm.ClassFile.Instr × Nat) := [(0, .aload_n 0, 1), (1, .iconst 0, 1), (2, .iload_n 1, 1), (3, .invokevirtual 47, 3)]
set_option maxRecDepth 20000 in
theorem k_X0_choose_0 {sc : xm_Sc} : xm_bok (xe_cy (XE sc) 6) b_X0_choose_0 := by show xm_bok cX0_choose _; unfold xm_bok; decide +kernel
def b_X0_choose_6 : List (Nat × Jvm.ClassFile.Instr × Nat) := [(6, .istore_n 3, 1), (7, .aload_n 0, 1), (8, .iconst 0, 1), (9, .iload_n 2, 1), (10, .invokevirtual 47, 3)]
set_option maxRecDepth 20000 in
theorem k_X0_choose_6 {sc : xm_Sc} : xm_bok (xe_cy (XE sc) 6) b_X0_choose_6 := by show xm_bok cX0_choose _; unfold xm_bok; decide +kernel
def b_X0_choose_13 : List (Nat × Jvm.ClassFile.Instr × Nat) := [(13, .istore 4, 2), (15, .aload_n 0, 1), (16, .iconst 1, 1), (17, .iload_n 3, 1), (18, .iload 4, 2), (20, .iconst 1, 1), (21, .iconst 1, 1), (22, .iconst 1, 1), (23, .aload_n 0, 1), (24, .getfield 30, 3), (27, .iload_n 3, 1), (28, .iaload, 1), (29, .iadd, 1), (30, .aload_n 0, 1), (31, .getfield 33, 3), (34, .iload_n 3, 1), (35, .iaload, 1), (36, .invokevirtual 43, 3)]
set_option maxRecDepth 20000 in
theorem k_X0_choose_13 {sc : xm_Sc} : xm_bok (xe_cy (XE sc) 6) b_X0_choose_13 := by show xm_bok cX0_choose _; unfold xm_bok; decide +kernel
def b_X0_choose_39 : List (Nat × Jvm.ClassFile.Instr × Nat) := [(39, .ireturn, 1)]
set_option maxRecDepth 20000 in
theorem k_X0_choose_39 {sc : xm_Sc} : xm_bok (xe_cy (XE sc) 6) b_X0_choose_39 := by show xm_bok cX0_choose _; unfold xm_bok; decide +kernel
set_option maxRecDepth 20000 in
theorem cn_6 {sc : xm_Sc} : xe_cn (XE sc) 6 = 0 := rfl
set_option maxRecDepth 20000 in
theorem ml_6 {sc : xm_Sc} : xe_ml (XE sc) 6 = 5 := rfl
set_option maxRecDepth 20000 in
theorem ry_6 {sc : xm_Sc} : xe_ry (XE sc) 6 = (some .int) := rfl
set_option maxRecDepth 20000 in
theorem is_6 {sc : xm_Sc} : xe_is (XE sc) 6 = false := rfl
set_option maxRecDepth 20000 in
theorem np_6 {sc : xm_Sc} : xe_np (XE sc) 6 = 2 := rfl
/- method 7: X0_comp -/
def b_X0_comp_0 : List (Nat × Jvm.ClassFile.Instr × Nat) := [(0, .aload_n 0, 1), (1, .getfield 11, 3), (4, .iload_n 2, 1), (5, .iaload, 1), (6, .bipush 7, 2), (8, .if_icmp .ne 20, 3)]
set_option maxRecDepth 20000 in
theorem k_X0_comp_0 {sc : xm_Sc} : xm_bok (xe_cy (XE sc) 7) b_X0_comp_0 := by show xm_bok cX0_comp _; unfold xm_bok; decide +kernel
def b_X0_comp_11 : List (Nat × Jvm.ClassFile.Instr × Nat) := [(11, .aload_n 0, 1), (12, .getfield 21, 3), (15, .iload_n 2, 1), (16, .iaload, 1), (17, .aload_n 0, 1), (18, .getfield 33, 3), (21, .iload_n 1, 1), (22, .iaload, 1), (23, .if_icmp .ne 5, 3)]
set_option maxRecDepth 20000 in
theorem k_X0_comp_11 {sc : xm_Sc} : xm_bok (xe_cy (XE sc) 7) b_X0_comp_11 := by show xm_bok cX0_comp _; unfold xm_bok; decide +kernel
def b_X0_comp_26 : List (Nat × Jvm.ClassFile.Instr × Nat) := [(26, .iload_n 1, 1), (27, .ireturn, 1)]
set_option maxRecDepth 20000 in
theorem k_X0_comp_26 {sc : xm_Sc} : xm_bok (xe_cy (XE sc) 7) b_X0_comp_26 := by show xm_bok cX0_comp _; unfold xm_bok; decide +kernel
def b_X0_comp_28 : List (Nat × Jvm.ClassFile.Instr × Nat) := [(28, .aload_n 0, 1), (29, .getfield 11, 3), (32, .iload_n 1, 1), (33, .iaload, 1), (34, .bipush 7, 2), (36, .if_icmp .ne 25, 3)]
set_option maxRecDepth 20000 in
theorem k_X0_comp_28 {sc : xm_Sc} : xm_bok (xe_cy (XE sc) 7) b_X0_comp_28 := by show xm_bok cX0_comp _; unfold xm_bok; decide +kernel
def b_X0_comp_39 : List (Nat × Jvm.ClassFile.Instr × Nat) := [(39, .aload_n 0, 1), (40, .aload_n 0, 1), (41, .aload_n 0, 1), (42, .getfield 24, 3), (45, .iload_n 1, 1), (46, .iaload, 1), (47, .iload_n 2, 1), (48, .invokevirtual 47, 3)]
set_option maxRecDepth 20000 in
theorem k_X0_comp_39 {sc : xm_Sc} : xm_bok (xe_cy (XE sc) 7) b_X0_comp_39 := by show xm_bok cX0_comp _; unfold xm_bok; decide +kernel
def b_X0_comp_51 : List (Nat × Jvm.ClassFile.Instr × Nat) := [(51, .aload_n 0, 1), (52, .getfield 30, 3), (55, .iload_n 1, 1), (56, .iaload, 1), (57, .invokevirtual 51, 3)]
set_option maxRecDepth 20000 in
theorem k_X0_comp_51 {sc : xm_Sc} : xm_bok (xe_cy (XE sc) 7) b_X0_comp_51 := by show xm_bok cX0_comp _; unfold xm_bok; decide +kernel
def b_X0_comp_60 : List (Nat × Jvm.ClassFile.Instr × Nat) := [(60, .ireturn, 1)]
set_option maxRecDepth 20000 in
theorem k_X0_comp_60 {sc : xm_Sc} : xm_bok (xe_cy (XE sc) 7) b_X0_comp_60 := by show xm_bok cX0_comp _; unfold xm_bok; decide +kernel
def b_X0_comp_61 : List (Nat × Jvm.ClassFile.Instr × Nat) := [(61, .aload_n 0, 1), (62, .getfield 11, 3), (65, .iload_n 1, 1), (66, .iaload, 1), (67, .bipush 8, 2), (69, .if_icmp .ne 15, 3)]
set_option maxRecDepth 20000 in
theorem k_X0_comp_61 {sc : xm_Sc} : xm_bok (xe_cy (XE sc) 7) b_X0_comp_61 := by show xm_bok cX0_comp _; unfold xm_bok; decide +kernel
def b_X0_comp_72 : List (Nat × Jvm.ClassFile.Instr × Nat) := [(72, .aload_n 0, 1), (73, .iload_n 2, 1), (74, .aload_n 0, 1), (75, .getfield 30, 3), (78, .iload_n 1, 1), (79, .iaload, 1), (80, .invokevirtual 51, 3)]
set_option maxRecDepth 20000 in
theorem k_X0_comp_72 {sc : xm_Sc} : xm_bok (xe_cy (XE sc) 7) b_X0_comp_72 := by show xm_bok cX0_comp _; unfold xm_bok; decide +kernel
def b_X0_comp_83 : List (Nat × Jvm.ClassFile.Instr × Nat) := [(83, .ireturn, 1)]
set_option maxRecDepth 20000 in
theorem k_X0_comp_83 {sc : xm_Sc} : xm_bok (xe_cy (XE sc) 7) b_X0_comp_83 := by show xm_bok cX0_comp _; unfold xm_bok; decide +kernel
def b_X0_comp_84 : List (Nat × Jvm.ClassFile.Instr × Nat) := [(84, .aload_n 0, 1), (85, .iconst 0, 1), (86, .iload_n 1, 1), (87, .iload_n 2, 1), (88, .aload_n 0, 1), (89, .getfield 33, 3), (92, .iload_n 1, 1), (93, .iaload, 1), (94, .iconst 0, 1), (95, .aload_n 0, 1), (96, .getfield 30, 3), (99, .iload_n 1, 1), (100, .iaload, 1), (101, .aload_n 0, 1), (102, .getfield 33, 3), (105, .iload_n 2, 1), (106, .iaload, 1), (107, .invokevirtual 43, 3)]
set_option maxRecDepth 20000 in
theorem k_X0_comp_84 {sc : xm_Sc} : xm_bok (xe_cy (XE sc) 7) b_X0_comp_84 := by show xm_bok cX0_comp _; unfold xm_bok; decide +kernel
def b_X0_comp_110 : List (Nat × Jvm.ClassFile.Instr × Nat) := [(110, .ireturn, 1)]
set_option maxRecDepth 20000 in
theorem k_X0_comp_110 {sc : xm_Sc} : xm_bok (xe_cy (XE sc) 7) b_X0_comp_110 := by show xm_bok cX0_comp _; unfold xm_bok; decide +kernel
set_option maxRecDepth 20000 in
theorem cn_7 {sc : xm_Sc} : xe_cn (XE sc) 7 = 0 := rfl
set_option maxRecDepth 20000 in
theorem ml_7 {sc : xm_Sc} : xe_ml (XE sc) 7 = 3 := rfl
set_option maxRecDepth 20000 in
theorem ry_7 {sc : xm_Sc} : xe_ry (XE sc) 7 = (some .int) := rfl
set_option maxRecDepth 20000 in
theorem is_7 {sc : xm_Sc} : xe_is (XE sc) 7 = false := rfl
set_option maxRecDepth 20000 in
theorem np_7 {sc : xm_Sc} : xe_np (XE sc) 7 = 2 := rfl
/- method 8: X0_comparing -/
def b_X0_comparing_0 : List (Nat × Jvm.ClassFile.Instr × Nat) := [(0, .iconst 1, 1), (1, .iload_n 2, 1), (2, .ishl, 1), (3, .istore_n 3, 1), (4, .aload_n 0, 1), (5, .aload_n 0, 1), (6, .iload_n 3, 1), (7, .iload_n 3, 1), (8, .invokevirtual 92, 3)]
set_option maxRecDepth 20000 in
theorem k_X0_comparing_0 {sc : xm_Sc} : xm_bok (xe_cy (XE sc) 8) b_X0_comparing_0 := by show xm_bok cX0_comparing _; unfold xm_bok; decide +kernel
def b_X0_comparing_11 : List (Nat × Jvm.ClassFile.Instr × Nat) := [(11, .aload_n 0, 1), (12, .iload_n 3, 1), (13, .iload_n 3, 1), (14, .invokevirtual 95, 3)]
set_option maxRecDepth 20000 in
theorem k_X0_comparing_11 {sc : xm_Sc} : xm_bok (xe_cy (XE sc) 8) b_X0_comparing_11 := by show xm_bok cX0_comparing _; unfold xm_bok; decide +kernel
def b_X0_comparing_17 : List (Nat × Jvm.ClassFile.Instr × Nat) := [(17, .invokevirtual 80, 3)]
set_option maxRecDepth 20000 in
theorem k_X0_comparing_17 {sc : xm_Sc} : xm_bok (xe_cy (XE sc) 8) b_X0_comparing_17 := by show xm_bok cX0_comparing _; unfold xm_bok; decide +kernel
def b_X0_comparing_20 : List (Nat × Jvm.ClassFile.Instr × Nat) := [(20, .istore 4, 2), (22, .iload_n 1, 1), (23, .tableswitch 272 9 17 #[49, 109, 127, 176, 184, 192, 217, 256, 264], 49)]
set_option maxRecDepth 20000 in
theorem k_X0_comparing_20 {sc : xm_Sc} : xm_bok (xe_cy (XE sc) 8) b_X0_comparing_20 := by show xm_bok cX0_comparing _; unfold xm_bok; decide +kernel
def b_X0_comparing_72 : List (Nat × Jvm.ClassFile.Instr × Nat) := [(72, .aload_n 0, 1), (73, .aload_n 0, 1), (74, .bipush 22, 2), (76, .iload_n 2, 1), (77, .invokevirtual 83, 3)]
set_option maxRecDepth 20000 in
theorem k_X0_comparing_72 {sc : xm_Sc} : xm_bok (xe_cy (XE sc) 8) b_X0_comparing_72 := by show xm_bok cX0_comparing _; unfold xm_bok; decide +kernel
def b_X0_comparing_80 : List (Nat × Jvm.ClassFile.Instr × Nat) := [(80, .aload_n 0, 1), (81, .iload_n 3, 1), (82, .iload_n 3, 1), (83, .invokevirtual 95, 3)]
set_option maxRecDepth 20000 in
theorem k_X0_comparing_80 {sc : xm_Sc} : xm_bok (xe_cy (XE sc) 8) b_X0_comparing_80 := by show xm_bok cX0_comparing _; unfold xm_bok; decide +kernel
def b_X0_comparing_86 : List (Nat × Jvm.ClassFile.Instr × Nat) := [(86, .invokevirtual 86, 3)]
set_option maxRecDepth 20000 in
theorem k_X0_comparing_86 {sc : xm_Sc} : xm_bok (xe_cy (XE sc) 8) b_X0_comparing_86 := by show xm_bok cX0_comparing _; unfold xm_bok; decide +kernel
def b_X0_comparing_89 : List (Nat × Jvm.ClassFile.Instr × Nat) := [(89, .istore 5, 2), (91, .aload_n 0, 1), (92, .aload_n 0, 1), (93, .aload_n 0, 1), (94, .iload_n 3, 1), (95, .aload_n 0, 1), (96, .iconst 4, 1), (97, .iload_n 2, 1), (98, .invokevirtual 83, 3)]
set_option maxRecDepth 20000 in
theorem k_X0_comparing_89 {sc : xm_Sc} : xm_bok (xe_cy (XE sc) 8) b_X0_comparing_89 := by show xm_bok cX0_comparing _; unfold xm_bok; decide +kernel
def b_X0_comparing_101 : List (Nat × Jvm.ClassFile.Instr × Nat) := [(101, .invokevirtual 47, 3)]
set_option maxRecDepth 20000 in
theorem k_X0_comparing_101 {sc : xm_Sc} : xm_bok (xe_cy (XE sc) 8) b_X0_comparing_101 := by show xm_bok cX0_comparing _; unfold xm_bok; decide +kernel
def b_X0_comparing_104 : List (Nat × Jvm.ClassFile.Instr × Nat) := [(104, .aload_n 0, 1), (105, .iconst 2, 1), (106, .iload_n 3, 1), (107, .imul, 1), (108, .invokevirtual 76, 3)]
set_option maxRecDepth 20000 in
theorem k_X0_comparing_104 {sc : xm_Sc} : xm_bok (xe_cy (XE sc) 8) b_X0_comparing_104 := by show xm_bok cX0_comparing _; unfold xm_bok; decide +kernel
def b_X0_comparing_111 : List (Nat × Jvm.ClassFile.Instr × Nat) := [(111, .invokevirtual 80, 3)]
set_option maxRecDepth 20000 in
theorem k_X0_comparing_111 {sc : xm_Sc} : xm_bok (xe_cy (XE sc) 8) b_X0_comparing_111 := by show xm_bok cX0_comparing _; unfold xm_bok; decide +kernel
def b_X0_comparing_114 : List (Nat × Jvm.ClassFile.Instr × Nat) := [(114, .aload_n 0, 1), (115, .aload_n 0, 1), (116, .iload_n 2, 1), (117, .iconst 2, 1), (118, .iload_n 3, 1), (119, .imul, 1), (120, .invokevirtual 89, 3)]
set_option maxRecDepth 20000 in
theorem k_X0_comparing_114 {sc : xm_Sc} : xm_bok (xe_cy (XE sc) 8) b_X0_comparing_114 := by show xm_bok cX0_comparing _; unfold xm_bok; decide +kernel
def b_X0_comparing_123 : List (Nat × Jvm.ClassFile.Instr × Nat) := [(123, .iload 5, 2), (125, .invokevirtual 98, 3)]
set_option maxRecDepth 20000 in
theorem k_X0_comparing_123 {sc : xm_Sc} : xm_bok (xe_cy (XE sc) 8) b_X0_comparing_123 := by show xm_bok cX0_comparing _; unfold xm_bok; decide +kernel
def b_X0_comparing_128 : List (Nat × Jvm.ClassFile.Instr × Nat) := [(128, .invokevirtual 86, 3)]
set_option maxRecDepth 20000 in
theorem k_X0_comparing_128 {sc : xm_Sc} : xm_bok (xe_cy (XE sc) 8) b_X0_comparing_128 := by show xm_bok cX0_comparing _; unfold xm_bok; decide +kernel
def b_X0_comparing_131 : List (Nat × Jvm.ClassFile.Instr × Nat) := [(131, .ireturn, 1)]
set_option maxRecDepth 20000 in
theorem k_X0_comparing_131 {sc : xm_Sc} : xm_bok (xe_cy (XE sc) 8) b_X0_comparing_131 := by show xm_bok cX0_comparing _; unfold xm_bok; decide +kernel
def b_X0_comparing_132 : List (Nat × Jvm.ClassFile.Instr × Nat) := [(132, .aload_n 0, 1), (133, .aload_n 0, 1), (134, .bipush 22, 2), (136, .iload_n 2, 1), (137, .invokevirtual 83, 3)]
set_option maxRecDepth 20000 in
theorem k_X0_comparing_132 {sc : xm_Sc} : xm_bok (xe_cy (XE sc) 8) b_X0_comparing_132 := by show xm_bok cX0_comparing _; unfold xm_bok; decide +kernel
def b_X0_comparing_140 : List (Nat × Jvm.ClassFile.Instr × Nat) := [(140, .aload_n 0, 1), (141, .iload_n 3, 1), (142, .iload_n 3, 1), (143, .invokevirtual 92, 3)]
set_option maxRecDepth 20000 in
theorem k_X0_comparing_140 {sc : xm_Sc} : xm_bok (xe_cy (XE sc) 8) b_X0_comparing_140 := by show xm_bok cX0_comparing _; unfold xm_bok; decide +kernel
def b_X0_comparing_146 : List (Nat × Jvm.ClassFile.Instr × Nat) := [(146, .invokevirtual 86, 3)]
set_option maxRecDepth 20000 in
theorem k_X0_comparing_146 {sc : xm_Sc} : xm_bok (xe_cy (XE sc) 8) b_X0_comparing_146 := by show xm_bok cX0_comparing _; unfold xm_bok; decide +kernel
def b_X0_comparing_149 : List (Nat × Jvm.ClassFile.Instr × Nat) := [(149, .ireturn, 1)]
set_option maxRecDepth 20000 in
theorem k_X0_comparing_149 {sc : xm_Sc} : xm_bok (xe_cy (XE sc) 8) b_X0_comparing_149 := by show xm_bok cX0_comparing _; unfold xm_bok; decide +kernel
def b_X0_comparing_150 : List (Nat × Jvm.ClassFile.Instr × Nat) := [(150, .aload_n 0, 1), (151, .aload_n 0, 1), (152, .bipush 22, 2), (154, .iload_n 2, 1), (155, .invokevirtual 83, 3)]
set_option maxRecDepth 20000 in
theorem k_X0_comparing_150 {sc : xm_Sc} : xm_bok (xe_cy (XE sc) 8) b_X0_comparing_150 := by show xm_bok cX0_comparing _; unfold xm_bok; decide +kernel
def b_X0_comparing_158 : List (Nat × Jvm.ClassFile.Instr × Nat) := [(158, .aload_n 0, 1), (159, .iload_n 3, 1), (160, .iload_n 3, 1), (161, .invokevirtual 92, 3)]
set_option maxRecDepth 20000 in
theorem k_X0_comparing_158 {sc : xm_Sc} : xm_bok (xe_cy (XE sc) 8) b_X0_comparing_158 := by show xm_bok cX0_comparing _; unfold xm_bok; decide +kernel
def b_X0_comparing_164 : List (Nat × Jvm.ClassFile.Instr × Nat) := [(164, .invokevirtual 86, 3)]
set_option maxRecDepth 20000 in
theorem k_X0_comparing_164 {sc : xm_Sc} : xm_bok (xe_cy (XE sc) 8) b_X0_comparing_164 := by show xm_bok cX0_comparing _; unfold xm_bok; decide +kernel
def b_X0_comparing_167 : List (Nat × Jvm.ClassFile.Instr × Nat) := [(167, .istore 6, 2), (169, .aload_n 0, 1), (170, .iload 4, 2), (172, .aload_n 0, 1), (173, .iload 6, 2), (175, .aload_n 0, 1), (176, .aload_n 0, 1), (177, .iconst 4, 1), (178, .iload_n 2, 1), (179, .invokevirtual 83, 3)]
set_option maxRecDepth 20000 in
theorem k_X0_comparing_167 {sc : xm_Sc} : xm_bok (xe_cy (XE sc) 8) b_X0_comparing_167 := by show xm_bok cX0_comparing _; unfold xm_bok; decide +kernel
def b_X0_comparing_182 : List (Nat × Jvm.ClassFile.Instr × Nat) := [(182, .aload_n 0, 1), (183, .bipush 6, 2), (185, .iconst 0, 1), (186, .invokevirtual 83, 3)]
set_option maxRecDepth 20000 in
theorem k_X0_comparing_182 {sc : xm_Sc} : xm_bok (xe_cy (XE sc) 8) b_X0_comparing_182 := by show xm_bok cX0_comparing _; unfold xm_bok; decide +kernel
def b_X0_comparing_189 : List (Nat × Jvm.ClassFile.Instr × Nat) := [(189, .invokevirtual 86, 3)]
set_option maxRecDepth 20000 in
theorem k_X0_comparing_189 {sc : xm_Sc} : xm_bok (xe_cy (XE sc) 8) b_X0_comparing_189 := by show xm_bok cX0_comparing _; unfold xm_bok; decide +kernel
def b_X0_comparing_192 : List (Nat × Jvm.ClassFile.Instr × Nat) := [(192, .invokevirtual 86, 3)]
set_option maxRecDepth 20000 in
theorem k_X0_comparing_192 {sc : xm_Sc} : xm_bok (xe_cy (XE sc) 8) b_X0_comparing_192 := by show xm_bok cX0_comparing _; unfold xm_bok; decide +kernel
def b_X0_comparing_195 : List (Nat × Jvm.ClassFile.Instr × Nat) := [(195, .invokevirtual 86, 3)]
set_option maxRecDepth 20000 in
theorem k_X0_comparing_195 {sc : xm_Sc} : xm_bok (xe_cy (XE sc) 8) b_X0_comparing_195 := by show xm_bok cX0_comparing _; unfold xm_bok; decide +kernel
def b_X0_comparing_198 : List (Nat × Jvm.ClassFile.Instr × Nat) := [(198, .ireturn, 1)]
set_option maxRecDepth 20000 in
theorem k_X0_comparing_198 {sc : xm_Sc} : xm_bok (xe_cy (XE sc) 8) b_X0_comparing_198 := by show xm_bok cX0_comparing _; unfold xm_bok; decide +kernel
def b_X0_comparing_199 : List (Nat × Jvm.ClassFile.Instr × Nat) := [(199, .aload_n 0, 1), (200, .bipush 23, 2), (202, .iload_n 2, 1), (203, .invokevirtual 83, 3)]
set_option maxRecDepth 20000 in
theorem k_X0_comparing_199 {sc : xm_Sc} : xm_bok (xe_cy (XE sc) 8) b_X0_comparing_199 := by show xm_bok cX0_comparing _; unfold xm_bok; decide +kernel
def b_X0_comparing_206 : List (Nat × Jvm.ClassFile.Instr × Nat) := [(206, .ireturn, 1)]
set_option maxRecDepth 20000 in
theorem k_X0_comparing_206 {sc : xm_Sc} : xm_bok (xe_cy (XE sc) 8) b_X0_comparing_206 := by show xm_bok cX0_comparing _; unfold xm_bok; decide +kernel
def b_X0_comparing_207 : List (Nat × Jvm.ClassFile.Instr × Nat) := [(207, .aload_n 0, 1), (208, .bipush 24, 2), (210, .iload_n 2, 1), (211, .invokevirtual 83, 3)]
set_option maxRecDepth 20000 in
theorem k_X0_comparing_207 {sc : xm_Sc} : xm_bok (xe_cy (XE sc) 8) b_X0_comparing_207 := by show xm_bok cX0_comparing _; unfold xm_bok; decide +kernel
def b_X0_comparing_214 : List (Nat × Jvm.ClassFile.Instr × Nat) := [(214, .ireturn, 1)]
set_option maxRecDepth 20000 in
theorem k_X0_comparing_214 {sc : xm_Sc} : xm_bok (xe_cy (XE sc) 8) b_X0_comparing_214 := by show xm_bok cX0_comparing _; unfold xm_bok; decide +kernel
def b_X0_comparing_215 : List (Nat × Jvm.ClassFile.Instr × Nat) := [(215, .aload_n 0, 1), (216, .iload 4, 2), (218, .aload_n 0, 1), (219, .aload_n 0, 1), (220, .bipush 24, 2), (222, .iload_n 2, 1), (223, .invokevirtual 83, 3)]
set_option maxRecDepth 20000 in
theorem k_X0_comparing_215 {sc : xm_Sc} : xm_bok (xe_cy (XE sc) 8) b_X0_comparing_215 := by show xm_bok cX0_comparing _; unfold xm_bok; decide +kernel
def b_X0_comparing_226 : List (Nat × Jvm.ClassFile.Instr × Nat) := [(226, .aload_n 0, 1), (227, .bipush 6, 2), (229, .iconst 0, 1), (230, .invokevirtual 83, 3)]
set_option maxRecDepth 20000 in
theorem k_X0_comparing_226 {sc : xm_Sc} : xm_bok (xe_cy (XE sc) 8) b_X0_comparing_226 := by show xm_bok cX0_comparing _; unfold xm_bok; decide +kernel
def b_X0_comparing_233 : List (Nat × Jvm.ClassFile.Instr × Nat) := [(233, .invokevirtual 86, 3)]
set_option maxRecDepth 20000 in
theorem k_X0_comparing_233 {sc : xm_Sc} : xm_bok (xe_cy (XE sc) 8) b_X0_comparing_233 := by show xm_bok cX0_comparing _; unfold xm_bok; decide +kernel
def b_X0_comparing_236 : List (Nat × Jvm.ClassFile.Instr × Nat) := [(236, .invokevirtual 86, 3)]
set_option maxRecDepth 20000 in
theorem k_X0_comparing_236 {sc : xm_Sc} : xm_bok (xe_cy (XE sc) 8) b_X0_comparing_236 := by show xm_bok cX0_comparing _; unfold xm_bok; decide +kernel
def b_X0_comparing_239 : List (Nat × Jvm.ClassFile.Instr × Nat) := [(239, .ireturn, 1)]
set_option maxRecDepth 20000 in
theorem k_X0_comparing_239 {sc : xm_Sc} : xm_bok (xe_cy (XE sc) 8) b_X0_comparing_239 := by show xm_bok cX0_comparing _; unfold xm_bok; decide +kernel
def b_X0_comparing_240 : List (Nat × Jvm.ClassFile.Instr × Nat) := [(240, .aload_n 0, 1), (241, .bipush 15, 2), (243, .iload_n 2, 1), (244, .invokevirtual 83, 3)]
set_option maxRecDepth 20000 in
theorem k_X0_comparing_240 {sc : xm_Sc} : xm_bok (xe_cy (XE sc) 8) b_X0_comparing_240 := by show xm_bok cX0_comparing _; unfold xm_bok; decide +kernel
def b_X0_comparing_247 : List (Nat × Jvm.ClassFile.Instr × Nat) := [(247, .istore 7, 2), (249, .aload_n 0, 1), (250, .aload_n 0, 1), (251, .aload_n 0, 1), (252, .iload 7, 2), (254, .iload_n 3, 1), (255, .invokevirtual 101, 3)]
set_option maxRecDepth 20000 in
theorem k_X0_comparing_247 {sc : xm_Sc} : xm_bok (xe_cy (XE sc) 8) b_X0_comparing_247 := by show xm_bok cX0_comparing _; unfold xm_bok; decide +kernel
def b_X0_comparing_258 : List (Nat × Jvm.ClassFile.Instr × Nat) := [(258, .aload_n 0, 1), (259, .iload_n 3, 1), (260, .iload 7, 2), (262, .invokevirtual 47, 3)]
set_option maxRecDepth 20000 in
theorem k_X0_comparing_258 {sc : xm_Sc} : xm_bok (xe_cy (XE sc) 8) b_X0_comparing_258 := by show xm_bok cX0_comparing _; unfold xm_bok; decide +kernel
def b_X0_comparing_265 : List (Nat × Jvm.ClassFile.Instr × Nat) := [(265, .invokevirtual 80, 3)]
set_option maxRecDepth 20000 in
theorem k_X0_comparing_265 {sc : xm_Sc} : xm_bok (xe_cy (XE sc) 8) b_X0_comparing_265 := by show xm_bok cX0_comparing _; unfold xm_bok; decide +kernel
def b_X0_comparing_268 : List (Nat × Jvm.ClassFile.Instr × Nat) := [(268, .aload_n 0, 1), (269, .bipush 24, 2), (271, .iload_n 2, 1), (272, .invokevirtual 83, 3)]
set_option maxRecDepth 20000 in
theorem k_X0_comparing_268 {sc : xm_Sc} : xm_bok (xe_cy (XE sc) 8) b_X0_comparing_268 := by show xm_bok cX0_comparing _; unfold xm_bok; decide +kernel
def b_X0_comparing_275 : List (Nat × Jvm.ClassFile.Instr × Nat) := [(275, .invokevirtual 86, 3)]
set_option maxRecDepth 20000 in
theorem k_X0_comparing_275 {sc : xm_Sc} : xm_bok (xe_cy (XE sc) 8) b_X0_comparing_275 := by show xm_bok cX0_comparing _; unfold xm_bok; decide +kernel
def b_X0_comparing_278 : List (Nat × Jvm.ClassFile.Instr × Nat) := [(278, .ireturn, 1)]
set_option maxRecDepth 20000 in
theorem k_X0_comparing_278 {sc : xm_Sc} : xm_bok (xe_cy (XE sc) 8) b_X0_comparing_278 := by show xm_bok cX0_comparing _; unfold xm_bok; decide +kernel
def b_X0_comparing_279 : List (Nat × Jvm.ClassFile.Instr × Nat) := [(279, .aload_n 0, 1), (280, .bipush 25, 2), (282, .iload_n 2, 1), (283, .invokevirtual 83, 3)]
set_option maxRecDepth 20000 in
theorem k_X0_comparing_279 {sc : xm_Sc} : xm_bok (xe_cy (XE sc) 8) b_X0_comparing_279 := by show xm_bok cX0_comparing _; unfold xm_bok; decide +kernel
def b_X0_comparing_286 : List (Nat × Jvm.ClassFile.Instr × Nat) := [(286, .ireturn, 1)]
set_option maxRecDepth 20000 in
theorem k_X0_comparing_286 {sc : xm_Sc} : xm_bok (xe_cy (XE sc) 8) b_X0_comparing_286 := by show xm_bok cX0_comparing _; unfold xm_bok; decide +kernel
def b_X0_comparing_287 : List (Nat × Jvm.ClassFile.Instr × Nat) := [(287, .aload_n 0, 1), (288, .bipush 26, 2), (290, .iload_n 2, 1), (291, .invokevirtual 83, 3)]
set_option maxRecDepth 20000 in
theorem k_X0_comparing_287 {sc : xm_Sc} : xm_bok (xe_cy (XE sc) 8) b_X0_comparing_287 := by show xm_bok cX0_comparing _; unfold xm_bok; decide +kernel
def b_X0_comparing_294 : List (Nat × Jvm.ClassFile.Instr × Nat) := [(294, .ireturn, 1)]
set_option maxRecDepth 20000 in
theorem k_X0_comparing_294 {sc : xm_Sc} : xm_bok (xe_cy (XE sc) 8) b_X0_comparing_294 := by show xm_bok cX0_comparing _; unfold xm_bok; decide +kernel
def b_X0_comparing_295 : List (Nat × Jvm.ClassFile.Instr × Nat) := [(295, .aload_n 0, 1), (296, .aload_n 0, 1), (297, .bipush 25, 2), (299, .iload_n 2, 1), (300, .invokevirtual 83, 3)]
set_option maxRecDepth 20000 in
theorem k_X0_comparing_295 {sc : xm_Sc} : xm_bok (xe_cy (XE sc) 8) b_X0_comparing_295 := by show xm_bok cX0_comparing _; unfold xm_bok; decide +kernel
def b_X0_comparing_303 : List (Nat × Jvm.ClassFile.Instr × Nat) := [(303, .aload_n 0, 1), (304, .bipush 26, 2), (306, .iload_n 2, 1), (307, .invokevirtual 83, 3)]
set_option maxRecDepth 20000 in
theorem k_X0_comparing_303 {sc : xm_Sc} : xm_bok (xe_cy (XE sc) 8) b_X0_comparing_303 := by show xm_bok cX0_comparing _; unfold xm_bok; decide +kernel
def b_X0_comparing_310 : List (Nat × Jvm.ClassFile.Instr × Nat) := [(310, .iload_n 3, 1), (311, .invokevirtual 104, 3)]
set_option maxRecDepth 20000 in
theorem k_X0_comparing_310 {sc : xm_Sc} : xm_bok (xe_cy (XE sc) 8) b_X0_comparing_310 := by show xm_bok cX0_comparing _; unfold xm_bok; decide +kernel
def b_X0_comparing_314 : List (Nat × Jvm.ClassFile.Instr × Nat) := [(314, .ireturn, 1)]
set_option maxRecDepth 20000 in
theorem k_X0_comparing_314 {sc : xm_Sc} : xm_bok (xe_cy (XE sc) 8) b_X0_comparing_314 := by show xm_bok cX0_comparing _; unfold xm_bok; decide +kernel
set_option maxRecDepth 20000 in
theorem cn_8 {sc : xm_Sc} : xe_cn (XE sc) 8 = 0 := rfl
set_option maxRecDepth 20000 in
theorem ml_8 {sc : xm_Sc} : xe_ml (XE sc) 8 = 8 := rfl
set_option maxRecDepth 20000 in
theorem ry_8 {sc : xm_Sc} : xe_ry (XE sc) 8 = (some .int) := rfl
set_option maxRecDepth 20000 in
theorem is_8 {sc : xm_Sc} : xe_is (XE sc) 8 = false := rfl
set_option maxRecDepth 20000 in
theorem np_8 {sc : xm_Sc} : xe_np (XE sc) 8 = 2 := rfl
/- method 9: X0_define -/
def b_X0_define_0 : List (Nat × Jvm.ClassFile.Instr × Nat) := [(0, .iload_n 1, 1), (1, .ifCond .lt 19, 3)]
set_option maxRecDepth 20000 in
theorem k_X0_define_0 {sc : xm_Sc} : xm_bok (xe_cy (XE sc) 9) b_X0_define_0 := by show xm_bok cX0_define _; unfold xm_bok; decide +kernel
def b_X0_define_4 : List (Nat × Jvm.ClassFile.Instr × Nat) := [(4, .iload_n 1, 1), (5, .sipush 168, 3), (8, .if_icmp .ge 12, 3)]
set_option maxRecDepth 20000 in
theorem k_X0_define_4 {sc : xm_Sc} : xm_bok (xe_cy (XE sc) 9) b_X0_define_4 := by show xm_bok cX0_define _; unfold xm_bok; decide +kernel
def b_X0_define_11 : List (Nat × Jvm.ClassFile.Instr × Nat) := [(11, .aload_n 0, 1), (12, .getfield 27, 3), (15, .iload_n 1, 1), (16, .iaload, 1), (17, .ifCond .eq 4, 3)]
set_option maxRecDepth 20000 in
theorem k_X0_define_11 {sc : xm_Sc} : xm_bok (xe_cy (XE sc) 9) b_X0_define_11 := by show xm_bok cX0_define _; unfold xm_bok; decide +kernel
def b_X0_define_20 : List (Nat × Jvm.ClassFile.Instr × Nat) := [(20, .return_, 1)]
set_option maxRecDepth 20000 in
theorem k_X0_define_20 {sc : xm_Sc} : xm_bok (xe_cy (XE sc) 9) b_X0_define_20 := by show xm_bok cX0_define _; unfold xm_bok; decide +kernel
def b_X0_define_21 : List (Nat × Jvm.ClassFile.Instr × Nat) := [(21, .iload_n 1, 1), (22, .iconst 2, 1), (23, .ishr, 1), (24, .istore_n 2, 1), (25, .iconst 3, 1), (26, .iload_n 1, 1), (27, .iconst 3, 1), (28, .iand, 1), (29, .iadd, 1), (30, .istore_n 3, 1), (31, .iload_n 2, 1), (32, .bipush 9, 2), (34, .if_icmp .ge 18, 3)]
set_option maxRecDepth 20000 in
theorem k_X0_define_21 {sc : xm_Sc} : xm_bok (xe_cy (XE sc) 9) b_X0_define_21 := by show xm_bok cX0_define _; unfold xm_bok; decide +kernel
def b_X0_define_37 : List (Nat × Jvm.ClassFile.Instr × Nat) := [(37, .aload_n 0, 1), (38, .getfield 27, 3), (41, .iload_n 1, 1), (42, .aload_n 0, 1), (43, .iload_n 2, 1), (44, .iload_n 3, 1), (45, .invokevirtual 58, 3)]
set_option maxRecDepth 20000 in
theorem k_X0_define_37 {sc : xm_Sc} : xm_bok (xe_cy (XE sc) 9) b_X0_define_37 := by show xm_bok cX0_define _; unfold xm_bok; decide +kernel
def b_X0_define_48 : List (Nat × Jvm.ClassFile.Instr × Nat) := [(48, .iastore, 1), (49, .goto 78, 3)]
set_option maxRecDepth 20000 in
theorem k_X0_define_48 {sc : xm_Sc} : xm_bok (xe_cy (XE sc) 9) b_X0_define_48 := by show xm_bok cX0_define _; unfold xm_bok; decide +kernel
def b_X0_define_52 : List (Nat × Jvm.ClassFile.Instr × Nat) := [(52, .iload_n 2, 1), (53, .bipush 19, 2), (55, .if_icmp .ge 18, 3)]
set_option maxRecDepth 20000 in
theorem k_X0_define_52 {sc : xm_Sc} : xm_bok (xe_cy (XE sc) 9) b_X0_define_52 := by show xm_bok cX0_define _; unfold xm_bok; decide +kernel
def b_X0_define_58 : List (Nat × Jvm.ClassFile.Instr × Nat) := [(58, .aload_n 0, 1), (59, .getfield 27, 3), (62, .iload_n 1, 1), (63, .aload_n 0, 1), (64, .iload_n 2, 1), (65, .iload_n 3, 1), (66, .invokevirtual 61, 3)]
set_option maxRecDepth 20000 in
theorem k_X0_define_58 {sc : xm_Sc} : xm_bok (xe_cy (XE sc) 9) b_X0_define_58 := by show xm_bok cX0_define _; unfold xm_bok; decide +kernel
def b_X0_define_69 : List (Nat × Jvm.ClassFile.Instr × Nat) := [(69, .iastore, 1), (70, .goto 57, 3)]
set_option maxRecDepth 20000 in
theorem k_X0_define_69 {sc : xm_Sc} : xm_bok (xe_cy (XE sc) 9) b_X0_define_69 := by show xm_bok cX0_define _; unfold xm_bok; decide +kernel
def b_X0_define_73 : List (Nat × Jvm.ClassFile.Instr × Nat) := [(73, .iload_n 2, 1), (74, .bipush 32, 2), (76, .if_icmp .ge 18, 3)]
set_option maxRecDepth 20000 in
theorem k_X0_define_73 {sc : xm_Sc} : xm_bok (xe_cy (XE sc) 9) b_X0_define_73 := by show xm_bok cX0_define _; unfold xm_bok; decide +kernel
def b_X0_define_79 : List (Nat × Jvm.ClassFile.Instr × Nat) := [(79, .aload_n 0, 1), (80, .getfield 27, 3), (83, .iload_n 1, 1), (84, .aload_n 0, 1), (85, .iload_n 2, 1), (86, .iload_n 3, 1), (87, .invokevirtual 64, 3)]
set_option maxRecDepth 20000 in
theorem k_X0_define_79 {sc : xm_Sc} : xm_bok (xe_cy (XE sc) 9) b_X0_define_79 := by show xm_bok cX0_define _; unfold xm_bok; decide +kernel
def b_X0_define_90 : List (Nat × Jvm.ClassFile.Instr × Nat) := [(90, .iastore, 1), (91, .goto 36, 3)]
set_option maxRecDepth 20000 in
theorem k_X0_define_90 {sc : xm_Sc} : xm_bok (xe_cy (XE sc) 9) b_X0_define_90 := by show xm_bok cX0_define _; unfold xm_bok; decide +kernel
def b_X0_define_94 : List (Nat × Jvm.ClassFile.Instr × Nat) := [(94, .iload_n 2, 1), (95, .bipush 36, 2), (97, .if_icmp .ge 18, 3)]
set_option maxRecDepth 20000 in
theorem k_X0_define_94 {sc : xm_Sc} : xm_bok (xe_cy (XE sc) 9) b_X0_define_94 := by show xm_bok cX0_define _; unfold xm_bok; decide +kernel
def b_X0_define_100 : List (Nat × Jvm.ClassFile.Instr × Nat) := [(100, .aload_n 0, 1), (101, .getfield 27, 3), (104, .iload_n 1, 1), (105, .aload_n 0, 1), (106, .iload_n 2, 1), (107, .iload_n 3, 1), (108, .invokevirtual 67, 3)]
set_option maxRecDepth 20000 in
theorem k_X0_define_100 {sc : xm_Sc} : xm_bok (xe_cy (XE sc) 9) b_X0_define_100 := by show xm_bok cX0_define _; unfold xm_bok; decide +kernel
def b_X0_define_111 : List (Nat × Jvm.ClassFile.Instr × Nat) := [(111, .iastore, 1), (112, .goto 15, 3)]
set_option maxRecDepth 20000 in
theorem k_X0_define_111 {sc : xm_Sc} : xm_bok (xe_cy (XE sc) 9) b_X0_define_111 := by show xm_bok cX0_define _; unfold xm_bok; decide +kernel
def b_X0_define_115 : List (Nat × Jvm.ClassFile.Instr × Nat) := [(115, .aload_n 0, 1), (116, .getfield 27, 3), (119, .iload_n 1, 1), (120, .aload_n 0, 1), (121, .iload_n 2, 1), (122, .iload_n 3, 1), (123, .invokevirtual 70, 3)]
set_option maxRecDepth 20000 in
theorem k_X0_define_115 {sc : xm_Sc} : xm_bok (xe_cy (XE sc) 9) b_X0_define_115 := by show xm_bok cX0_define _; unfold xm_bok; decide +kernel
def b_X0_define_126 : List (Nat × Jvm.ClassFile.Instr × Nat) := [(126, .iastore, 1)]
set_option maxRecDepth 20000 in
theorem k_X0_define_126 {sc : xm_Sc} : xm_bok (xe_cy (XE sc) 9) b_X0_define_126 := by show xm_bok cX0_define _; unfold xm_bok; decide +kernel
def b_X0_define_127 : List (Nat × Jvm.ClassFile.Instr × Nat) := [(127, .return_, 1)]
set_option maxRecDepth 20000 in
theorem k_X0_define_127 {sc : xm_Sc} : xm_bok (xe_cy (XE sc) 9) b_X0_define_127 := by show xm_bok cX0_define _; unfold xm_bok; decide +kernel
set_option maxRecDepth 20000 in
theorem cn_9 {sc : xm_Sc} : xe_cn (XE sc) 9 = 0 := rfl
set_option maxRecDepth 20000 in
theorem ml_9 {sc : xm_Sc} : xe_ml (XE sc) 9 = 4 := rfl
set_option maxRecDepth 20000 in
theorem ry_9 {sc : xm_Sc} : xe_ry (XE sc) 9 = none := rfl
set_option maxRecDepth 20000 in
theorem is_9 {sc : xm_Sc} : xe_is (XE sc) 9 = false := rfl
set_option maxRecDepth 20000 in
theorem np_9 {sc : xm_Sc} : xe_np (XE sc) 9 = 1 := rfl
/- method 10: X0_division -/
def b_X0_division_0 : List (Nat × Jvm.ClassFile.Instr × Nat) := [(0, .aload_n 0, 1), (1, .bipush 21, 2), (3, .iload_n 1, 1), (4, .invokevirtual 83, 3)]
set_option maxRecDepth 20000 in
theorem k_X0_division_0 {sc : xm_Sc} : xm_bok (xe_cy (XE sc) 10) b_X0_division_0 := by show xm_bok cX0_division _; unfold xm_bok; decide +kernel
def b_X0_division_7 : List (Nat × Jvm.ClassFile.Instr × Nat) := [(7, .istore_n 3, 1), (8, .iconst 0, 1), (9, .istore 4, 2)]
set_option maxRecDepth 20000 in
theorem k_X0_division_7 {sc : xm_Sc} : xm_bok (xe_cy (XE sc) 10) b_X0_division_7 := by show xm_bok cX0_division _; unfold xm_bok; decide +kernel
def b_X0_division_11 : List (Nat × Jvm.ClassFile.Instr × Nat) := [(11, .iload 4, 2), (13, .iload_n 1, 1), (14, .if_icmp .ge 237, 3)]
set_option maxRecDepth 20000 in
theorem k_X0_division_11 {sc : xm_Sc} : xm_bok (xe_cy (XE sc) 10) b_X0_division_11 := by show xm_bok cX0_division _; unfold xm_bok; decide +kernel
def b_X0_division_17 : List (Nat × Jvm.ClassFile.Instr × Nat) := [(17, .iconst 1, 1), (18, .iload 4, 2), (20, .ishl, 1), (21, .istore 5, 2), (23, .aload_n 0, 1), (24, .aload_n 0, 1), (25, .aload_n 0, 1), (26, .aload_n 0, 1), (27, .iload 5, 2), (29, .iload 5, 2), (31, .invokevirtual 95, 3)]
set_option maxRecDepth 20000 in
theorem k_X0_division_17 {sc : xm_Sc} : xm_bok (xe_cy (XE sc) 10) b_X0_division_17 := by show xm_bok cX0_division _; unfold xm_bok; decide +kernel
def b_X0_division_34 : List (Nat × Jvm.ClassFile.Instr × Nat) := [(34, .iconst 2, 1), (35, .iload_n 2, 1), (36, .imul, 1), (37, .invokevirtual 101, 3)]
set_option maxRecDepth 20000 in
theorem k_X0_division_34 {sc : xm_Sc} : xm_bok (xe_cy (XE sc) 10) b_X0_division_34 := by show xm_bok cX0_division _; unfold xm_bok; decide +kernel
def b_X0_division_40 : List (Nat × Jvm.ClassFile.Instr × Nat) := [(40, .aload_n 0, 1), (41, .iconst 2, 1), (42, .iload 5, 2), (44, .imul, 1), (45, .iconst 2, 1), (46, .iload_n 2, 1), (47, .imul, 1), (48, .invokevirtual 92, 3)]
set_option maxRecDepth 20000 in
theorem k_X0_division_40 {sc : xm_Sc} : xm_bok (xe_cy (XE sc) 10) b_X0_division_40 := by show xm_bok cX0_division _; unfold xm_bok; decide +kernel
def b_X0_division_51 : List (Nat × Jvm.ClassFile.Instr × Nat) := [(51, .invokevirtual 80, 3)]
set_option maxRecDepth 20000 in
theorem k_X0_division_51 {sc : xm_Sc} : xm_bok (xe_cy (XE sc) 10) b_X0_division_51 := by show xm_bok cX0_division _; unfold xm_bok; decide +kernel
def b_X0_division_54 : List (Nat × Jvm.ClassFile.Instr × Nat) := [(54, .iload_n 3, 1), (55, .invokevirtual 86, 3)]
set_option maxRecDepth 20000 in
theorem k_X0_division_54 {sc : xm_Sc} : xm_bok (xe_cy (XE sc) 10) b_X0_division_54 := by show xm_bok cX0_division _; unfold xm_bok; decide +kernel
def b_X0_division_58 : List (Nat × Jvm.ClassFile.Instr × Nat) := [(58, .istore 6, 2), (60, .aload_n 0, 1), (61, .iload 6, 2), (63, .aload_n 0, 1), (64, .aload_n 0, 1), (65, .aload_n 0, 1), (66, .iload 5, 2), (68, .iload 5, 2), (70, .invokevirtual 92, 3)]
set_option maxRecDepth 20000 in
theorem k_X0_division_58 {sc : xm_Sc} : xm_bok (xe_cy (XE sc) 10) b_X0_division_58 := by show xm_bok cX0_division _; unfold xm_bok; decide +kernel
def b_X0_division_73 : List (Nat × Jvm.ClassFile.Instr × Nat) := [(73, .iconst 2, 1), (74, .iload_n 2, 1), (75, .imul, 1), (76, .invokevirtual 101, 3)]
set_option maxRecDepth 20000 in
theorem k_X0_division_73 {sc : xm_Sc} : xm_bok (xe_cy (XE sc) 10) b_X0_division_73 := by show xm_bok cX0_division _; unfold xm_bok; decide +kernel
def b_X0_division_79 : List (Nat × Jvm.ClassFile.Instr × Nat) := [(79, .aload_n 0, 1), (80, .iconst 2, 1), (81, .iload 5, 2), (83, .imul, 1), (84, .aload_n 0, 1), (85, .iload_n 2, 1), (86, .iload_n 2, 1), (87, .invokevirtual 92, 3)]
set_option maxRecDepth 20000 in
theorem k_X0_division_79 {sc : xm_Sc} : xm_bok (xe_cy (XE sc) 10) b_X0_division_79 := by show xm_bok cX0_division _; unfold xm_bok; decide +kernel
def b_X0_division_90 : List (Nat × Jvm.ClassFile.Instr × Nat) := [(90, .invokevirtual 47, 3)]
set_option maxRecDepth 20000 in
theorem k_X0_division_90 {sc : xm_Sc} : xm_bok (xe_cy (XE sc) 10) b_X0_division_90 := by show xm_bok cX0_division _; unfold xm_bok; decide +kernel
def b_X0_division_93 : List (Nat × Jvm.ClassFile.Instr × Nat) := [(93, .invokevirtual 80, 3)]
set_option maxRecDepth 20000 in
theorem k_X0_division_93 {sc : xm_Sc} : xm_bok (xe_cy (XE sc) 10) b_X0_division_93 := by show xm_bok cX0_division _; unfold xm_bok; decide +kernel
def b_X0_division_96 : List (Nat × Jvm.ClassFile.Instr × Nat) := [(96, .invokevirtual 80, 3)]
set_option maxRecDepth 20000 in
theorem k_X0_division_96 {sc : xm_Sc} : xm_bok (xe_cy (XE sc) 10) b_X0_division_96 := by show xm_bok cX0_division _; unfold xm_bok; decide +kernel
def b_X0_division_99 : List (Nat × Jvm.ClassFile.Instr × Nat) := [(99, .istore 7, 2), (101, .aload_n 0, 1), (102, .aload_n 0, 1), (103, .aload_n 0, 1), (104, .iload 5, 2), (106, .iload_n 2, 1), (107, .iadd, 1), (108, .aload_n 0, 1), (109, .iload 5, 2), (111, .iload_n 2, 1), (112, .invokevirtual 95, 3)]
set_option maxRecDepth 20000 in
theorem k_X0_division_99 {sc : xm_Sc} : xm_bok (xe_cy (XE sc) 10) b_X0_division_99 := by show xm_bok cX0_division _; unfold xm_bok; decide +kernel
def b_X0_division_115 : List (Nat × Jvm.ClassFile.Instr × Nat) := [(115, .invokevirtual 47, 3)]
set_option maxRecDepth 20000 in
theorem k_X0_division_115 {sc : xm_Sc} : xm_bok (xe_cy (XE sc) 10) b_X0_division_115 := by show xm_bok cX0_division _; unfold xm_bok; decide +kernel
def b_X0_division_118 : List (Nat × Jvm.ClassFile.Instr × Nat) := [(118, .aload_n 0, 1), (119, .aload_n 0, 1), (120, .aload_n 0, 1), (121, .iload 5, 2), (123, .iload_n 2, 1), (124, .invokevirtual 92, 3)]
set_option maxRecDepth 20000 in
theorem k_X0_division_118 {sc : xm_Sc} : xm_bok (xe_cy (XE sc) 10) b_X0_division_118 := by show xm_bok cX0_division _; unfold xm_bok; decide +kernel
def b_X0_division_127 : List (Nat × Jvm.ClassFile.Instr × Nat) := [(127, .iload 5, 2), (129, .iload_n 2, 1), (130, .iadd, 1), (131, .invokevirtual 101, 3)]
set_option maxRecDepth 20000 in
theorem k_X0_division_127 {sc : xm_Sc} : xm_bok (xe_cy (XE sc) 10) b_X0_division_127 := by show xm_bok cX0_division _; unfold xm_bok; decide +kernel
def b_X0_division_134 : List (Nat × Jvm.ClassFile.Instr × Nat) := [(134, .aload_n 0, 1), (135, .iload 5, 2), (137, .iload_n 2, 1), (138, .iadd, 1), (139, .aload_n 0, 1), (140, .iload 5, 2), (142, .iload_n 2, 1), (143, .invokevirtual 92, 3)]
set_option maxRecDepth 20000 in
theorem k_X0_division_134 {sc : xm_Sc} : xm_bok (xe_cy (XE sc) 10) b_X0_division_134 := by show xm_bok cX0_division _; unfold xm_bok; decide +kernel
def b_X0_division_146 : List (Nat × Jvm.ClassFile.Instr × Nat) := [(146, .invokevirtual 47, 3)]
set_option maxRecDepth 20000 in
theorem k_X0_division_146 {sc : xm_Sc} : xm_bok (xe_cy (XE sc) 10) b_X0_division_146 := by show xm_bok cX0_division _; unfold xm_bok; decide +kernel
def b_X0_division_149 : List (Nat × Jvm.ClassFile.Instr × Nat) := [(149, .invokevirtual 80, 3)]
set_option maxRecDepth 20000 in
theorem k_X0_division_149 {sc : xm_Sc} : xm_bok (xe_cy (XE sc) 10) b_X0_division_149 := by show xm_bok cX0_division _; unfold xm_bok; decide +kernel
def b_X0_division_152 : List (Nat × Jvm.ClassFile.Instr × Nat) := [(152, .invokevirtual 80, 3)]
set_option maxRecDepth 20000 in
theorem k_X0_division_152 {sc : xm_Sc} : xm_bok (xe_cy (XE sc) 10) b_X0_division_152 := by show xm_bok cX0_division _; unfold xm_bok; decide +kernel
def b_X0_division_155 : List (Nat × Jvm.ClassFile.Instr × Nat) := [(155, .iload_n 3, 1), (156, .invokevirtual 86, 3)]
set_option maxRecDepth 20000 in
theorem k_X0_division_155 {sc : xm_Sc} : xm_bok (xe_cy (XE sc) 10) b_X0_division_155 := by show xm_bok cX0_division _; unfold xm_bok; decide +kernel
def b_X0_division_159 : List (Nat × Jvm.ClassFile.Instr × Nat) := [(159, .istore 8, 2), (161, .aload_n 0, 1), (162, .aload_n 0, 1), (163, .aload_n 0, 1), (164, .iload 5, 2), (166, .iload_n 2, 1), (167, .invokevirtual 95, 3)]
set_option maxRecDepth 20000 in
theorem k_X0_division_159 {sc : xm_Sc} : xm_bok (xe_cy (XE sc) 10) b_X0_division_159 := by show xm_bok cX0_division _; unfold xm_bok; decide +kernel
def b_X0_division_170 : List (Nat × Jvm.ClassFile.Instr × Nat) := [(170, .iload 5, 2), (172, .iload_n 2, 1), (173, .iadd, 1), (174, .invokevirtual 101, 3)]
set_option maxRecDepth 20000 in
theorem k_X0_division_170 {sc : xm_Sc} : xm_bok (xe_cy (XE sc) 10) b_X0_division_170 := by show xm_bok cX0_division _; unfold xm_bok; decide +kernel
def b_X0_division_177 : List (Nat × Jvm.ClassFile.Instr × Nat) := [(177, .iload 8, 2), (179, .invokevirtual 80, 3)]
set_option maxRecDepth 20000 in
theorem k_X0_division_177 {sc : xm_Sc} : xm_bok (xe_cy (XE sc) 10) b_X0_division_177 := by show xm_bok cX0_division _; unfold xm_bok; decide +kernel
def b_X0_division_182 : List (Nat × Jvm.ClassFile.Instr × Nat) := [(182, .istore 9, 2), (184, .aload_n 0, 1), (185, .aload_n 0, 1), (186, .aload_n 0, 1), (187, .iload 5, 2), (189, .iload 5, 2), (191, .iload_n 2, 1), (192, .iadd, 1), (193, .invokevirtual 95, 3)]
set_option maxRecDepth 20000 in
theorem k_X0_division_182 {sc : xm_Sc} : xm_bok (xe_cy (XE sc) 10) b_X0_division_182 := by show xm_bok cX0_division _; unfold xm_bok; decide +kernel
def b_X0_division_196 : List (Nat × Jvm.ClassFile.Instr × Nat) := [(196, .aload_n 0, 1), (197, .iload 5, 2), (199, .aload_n 0, 1), (200, .iload 5, 2), (202, .iload_n 2, 1), (203, .invokevirtual 95, 3)]
set_option maxRecDepth 20000 in
theorem k_X0_division_196 {sc : xm_Sc} : xm_bok (xe_cy (XE sc) 10) b_X0_division_196 := by show xm_bok cX0_division _; unfold xm_bok; decide +kernel
def b_X0_division_206 : List (Nat × Jvm.ClassFile.Instr × Nat) := [(206, .invokevirtual 47, 3)]
set_option maxRecDepth 20000 in
theorem k_X0_division_206 {sc : xm_Sc} : xm_bok (xe_cy (XE sc) 10) b_X0_division_206 := by show xm_bok cX0_division _; unfold xm_bok; decide +kernel
def b_X0_division_209 : List (Nat × Jvm.ClassFile.Instr × Nat) := [(209, .invokevirtual 80, 3)]
set_option maxRecDepth 20000 in
theorem k_X0_division_209 {sc : xm_Sc} : xm_bok (xe_cy (XE sc) 10) b_X0_division_209 := by show xm_bok cX0_division _; unfold xm_bok; decide +kernel
def b_X0_division_212 : List (Nat × Jvm.ClassFile.Instr × Nat) := [(212, .aload_n 0, 1), (213, .iload 5, 2), (215, .aload_n 0, 1), (216, .iload 5, 2), (218, .iload_n 2, 1), (219, .invokevirtual 92, 3)]
set_option maxRecDepth 20000 in
theorem k_X0_division_212 {sc : xm_Sc} : xm_bok (xe_cy (XE sc) 10) b_X0_division_212 := by show xm_bok cX0_division _; unfold xm_bok; decide +kernel
def b_X0_division_222 : List (Nat × Jvm.ClassFile.Instr × Nat) := [(222, .invokevirtual 47, 3)]
set_option maxRecDepth 20000 in
theorem k_X0_division_222 {sc : xm_Sc} : xm_bok (xe_cy (XE sc) 10) b_X0_division_222 := by show xm_bok cX0_division _; unfold xm_bok; decide +kernel
def b_X0_division_225 : List (Nat × Jvm.ClassFile.Instr × Nat) := [(225, .invokevirtual 80, 3)]
set_option maxRecDepth 20000 in
theorem k_X0_division_225 {sc : xm_Sc} : xm_bok (xe_cy (XE sc) 10) b_X0_division_225 := by show xm_bok cX0_division _; unfold xm_bok; decide +kernel
def b_X0_division_228 : List (Nat × Jvm.ClassFile.Instr × Nat) := [(228, .istore 10, 2), (230, .aload_n 0, 1), (231, .iload 7, 2), (233, .aload_n 0, 1), (234, .iload 9, 2), (236, .iload 10, 2), (238, .invokevirtual 86, 3)]
set_option maxRecDepth 20000 in
theorem k_X0_division_228 {sc : xm_Sc} : xm_bok (xe_cy (XE sc) 10) b_X0_division_228 := by show xm_bok cX0_division _; unfold xm_bok; decide +kernel
def b_X0_division_241 : List (Nat × Jvm.ClassFile.Instr × Nat) := [(241, .invokevirtual 86, 3)]
set_option maxRecDepth 20000 in
theorem k_X0_division_241 {sc : xm_Sc} : xm_bok (xe_cy (XE sc) 10) b_X0_division_241 := by show xm_bok cX0_division _; unfold xm_bok; decide +kernel
def b_X0_division_244 : List (Nat × Jvm.ClassFile.Instr × Nat) := [(244, .istore_n 3, 1), (245, .iinc 4 1, 3), (248, .goto (-237), 3)]
set_option maxRecDepth 20000 in
theorem k_X0_division_244 {sc : xm_Sc} : xm_bok (xe_cy (XE sc) 10) b_X0_division_244 := by show xm_bok cX0_division _; unfold xm_bok; decide +kernel
def b_X0_division_251 : List (Nat × Jvm.ClassFile.Instr × Nat) := [(251, .aload_n 0, 1), (252, .aload_n 0, 1), (253, .aload_n 0, 1), (254, .iload_n 2, 1), (255, .iload_n 2, 1), (256, .invokevirtual 95, 3)]
set_option maxRecDepth 20000 in
theorem k_X0_division_251 {sc : xm_Sc} : xm_bok (xe_cy (XE sc) 10) b_X0_division_251 := by show xm_bok cX0_division _; unfold xm_bok; decide +kernel
def b_X0_division_259 : List (Nat × Jvm.ClassFile.Instr × Nat) := [(259, .aload_n 0, 1), (260, .aload_n 0, 1), (261, .iload_n 1, 1), (262, .iconst 2, 1), (263, .iload_n 2, 1), (264, .imul, 1), (265, .invokevirtual 89, 3)]
set_option maxRecDepth 20000 in
theorem k_X0_division_259 {sc : xm_Sc} : xm_bok (xe_cy (XE sc) 10) b_X0_division_259 := by show xm_bok cX0_division _; unfold xm_bok; decide +kernel
def b_X0_division_268 : List (Nat × Jvm.ClassFile.Instr × Nat) := [(268, .aload_n 0, 1), (269, .iload_n 2, 1), (270, .iload_n 2, 1), (271, .invokevirtual 92, 3)]
set_option maxRecDepth 20000 in
theorem k_X0_division_268 {sc : xm_Sc} : xm_bok (xe_cy (XE sc) 10) b_X0_division_268 := by show xm_bok cX0_division _; unfold xm_bok; decide +kernel
def b_X0_division_274 : List (Nat × Jvm.ClassFile.Instr × Nat) := [(274, .invokevirtual 80, 3)]
set_option maxRecDepth 20000 in
theorem k_X0_division_274 {sc : xm_Sc} : xm_bok (xe_cy (XE sc) 10) b_X0_division_274 := by show xm_bok cX0_division _; unfold xm_bok; decide +kernel
def b_X0_division_277 : List (Nat × Jvm.ClassFile.Instr × Nat) := [(277, .invokevirtual 80, 3)]
set_option maxRecDepth 20000 in
theorem k_X0_division_277 {sc : xm_Sc} : xm_bok (xe_cy (XE sc) 10) b_X0_division_277 := by show xm_bok cX0_division _; unfold xm_bok; decide +kernel
def b_X0_division_280 : List (Nat × Jvm.ClassFile.Instr × Nat) := [(280, .iload_n 3, 1), (281, .invokevirtual 86, 3)]
set_option maxRecDepth 20000 in
theorem k_X0_division_280 {sc : xm_Sc} : xm_bok (xe_cy (XE sc) 10) b_X0_division_280 := by show xm_bok cX0_division _; unfold xm_bok; decide +kernel
def b_X0_division_284 : List (Nat × Jvm.ClassFile.Instr × Nat) := [(284, .ireturn, 1)]
set_option maxRecDepth 20000 in
theorem k_X0_division_284 {sc : xm_Sc} : xm_bok (xe_cy (XE sc) 10) b_X0_division_284 := by show xm_bok cX0_division _; unfold xm_bok; decide +kernel
set_option maxRecDepth 20000 in
theorem cn_10 {sc : xm_Sc} : xe_cn (XE sc) 10 = 0 := rfl
set_option maxRecDepth 20000 in
theorem ml_10 {sc : xm_Sc} : xe_ml (XE sc) 10 = 11 := rfl
set_option maxRecDepth 20000 in
theorem ry_10 {sc : xm_Sc} : xe_ry (XE sc) 10 = (some .int) := rfl
set_option maxRecDepth 20000 in
theorem is_10 {sc : xm_Sc} : xe_is (XE sc) 10 = false := rfl
set_option maxRecDepth 20000 in
theorem np_10 {sc : xm_Sc} : xe_np (XE sc) 10 = 2 := rfl
/- method 11: X0_divisionStep -/
def b_X0_divisionStep_0 : List (Nat × Jvm.ClassFile.Instr × Nat) := [(0, .aload_n 0, 1), (1, .aload_n 0, 1), (2, .aload_n 0, 1), (3, .iconst 1, 1), (4, .iconst 2, 1), (5, .iload_n 2, 1), (6, .imul, 1), (7, .invokevirtual 95, 3)]
set_option maxRecDepth 20000 in
theorem k_X0_divisionStep_0 {sc : xm_Sc} : xm_bok (xe_cy (XE sc) 11) b_X0_divisionStep_0 := by show xm_bok cX0_divisionStep _; unfold xm_bok; decide +kernel
def b_X0_divisionStep_10 : List (Nat × Jvm.ClassFile.Instr × Nat) := [(10, .aload_n 0, 1), (11, .iconst 1, 1), (12, .aload_n 0, 1), (13, .iload_n 2, 1), (14, .iload_n 2, 1), (15, .invokevirtual 95, 3)]
set_option maxRecDepth 20000 in
theorem k_X0_divisionStep_10 {sc : xm_Sc} : xm_bok (xe_cy (XE sc) 11) b_X0_divisionStep_10 := by show xm_bok cX0_divisionStep _; unfold xm_bok; decide +kernel
def b_X0_divisionStep_18 : List (Nat × Jvm.ClassFile.Instr × Nat) := [(18, .invokevirtual 47, 3)]
set_option maxRecDepth 20000 in
theorem k_X0_divisionStep_18 {sc : xm_Sc} : xm_bok (xe_cy (XE sc) 11) b_X0_divisionStep_18 := by show xm_bok cX0_divisionStep _; unfold xm_bok; decide +kernel
def b_X0_divisionStep_21 : List (Nat × Jvm.ClassFile.Instr × Nat) := [(21, .invokevirtual 80, 3)]
set_option maxRecDepth 20000 in
theorem k_X0_divisionStep_21 {sc : xm_Sc} : xm_bok (xe_cy (XE sc) 11) b_X0_divisionStep_21 := by show xm_bok cX0_divisionStep _; unfold xm_bok; decide +kernel
def b_X0_divisionStep_24 : List (Nat × Jvm.ClassFile.Instr × Nat) := [(24, .aload_n 0, 1), (25, .bipush 20, 2), (27, .iload_n 1, 1), (28, .invokevirtual 83, 3)]
set_option maxRecDepth 20000 in
theorem k_X0_divisionStep_24 {sc : xm_Sc} : xm_bok (xe_cy (XE sc) 11) b_X0_divisionStep_24 := by show xm_bok cX0_divisionStep _; unfold xm_bok; decide +kernel
def b_X0_divisionStep_31 : List (Nat × Jvm.ClassFile.Instr × Nat) := [(31, .invokevirtual 86, 3)]
set_option maxRecDepth 20000 in
theorem k_X0_divisionStep_31 {sc : xm_Sc} : xm_bok (xe_cy (XE sc) 11) b_X0_divisionStep_31 := by show xm_bok cX0_divisionStep _; unfold xm_bok; decide +kernel
def b_X0_divisionStep_34 : List (Nat × Jvm.ClassFile.Instr × Nat) := [(34, .istore_n 3, 1), (35, .aload_n 0, 1), (36, .iload_n 3, 1), (37, .aload_n 0, 1), (38, .iconst 1, 1), (39, .aload_n 0, 1), (40, .iload_n 2, 1), (41, .iload_n 2, 1), (42, .invokevirtual 92, 3)]
set_option maxRecDepth 20000 in
theorem k_X0_divisionStep_34 {sc : xm_Sc} : xm_bok (xe_cy (XE sc) 11) b_X0_divisionStep_34 := by show xm_bok cX0_divisionStep _; unfold xm_bok; decide +kernel
def b_X0_divisionStep_45 : List (Nat × Jvm.ClassFile.Instr × Nat) := [(45, .invokevirtual 47, 3)]
set_option maxRecDepth 20000 in
theorem k_X0_divisionStep_45 {sc : xm_Sc} : xm_bok (xe_cy (XE sc) 11) b_X0_divisionStep_45 := by show xm_bok cX0_divisionStep _; unfold xm_bok; decide +kernel
def b_X0_divisionStep_48 : List (Nat × Jvm.ClassFile.Instr × Nat) := [(48, .invokevirtual 80, 3)]
set_option maxRecDepth 20000 in
theorem k_X0_divisionStep_48 {sc : xm_Sc} : xm_bok (xe_cy (XE sc) 11) b_X0_divisionStep_48 := by show xm_bok cX0_divisionStep _; unfold xm_bok; decide +kernel
def b_X0_divisionStep_51 : List (Nat × Jvm.ClassFile.Instr × Nat) := [(51, .istore 4, 2), (53, .aload_n 0, 1), (54, .aload_n 0, 1), (55, .aload_n 0, 1), (56, .iconst 0, 1), (57, .iconst 1, 1), (58, .iconst 2, 1), (59, .iload_n 2, 1), (60, .imul, 1), (61, .iadd, 1), (62, .invokevirtual 73, 3)]
set_option maxRecDepth 20000 in
theorem k_X0_divisionStep_51 {sc : xm_Sc} : xm_bok (xe_cy (XE sc) 11) b_X0_divisionStep_51 := by show xm_bok cX0_divisionStep _; unfold xm_bok; decide +kernel
def b_X0_divisionStep_65 : List (Nat × Jvm.ClassFile.Instr × Nat) := [(65, .aload_n 0, 1), (66, .aload_n 0, 1), (67, .aload_n 0, 1), (68, .iconst 1, 1), (69, .iload_n 2, 1), (70, .invokevirtual 92, 3)]
set_option maxRecDepth 20000 in
theorem k_X0_divisionStep_65 {sc : xm_Sc} : xm_bok (xe_cy (XE sc) 11) b_X0_divisionStep_65 := by show xm_bok cX0_divisionStep _; unfold xm_bok; decide +kernel
def b_X0_divisionStep_73 : List (Nat × Jvm.ClassFile.Instr × Nat) := [(73, .iload_n 2, 1), (74, .invokevirtual 101, 3)]
set_option maxRecDepth 20000 in
theorem k_X0_divisionStep_73 {sc : xm_Sc} : xm_bok (xe_cy (XE sc) 11) b_X0_divisionStep_73 := by show xm_bok cX0_divisionStep _; unfold xm_bok; decide +kernel
def b_X0_divisionStep_77 : List (Nat × Jvm.ClassFile.Instr × Nat) := [(77, .aload_n 0, 1), (78, .iconst 1, 1), (79, .iload_n 2, 1), (80, .iadd, 1), (81, .iload_n 2, 1), (82, .invokevirtual 92, 3)]
set_option maxRecDepth 20000 in
theorem k_X0_divisionStep_77 {sc : xm_Sc} : xm_bok (xe_cy (XE sc) 11) b_X0_divisionStep_77 := by show xm_bok cX0_divisionStep _; unfold xm_bok; decide +kernel
def b_X0_divisionStep_85 : List (Nat × Jvm.ClassFile.Instr × Nat) := [(85, .invokevirtual 80, 3)]
set_option maxRecDepth 20000 in
theorem k_X0_divisionStep_85 {sc : xm_Sc} : xm_bok (xe_cy (XE sc) 11) b_X0_divisionStep_85 := by show xm_bok cX0_divisionStep _; unfold xm_bok; decide +kernel
def b_X0_divisionStep_88 : List (Nat × Jvm.ClassFile.Instr × Nat) := [(88, .invokevirtual 80, 3)]
set_option maxRecDepth 20000 in
theorem k_X0_divisionStep_88 {sc : xm_Sc} : xm_bok (xe_cy (XE sc) 11) b_X0_divisionStep_88 := by show xm_bok cX0_divisionStep _; unfold xm_bok; decide +kernel
def b_X0_divisionStep_91 : List (Nat × Jvm.ClassFile.Instr × Nat) := [(91, .aload_n 0, 1), (92, .iconst 1, 1), (93, .iload_n 1, 1), (94, .invokevirtual 83, 3)]
set_option maxRecDepth 20000 in
theorem k_X0_divisionStep_91 {sc : xm_Sc} : xm_bok (xe_cy (XE sc) 11) b_X0_divisionStep_91 := by show xm_bok cX0_divisionStep _; unfold xm_bok; decide +kernel
def b_X0_divisionStep_97 : List (Nat × Jvm.ClassFile.Instr × Nat) := [(97, .invokevirtual 86, 3)]
set_option maxRecDepth 20000 in
theorem k_X0_divisionStep_97 {sc : xm_Sc} : xm_bok (xe_cy (XE sc) 11) b_X0_divisionStep_97 := by show xm_bok cX0_divisionStep _; unfold xm_bok; decide +kernel
def b_X0_divisionStep_100 : List (Nat × Jvm.ClassFile.Instr × Nat) := [(100, .istore 5, 2), (102, .aload_n 0, 1), (103, .iload 5, 2), (105, .aload_n 0, 1), (106, .iconst 1, 1), (107, .iload_n 2, 1), (108, .iadd, 1), (109, .iload_n 2, 1), (110, .invokevirtual 95, 3)]
set_option maxRecDepth 20000 in
theorem k_X0_divisionStep_100 {sc : xm_Sc} : xm_bok (xe_cy (XE sc) 11) b_X0_divisionStep_100 := by show xm_bok cX0_divisionStep _; unfold xm_bok; decide +kernel
def b_X0_divisionStep_113 : List (Nat × Jvm.ClassFile.Instr × Nat) := [(113, .invokevirtual 80, 3)]
set_option maxRecDepth 20000 in
theorem k_X0_divisionStep_113 {sc : xm_Sc} : xm_bok (xe_cy (XE sc) 11) b_X0_divisionStep_113 := by show xm_bok cX0_divisionStep _; unfold xm_bok; decide +kernel
def b_X0_divisionStep_116 : List (Nat × Jvm.ClassFile.Instr × Nat) := [(116, .istore 6, 2), (118, .aload_n 0, 1), (119, .aload_n 0, 1), (120, .aload_n 0, 1), (121, .iconst 1, 1), (122, .iload_n 2, 1), (123, .invokevirtual 95, 3)]
set_option maxRecDepth 20000 in
theorem k_X0_divisionStep_116 {sc : xm_Sc} : xm_bok (xe_cy (XE sc) 11) b_X0_divisionStep_116 := by show xm_bok cX0_divisionStep _; unfold xm_bok; decide +kernel
def b_X0_divisionStep_126 : List (Nat × Jvm.ClassFile.Instr × Nat) := [(126, .iconst 1, 1), (127, .iload_n 2, 1), (128, .iadd, 1), (129, .invokevirtual 101, 3)]
set_option maxRecDepth 20000 in
theorem k_X0_divisionStep_126 {sc : xm_Sc} : xm_bok (xe_cy (XE sc) 11) b_X0_divisionStep_126 := by show xm_bok cX0_divisionStep _; unfold xm_bok; decide +kernel
def b_X0_divisionStep_132 : List (Nat × Jvm.ClassFile.Instr × Nat) := [(132, .aload_n 0, 1), (133, .aload_n 0, 1), (134, .iconst 1, 1), (135, .iload_n 2, 1), (136, .iadd, 1), (137, .aload_n 0, 1), (138, .iconst 1, 1), (139, .iload_n 2, 1), (140, .invokevirtual 95, 3)]
set_option maxRecDepth 20000 in
theorem k_X0_divisionStep_132 {sc : xm_Sc} : xm_bok (xe_cy (XE sc) 11) b_X0_divisionStep_132 := by show xm_bok cX0_divisionStep _; unfold xm_bok; decide +kernel
def b_X0_divisionStep_143 : List (Nat × Jvm.ClassFile.Instr × Nat) := [(143, .invokevirtual 47, 3)]
set_option maxRecDepth 20000 in
theorem k_X0_divisionStep_143 {sc : xm_Sc} : xm_bok (xe_cy (XE sc) 11) b_X0_divisionStep_143 := by show xm_bok cX0_divisionStep _; unfold xm_bok; decide +kernel
def b_X0_divisionStep_146 : List (Nat × Jvm.ClassFile.Instr × Nat) := [(146, .aload_n 0, 1), (147, .aload_n 0, 1), (148, .aload_n 0, 1), (149, .iconst 1, 1), (150, .iload_n 2, 1), (151, .invokevirtual 92, 3)]
set_option maxRecDepth 20000 in
theorem k_X0_divisionStep_146 {sc : xm_Sc} : xm_bok (xe_cy (XE sc) 11) b_X0_divisionStep_146 := by show xm_bok cX0_divisionStep _; unfold xm_bok; decide +kernel
def b_X0_divisionStep_154 : List (Nat × Jvm.ClassFile.Instr × Nat) := [(154, .iconst 1, 1), (155, .iload_n 2, 1), (156, .iadd, 1), (157, .invokevirtual 101, 3)]
set_option maxRecDepth 20000 in
theorem k_X0_divisionStep_154 {sc : xm_Sc} : xm_bok (xe_cy (XE sc) 11) b_X0_divisionStep_154 := by show xm_bok cX0_divisionStep _; unfold xm_bok; decide +kernel
def b_X0_divisionStep_160 : List (Nat × Jvm.ClassFile.Instr × Nat) := [(160, .aload_n 0, 1), (161, .iconst 1, 1), (162, .iload_n 2, 1), (163, .iadd, 1), (164, .aload_n 0, 1), (165, .iconst 1, 1), (166, .iload_n 2, 1), (167, .invokevirtual 92, 3)]
set_option maxRecDepth 20000 in
theorem k_X0_divisionStep_160 {sc : xm_Sc} : xm_bok (xe_cy (XE sc) 11) b_X0_divisionStep_160 := by show xm_bok cX0_divisionStep _; unfold xm_bok; decide +kernel
def b_X0_divisionStep_170 : List (Nat × Jvm.ClassFile.Instr × Nat) := [(170, .invokevirtual 47, 3)]
set_option maxRecDepth 20000 in
theorem k_X0_divisionStep_170 {sc : xm_Sc} : xm_bok (xe_cy (XE sc) 11) b_X0_divisionStep_170 := by show xm_bok cX0_divisionStep _; unfold xm_bok; decide +kernel
def b_X0_divisionStep_173 : List (Nat × Jvm.ClassFile.Instr × Nat) := [(173, .invokevirtual 80, 3)]
set_option maxRecDepth 20000 in
theorem k_X0_divisionStep_173 {sc : xm_Sc} : xm_bok (xe_cy (XE sc) 11) b_X0_divisionStep_173 := by show xm_bok cX0_divisionStep _; unfold xm_bok; decide +kernel
def b_X0_divisionStep_176 : List (Nat × Jvm.ClassFile.Instr × Nat) := [(176, .invokevirtual 80, 3)]
set_option maxRecDepth 20000 in
theorem k_X0_divisionStep_176 {sc : xm_Sc} : xm_bok (xe_cy (XE sc) 11) b_X0_divisionStep_176 := by show xm_bok cX0_divisionStep _; unfold xm_bok; decide +kernel
def b_X0_divisionStep_179 : List (Nat × Jvm.ClassFile.Instr × Nat) := [(179, .invokevirtual 80, 3)]
set_option maxRecDepth 20000 in
theorem k_X0_divisionStep_179 {sc : xm_Sc} : xm_bok (xe_cy (XE sc) 11) b_X0_divisionStep_179 := by show xm_bok cX0_divisionStep _; unfold xm_bok; decide +kernel
def b_X0_divisionStep_182 : List (Nat × Jvm.ClassFile.Instr × Nat) := [(182, .istore 7, 2), (184, .aload_n 0, 1), (185, .aload_n 0, 1), (186, .iconst 1, 1), (187, .iconst 2, 1), (188, .iload_n 2, 1), (189, .imul, 1), (190, .invokevirtual 73, 3)]
set_option maxRecDepth 20000 in
theorem k_X0_divisionStep_182 {sc : xm_Sc} : xm_bok (xe_cy (XE sc) 11) b_X0_divisionStep_182 := by show xm_bok cX0_divisionStep _; unfold xm_bok; decide +kernel
def b_X0_divisionStep_193 : List (Nat × Jvm.ClassFile.Instr × Nat) := [(193, .aload_n 0, 1), (194, .iload_n 2, 1), (195, .iload_n 2, 1), (196, .invokevirtual 95, 3)]
set_option maxRecDepth 20000 in
theorem k_X0_divisionStep_193 {sc : xm_Sc} : xm_bok (xe_cy (XE sc) 11) b_X0_divisionStep_193 := by show xm_bok cX0_divisionStep _; unfold xm_bok; decide +kernel
def b_X0_divisionStep_199 : List (Nat × Jvm.ClassFile.Instr × Nat) := [(199, .invokevirtual 80, 3)]
set_option maxRecDepth 20000 in
theorem k_X0_divisionStep_199 {sc : xm_Sc} : xm_bok (xe_cy (XE sc) 11) b_X0_divisionStep_199 := by show xm_bok cX0_divisionStep _; unfold xm_bok; decide +kernel
def b_X0_divisionStep_202 : List (Nat × Jvm.ClassFile.Instr × Nat) := [(202, .istore 8, 2), (204, .aload_n 0, 1), (205, .aload_n 0, 1), (206, .iconst 0, 1), (207, .iconst 2, 1), (208, .iload_n 2, 1), (209, .imul, 1), (210, .invokevirtual 73, 3)]
set_option maxRecDepth 20000 in
theorem k_X0_divisionStep_202 {sc : xm_Sc} : xm_bok (xe_cy (XE sc) 11) b_X0_divisionStep_202 := by show xm_bok cX0_divisionStep _; unfold xm_bok; decide +kernel
def b_X0_divisionStep_213 : List (Nat × Jvm.ClassFile.Instr × Nat) := [(213, .aload_n 0, 1), (214, .iload_n 2, 1), (215, .iload_n 2, 1), (216, .invokevirtual 92, 3)]
set_option maxRecDepth 20000 in
theorem k_X0_divisionStep_213 {sc : xm_Sc} : xm_bok (xe_cy (XE sc) 11) b_X0_divisionStep_213 := by show xm_bok cX0_divisionStep _; unfold xm_bok; decide +kernel
def b_X0_divisionStep_219 : List (Nat × Jvm.ClassFile.Instr × Nat) := [(219, .invokevirtual 80, 3)]
set_option maxRecDepth 20000 in
theorem k_X0_divisionStep_219 {sc : xm_Sc} : xm_bok (xe_cy (XE sc) 11) b_X0_divisionStep_219 := by show xm_bok cX0_divisionStep _; unfold xm_bok; decide +kernel
def b_X0_divisionStep_222 : List (Nat × Jvm.ClassFile.Instr × Nat) := [(222, .istore 9, 2), (224, .aload_n 0, 1), (225, .aload_n 0, 1), (226, .iconst 1, 1), (227, .iload 8, 2), (229, .invokevirtual 47, 3)]
set_option maxRecDepth 20000 in
theorem k_X0_divisionStep_222 {sc : xm_Sc} : xm_bok (xe_cy (XE sc) 11) b_X0_divisionStep_222 := by show xm_bok cX0_divisionStep _; unfold xm_bok; decide +kernel
def b_X0_divisionStep_232 : List (Nat × Jvm.ClassFile.Instr × Nat) := [(232, .aload_n 0, 1), (233, .iload 9, 2), (235, .iload 8, 2), (237, .invokevirtual 98, 3)]
set_option maxRecDepth 20000 in
theorem k_X0_divisionStep_232 {sc : xm_Sc} : xm_bok (xe_cy (XE sc) 11) b_X0_divisionStep_232 := by show xm_bok cX0_divisionStep _; unfold xm_bok; decide +kernel
def b_X0_divisionStep_240 : List (Nat × Jvm.ClassFile.Instr × Nat) := [(240, .invokevirtual 98, 3)]
set_option maxRecDepth 20000 in
theorem k_X0_divisionStep_240 {sc : xm_Sc} : xm_bok (xe_cy (XE sc) 11) b_X0_divisionStep_240 := by show xm_bok cX0_divisionStep _; unfold xm_bok; decide +kernel
def b_X0_divisionStep_243 : List (Nat × Jvm.ClassFile.Instr × Nat) := [(243, .istore 10, 2), (245, .aload_n 0, 1), (246, .iload 4, 2), (248, .aload_n 0, 1), (249, .iload 6, 2), (251, .aload_n 0, 1), (252, .iload 7, 2), (254, .iload 10, 2), (256, .invokevirtual 86, 3)]
set_option maxRecDepth 20000 in
theorem k_X0_divisionStep_243 {sc : xm_Sc} : xm_bok (xe_cy (XE sc) 11) b_X0_divisionStep_243 := by show xm_bok cX0_divisionStep _; unfold xm_bok; decide +kernel
def b_X0_divisionStep_259 : List (Nat × Jvm.ClassFile.Instr × Nat) := [(259, .invokevirtual 86, 3)]
set_option maxRecDepth 20000 in
theorem k_X0_divisionStep_259 {sc : xm_Sc} : xm_bok (xe_cy (XE sc) 11) b_X0_divisionStep_259 := by show xm_bok cX0_divisionStep _; unfold xm_bok; decide +kernel
def b_X0_divisionStep_262 : List (Nat × Jvm.ClassFile.Instr × Nat) := [(262, .invokevirtual 86, 3)]
set_option maxRecDepth 20000 in
theorem k_X0_divisionStep_262 {sc : xm_Sc} : xm_bok (xe_cy (XE sc) 11) b_X0_divisionStep_262 := by show xm_bok cX0_divisionStep _; unfold xm_bok; decide +kernel
def b_X0_divisionStep_265 : List (Nat × Jvm.ClassFile.Instr × Nat) := [(265, .ireturn, 1)]
set_option maxRecDepth 20000 in
theorem k_X0_divisionStep_265 {sc : xm_Sc} : xm_bok (xe_cy (XE sc) 11) b_X0_divisionStep_265 := by show xm_bok cX0_divisionStep _; unfold xm_bok; decide +kernel
set_option maxRecDepth 20000 in
theorem cn_11 {sc : xm_Sc} : xe_cn (XE sc) 11 = 0 := rfl
set_option maxRecDepth 20000 in
theorem ml_11 {sc : xm_Sc} : xe_ml (XE sc) 11 = 11 := rfl
set_option maxRecDepth 20000 in
theorem ry_11 {sc : xm_Sc} : xe_ry (XE sc) 11 = (some .int) := rfl
set_option maxRecDepth 20000 in
theorem is_11 {sc : xm_Sc} : xe_is (XE sc) 11 = false := rfl
set_option maxRecDepth 20000 in
theorem np_11 {sc : xm_Sc} : xe_np (XE sc) 11 = 2 := rfl
/- method 12: X0_drop -/
def b_X0_drop_0 : List (Nat × Jvm.ClassFile.Instr × Nat) := [(0, .iload_n 1, 1), (1, .aload_n 0, 1), (2, .getfield 30, 3), (5, .iload_n 2, 1), (6, .iaload, 1), (7, .iadd, 1), (8, .istore_n 3, 1), (9, .iload_n 1, 1), (10, .ifCond .ne 5, 3)]
set_option maxRecDepth 20000 in
theorem k_X0_drop_0 {sc : xm_Sc} : xm_bok (xe_cy (XE sc) 12) b_X0_drop_0 := by show xm_bok cX0_drop _; unfold xm_bok; decide +kernel
def b_X0_drop_13 : List (Nat × Jvm.ClassFile.Instr × Nat) := [(13, .iload_n 2, 1), (14, .ireturn, 1)]
set_option maxRecDepth 20000 in
theorem k_X0_drop_13 {sc : xm_Sc} : xm_bok (xe_cy (XE sc) 12) b_X0_drop_13 := by show xm_bok cX0_drop _; unfold xm_bok; decide +kernel
def b_X0_drop_15 : List (Nat × Jvm.ClassFile.Instr × Nat) := [(15, .aload_n 0, 1), (16, .getfield 11, 3), (19, .iload_n 2, 1), (20, .iaload, 1), (21, .bipush 7, 2), (23, .if_icmp .ne 33, 3)]
set_option maxRecDepth 20000 in
theorem k_X0_drop_15 {sc : xm_Sc} : xm_bok (xe_cy (XE sc) 12) b_X0_drop_15 := by show xm_bok cX0_drop _; unfold xm_bok; decide +kernel
def b_X0_drop_26 : List (Nat × Jvm.ClassFile.Instr × Nat) := [(26, .aload_n 0, 1), (27, .bipush 7, 2), (29, .iconst (-1), 1), (30, .iconst (-1), 1), (31, .aload_n 0, 1), (32, .getfield 21, 3), (35, .iload_n 2, 1), (36, .iaload, 1), (37, .iload_n 1, 1), (38, .aload_n 0, 1), (39, .getfield 24, 3), (42, .iload_n 2, 1), (43, .iaload, 1), (44, .iadd, 1), (45, .iload_n 3, 1), (46, .aload_n 0, 1), (47, .getfield 33, 3), (50, .iload_n 2, 1), (51, .iaload, 1), (52, .invokevirtual 43, 3)]
set_option maxRecDepth 20000 in
theorem k_X0_drop_26 {sc : xm_Sc} : xm_bok (xe_cy (XE sc) 12) b_X0_drop_26 := by show xm_bok cX0_drop _; unfold xm_bok; decide +kernel
def b_X0_drop_55 : List (Nat × Jvm.ClassFile.Instr × Nat) := [(55, .ireturn, 1)]
set_option maxRecDepth 20000 in
theorem k_X0_drop_55 {sc : xm_Sc} : xm_bok (xe_cy (XE sc) 12) b_X0_drop_55 := by show xm_bok cX0_drop _; unfold xm_bok; decide +kernel
def b_X0_drop_56 : List (Nat × Jvm.ClassFile.Instr × Nat) := [(56, .aload_n 0, 1), (57, .getfield 11, 3), (60, .iload_n 2, 1), (61, .iaload, 1), (62, .bipush 6, 2), (64, .if_icmp .ne 33, 3)]
set_option maxRecDepth 20000 in
theorem k_X0_drop_56 {sc : xm_Sc} : xm_bok (xe_cy (XE sc) 12) b_X0_drop_56 := by show xm_bok cX0_drop _; unfold xm_bok; decide +kernel
def b_X0_drop_67 : List (Nat × Jvm.ClassFile.Instr × Nat) := [(67, .aload_n 0, 1), (68, .bipush 6, 2), (70, .aload_n 0, 1), (71, .getfield 15, 3), (74, .iload_n 2, 1), (75, .iaload, 1), (76, .iconst (-1), 1), (77, .iload_n 1, 1), (78, .aload_n 0, 1), (79, .getfield 21, 3), (82, .iload_n 2, 1), (83, .iaload, 1), (84, .iadd, 1), (85, .iconst 0, 1), (86, .iload_n 3, 1), (87, .aload_n 0, 1), (88, .getfield 33, 3), (91, .iload_n 2, 1), (92, .iaload, 1), (93, .invokevirtual 43, 3)]
set_option maxRecDepth 20000 in
theorem k_X0_drop_67 {sc : xm_Sc} : xm_bok (xe_cy (XE sc) 12) b_X0_drop_67 := by show xm_bok cX0_drop _; unfold xm_bok; decide +kernel
def b_X0_drop_96 : List (Nat × Jvm.ClassFile.Instr × Nat) := [(96, .ireturn, 1)]
set_option maxRecDepth 20000 in
theorem k_X0_drop_96 {sc : xm_Sc} : xm_bok (xe_cy (XE sc) 12) b_X0_drop_96 := by show xm_bok cX0_drop _; unfold xm_bok; decide +kernel
def b_X0_drop_97 : List (Nat × Jvm.ClassFile.Instr × Nat) := [(97, .aload_n 0, 1), (98, .bipush 6, 2), (100, .iload_n 2, 1), (101, .iconst (-1), 1), (102, .iload_n 1, 1), (103, .iconst 0, 1), (104, .iload_n 3, 1), (105, .aload_n 0, 1), (106, .getfield 33, 3), (109, .iload_n 2, 1), (110, .iaload, 1), (111, .invokevirtual 43, 3)]
set_option maxRecDepth 20000 in
theorem k_X0_drop_97 {sc : xm_Sc} : xm_bok (xe_cy (XE sc) 12) b_X0_drop_97 := by show xm_bok cX0_drop _; unfold xm_bok; decide +kernel
def b_X0_drop_114 : List (Nat × Jvm.ClassFile.Instr × Nat) := [(114, .ireturn, 1)]
set_option maxRecDepth 20000 in
theorem k_X0_drop_114 {sc : xm_Sc} : xm_bok (xe_cy (XE sc) 12) b_X0_drop_114 := by show xm_bok cX0_drop _; unfold xm_bok; decide +kernel
set_option maxRecDepth 20000 in
theorem cn_12 {sc : xm_Sc} : xe_cn (XE sc) 12 = 0 := rfl
set_option maxRecDepth 20000 in
theorem ml_12 {sc : xm_Sc} : xe_ml (XE sc) 12 = 4 := rfl
set_option maxRecDepth 20000 in
theorem ry_12 {sc : xm_Sc} : xe_ry (XE sc) 12 = (some .int) := rfl
set_option maxRecDepth 20000 in
theorem is_12 {sc : xm_Sc} : xe_is (XE sc) 12 = false := rfl
set_option maxRecDepth 20000 in
theorem np_12 {sc : xm_Sc} : xe_np (XE sc) 12 = 2 := rfl
/- method 13: X0_eightBits -/
def b_X0_eightBits_0 : List (Nat × Jvm.ClassFile.Instr × Nat) := [(0, .aload_n 0, 1), (1, .aload_n 0, 1), (2, .iload_n 1, 1), (3, .bipush 7, 2), (5, .ishr, 1), (6, .iconst 1, 1), (7, .iand, 1), (8, .iload_n 2, 1), (9, .invokevirtual 73, 3)]
set_option maxRecDepth 20000 in
theorem k_X0_eightBits_0 {sc : xm_Sc} : xm_bok (xe_cy (XE sc) 13) b_X0_eightBits_0 := by show xm_bok cX0_eightBits _; unfold xm_bok; decide +kernel
def b_X0_eightBits_12 : List (Nat × Jvm.ClassFile.Instr × Nat) := [(12, .aload_n 0, 1), (13, .iload_n 1, 1), (14, .bipush 6, 2), (16, .ishr, 1), (17, .iconst 1, 1), (18, .iand, 1), (19, .iload_n 2, 1), (20, .invokevirtual 73, 3)]
set_option maxRecDepth 20000 in
theorem k_X0_eightBits_12 {sc : xm_Sc} : xm_bok (xe_cy (XE sc) 13) b_X0_eightBits_12 := by show xm_bok cX0_eightBits _; unfold xm_bok; decide +kernel
def b_X0_eightBits_23 : List (Nat × Jvm.ClassFile.Instr × Nat) := [(23, .invokevirtual 80, 3)]
set_option maxRecDepth 20000 in
theorem k_X0_eightBits_23 {sc : xm_Sc} : xm_bok (xe_cy (XE sc) 13) b_X0_eightBits_23 := by show xm_bok cX0_eightBits _; unfold xm_bok; decide +kernel
def b_X0_eightBits_26 : List (Nat × Jvm.ClassFile.Instr × Nat) := [(26, .istore_n 3, 1), (27, .aload_n 0, 1), (28, .aload_n 0, 1), (29, .iload_n 1, 1), (30, .iconst 5, 1), (31, .ishr, 1), (32, .iconst 1, 1), (33, .iand, 1), (34, .iload_n 2, 1), (35, .invokevirtual 73, 3)]
set_option maxRecDepth 20000 in
theorem k_X0_eightBits_26 {sc : xm_Sc} : xm_bok (xe_cy (XE sc) 13) b_X0_eightBits_26 := by show xm_bok cX0_eightBits _; unfold xm_bok; decide +kernel
def b_X0_eightBits_38 : List (Nat × Jvm.ClassFile.Instr × Nat) := [(38, .aload_n 0, 1), (39, .iload_n 1, 1), (40, .iconst 4, 1), (41, .ishr, 1), (42, .iconst 1, 1), (43, .iand, 1), (44, .iload_n 2, 1), (45, .invokevirtual 73, 3)]
set_option maxRecDepth 20000 in
theorem k_X0_eightBits_38 {sc : xm_Sc} : xm_bok (xe_cy (XE sc) 13) b_X0_eightBits_38 := by show xm_bok cX0_eightBits _; unfold xm_bok; decide +kernel
def b_X0_eightBits_48 : List (Nat × Jvm.ClassFile.Instr × Nat) := [(48, .invokevirtual 80, 3)]
set_option maxRecDepth 20000 in
theorem k_X0_eightBits_48 {sc : xm_Sc} : xm_bok (xe_cy (XE sc) 13) b_X0_eightBits_48 := by show xm_bok cX0_eightBits _; unfold xm_bok; decide +kernel
def b_X0_eightBits_51 : List (Nat × Jvm.ClassFile.Instr × Nat) := [(51, .istore 4, 2), (53, .aload_n 0, 1), (54, .aload_n 0, 1), (55, .iload_n 1, 1), (56, .iconst 3, 1), (57, .ishr, 1), (58, .iconst 1, 1), (59, .iand, 1), (60, .iload_n 2, 1), (61, .invokevirtual 73, 3)]
set_option maxRecDepth 20000 in
theorem k_X0_eightBits_51 {sc : xm_Sc} : xm_bok (xe_cy (XE sc) 13) b_X0_eightBits_51 := by show xm_bok cX0_eightBits _; unfold xm_bok; decide +kernel
def b_X0_eightBits_64 : List (Nat × Jvm.ClassFile.Instr × Nat) := [(64, .aload_n 0, 1), (65, .iload_n 1, 1), (66, .iconst 2, 1), (67, .ishr, 1), (68, .iconst 1, 1), (69, .iand, 1), (70, .iload_n 2, 1), (71, .invokevirtual 73, 3)]
set_option maxRecDepth 20000 in
theorem k_X0_eightBits_64 {sc : xm_Sc} : xm_bok (xe_cy (XE sc) 13) b_X0_eightBits_64 := by show xm_bok cX0_eightBits _; unfold xm_bok; decide +kernel
def b_X0_eightBits_74 : List (Nat × Jvm.ClassFile.Instr × Nat) := [(74, .invokevirtual 80, 3)]
set_option maxRecDepth 20000 in
theorem k_X0_eightBits_74 {sc : xm_Sc} : xm_bok (xe_cy (XE sc) 13) b_X0_eightBits_74 := by show xm_bok cX0_eightBits _; unfold xm_bok; decide +kernel
def b_X0_eightBits_77 : List (Nat × Jvm.ClassFile.Instr × Nat) := [(77, .istore 5, 2), (79, .aload_n 0, 1), (80, .aload_n 0, 1), (81, .iload_n 1, 1), (82, .iconst 1, 1), (83, .ishr, 1), (84, .iconst 1, 1), (85, .iand, 1), (86, .iload_n 2, 1), (87, .invokevirtual 73, 3)]
set_option maxRecDepth 20000 in
theorem k_X0_eightBits_77 {sc : xm_Sc} : xm_bok (xe_cy (XE sc) 13) b_X0_eightBits_77 := by show xm_bok cX0_eightBits _; unfold xm_bok; decide +kernel
def b_X0_eightBits_90 : List (Nat × Jvm.ClassFile.Instr × Nat) := [(90, .aload_n 0, 1), (91, .iload_n 1, 1), (92, .iconst 1, 1), (93, .iand, 1), (94, .iload_n 2, 1), (95, .invokevirtual 73, 3)]
set_option maxRecDepth 20000 in
theorem k_X0_eightBits_90 {sc : xm_Sc} : xm_bok (xe_cy (XE sc) 13) b_X0_eightBits_90 := by show xm_bok cX0_eightBits _; unfold xm_bok; decide +kernel
def b_X0_eightBits_98 : List (Nat × Jvm.ClassFile.Instr × Nat) := [(98, .invokevirtual 80, 3)]
set_option maxRecDepth 20000 in
theorem k_X0_eightBits_98 {sc : xm_Sc} : xm_bok (xe_cy (XE sc) 13) b_X0_eightBits_98 := by show xm_bok cX0_eightBits _; unfold xm_bok; decide +kernel
def b_X0_eightBits_101 : List (Nat × Jvm.ClassFile.Instr × Nat) := [(101, .istore 6, 2), (103, .aload_n 0, 1), (104, .aload_n 0, 1), (105, .iload_n 3, 1), (106, .iload 4, 2), (108, .invokevirtual 80, 3)]
set_option maxRecDepth 20000 in
theorem k_X0_eightBits_101 {sc : xm_Sc} : xm_bok (xe_cy (XE sc) 13) b_X0_eightBits_101 := by show xm_bok cX0_eightBits _; unfold xm_bok; decide +kernel
def b_X0_eightBits_111 : List (Nat × Jvm.ClassFile.Instr × Nat) := [(111, .aload_n 0, 1), (112, .iload 5, 2), (114, .iload 6, 2), (116, .invokevirtual 80, 3)]
set_option maxRecDepth 20000 in
theorem k_X0_eightBits_111 {sc : xm_Sc} : xm_bok (xe_cy (XE sc) 13) b_X0_eightBits_111 := by show xm_bok cX0_eightBits _; unfold xm_bok; decide +kernel
def b_X0_eightBits_119 : List (Nat × Jvm.ClassFile.Instr × Nat) := [(119, .invokevirtual 80, 3)]
set_option maxRecDepth 20000 in
theorem k_X0_eightBits_119 {sc : xm_Sc} : xm_bok (xe_cy (XE sc) 13) b_X0_eightBits_119 := by show xm_bok cX0_eightBits _; unfold xm_bok; decide +kernel
def b_X0_eightBits_122 : List (Nat × Jvm.ClassFile.Instr × Nat) := [(122, .ireturn, 1)]
set_option maxRecDepth 20000 in
theorem k_X0_eightBits_122 {sc : xm_Sc} : xm_bok (xe_cy (XE sc) 13) b_X0_eightBits_122 := by show xm_bok cX0_eightBits _; unfold xm_bok; decide +kernel
set_option maxRecDepth 20000 in
theorem cn_13 {sc : xm_Sc} : xe_cn (XE sc) 13 = 0 := rfl
set_option maxRecDepth 20000 in
theorem ml_13 {sc : xm_Sc} : xe_ml (XE sc) 13 = 7 := rfl
set_option maxRecDepth 20000 in
theorem ry_13 {sc : xm_Sc} : xe_ry (XE sc) 13 = (some .int) := rfl
set_option maxRecDepth 20000 in
theorem is_13 {sc : xm_Sc} : xe_is (XE sc) 13 = false := rfl
set_option maxRecDepth 20000 in
theorem np_13 {sc : xm_Sc} : xe_np (XE sc) 13 = 2 := rfl
/- method 14: X0_extended -/
def b_X0_extended_0 : List (Nat × Jvm.ClassFile.Instr × Nat) := [(0, .aload_n 0, 1), (1, .iconst 1, 1), (2, .invokevirtual 76, 3)]
set_option maxRecDepth 20000 in
theorem k_X0_extended_0 {sc : xm_Sc} : xm_bok (xe_cy (XE sc) 14) b_X0_extended_0 := by show xm_bok cX0_extended _; unfold xm_bok; decide +kernel
def b_X0_extended_5 : List (Nat × Jvm.ClassFile.Instr × Nat) := [(5, .istore_n 1, 1), (6, .iconst 0, 1), (7, .istore_n 2, 1)]
set_option maxRecDepth 20000 in
theorem k_X0_extended_5 {sc : xm_Sc} : xm_bok (xe_cy (XE sc) 14) b_X0_extended_5 := by show xm_bok cX0_extended _; unfold xm_bok; decide +kernel
def b_X0_extended_8 : List (Nat × Jvm.ClassFile.Instr × Nat) := [(8, .iload_n 2, 1), (9, .iconst 3, 1), (10, .if_icmp .ge 21, 3)]
set_option maxRecDepth 20000 in
theorem k_X0_extended_8 {sc : xm_Sc} : xm_bok (xe_cy (XE sc) 14) b_X0_extended_8 := by show xm_bok cX0_extended _; unfold xm_bok; decide +kernel
def b_X0_extended_13 : List (Nat × Jvm.ClassFile.Instr × Nat) := [(13, .aload_n 0, 1), (14, .aload_n 0, 1), (15, .iload_n 2, 1), (16, .iconst 1, 1), (17, .invokevirtual 89, 3)]
set_option maxRecDepth 20000 in
theorem k_X0_extended_13 {sc : xm_Sc} : xm_bok (xe_cy (XE sc) 14) b_X0_extended_13 := by show xm_bok cX0_extended _; unfold xm_bok; decide +kernel
def b_X0_extended_20 : List (Nat × Jvm.ClassFile.Instr × Nat) := [(20, .iload_n 1, 1), (21, .invokevirtual 80, 3)]
set_option maxRecDepth 20000 in
theorem k_X0_extended_20 {sc : xm_Sc} : xm_bok (xe_cy (XE sc) 14) b_X0_extended_20 := by show xm_bok cX0_extended _; unfold xm_bok; decide +kernel
def b_X0_extended_24 : List (Nat × Jvm.ClassFile.Instr × Nat) := [(24, .istore_n 1, 1), (25, .iinc 2 1, 3), (28, .goto (-20), 3)]
set_option maxRecDepth 20000 in
theorem k_X0_extended_24 {sc : xm_Sc} : xm_bok (xe_cy (XE sc) 14) b_X0_extended_24 := by show xm_bok cX0_extended _; unfold xm_bok; decide +kernel
def b_X0_extended_31 : List (Nat × Jvm.ClassFile.Instr × Nat) := [(31, .iload_n 1, 1), (32, .ireturn, 1)]
set_option maxRecDepth 20000 in
theorem k_X0_extended_31 {sc : xm_Sc} : xm_bok (xe_cy (XE sc) 14) b_X0_extended_31 := by show xm_bok cX0_extended _; unfold xm_bok; decide +kernel
set_option maxRecDepth 20000 in
theorem cn_14 {sc : xm_Sc} : xe_cn (XE sc) 14 = 0 := rfl
set_option maxRecDepth 20000 in
theorem ml_14 {sc : xm_Sc} : xe_ml (XE sc) 14 = 3 := rfl
set_option maxRecDepth 20000 in
theorem ry_14 {sc : xm_Sc} : xe_ry (XE sc) 14 = (some .int) := rfl
set_option maxRecDepth 20000 in
theorem is_14 {sc : xm_Sc} : xe_is (XE sc) 14 = false := rfl
set_option maxRecDepth 20000 in
theorem np_14 {sc : xm_Sc} : xe_np (XE sc) 14 = 0 := rfl
/- method 15: X0_first -/
def b_X0_first_0 : List (Nat × Jvm.ClassFile.Instr × Nat) := [(0, .aload_n 0, 1), (1, .bipush 7, 2), (3, .iconst (-1), 1), (4, .iconst (-1), 1), (5, .iload_n 1, 1), (6, .iconst 0, 1), (7, .iload_n 1, 1), (8, .iload_n 2, 1), (9, .iadd, 1), (10, .iload_n 1, 1), (11, .invokevirtual 43, 3)]
set_option maxRecDepth 20000 in
theorem k_X0_first_0 {sc : xm_Sc} : xm_bok (xe_cy (XE sc) 15) b_X0_first_0 := by show xm_bok cX0_first _; unfold xm_bok; decide +kernel
def b_X0_first_14 : List (Nat × Jvm.ClassFile.Instr × Nat) := [(14, .ireturn, 1)]
set_option maxRecDepth 20000 in
theorem k_X0_first_14 {sc : xm_Sc} : xm_bok (xe_cy (XE sc) 15) b_X0_first_14 := by show xm_bok cX0_first _; unfold xm_bok; decide +kernel
set_option maxRecDepth 20000 in
theorem cn_15 {sc : xm_Sc} : xe_cn (XE sc) 15 = 0 := rfl
set_option maxRecDepth 20000 in
theorem ml_15 {sc : xm_Sc} : xe_ml (XE sc) 15 = 3 := rfl
set_option maxRecDepth 20000 in
theorem ry_15 {sc : xm_Sc} : xe_ry (XE sc) 15 = (some .int) := rfl
set_option maxRecDepth 20000 in
theorem is_15 {sc : xm_Sc} : xe_is (XE sc) 15 = false := rfl
set_option maxRecDepth 20000 in
theorem np_15 {sc : xm_Sc} : xe_np (XE sc) 15 = 2 := rfl
/- method 16: X0_greaterPiece -/
def b_X0_greaterPiece_0 : List (Nat × Jvm.ClassFile.Instr × Nat) := [(0, .iconst 1, 1), (1, .iload_n 2, 1), (2, .iconst 1, 1), (3, .isub, 1), (4, .ishl, 1), (5, .istore_n 3, 1), (6, .aload_n 0, 1), (7, .iload_n 1, 1), (8, .iload_n 2, 1), (9, .iconst 1, 1), (10, .isub, 1), (11, .invokevirtual 83, 3)]
set_option maxRecDepth 20000 in
theorem k_X0_greaterPiece_0 {sc : xm_Sc} : xm_bok (xe_cy (XE sc) 16) b_X0_greaterPiece_0 := by show xm_bok cX0_greaterPiece _; unfold xm_bok; decide +kernel
def b_X0_greaterPiece_14 : List (Nat × Jvm.ClassFile.Instr × Nat) := [(14, .istore 4, 2), (16, .iload_n 1, 1), (17, .tableswitch 364 0 19 #[95, 95, 103, 185, 193, 227, 261, 280, 280, 280, 289, 289, 289, 298, 298, 307, 325, 364, 152, 160], 95)]
set_option maxRecDepth 20000 in
theorem k_X0_greaterPiece_14 {sc : xm_Sc} : xm_bok (xe_cy (XE sc) 16) b_X0_greaterPiece_14 := by show xm_bok cX0_greaterPiece _; unfold xm_bok; decide +kernel
def b_X0_greaterPiece_112 : List (Nat × Jvm.ClassFile.Instr × Nat) := [(112, .aload_n 0, 1), (113, .iload 4, 2), (115, .iload_n 3, 1), (116, .invokevirtual 130, 3)]
set_option maxRecDepth 20000 in
theorem k_X0_greaterPiece_112 {sc : xm_Sc} : xm_bok (xe_cy (XE sc) 16) b_X0_greaterPiece_112 := by show xm_bok cX0_greaterPiece _; unfold xm_bok; decide +kernel
def b_X0_greaterPiece_119 : List (Nat × Jvm.ClassFile.Instr × Nat) := [(119, .ireturn, 1)]
set_option maxRecDepth 20000 in
theorem k_X0_greaterPiece_119 {sc : xm_Sc} : xm_bok (xe_cy (XE sc) 16) b_X0_greaterPiece_119 := by show xm_bok cX0_greaterPiece _; unfold xm_bok; decide +kernel
def b_X0_greaterPiece_120 : List (Nat × Jvm.ClassFile.Instr × Nat) := [(120, .aload_n 0, 1), (121, .aload_n 0, 1), (122, .aload_n 0, 1), (123, .iconst 1, 1), (124, .iconst 2, 1), (125, .iload_n 3, 1), (126, .imul, 1), (127, .invokevirtual 95, 3)]
set_option maxRecDepth 20000 in
theorem k_X0_greaterPiece_120 {sc : xm_Sc} : xm_bok (xe_cy (XE sc) 16) b_X0_greaterPiece_120 := by show xm_bok cX0_greaterPiece _; unfold xm_bok; decide +kernel
def b_X0_greaterPiece_130 : List (Nat × Jvm.ClassFile.Instr × Nat) := [(130, .aload_n 0, 1), (131, .iconst 1, 1), (132, .aload_n 0, 1), (133, .iload_n 3, 1), (134, .iload_n 3, 1), (135, .invokevirtual 95, 3)]
set_option maxRecDepth 20000 in
theorem k_X0_greaterPiece_130 {sc : xm_Sc} : xm_bok (xe_cy (XE sc) 16) b_X0_greaterPiece_130 := by show xm_bok cX0_greaterPiece _; unfold xm_bok; decide +kernel
def b_X0_greaterPiece_138 : List (Nat × Jvm.ClassFile.Instr × Nat) := [(138, .invokevirtual 47, 3)]
set_option maxRecDepth 20000 in
theorem k_X0_greaterPiece_138 {sc : xm_Sc} : xm_bok (xe_cy (XE sc) 16) b_X0_greaterPiece_138 := by show xm_bok cX0_greaterPiece _; unfold xm_bok; decide +kernel
def b_X0_greaterPiece_141 : List (Nat × Jvm.ClassFile.Instr × Nat) := [(141, .invokevirtual 80, 3)]
set_option maxRecDepth 20000 in
theorem k_X0_greaterPiece_141 {sc : xm_Sc} : xm_bok (xe_cy (XE sc) 16) b_X0_greaterPiece_141 := by show xm_bok cX0_greaterPiece _; unfold xm_bok; decide +kernel
def b_X0_greaterPiece_144 : List (Nat × Jvm.ClassFile.Instr × Nat) := [(144, .iload 4, 2), (146, .invokevirtual 86, 3)]
set_option maxRecDepth 20000 in
theorem k_X0_greaterPiece_144 {sc : xm_Sc} : xm_bok (xe_cy (XE sc) 16) b_X0_greaterPiece_144 := by show xm_bok cX0_greaterPiece _; unfold xm_bok; decide +kernel
def b_X0_greaterPiece_149 : List (Nat × Jvm.ClassFile.Instr × Nat) := [(149, .istore 5, 2), (151, .aload_n 0, 1), (152, .iload 5, 2), (154, .aload_n 0, 1), (155, .iconst 1, 1), (156, .aload_n 0, 1), (157, .iload_n 3, 1), (158, .iload_n 3, 1), (159, .invokevirtual 92, 3)]
set_option maxRecDepth 20000 in
theorem k_X0_greaterPiece_149 {sc : xm_Sc} : xm_bok (xe_cy (XE sc) 16) b_X0_greaterPiece_149 := by show xm_bok cX0_greaterPiece _; unfold xm_bok; decide +kernel
def b_X0_greaterPiece_162 : List (Nat × Jvm.ClassFile.Instr × Nat) := [(162, .invokevirtual 47, 3)]
set_option maxRecDepth 20000 in
theorem k_X0_greaterPiece_162 {sc : xm_Sc} : xm_bok (xe_cy (XE sc) 16) b_X0_greaterPiece_162 := by show xm_bok cX0_greaterPiece _; unfold xm_bok; decide +kernel
def b_X0_greaterPiece_165 : List (Nat × Jvm.ClassFile.Instr × Nat) := [(165, .invokevirtual 80, 3)]
set_option maxRecDepth 20000 in
theorem k_X0_greaterPiece_165 {sc : xm_Sc} : xm_bok (xe_cy (XE sc) 16) b_X0_greaterPiece_165 := by show xm_bok cX0_greaterPiece _; unfold xm_bok; decide +kernel
def b_X0_greaterPiece_168 : List (Nat × Jvm.ClassFile.Instr × Nat) := [(168, .ireturn, 1)]
set_option maxRecDepth 20000 in
theorem k_X0_greaterPiece_168 {sc : xm_Sc} : xm_bok (xe_cy (XE sc) 16) b_X0_greaterPiece_168 := by show xm_bok cX0_greaterPiece _; unfold xm_bok; decide +kernel
def b_X0_greaterPiece_169 : List (Nat × Jvm.ClassFile.Instr × Nat) := [(169, .aload_n 0, 1), (170, .iload 4, 2), (172, .iload_n 3, 1), (173, .invokevirtual 101, 3)]
set_option maxRecDepth 20000 in
theorem k_X0_greaterPiece_169 {sc : xm_Sc} : xm_bok (xe_cy (XE sc) 16) b_X0_greaterPiece_169 := by show xm_bok cX0_greaterPiece _; unfold xm_bok; decide +kernel
def b_X0_greaterPiece_176 : List (Nat × Jvm.ClassFile.Instr × Nat) := [(176, .ireturn, 1)]
set_option maxRecDepth 20000 in
theorem k_X0_greaterPiece_176 {sc : xm_Sc} : xm_bok (xe_cy (XE sc) 16) b_X0_greaterPiece_176 := by show xm_bok cX0_greaterPiece _; unfold xm_bok; decide +kernel
def b_X0_greaterPiece_177 : List (Nat × Jvm.ClassFile.Instr × Nat) := [(177, .aload_n 0, 1), (178, .aload_n 0, 1), (179, .iload 4, 2), (181, .iconst 2, 1), (182, .iload_n 3, 1), (183, .imul, 1), (184, .invokevirtual 101, 3)]
set_option maxRecDepth 20000 in
theorem k_X0_greaterPiece_177 {sc : xm_Sc} : xm_bok (xe_cy (XE sc) 16) b_X0_greaterPiece_177 := by show xm_bok cX0_greaterPiece _; unfold xm_bok; decide +kernel
def b_X0_greaterPiece_187 : List (Nat × Jvm.ClassFile.Instr × Nat) := [(187, .aload_n 0, 1), (188, .aload_n 0, 1), (189, .iload_n 3, 1), (190, .invokevirtual 133, 3)]
set_option maxRecDepth 20000 in
theorem k_X0_greaterPiece_187 {sc : xm_Sc} : xm_bok (xe_cy (XE sc) 16) b_X0_greaterPiece_187 := by show xm_bok cX0_greaterPiece _; unfold xm_bok; decide +kernel
def b_X0_greaterPiece_193 : List (Nat × Jvm.ClassFile.Instr × Nat) := [(193, .iload 4, 2), (195, .invokevirtual 86, 3)]
set_option maxRecDepth 20000 in
theorem k_X0_greaterPiece_193 {sc : xm_Sc} : xm_bok (xe_cy (XE sc) 16) b_X0_greaterPiece_193 := by show xm_bok cX0_greaterPiece _; unfold xm_bok; decide +kernel
def b_X0_greaterPiece_198 : List (Nat × Jvm.ClassFile.Instr × Nat) := [(198, .invokevirtual 80, 3)]
set_option maxRecDepth 20000 in
theorem k_X0_greaterPiece_198 {sc : xm_Sc} : xm_bok (xe_cy (XE sc) 16) b_X0_greaterPiece_198 := by show xm_bok cX0_greaterPiece _; unfold xm_bok; decide +kernel
def b_X0_greaterPiece_201 : List (Nat × Jvm.ClassFile.Instr × Nat) := [(201, .ireturn, 1)]
set_option maxRecDepth 20000 in
theorem k_X0_greaterPiece_201 {sc : xm_Sc} : xm_bok (xe_cy (XE sc) 16) b_X0_greaterPiece_201 := by show xm_bok cX0_greaterPiece _; unfold xm_bok; decide +kernel
def b_X0_greaterPiece_202 : List (Nat × Jvm.ClassFile.Instr × Nat) := [(202, .aload_n 0, 1), (203, .iload 4, 2), (205, .iload_n 3, 1), (206, .invokevirtual 136, 3)]
set_option maxRecDepth 20000 in
theorem k_X0_greaterPiece_202 {sc : xm_Sc} : xm_bok (xe_cy (XE sc) 16) b_X0_greaterPiece_202 := by show xm_bok cX0_greaterPiece _; unfold xm_bok; decide +kernel
def b_X0_greaterPiece_209 : List (Nat × Jvm.ClassFile.Instr × Nat) := [(209, .ireturn, 1)]
set_option maxRecDepth 20000 in
theorem k_X0_greaterPiece_209 {sc : xm_Sc} : xm_bok (xe_cy (XE sc) 16) b_X0_greaterPiece_209 := by show xm_bok cX0_greaterPiece _; unfold xm_bok; decide +kernel
def b_X0_greaterPiece_210 : List (Nat × Jvm.ClassFile.Instr × Nat) := [(210, .aload_n 0, 1), (211, .aload_n 0, 1), (212, .aload_n 0, 1), (213, .iload 4, 2), (215, .iload_n 3, 1), (216, .invokevirtual 101, 3)]
set_option maxRecDepth 20000 in
theorem k_X0_greaterPiece_210 {sc : xm_Sc} : xm_bok (xe_cy (XE sc) 16) b_X0_greaterPiece_210 := by show xm_bok cX0_greaterPiece _; unfold xm_bok; decide +kernel
def b_X0_greaterPiece_219 : List (Nat × Jvm.ClassFile.Instr × Nat) := [(219, .aload_n 0, 1), (220, .iload_n 3, 1), (221, .iload_n 3, 1), (222, .invokevirtual 92, 3)]
set_option maxRecDepth 20000 in
theorem k_X0_greaterPiece_219 {sc : xm_Sc} : xm_bok (xe_cy (XE sc) 16) b_X0_greaterPiece_219 := by show xm_bok cX0_greaterPiece _; unfold xm_bok; decide +kernel
def b_X0_greaterPiece_225 : List (Nat × Jvm.ClassFile.Instr × Nat) := [(225, .invokevirtual 80, 3)]
set_option maxRecDepth 20000 in
theorem k_X0_greaterPiece_225 {sc : xm_Sc} : xm_bok (xe_cy (XE sc) 16) b_X0_greaterPiece_225 := by show xm_bok cX0_greaterPiece _; unfold xm_bok; decide +kernel
def b_X0_greaterPiece_228 : List (Nat × Jvm.ClassFile.Instr × Nat) := [(228, .aload_n 0, 1), (229, .iload 4, 2), (231, .aload_n 0, 1), (232, .iconst 1, 1), (233, .iload_n 3, 1), (234, .invokevirtual 73, 3)]
set_option maxRecDepth 20000 in
theorem k_X0_greaterPiece_228 {sc : xm_Sc} : xm_bok (xe_cy (XE sc) 16) b_X0_greaterPiece_228 := by show xm_bok cX0_greaterPiece _; unfold xm_bok; decide +kernel
def b_X0_greaterPiece_237 : List (Nat × Jvm.ClassFile.Instr × Nat) := [(237, .invokevirtual 98, 3)]
set_option maxRecDepth 20000 in
theorem k_X0_greaterPiece_237 {sc : xm_Sc} : xm_bok (xe_cy (XE sc) 16) b_X0_greaterPiece_237 := by show xm_bok cX0_greaterPiece _; unfold xm_bok; decide +kernel
def b_X0_greaterPiece_240 : List (Nat × Jvm.ClassFile.Instr × Nat) := [(240, .invokevirtual 86, 3)]
set_option maxRecDepth 20000 in
theorem k_X0_greaterPiece_240 {sc : xm_Sc} : xm_bok (xe_cy (XE sc) 16) b_X0_greaterPiece_240 := by show xm_bok cX0_greaterPiece _; unfold xm_bok; decide +kernel
def b_X0_greaterPiece_243 : List (Nat × Jvm.ClassFile.Instr × Nat) := [(243, .ireturn, 1)]
set_option maxRecDepth 20000 in
theorem k_X0_greaterPiece_243 {sc : xm_Sc} : xm_bok (xe_cy (XE sc) 16) b_X0_greaterPiece_243 := by show xm_bok cX0_greaterPiece _; unfold xm_bok; decide +kernel
def b_X0_greaterPiece_244 : List (Nat × Jvm.ClassFile.Instr × Nat) := [(244, .aload_n 0, 1), (245, .aload_n 0, 1), (246, .aload_n 0, 1), (247, .iload 4, 2), (249, .iload_n 3, 1), (250, .invokevirtual 101, 3)]
set_option maxRecDepth 20000 in
theorem k_X0_greaterPiece_244 {sc : xm_Sc} : xm_bok (xe_cy (XE sc) 16) b_X0_greaterPiece_244 := by show xm_bok cX0_greaterPiece _; unfold xm_bok; decide +kernel
def b_X0_greaterPiece_253 : List (Nat × Jvm.ClassFile.Instr × Nat) := [(253, .aload_n 0, 1), (254, .iload_n 3, 1), (255, .iload_n 3, 1), (256, .invokevirtual 92, 3)]
set_option maxRecDepth 20000 in
theorem k_X0_greaterPiece_253 {sc : xm_Sc} : xm_bok (xe_cy (XE sc) 16) b_X0_greaterPiece_253 := by show xm_bok cX0_greaterPiece _; unfold xm_bok; decide +kernel
def b_X0_greaterPiece_259 : List (Nat × Jvm.ClassFile.Instr × Nat) := [(259, .invokevirtual 80, 3)]
set_option maxRecDepth 20000 in
theorem k_X0_greaterPiece_259 {sc : xm_Sc} : xm_bok (xe_cy (XE sc) 16) b_X0_greaterPiece_259 := by show xm_bok cX0_greaterPiece _; unfold xm_bok; decide +kernel
def b_X0_greaterPiece_262 : List (Nat × Jvm.ClassFile.Instr × Nat) := [(262, .aload_n 0, 1), (263, .aload_n 0, 1), (264, .iconst 0, 1), (265, .iload_n 3, 1), (266, .invokevirtual 73, 3)]
set_option maxRecDepth 20000 in
theorem k_X0_greaterPiece_262 {sc : xm_Sc} : xm_bok (xe_cy (XE sc) 16) b_X0_greaterPiece_262 := by show xm_bok cX0_greaterPiece _; unfold xm_bok; decide +kernel
def b_X0_greaterPiece_269 : List (Nat × Jvm.ClassFile.Instr × Nat) := [(269, .iload 4, 2), (271, .invokevirtual 98, 3)]
set_option maxRecDepth 20000 in
theorem k_X0_greaterPiece_269 {sc : xm_Sc} : xm_bok (xe_cy (XE sc) 16) b_X0_greaterPiece_269 := by show xm_bok cX0_greaterPiece _; unfold xm_bok; decide +kernel
def b_X0_greaterPiece_274 : List (Nat × Jvm.ClassFile.Instr × Nat) := [(274, .invokevirtual 86, 3)]
set_option maxRecDepth 20000 in
theorem k_X0_greaterPiece_274 {sc : xm_Sc} : xm_bok (xe_cy (XE sc) 16) b_X0_greaterPiece_274 := by show xm_bok cX0_greaterPiece _; unfold xm_bok; decide +kernel
def b_X0_greaterPiece_277 : List (Nat × Jvm.ClassFile.Instr × Nat) := [(277, .ireturn, 1)]
set_option maxRecDepth 20000 in
theorem k_X0_greaterPiece_277 {sc : xm_Sc} : xm_bok (xe_cy (XE sc) 16) b_X0_greaterPiece_277 := by show xm_bok cX0_greaterPiece _; unfold xm_bok; decide +kernel
def b_X0_greaterPiece_278 : List (Nat × Jvm.ClassFile.Instr × Nat) := [(278, .aload_n 0, 1), (279, .aload_n 0, 1), (280, .iload 4, 2), (282, .iload_n 3, 1), (283, .invokevirtual 101, 3)]
set_option maxRecDepth 20000 in
theorem k_X0_greaterPiece_278 {sc : xm_Sc} : xm_bok (xe_cy (XE sc) 16) b_X0_greaterPiece_278 := by show xm_bok cX0_greaterPiece _; unfold xm_bok; decide +kernel
def b_X0_greaterPiece_286 : List (Nat × Jvm.ClassFile.Instr × Nat) := [(286, .aload_n 0, 1), (287, .iload_n 3, 1), (288, .iload 4, 2), (290, .invokevirtual 47, 3)]
set_option maxRecDepth 20000 in
theorem k_X0_greaterPiece_286 {sc : xm_Sc} : xm_bok (xe_cy (XE sc) 16) b_X0_greaterPiece_286 := by show xm_bok cX0_greaterPiece _; unfold xm_bok; decide +kernel
def b_X0_greaterPiece_293 : List (Nat × Jvm.ClassFile.Instr × Nat) := [(293, .invokevirtual 80, 3)]
set_option maxRecDepth 20000 in
theorem k_X0_greaterPiece_293 {sc : xm_Sc} : xm_bok (xe_cy (XE sc) 16) b_X0_greaterPiece_293 := by show xm_bok cX0_greaterPiece _; unfold xm_bok; decide +kernel
def b_X0_greaterPiece_296 : List (Nat × Jvm.ClassFile.Instr × Nat) := [(296, .ireturn, 1)]
set_option maxRecDepth 20000 in
theorem k_X0_greaterPiece_296 {sc : xm_Sc} : xm_bok (xe_cy (XE sc) 16) b_X0_greaterPiece_296 := by show xm_bok cX0_greaterPiece _; unfold xm_bok; decide +kernel
def b_X0_greaterPiece_297 : List (Nat × Jvm.ClassFile.Instr × Nat) := [(297, .aload_n 0, 1), (298, .iload 4, 2), (300, .iconst 2, 1), (301, .iload_n 3, 1), (302, .invokevirtual 139, 3)]
set_option maxRecDepth 20000 in
theorem k_X0_greaterPiece_297 {sc : xm_Sc} : xm_bok (xe_cy (XE sc) 16) b_X0_greaterPiece_297 := by show xm_bok cX0_greaterPiece _; unfold xm_bok; decide +kernel
def b_X0_greaterPiece_305 : List (Nat × Jvm.ClassFile.Instr × Nat) := [(305, .ireturn, 1)]
set_option maxRecDepth 20000 in
theorem k_X0_greaterPiece_305 {sc : xm_Sc} : xm_bok (xe_cy (XE sc) 16) b_X0_greaterPiece_305 := by show xm_bok cX0_greaterPiece _; unfold xm_bok; decide +kernel
def b_X0_greaterPiece_306 : List (Nat × Jvm.ClassFile.Instr × Nat) := [(306, .aload_n 0, 1), (307, .iload 4, 2), (309, .iconst 3, 1), (310, .iload_n 3, 1), (311, .invokevirtual 139, 3)]
set_option maxRecDepth 20000 in
theorem k_X0_greaterPiece_306 {sc : xm_Sc} : xm_bok (xe_cy (XE sc) 16) b_X0_greaterPiece_306 := by show xm_bok cX0_greaterPiece _; unfold xm_bok; decide +kernel
def b_X0_greaterPiece_314 : List (Nat × Jvm.ClassFile.Instr × Nat) := [(314, .ireturn, 1)]
set_option maxRecDepth 20000 in
theorem k_X0_greaterPiece_314 {sc : xm_Sc} : xm_bok (xe_cy (XE sc) 16) b_X0_greaterPiece_314 := by show xm_bok cX0_greaterPiece _; unfold xm_bok; decide +kernel
def b_X0_greaterPiece_315 : List (Nat × Jvm.ClassFile.Instr × Nat) := [(315, .aload_n 0, 1), (316, .iload 4, 2), (318, .iload 4, 2), (320, .invokevirtual 80, 3)]
set_option maxRecDepth 20000 in
theorem k_X0_greaterPiece_315 {sc : xm_Sc} : xm_bok (xe_cy (XE sc) 16) b_X0_greaterPiece_315 := by show xm_bok cX0_greaterPiece _; unfold xm_bok; decide +kernel
def b_X0_greaterPiece_323 : List (Nat × Jvm.ClassFile.Instr × Nat) := [(323, .ireturn, 1)]
set_option maxRecDepth 20000 in
theorem k_X0_greaterPiece_323 {sc : xm_Sc} : xm_bok (xe_cy (XE sc) 16) b_X0_greaterPiece_323 := by show xm_bok cX0_greaterPiece _; unfold xm_bok; decide +kernel
def b_X0_greaterPiece_324 : List (Nat × Jvm.ClassFile.Instr × Nat) := [(324, .aload_n 0, 1), (325, .aload_n 0, 1), (326, .iload 4, 2), (328, .iload_n 3, 1), (329, .invokevirtual 101, 3)]
set_option maxRecDepth 20000 in
theorem k_X0_greaterPiece_324 {sc : xm_Sc} : xm_bok (xe_cy (XE sc) 16) b_X0_greaterPiece_324 := by show xm_bok cX0_greaterPiece _; unfold xm_bok; decide +kernel
def b_X0_greaterPiece_332 : List (Nat × Jvm.ClassFile.Instr × Nat) := [(332, .aload_n 0, 1), (333, .iload_n 3, 1), (334, .iload_n 3, 1), (335, .invokevirtual 92, 3)]
set_option maxRecDepth 20000 in
theorem k_X0_greaterPiece_332 {sc : xm_Sc} : xm_bok (xe_cy (XE sc) 16) b_X0_greaterPiece_332 := by show xm_bok cX0_greaterPiece _; unfold xm_bok; decide +kernel
def b_X0_greaterPiece_338 : List (Nat × Jvm.ClassFile.Instr × Nat) := [(338, .invokevirtual 80, 3)]
set_option maxRecDepth 20000 in
theorem k_X0_greaterPiece_338 {sc : xm_Sc} : xm_bok (xe_cy (XE sc) 16) b_X0_greaterPiece_338 := by show xm_bok cX0_greaterPiece _; unfold xm_bok; decide +kernel
def b_X0_greaterPiece_341 : List (Nat × Jvm.ClassFile.Instr × Nat) := [(341, .ireturn, 1)]
set_option maxRecDepth 20000 in
theorem k_X0_greaterPiece_341 {sc : xm_Sc} : xm_bok (xe_cy (XE sc) 16) b_X0_greaterPiece_341 := by show xm_bok cX0_greaterPiece _; unfold xm_bok; decide +kernel
def b_X0_greaterPiece_342 : List (Nat × Jvm.ClassFile.Instr × Nat) := [(342, .aload_n 0, 1), (343, .aload_n 0, 1), (344, .aload_n 0, 1), (345, .iconst 0, 1), (346, .iconst 2, 1), (347, .iload_n 3, 1), (348, .imul, 1), (349, .invokevirtual 73, 3)]
set_option maxRecDepth 20000 in
theorem k_X0_greaterPiece_342 {sc : xm_Sc} : xm_bok (xe_cy (XE sc) 16) b_X0_greaterPiece_342 := by show xm_bok cX0_greaterPiece _; unfold xm_bok; decide +kernel
def b_X0_greaterPiece_352 : List (Nat × Jvm.ClassFile.Instr × Nat) := [(352, .aload_n 0, 1), (353, .aload_n 0, 1), (354, .iload 4, 2), (356, .iload_n 3, 1), (357, .invokevirtual 101, 3)]
set_option maxRecDepth 20000 in
theorem k_X0_greaterPiece_352 {sc : xm_Sc} : xm_bok (xe_cy (XE sc) 16) b_X0_greaterPiece_352 := by show xm_bok cX0_greaterPiece _; unfold xm_bok; decide +kernel
def b_X0_greaterPiece_360 : List (Nat × Jvm.ClassFile.Instr × Nat) := [(360, .aload_n 0, 1), (361, .iload_n 3, 1), (362, .iload 4, 2), (364, .invokevirtual 47, 3)]
set_option maxRecDepth 20000 in
theorem k_X0_greaterPiece_360 {sc : xm_Sc} : xm_bok (xe_cy (XE sc) 16) b_X0_greaterPiece_360 := by show xm_bok cX0_greaterPiece _; unfold xm_bok; decide +kernel
def b_X0_greaterPiece_367 : List (Nat × Jvm.ClassFile.Instr × Nat) := [(367, .invokevirtual 80, 3)]
set_option maxRecDepth 20000 in
theorem k_X0_greaterPiece_367 {sc : xm_Sc} : xm_bok (xe_cy (XE sc) 16) b_X0_greaterPiece_367 := by show xm_bok cX0_greaterPiece _; unfold xm_bok; decide +kernel
def b_X0_greaterPiece_370 : List (Nat × Jvm.ClassFile.Instr × Nat) := [(370, .invokevirtual 80, 3)]
set_option maxRecDepth 20000 in
theorem k_X0_greaterPiece_370 {sc : xm_Sc} : xm_bok (xe_cy (XE sc) 16) b_X0_greaterPiece_370 := by show xm_bok cX0_greaterPiece _; unfold xm_bok; decide +kernel
def b_X0_greaterPiece_373 : List (Nat × Jvm.ClassFile.Instr × Nat) := [(373, .aload_n 0, 1), (374, .invokevirtual 142, 3)]
set_option maxRecDepth 20000 in
theorem k_X0_greaterPiece_373 {sc : xm_Sc} : xm_bok (xe_cy (XE sc) 16) b_X0_greaterPiece_373 := by show xm_bok cX0_greaterPiece _; unfold xm_bok; decide +kernel
def b_X0_greaterPiece_377 : List (Nat × Jvm.ClassFile.Instr × Nat) := [(377, .invokevirtual 86, 3)]
set_option maxRecDepth 20000 in
theorem k_X0_greaterPiece_377 {sc : xm_Sc} : xm_bok (xe_cy (XE sc) 16) b_X0_greaterPiece_377 := by show xm_bok cX0_greaterPiece _; unfold xm_bok; decide +kernel
def b_X0_greaterPiece_380 : List (Nat × Jvm.ClassFile.Instr × Nat) := [(380, .ireturn, 1)]
set_option maxRecDepth 20000 in
theorem k_X0_greaterPiece_380 {sc : xm_Sc} : xm_bok (xe_cy (XE sc) 16) b_X0_greaterPiece_380 := by show xm_bok cX0_greaterPiece _; unfold xm_bok; decide +kernel
def b_X0_greaterPiece_381 : List (Nat × Jvm.ClassFile.Instr × Nat) := [(381, .aload_n 0, 1), (382, .iload 4, 2), (384, .iload_n 2, 1), (385, .iload_n 3, 1), (386, .invokevirtual 145, 3)]
set_option maxRecDepth 20000 in
theorem k_X0_greaterPiece_381 {sc : xm_Sc} : xm_bok (xe_cy (XE sc) 16) b_X0_greaterPiece_381 := by show xm_bok cX0_greaterPiece _; unfold xm_bok; decide +kernel
def b_X0_greaterPiece_389 : List (Nat × Jvm.ClassFile.Instr × Nat) := [(389, .ireturn, 1)]
set_option maxRecDepth 20000 in
theorem k_X0_greaterPiece_389 {sc : xm_Sc} : xm_bok (xe_cy (XE sc) 16) b_X0_greaterPiece_389 := by show xm_bok cX0_greaterPiece _; unfold xm_bok; decide +kernel
set_option maxRecDepth 20000 in
theorem cn_16 {sc : xm_Sc} : xe_cn (XE sc) 16 = 0 := rfl
set_option maxRecDepth 20000 in
theorem ml_16 {sc : xm_Sc} : xe_ml (XE sc) 16 = 6 := rfl
set_option maxRecDepth 20000 in
theorem ry_16 {sc : xm_Sc} : xe_ry (XE sc) 16 = (some .int) := rfl
set_option maxRecDepth 20000 in
theorem is_16 {sc : xm_Sc} : xe_is (XE sc) 16 = false := rfl
set_option maxRecDepth 20000 in
theorem np_16 {sc : xm_Sc} : xe_np (XE sc) 16 = 2 := rfl
/- method 17: X0_halves -/
def b_X0_halves_0 : List (Nat × Jvm.ClassFile.Instr × Nat) := [(0, .iload_n 3, 1), (1, .ifCond .eq 12, 3)]
set_option maxRecDepth 20000 in
theorem k_X0_halves_0 {sc : xm_Sc} : xm_bok (xe_cy (XE sc) 17) b_X0_halves_0 := by show xm_bok cX0_halves _; unfold xm_bok; decide +kernel
def b_X0_halves_4 : List (Nat × Jvm.ClassFile.Instr × Nat) := [(4, .aload_n 0, 1), (5, .iload_n 2, 1), (6, .iload_n 2, 1), (7, .invokevirtual 92, 3)]
set_option maxRecDepth 20000 in
theorem k_X0_halves_4 {sc : xm_Sc} : xm_bok (xe_cy (XE sc) 17) b_X0_halves_4 := by show xm_bok cX0_halves _; unfold xm_bok; decide +kernel
def b_X0_halves_10 : List (Nat × Jvm.ClassFile.Instr × Nat) := [(10, .goto 9, 3)]
set_option maxRecDepth 20000 in
theorem k_X0_halves_10 {sc : xm_Sc} : xm_bok (xe_cy (XE sc) 17) b_X0_halves_10 := by show xm_bok cX0_halves _; unfold xm_bok; decide +kernel
def b_X0_halves_13 : List (Nat × Jvm.ClassFile.Instr × Nat) := [(13, .aload_n 0, 1), (14, .iload_n 2, 1), (15, .iload_n 2, 1), (16, .invokevirtual 95, 3)]
set_option maxRecDepth 20000 in
theorem k_X0_halves_13 {sc : xm_Sc} : xm_bok (xe_cy (XE sc) 17) b_X0_halves_13 := by show xm_bok cX0_halves _; unfold xm_bok; decide +kernel
def b_X0_halves_19 : List (Nat × Jvm.ClassFile.Instr × Nat) := [(19, .istore 4, 2), (21, .iload 4, 2), (23, .istore 5, 2), (25, .iconst 1, 1), (26, .istore 6, 2)]
set_option maxRecDepth 20000 in
theorem k_X0_halves_19 {sc : xm_Sc} : xm_bok (xe_cy (XE sc) 17) b_X0_halves_19 := by show xm_bok cX0_halves _; unfold xm_bok; decide +kernel
def b_X0_halves_28 : List (Nat × Jvm.ClassFile.Instr × Nat) := [(28, .iload 6, 2), (30, .iload_n 1, 1), (31, .if_icmp .ge 36, 3)]
set_option maxRecDepth 20000 in
theorem k_X0_halves_28 {sc : xm_Sc} : xm_bok (xe_cy (XE sc) 17) b_X0_halves_28 := by show xm_bok cX0_halves _; unfold xm_bok; decide +kernel
def b_X0_halves_34 : List (Nat × Jvm.ClassFile.Instr × Nat) := [(34, .aload_n 0, 1), (35, .aload_n 0, 1), (36, .iload 4, 2), (38, .iconst 2, 1), (39, .iload_n 2, 1), (40, .imul, 1), (41, .iload 6, 2), (43, .imul, 1), (44, .invokevirtual 101, 3)]
set_option maxRecDepth 20000 in
theorem k_X0_halves_34 {sc : xm_Sc} : xm_bok (xe_cy (XE sc) 17) b_X0_halves_34 := by show xm_bok cX0_halves _; unfold xm_bok; decide +kernel
def b_X0_halves_47 : List (Nat × Jvm.ClassFile.Instr × Nat) := [(47, .aload_n 0, 1), (48, .iconst 2, 1), (49, .iload_n 2, 1), (50, .imul, 1), (51, .iload 5, 2), (53, .invokevirtual 47, 3)]
set_option maxRecDepth 20000 in
theorem k_X0_halves_47 {sc : xm_Sc} : xm_bok (xe_cy (XE sc) 17) b_X0_halves_47 := by show xm_bok cX0_halves _; unfold xm_bok; decide +kernel
def b_X0_halves_56 : List (Nat × Jvm.ClassFile.Instr × Nat) := [(56, .invokevirtual 80, 3)]
set_option maxRecDepth 20000 in
theorem k_X0_halves_56 {sc : xm_Sc} : xm_bok (xe_cy (XE sc) 17) b_X0_halves_56 := by show xm_bok cX0_halves _; unfold xm_bok; decide +kernel
def b_X0_halves_59 : List (Nat × Jvm.ClassFile.Instr × Nat) := [(59, .istore 5, 2), (61, .iinc 6 1, 3), (64, .goto (-36), 3)]
set_option maxRecDepth 20000 in
theorem k_X0_halves_59 {sc : xm_Sc} : xm_bok (xe_cy (XE sc) 17) b_X0_halves_59 := by show xm_bok cX0_halves _; unfold xm_bok; decide +kernel
def b_X0_halves_67 : List (Nat × Jvm.ClassFile.Instr × Nat) := [(67, .iload 5, 2), (69, .ireturn, 1)]
set_option maxRecDepth 20000 in
theorem k_X0_halves_67 {sc : xm_Sc} : xm_bok (xe_cy (XE sc) 17) b_X0_halves_67 := by show xm_bok cX0_halves _; unfold xm_bok; decide +kernel
set_option maxRecDepth 20000 in
theorem cn_17 {sc : xm_Sc} : xe_cn (XE sc) 17 = 0 := rfl
set_option maxRecDepth 20000 in
theorem ml_17 {sc : xm_Sc} : xe_ml (XE sc) 17 = 7 := rfl
set_option maxRecDepth 20000 in
theorem ry_17 {sc : xm_Sc} : xe_ry (XE sc) 17 = (some .int) := rfl
set_option maxRecDepth 20000 in
theorem is_17 {sc : xm_Sc} : xe_is (XE sc) 17 = false := rfl
set_option maxRecDepth 20000 in
theorem np_17 {sc : xm_Sc} : xe_np (XE sc) 17 = 3 := rfl
/- method 18: X0_iden -/
def b_X0_iden_0 : List (Nat × Jvm.ClassFile.Instr × Nat) := [(0, .aload_n 0, 1), (1, .bipush 7, 2), (3, .iconst (-1), 1), (4, .iconst (-1), 1), (5, .iload_n 1, 1), (6, .iconst 0, 1), (7, .iload_n 1, 1), (8, .iload_n 1, 1), (9, .invokevirtual 43, 3)]
set_option maxRecDepth 20000 in
theorem k_X0_iden_0 {sc : xm_Sc} : xm_bok (xe_cy (XE sc) 18) b_X0_iden_0 := by show xm_bok cX0_iden _; unfold xm_bok; decide +kernel
def b_X0_iden_12 : List (Nat × Jvm.ClassFile.Instr × Nat) := [(12, .ireturn, 1)]
set_option maxRecDepth 20000 in
theorem k_X0_iden_12 {sc : xm_Sc} : xm_bok (xe_cy (XE sc) 18) b_X0_iden_12 := by show xm_bok cX0_iden _; unfold xm_bok; decide +kernel
set_option maxRecDepth 20000 in
theorem cn_18 {sc : xm_Sc} : xe_cn (XE sc) 18 = 0 := rfl
set_option maxRecDepth 20000 in
theorem ml_18 {sc : xm_Sc} : xe_ml (XE sc) 18 = 2 := rfl
set_option maxRecDepth 20000 in
theorem ry_18 {sc : xm_Sc} : xe_ry (XE sc) 18 = (some .int) := rfl
set_option maxRecDepth 20000 in
theorem is_18 {sc : xm_Sc} : xe_is (XE sc) 18 = false := rfl
set_option maxRecDepth 20000 in
theorem np_18 {sc : xm_Sc} : xe_np (XE sc) 18 = 1 := rfl
/- method 19: X0_isZeros -/
def b_X0_isZeros_0 : List (Nat × Jvm.ClassFile.Instr × Nat) := [(0, .aload_n 0, 1), (1, .getfield 11, 3), (4, .iload_n 1, 1), (5, .iaload, 1), (6, .iconst 3, 1), (7, .if_icmp .ne 23, 3)]
set_option maxRecDepth 20000 in
theorem k_X0_isZeros_0 {sc : xm_Sc} : xm_bok (xe_cy (XE sc) 19) b_X0_isZeros_0 := by show xm_bok cX0_isZeros _; unfold xm_bok; decide +kernel
def b_X0_isZeros_10 : List (Nat × Jvm.ClassFile.Instr × Nat) := [(10, .aload_n 0, 1), (11, .getfield 11, 3), (14, .aload_n 0, 1), (15, .getfield 15, 3), (18, .iload_n 1, 1), (19, .iaload, 1), (20, .iaload, 1), (21, .bipush 8, 2), (23, .if_icmp .ne 7, 3)]
set_option maxRecDepth 20000 in
theorem k_X0_isZeros_10 {sc : xm_Sc} : xm_bok (xe_cy (XE sc) 19) b_X0_isZeros_10 := by show xm_bok cX0_isZeros _; unfold xm_bok; decide +kernel
def b_X0_isZeros_26 : List (Nat × Jvm.ClassFile.Instr × Nat) := [(26, .iconst 1, 1), (27, .goto 4, 3)]
set_option maxRecDepth 20000 in
theorem k_X0_isZeros_26 {sc : xm_Sc} : xm_bok (xe_cy (XE sc) 19) b_X0_isZeros_26 := by show xm_bok cX0_isZeros _; unfold xm_bok; decide +kernel
def b_X0_isZeros_30 : List (Nat × Jvm.ClassFile.Instr × Nat) := [(30, .iconst 0, 1)]
set_option maxRecDepth 20000 in
theorem k_X0_isZeros_30 {sc : xm_Sc} : xm_bok (xe_cy (XE sc) 19) b_X0_isZeros_30 := by show xm_bok cX0_isZeros _; unfold xm_bok; decide +kernel
def b_X0_isZeros_31 : List (Nat × Jvm.ClassFile.Instr × Nat) := [(31, .ireturn, 1)]
set_option maxRecDepth 20000 in
theorem k_X0_isZeros_31 {sc : xm_Sc} : xm_bok (xe_cy (XE sc) 19) b_X0_isZeros_31 := by show xm_bok cX0_isZeros _; unfold xm_bok; decide +kernel
set_option maxRecDepth 20000 in
theorem cn_19 {sc : xm_Sc} : xe_cn (XE sc) 19 = 0 := rfl
set_option maxRecDepth 20000 in
theorem ml_19 {sc : xm_Sc} : xe_ml (XE sc) 19 = 2 := rfl
set_option maxRecDepth 20000 in
theorem ry_19 {sc : xm_Sc} : xe_ry (XE sc) 19 = (some .boolean) := rfl
set_option maxRecDepth 20000 in
theorem is_19 {sc : xm_Sc} : xe_is (XE sc) 19 = false := rfl
set_option maxRecDepth 20000 in
theorem np_19 {sc : xm_Sc} : xe_np (XE sc) 19 = 1 := rfl
/- method 20: X0_joinedPiece -/
def b_X0_joinedPiece_0 : List (Nat × Jvm.ClassFile.Instr × Nat) := [(0, .iload_n 1, 1), (1, .tableswitch 209 20 25 #[39, 87, 94, 101, 130, 170], 39)]
set_option maxRecDepth 20000 in
theorem k_X0_joinedPiece_0 {sc : xm_Sc} : xm_bok (xe_cy (XE sc) 20) b_X0_joinedPiece_0 := by show xm_bok cX0_joinedPiece _; unfold xm_bok; decide +kernel
def b_X0_joinedPiece_40 : List (Nat × Jvm.ClassFile.Instr × Nat) := [(40, .aload_n 0, 1), (41, .aload_n 0, 1), (42, .iconst 1, 1), (43, .iload_n 3, 1), (44, .invokevirtual 92, 3)]
set_option maxRecDepth 20000 in
theorem k_X0_joinedPiece_40 {sc : xm_Sc} : xm_bok (xe_cy (XE sc) 20) b_X0_joinedPiece_40 := by show xm_bok cX0_joinedPiece _; unfold xm_bok; decide +kernel
def b_X0_joinedPiece_47 : List (Nat × Jvm.ClassFile.Instr × Nat) := [(47, .aload_n 0, 1), (48, .iconst 2, 1), (49, .iload_n 2, 1), (50, .invokevirtual 83, 3)]
set_option maxRecDepth 20000 in
theorem k_X0_joinedPiece_47 {sc : xm_Sc} : xm_bok (xe_cy (XE sc) 20) b_X0_joinedPiece_47 := by show xm_bok cX0_joinedPiece _; unfold xm_bok; decide +kernel
def b_X0_joinedPiece_53 : List (Nat × Jvm.ClassFile.Instr × Nat) := [(53, .invokevirtual 80, 3)]
set_option maxRecDepth 20000 in
theorem k_X0_joinedPiece_53 {sc : xm_Sc} : xm_bok (xe_cy (XE sc) 20) b_X0_joinedPiece_53 := by show xm_bok cX0_joinedPiece _; unfold xm_bok; decide +kernel
def b_X0_joinedPiece_56 : List (Nat × Jvm.ClassFile.Instr × Nat) := [(56, .istore 4, 2), (58, .aload_n 0, 1), (59, .aload_n 0, 1), (60, .iconst 1, 1), (61, .aload_n 0, 1), (62, .bipush 18, 2), (64, .iload_n 2, 1), (65, .invokevirtual 83, 3)]
set_option maxRecDepth 20000 in
theorem k_X0_joinedPiece_56 {sc : xm_Sc} : xm_bok (xe_cy (XE sc) 20) b_X0_joinedPiece_56 := by show xm_bok cX0_joinedPiece _; unfold xm_bok; decide +kernel
def b_X0_joinedPiece_68 : List (Nat × Jvm.ClassFile.Instr × Nat) := [(68, .invokevirtual 47, 3)]
set_option maxRecDepth 20000 in
theorem k_X0_joinedPiece_68 {sc : xm_Sc} : xm_bok (xe_cy (XE sc) 20) b_X0_joinedPiece_68 := by show xm_bok cX0_joinedPiece _; unfold xm_bok; decide +kernel
def b_X0_joinedPiece_71 : List (Nat × Jvm.ClassFile.Instr × Nat) := [(71, .aload_n 0, 1), (72, .iload 4, 2), (74, .aload_n 0, 1), (75, .bipush 19, 2), (77, .iload_n 2, 1), (78, .invokevirtual 83, 3)]
set_option maxRecDepth 20000 in
theorem k_X0_joinedPiece_71 {sc : xm_Sc} : xm_bok (xe_cy (XE sc) 20) b_X0_joinedPiece_71 := by show xm_bok cX0_joinedPiece _; unfold xm_bok; decide +kernel
def b_X0_joinedPiece_81 : List (Nat × Jvm.ClassFile.Instr × Nat) := [(81, .invokevirtual 86, 3)]
set_option maxRecDepth 20000 in
theorem k_X0_joinedPiece_81 {sc : xm_Sc} : xm_bok (xe_cy (XE sc) 20) b_X0_joinedPiece_81 := by show xm_bok cX0_joinedPiece _; unfold xm_bok; decide +kernel
def b_X0_joinedPiece_84 : List (Nat × Jvm.ClassFile.Instr × Nat) := [(84, .invokevirtual 80, 3)]
set_option maxRecDepth 20000 in
theorem k_X0_joinedPiece_84 {sc : xm_Sc} : xm_bok (xe_cy (XE sc) 20) b_X0_joinedPiece_84 := by show xm_bok cX0_joinedPiece _; unfold xm_bok; decide +kernel
def b_X0_joinedPiece_87 : List (Nat × Jvm.ClassFile.Instr × Nat) := [(87, .ireturn, 1)]
set_option maxRecDepth 20000 in
theorem k_X0_joinedPiece_87 {sc : xm_Sc} : xm_bok (xe_cy (XE sc) 20) b_X0_joinedPiece_87 := by show xm_bok cX0_joinedPiece _; unfold xm_bok; decide +kernel
def b_X0_joinedPiece_88 : List (Nat × Jvm.ClassFile.Instr × Nat) := [(88, .aload_n 0, 1), (89, .iload_n 2, 1), (90, .iload_n 3, 1), (91, .invokevirtual 117, 3)]
set_option maxRecDepth 20000 in
theorem k_X0_joinedPiece_88 {sc : xm_Sc} : xm_bok (xe_cy (XE sc) 20) b_X0_joinedPiece_88 := by show xm_bok cX0_joinedPiece _; unfold xm_bok; decide +kernel
def b_X0_joinedPiece_94 : List (Nat × Jvm.ClassFile.Instr × Nat) := [(94, .ireturn, 1)]
set_option maxRecDepth 20000 in
theorem k_X0_joinedPiece_94 {sc : xm_Sc} : xm_bok (xe_cy (XE sc) 20) b_X0_joinedPiece_94 := by show xm_bok cX0_joinedPiece _; unfold xm_bok; decide +kernel
def b_X0_joinedPiece_95 : List (Nat × Jvm.ClassFile.Instr × Nat) := [(95, .aload_n 0, 1), (96, .iload_n 2, 1), (97, .iload_n 3, 1), (98, .invokevirtual 120, 3)]
set_option maxRecDepth 20000 in
theorem k_X0_joinedPiece_95 {sc : xm_Sc} : xm_bok (xe_cy (XE sc) 20) b_X0_joinedPiece_95 := by show xm_bok cX0_joinedPiece _; unfold xm_bok; decide +kernel
def b_X0_joinedPiece_101 : List (Nat × Jvm.ClassFile.Instr × Nat) := [(101, .ireturn, 1)]
set_option maxRecDepth 20000 in
theorem k_X0_joinedPiece_101 {sc : xm_Sc} : xm_bok (xe_cy (XE sc) 20) b_X0_joinedPiece_101 := by show xm_bok cX0_joinedPiece _; unfold xm_bok; decide +kernel
def b_X0_joinedPiece_102 : List (Nat × Jvm.ClassFile.Instr × Nat) := [(102, .aload_n 0, 1), (103, .aload_n 0, 1), (104, .bipush 9, 2), (106, .iload_n 2, 1), (107, .invokevirtual 83, 3)]
set_option maxRecDepth 20000 in
theorem k_X0_joinedPiece_102 {sc : xm_Sc} : xm_bok (xe_cy (XE sc) 20) b_X0_joinedPiece_102 := by show xm_bok cX0_joinedPiece _; unfold xm_bok; decide +kernel
def b_X0_joinedPiece_110 : List (Nat × Jvm.ClassFile.Instr × Nat) := [(110, .aload_n 0, 1), (111, .aload_n 0, 1), (112, .iconst 4, 1), (113, .iload_n 2, 1), (114, .invokevirtual 83, 3)]
set_option maxRecDepth 20000 in
theorem k_X0_joinedPiece_110 {sc : xm_Sc} : xm_bok (xe_cy (XE sc) 20) b_X0_joinedPiece_110 := by show xm_bok cX0_joinedPiece _; unfold xm_bok; decide +kernel
def b_X0_joinedPiece_117 : List (Nat × Jvm.ClassFile.Instr × Nat) := [(117, .aload_n 0, 1), (118, .bipush 6, 2), (120, .iconst 0, 1), (121, .invokevirtual 83, 3)]
set_option maxRecDepth 20000 in
theorem k_X0_joinedPiece_117 {sc : xm_Sc} : xm_bok (xe_cy (XE sc) 20) b_X0_joinedPiece_117 := by show xm_bok cX0_joinedPiece _; unfold xm_bok; decide +kernel
def b_X0_joinedPiece_124 : List (Nat × Jvm.ClassFile.Instr × Nat) := [(124, .invokevirtual 86, 3)]
set_option maxRecDepth 20000 in
theorem k_X0_joinedPiece_124 {sc : xm_Sc} : xm_bok (xe_cy (XE sc) 20) b_X0_joinedPiece_124 := by show xm_bok cX0_joinedPiece _; unfold xm_bok; decide +kernel
def b_X0_joinedPiece_127 : List (Nat × Jvm.ClassFile.Instr × Nat) := [(127, .invokevirtual 86, 3)]
set_option maxRecDepth 20000 in
theorem k_X0_joinedPiece_127 {sc : xm_Sc} : xm_bok (xe_cy (XE sc) 20) b_X0_joinedPiece_127 := by show xm_bok cX0_joinedPiece _; unfold xm_bok; decide +kernel
def b_X0_joinedPiece_130 : List (Nat × Jvm.ClassFile.Instr × Nat) := [(130, .ireturn, 1)]
set_option maxRecDepth 20000 in
theorem k_X0_joinedPiece_130 {sc : xm_Sc} : xm_bok (xe_cy (XE sc) 20) b_X0_joinedPiece_130 := by show xm_bok cX0_joinedPiece _; unfold xm_bok; decide +kernel
def b_X0_joinedPiece_131 : List (Nat × Jvm.ClassFile.Instr × Nat) := [(131, .aload_n 0, 1), (132, .aload_n 0, 1), (133, .aload_n 0, 1), (134, .iconst 0, 1), (135, .iconst 2, 1), (136, .iload_n 3, 1), (137, .imul, 1), (138, .invokevirtual 73, 3)]
set_option maxRecDepth 20000 in
theorem k_X0_joinedPiece_131 {sc : xm_Sc} : xm_bok (xe_cy (XE sc) 20) b_X0_joinedPiece_131 := by show xm_bok cX0_joinedPiece _; unfold xm_bok; decide +kernel
def b_X0_joinedPiece_141 : List (Nat × Jvm.ClassFile.Instr × Nat) := [(141, .aload_n 0, 1), (142, .iconst 2, 1), (143, .iload_n 3, 1), (144, .imul, 1), (145, .invokevirtual 76, 3)]
set_option maxRecDepth 20000 in
theorem k_X0_joinedPiece_141 {sc : xm_Sc} : xm_bok (xe_cy (XE sc) 20) b_X0_joinedPiece_141 := by show xm_bok cX0_joinedPiece _; unfold xm_bok; decide +kernel
def b_X0_joinedPiece_148 : List (Nat × Jvm.ClassFile.Instr × Nat) := [(148, .invokevirtual 80, 3)]
set_option maxRecDepth 20000 in
theorem k_X0_joinedPiece_148 {sc : xm_Sc} : xm_bok (xe_cy (XE sc) 20) b_X0_joinedPiece_148 := by show xm_bok cX0_joinedPiece _; unfold xm_bok; decide +kernel
def b_X0_joinedPiece_151 : List (Nat × Jvm.ClassFile.Instr × Nat) := [(151, .aload_n 0, 1), (152, .aload_n 0, 1), (153, .iconst 1, 1), (154, .iload_n 2, 1), (155, .invokevirtual 83, 3)]
set_option maxRecDepth 20000 in
theorem k_X0_joinedPiece_151 {sc : xm_Sc} : xm_bok (xe_cy (XE sc) 20) b_X0_joinedPiece_151 := by show xm_bok cX0_joinedPiece _; unfold xm_bok; decide +kernel
def b_X0_joinedPiece_158 : List (Nat × Jvm.ClassFile.Instr × Nat) := [(158, .aload_n 0, 1), (159, .iconst 1, 1), (160, .iload_n 3, 1), (161, .invokevirtual 95, 3)]
set_option maxRecDepth 20000 in
theorem k_X0_joinedPiece_158 {sc : xm_Sc} : xm_bok (xe_cy (XE sc) 20) b_X0_joinedPiece_158 := by show xm_bok cX0_joinedPiece _; unfold xm_bok; decide +kernel
def b_X0_joinedPiece_164 : List (Nat × Jvm.ClassFile.Instr × Nat) := [(164, .invokevirtual 86, 3)]
set_option maxRecDepth 20000 in
theorem k_X0_joinedPiece_164 {sc : xm_Sc} : xm_bok (xe_cy (XE sc) 20) b_X0_joinedPiece_164 := by show xm_bok cX0_joinedPiece _; unfold xm_bok; decide +kernel
def b_X0_joinedPiece_167 : List (Nat × Jvm.ClassFile.Instr × Nat) := [(167, .invokevirtual 86, 3)]
set_option maxRecDepth 20000 in
theorem k_X0_joinedPiece_167 {sc : xm_Sc} : xm_bok (xe_cy (XE sc) 20) b_X0_joinedPiece_167 := by show xm_bok cX0_joinedPiece _; unfold xm_bok; decide +kernel
def b_X0_joinedPiece_170 : List (Nat × Jvm.ClassFile.Instr × Nat) := [(170, .ireturn, 1)]
set_option maxRecDepth 20000 in
theorem k_X0_joinedPiece_170 {sc : xm_Sc} : xm_bok (xe_cy (XE sc) 20) b_X0_joinedPiece_170 := by show xm_bok cX0_joinedPiece _; unfold xm_bok; decide +kernel
def b_X0_joinedPiece_171 : List (Nat × Jvm.ClassFile.Instr × Nat) := [(171, .aload_n 0, 1), (172, .aload_n 0, 1), (173, .aload_n 0, 1), (174, .bipush 24, 2), (176, .iload_n 2, 1), (177, .invokevirtual 83, 3)]
set_option maxRecDepth 20000 in
theorem k_X0_joinedPiece_171 {sc : xm_Sc} : xm_bok (xe_cy (XE sc) 20) b_X0_joinedPiece_171 := by show xm_bok cX0_joinedPiece _; unfold xm_bok; decide +kernel
def b_X0_joinedPiece_180 : List (Nat × Jvm.ClassFile.Instr × Nat) := [(180, .aload_n 0, 1), (181, .iconst 2, 1), (182, .iload_n 3, 1), (183, .imul, 1), (184, .invokevirtual 76, 3)]
set_option maxRecDepth 20000 in
theorem k_X0_joinedPiece_180 {sc : xm_Sc} : xm_bok (xe_cy (XE sc) 20) b_X0_joinedPiece_180 := by show xm_bok cX0_joinedPiece _; unfold xm_bok; decide +kernel
def b_X0_joinedPiece_187 : List (Nat × Jvm.ClassFile.Instr × Nat) := [(187, .invokevirtual 80, 3)]
set_option maxRecDepth 20000 in
theorem k_X0_joinedPiece_187 {sc : xm_Sc} : xm_bok (xe_cy (XE sc) 20) b_X0_joinedPiece_187 := by show xm_bok cX0_joinedPiece _; unfold xm_bok; decide +kernel
def b_X0_joinedPiece_190 : List (Nat × Jvm.ClassFile.Instr × Nat) := [(190, .aload_n 0, 1), (191, .aload_n 0, 1), (192, .iload_n 3, 1), (193, .iload_n 3, 1), (194, .invokevirtual 92, 3)]
set_option maxRecDepth 20000 in
theorem k_X0_joinedPiece_190 {sc : xm_Sc} : xm_bok (xe_cy (XE sc) 20) b_X0_joinedPiece_190 := by show xm_bok cX0_joinedPiece _; unfold xm_bok; decide +kernel
def b_X0_joinedPiece_197 : List (Nat × Jvm.ClassFile.Instr × Nat) := [(197, .aload_n 0, 1), (198, .iload_n 3, 1), (199, .iload_n 3, 1), (200, .invokevirtual 95, 3)]
set_option maxRecDepth 20000 in
theorem k_X0_joinedPiece_197 {sc : xm_Sc} : xm_bok (xe_cy (XE sc) 20) b_X0_joinedPiece_197 := by show xm_bok cX0_joinedPiece _; unfold xm_bok; decide +kernel
def b_X0_joinedPiece_203 : List (Nat × Jvm.ClassFile.Instr × Nat) := [(203, .invokevirtual 98, 3)]
set_option maxRecDepth 20000 in
theorem k_X0_joinedPiece_203 {sc : xm_Sc} : xm_bok (xe_cy (XE sc) 20) b_X0_joinedPiece_203 := by show xm_bok cX0_joinedPiece _; unfold xm_bok; decide +kernel
def b_X0_joinedPiece_206 : List (Nat × Jvm.ClassFile.Instr × Nat) := [(206, .invokevirtual 86, 3)]
set_option maxRecDepth 20000 in
theorem k_X0_joinedPiece_206 {sc : xm_Sc} : xm_bok (xe_cy (XE sc) 20) b_X0_joinedPiece_206 := by show xm_bok cX0_joinedPiece _; unfold xm_bok; decide +kernel
def b_X0_joinedPiece_209 : List (Nat × Jvm.ClassFile.Instr × Nat) := [(209, .ireturn, 1)]
set_option maxRecDepth 20000 in
theorem k_X0_joinedPiece_209 {sc : xm_Sc} : xm_bok (xe_cy (XE sc) 20) b_X0_joinedPiece_209 := by show xm_bok cX0_joinedPiece _; unfold xm_bok; decide +kernel
def b_X0_joinedPiece_210 : List (Nat × Jvm.ClassFile.Instr × Nat) := [(210, .aload_n 0, 1), (211, .aload_n 0, 1), (212, .aload_n 0, 1), (213, .bipush 24, 2), (215, .iload_n 2, 1), (216, .invokevirtual 83, 3)]
set_option maxRecDepth 20000 in
theorem k_X0_joinedPiece_210 {sc : xm_Sc} : xm_bok (xe_cy (XE sc) 20) b_X0_joinedPiece_210 := by show xm_bok cX0_joinedPiece _; unfold xm_bok; decide +kernel
def b_X0_joinedPiece_219 : List (Nat × Jvm.ClassFile.Instr × Nat) := [(219, .aload_n 0, 1), (220, .iconst 2, 1), (221, .iload_n 3, 1), (222, .imul, 1), (223, .invokevirtual 76, 3)]
set_option maxRecDepth 20000 in
theorem k_X0_joinedPiece_219 {sc : xm_Sc} : xm_bok (xe_cy (XE sc) 20) b_X0_joinedPiece_219 := by show xm_bok cX0_joinedPiece _; unfold xm_bok; decide +kernel
def b_X0_joinedPiece_226 : List (Nat × Jvm.ClassFile.Instr × Nat) := [(226, .invokevirtual 80, 3)]
set_option maxRecDepth 20000 in
theorem k_X0_joinedPiece_226 {sc : xm_Sc} : xm_bok (xe_cy (XE sc) 20) b_X0_joinedPiece_226 := by show xm_bok cX0_joinedPiece _; unfold xm_bok; decide +kernel
def b_X0_joinedPiece_229 : List (Nat × Jvm.ClassFile.Instr × Nat) := [(229, .aload_n 0, 1), (230, .aload_n 0, 1), (231, .iload_n 3, 1), (232, .iload_n 3, 1), (233, .invokevirtual 95, 3)]
set_option maxRecDepth 20000 in
theorem k_X0_joinedPiece_229 {sc : xm_Sc} : xm_bok (xe_cy (XE sc) 20) b_X0_joinedPiece_229 := by show xm_bok cX0_joinedPiece _; unfold xm_bok; decide +kernel
def b_X0_joinedPiece_236 : List (Nat × Jvm.ClassFile.Instr × Nat) := [(236, .aload_n 0, 1), (237, .iload_n 3, 1), (238, .iload_n 3, 1), (239, .invokevirtual 92, 3)]
set_option maxRecDepth 20000 in
theorem k_X0_joinedPiece_236 {sc : xm_Sc} : xm_bok (xe_cy (XE sc) 20) b_X0_joinedPiece_236 := by show xm_bok cX0_joinedPiece _; unfold xm_bok; decide +kernel
def b_X0_joinedPiece_242 : List (Nat × Jvm.ClassFile.Instr × Nat) := [(242, .invokevirtual 98, 3)]
set_option maxRecDepth 20000 in
theorem k_X0_joinedPiece_242 {sc : xm_Sc} : xm_bok (xe_cy (XE sc) 20) b_X0_joinedPiece_242 := by show xm_bok cX0_joinedPiece _; unfold xm_bok; decide +kernel
def b_X0_joinedPiece_245 : List (Nat × Jvm.ClassFile.Instr × Nat) := [(245, .invokevirtual 86, 3)]
set_option maxRecDepth 20000 in
theorem k_X0_joinedPiece_245 {sc : xm_Sc} : xm_bok (xe_cy (XE sc) 20) b_X0_joinedPiece_245 := by show xm_bok cX0_joinedPiece _; unfold xm_bok; decide +kernel
def b_X0_joinedPiece_248 : List (Nat × Jvm.ClassFile.Instr × Nat) := [(248, .ireturn, 1)]
set_option maxRecDepth 20000 in
theorem k_X0_joinedPiece_248 {sc : xm_Sc} : xm_bok (xe_cy (XE sc) 20) b_X0_joinedPiece_248 := by show xm_bok cX0_joinedPiece _; unfold xm_bok; decide +kernel
set_option maxRecDepth 20000 in
theorem cn_20 {sc : xm_Sc} : xe_cn (XE sc) 20 = 0 := rfl
set_option maxRecDepth 20000 in
theorem ml_20 {sc : xm_Sc} : xe_ml (XE sc) 20 = 5 := rfl
set_option maxRecDepth 20000 in
theorem ry_20 {sc : xm_Sc} : xe_ry (XE sc) 20 = (some .int) := rfl
set_option maxRecDepth 20000 in
theorem is_20 {sc : xm_Sc} : xe_is (XE sc) 20 = false := rfl
set_option maxRecDepth 20000 in
theorem np_20 {sc : xm_Sc} : xe_np (XE sc) 20 = 3 := rfl
/- method 21: X0_leafPiece -/
def b_X0_leafPiece_0 : List (Nat × Jvm.ClassFile.Instr × Nat) := [(0, .iload_n 1, 1), (1, .tableswitch 475 0 19 #[95, 170, 245, 259, 475, 475, 440, 292, 308, 324, 341, 369, 388, 405, 412, 440, 419, 424, 475, 252], 95)]
set_option maxRecDepth 20000 in
theorem k_X0_leafPiece_0 {sc : xm_Sc} : xm_bok (xe_cy (XE sc) 21) b_X0_leafPiece_0 := by show xm_bok cX0_leafPiece _; unfold xm_bok; decide +kernel
def b_X0_leafPiece_96 : List (Nat × Jvm.ClassFile.Instr × Nat) := [(96, .aload_n 0, 1), (97, .aload_n 0, 1), (98, .aload_n 0, 1), (99, .aload_n 0, 1), (100, .iconst 0, 1), (101, .iconst 1, 1), (102, .invokevirtual 73, 3)]
set_option maxRecDepth 20000 in
theorem k_X0_leafPiece_96 {sc : xm_Sc} : xm_bok (xe_cy (XE sc) 21) b_X0_leafPiece_96 := by show xm_bok cX0_leafPiece _; unfold xm_bok; decide +kernel
def b_X0_leafPiece_105 : List (Nat × Jvm.ClassFile.Instr × Nat) := [(105, .aload_n 0, 1), (106, .iconst 1, 1), (107, .invokevirtual 76, 3)]
set_option maxRecDepth 20000 in
theorem k_X0_leafPiece_105 {sc : xm_Sc} : xm_bok (xe_cy (XE sc) 21) b_X0_leafPiece_105 := by show xm_bok cX0_leafPiece _; unfold xm_bok; decide +kernel
def b_X0_leafPiece_110 : List (Nat × Jvm.ClassFile.Instr × Nat) := [(110, .invokevirtual 80, 3)]
set_option maxRecDepth 20000 in
theorem k_X0_leafPiece_110 {sc : xm_Sc} : xm_bok (xe_cy (XE sc) 21) b_X0_leafPiece_110 := by show xm_bok cX0_leafPiece _; unfold xm_bok; decide +kernel
def b_X0_leafPiece_113 : List (Nat × Jvm.ClassFile.Instr × Nat) := [(113, .aload_n 0, 1), (114, .aload_n 0, 1), (115, .iconst 1, 1), (116, .invokevirtual 76, 3)]
set_option maxRecDepth 20000 in
theorem k_X0_leafPiece_113 {sc : xm_Sc} : xm_bok (xe_cy (XE sc) 21) b_X0_leafPiece_113 := by show xm_bok cX0_leafPiece _; unfold xm_bok; decide +kernel
def b_X0_leafPiece_119 : List (Nat × Jvm.ClassFile.Instr × Nat) := [(119, .aload_n 0, 1), (120, .bipush 6, 2), (122, .iconst 0, 1), (123, .invokevirtual 83, 3)]
set_option maxRecDepth 20000 in
theorem k_X0_leafPiece_119 {sc : xm_Sc} : xm_bok (xe_cy (XE sc) 21) b_X0_leafPiece_119 := by show xm_bok cX0_leafPiece _; unfold xm_bok; decide +kernel
def b_X0_leafPiece_126 : List (Nat × Jvm.ClassFile.Instr × Nat) := [(126, .invokevirtual 80, 3)]
set_option maxRecDepth 20000 in
theorem k_X0_leafPiece_126 {sc : xm_Sc} : xm_bok (xe_cy (XE sc) 21) b_X0_leafPiece_126 := by show xm_bok cX0_leafPiece _; unfold xm_bok; decide +kernel
def b_X0_leafPiece_129 : List (Nat × Jvm.ClassFile.Instr × Nat) := [(129, .invokevirtual 98, 3)]
set_option maxRecDepth 20000 in
theorem k_X0_leafPiece_129 {sc : xm_Sc} : xm_bok (xe_cy (XE sc) 21) b_X0_leafPiece_129 := by show xm_bok cX0_leafPiece _; unfold xm_bok; decide +kernel
def b_X0_leafPiece_132 : List (Nat × Jvm.ClassFile.Instr × Nat) := [(132, .aload_n 0, 1), (133, .aload_n 0, 1), (134, .aload_n 0, 1), (135, .iconst 1, 1), (136, .invokevirtual 76, 3)]
set_option maxRecDepth 20000 in
theorem k_X0_leafPiece_132 {sc : xm_Sc} : xm_bok (xe_cy (XE sc) 21) b_X0_leafPiece_132 := by show xm_bok cX0_leafPiece _; unfold xm_bok; decide +kernel
def b_X0_leafPiece_139 : List (Nat × Jvm.ClassFile.Instr × Nat) := [(139, .aload_n 0, 1), (140, .bipush 6, 2), (142, .iconst 0, 1), (143, .invokevirtual 83, 3)]
set_option maxRecDepth 20000 in
theorem k_X0_leafPiece_139 {sc : xm_Sc} : xm_bok (xe_cy (XE sc) 21) b_X0_leafPiece_139 := by show xm_bok cX0_leafPiece _; unfold xm_bok; decide +kernel
def b_X0_leafPiece_146 : List (Nat × Jvm.ClassFile.Instr × Nat) := [(146, .invokevirtual 80, 3)]
set_option maxRecDepth 20000 in
theorem k_X0_leafPiece_146 {sc : xm_Sc} : xm_bok (xe_cy (XE sc) 21) b_X0_leafPiece_146 := by show xm_bok cX0_leafPiece _; unfold xm_bok; decide +kernel
def b_X0_leafPiece_149 : List (Nat × Jvm.ClassFile.Instr × Nat) := [(149, .aload_n 0, 1), (150, .aload_n 0, 1), (151, .iconst 1, 1), (152, .iconst 1, 1), (153, .invokevirtual 73, 3)]
set_option maxRecDepth 20000 in
theorem k_X0_leafPiece_149 {sc : xm_Sc} : xm_bok (xe_cy (XE sc) 21) b_X0_leafPiece_149 := by show xm_bok cX0_leafPiece _; unfold xm_bok; decide +kernel
def b_X0_leafPiece_156 : List (Nat × Jvm.ClassFile.Instr × Nat) := [(156, .aload_n 0, 1), (157, .iconst 1, 1), (158, .invokevirtual 76, 3)]
set_option maxRecDepth 20000 in
theorem k_X0_leafPiece_156 {sc : xm_Sc} : xm_bok (xe_cy (XE sc) 21) b_X0_leafPiece_156 := by show xm_bok cX0_leafPiece _; unfold xm_bok; decide +kernel
def b_X0_leafPiece_161 : List (Nat × Jvm.ClassFile.Instr × Nat) := [(161, .invokevirtual 80, 3)]
set_option maxRecDepth 20000 in
theorem k_X0_leafPiece_161 {sc : xm_Sc} : xm_bok (xe_cy (XE sc) 21) b_X0_leafPiece_161 := by show xm_bok cX0_leafPiece _; unfold xm_bok; decide +kernel
def b_X0_leafPiece_164 : List (Nat × Jvm.ClassFile.Instr × Nat) := [(164, .invokevirtual 98, 3)]
set_option maxRecDepth 20000 in
theorem k_X0_leafPiece_164 {sc : xm_Sc} : xm_bok (xe_cy (XE sc) 21) b_X0_leafPiece_164 := by show xm_bok cX0_leafPiece _; unfold xm_bok; decide +kernel
def b_X0_leafPiece_167 : List (Nat × Jvm.ClassFile.Instr × Nat) := [(167, .invokevirtual 98, 3)]
set_option maxRecDepth 20000 in
theorem k_X0_leafPiece_167 {sc : xm_Sc} : xm_bok (xe_cy (XE sc) 21) b_X0_leafPiece_167 := by show xm_bok cX0_leafPiece _; unfold xm_bok; decide +kernel
def b_X0_leafPiece_170 : List (Nat × Jvm.ClassFile.Instr × Nat) := [(170, .ireturn, 1)]
set_option maxRecDepth 20000 in
theorem k_X0_leafPiece_170 {sc : xm_Sc} : xm_bok (xe_cy (XE sc) 21) b_X0_leafPiece_170 := by show xm_bok cX0_leafPiece _; unfold xm_bok; decide +kernel
def b_X0_leafPiece_171 : List (Nat × Jvm.ClassFile.Instr × Nat) := [(171, .aload_n 0, 1), (172, .aload_n 0, 1), (173, .aload_n 0, 1), (174, .aload_n 0, 1), (175, .iconst 1, 1), (176, .invokevirtual 76, 3)]
set_option maxRecDepth 20000 in
theorem k_X0_leafPiece_171 {sc : xm_Sc} : xm_bok (xe_cy (XE sc) 21) b_X0_leafPiece_171 := by show xm_bok cX0_leafPiece _; unfold xm_bok; decide +kernel
def b_X0_leafPiece_179 : List (Nat × Jvm.ClassFile.Instr × Nat) := [(179, .aload_n 0, 1), (180, .iconst 1, 1), (181, .invokevirtual 76, 3)]
set_option maxRecDepth 20000 in
theorem k_X0_leafPiece_179 {sc : xm_Sc} : xm_bok (xe_cy (XE sc) 21) b_X0_leafPiece_179 := by show xm_bok cX0_leafPiece _; unfold xm_bok; decide +kernel
def b_X0_leafPiece_184 : List (Nat × Jvm.ClassFile.Instr × Nat) := [(184, .invokevirtual 80, 3)]
set_option maxRecDepth 20000 in
theorem k_X0_leafPiece_184 {sc : xm_Sc} : xm_bok (xe_cy (XE sc) 21) b_X0_leafPiece_184 := by show xm_bok cX0_leafPiece _; unfold xm_bok; decide +kernel
def b_X0_leafPiece_187 : List (Nat × Jvm.ClassFile.Instr × Nat) := [(187, .aload_n 0, 1), (188, .aload_n 0, 1), (189, .iconst 0, 1), (190, .iconst 1, 1), (191, .invokevirtual 73, 3)]
set_option maxRecDepth 20000 in
theorem k_X0_leafPiece_187 {sc : xm_Sc} : xm_bok (xe_cy (XE sc) 21) b_X0_leafPiece_187 := by show xm_bok cX0_leafPiece _; unfold xm_bok; decide +kernel
def b_X0_leafPiece_194 : List (Nat × Jvm.ClassFile.Instr × Nat) := [(194, .aload_n 0, 1), (195, .bipush 6, 2), (197, .iconst 0, 1), (198, .invokevirtual 83, 3)]
set_option maxRecDepth 20000 in
theorem k_X0_leafPiece_194 {sc : xm_Sc} : xm_bok (xe_cy (XE sc) 21) b_X0_leafPiece_194 := by show xm_bok cX0_leafPiece _; unfold xm_bok; decide +kernel
def b_X0_leafPiece_201 : List (Nat × Jvm.ClassFile.Instr × Nat) := [(201, .invokevirtual 80, 3)]
set_option maxRecDepth 20000 in
theorem k_X0_leafPiece_201 {sc : xm_Sc} : xm_bok (xe_cy (XE sc) 21) b_X0_leafPiece_201 := by show xm_bok cX0_leafPiece _; unfold xm_bok; decide +kernel
def b_X0_leafPiece_204 : List (Nat × Jvm.ClassFile.Instr × Nat) := [(204, .invokevirtual 98, 3)]
set_option maxRecDepth 20000 in
theorem k_X0_leafPiece_204 {sc : xm_Sc} : xm_bok (xe_cy (XE sc) 21) b_X0_leafPiece_204 := by show xm_bok cX0_leafPiece _; unfold xm_bok; decide +kernel
def b_X0_leafPiece_207 : List (Nat × Jvm.ClassFile.Instr × Nat) := [(207, .aload_n 0, 1), (208, .aload_n 0, 1), (209, .aload_n 0, 1), (210, .iconst 1, 1), (211, .iconst 1, 1), (212, .invokevirtual 73, 3)]
set_option maxRecDepth 20000 in
theorem k_X0_leafPiece_207 {sc : xm_Sc} : xm_bok (xe_cy (XE sc) 21) b_X0_leafPiece_207 := by show xm_bok cX0_leafPiece _; unfold xm_bok; decide +kernel
def b_X0_leafPiece_215 : List (Nat × Jvm.ClassFile.Instr × Nat) := [(215, .aload_n 0, 1), (216, .bipush 6, 2), (218, .iconst 0, 1), (219, .invokevirtual 83, 3)]
set_option maxRecDepth 20000 in
theorem k_X0_leafPiece_215 {sc : xm_Sc} : xm_bok (xe_cy (XE sc) 21) b_X0_leafPiece_215 := by show xm_bok cX0_leafPiece _; unfold xm_bok; decide +kernel
def b_X0_leafPiece_222 : List (Nat × Jvm.ClassFile.Instr × Nat) := [(222, .invokevirtual 80, 3)]
set_option maxRecDepth 20000 in
theorem k_X0_leafPiece_222 {sc : xm_Sc} : xm_bok (xe_cy (XE sc) 21) b_X0_leafPiece_222 := by show xm_bok cX0_leafPiece _; unfold xm_bok; decide +kernel
def b_X0_leafPiece_225 : List (Nat × Jvm.ClassFile.Instr × Nat) := [(225, .aload_n 0, 1), (226, .aload_n 0, 1), (227, .iconst 1, 1), (228, .invokevirtual 76, 3)]
set_option maxRecDepth 20000 in
theorem k_X0_leafPiece_225 {sc : xm_Sc} : xm_bok (xe_cy (XE sc) 21) b_X0_leafPiece_225 := by show xm_bok cX0_leafPiece _; unfold xm_bok; decide +kernel
def b_X0_leafPiece_231 : List (Nat × Jvm.ClassFile.Instr × Nat) := [(231, .aload_n 0, 1), (232, .iconst 1, 1), (233, .invokevirtual 76, 3)]
set_option maxRecDepth 20000 in
theorem k_X0_leafPiece_231 {sc : xm_Sc} : xm_bok (xe_cy (XE sc) 21) b_X0_leafPiece_231 := by show xm_bok cX0_leafPiece _; unfold xm_bok; decide +kernel
def b_X0_leafPiece_236 : List (Nat × Jvm.ClassFile.Instr × Nat) := [(236, .invokevirtual 80, 3)]
set_option maxRecDepth 20000 in
theorem k_X0_leafPiece_236 {sc : xm_Sc} : xm_bok (xe_cy (XE sc) 21) b_X0_leafPiece_236 := by show xm_bok cX0_leafPiece _; unfold xm_bok; decide +kernel
def b_X0_leafPiece_239 : List (Nat × Jvm.ClassFile.Instr × Nat) := [(239, .invokevirtual 98, 3)]
set_option maxRecDepth 20000 in
theorem k_X0_leafPiece_239 {sc : xm_Sc} : xm_bok (xe_cy (XE sc) 21) b_X0_leafPiece_239 := by show xm_bok cX0_leafPiece _; unfold xm_bok; decide +kernel
def b_X0_leafPiece_242 : List (Nat × Jvm.ClassFile.Instr × Nat) := [(242, .invokevirtual 98, 3)]
set_option maxRecDepth 20000 in
theorem k_X0_leafPiece_242 {sc : xm_Sc} : xm_bok (xe_cy (XE sc) 21) b_X0_leafPiece_242 := by show xm_bok cX0_leafPiece _; unfold xm_bok; decide +kernel
def b_X0_leafPiece_245 : List (Nat × Jvm.ClassFile.Instr × Nat) := [(245, .ireturn, 1)]
set_option maxRecDepth 20000 in
theorem k_X0_leafPiece_245 {sc : xm_Sc} : xm_bok (xe_cy (XE sc) 21) b_X0_leafPiece_245 := by show xm_bok cX0_leafPiece _; unfold xm_bok; decide +kernel
def b_X0_leafPiece_246 : List (Nat × Jvm.ClassFile.Instr × Nat) := [(246, .aload_n 0, 1), (247, .iconst 1, 1), (248, .iconst 1, 1), (249, .invokevirtual 95, 3)]
set_option maxRecDepth 20000 in
theorem k_X0_leafPiece_246 {sc : xm_Sc} : xm_bok (xe_cy (XE sc) 21) b_X0_leafPiece_246 := by show xm_bok cX0_leafPiece _; unfold xm_bok; decide +kernel
def b_X0_leafPiece_252 : List (Nat × Jvm.ClassFile.Instr × Nat) := [(252, .ireturn, 1)]
set_option maxRecDepth 20000 in
theorem k_X0_leafPiece_252 {sc : xm_Sc} : xm_bok (xe_cy (XE sc) 21) b_X0_leafPiece_252 := by show xm_bok cX0_leafPiece _; unfold xm_bok; decide +kernel
def b_X0_leafPiece_253 : List (Nat × Jvm.ClassFile.Instr × Nat) := [(253, .aload_n 0, 1), (254, .iconst 1, 1), (255, .iconst 1, 1), (256, .invokevirtual 92, 3)]
set_option maxRecDepth 20000 in
theorem k_X0_leafPiece_253 {sc : xm_Sc} : xm_bok (xe_cy (XE sc) 21) b_X0_leafPiece_253 := by show xm_bok cX0_leafPiece _; unfold xm_bok; decide +kernel
def b_X0_leafPiece_259 : List (Nat × Jvm.ClassFile.Instr × Nat) := [(259, .ireturn, 1)]
set_option maxRecDepth 20000 in
theorem k_X0_leafPiece_259 {sc : xm_Sc} : xm_bok (xe_cy (XE sc) 21) b_X0_leafPiece_259 := by show xm_bok cX0_leafPiece _; unfold xm_bok; decide +kernel
def b_X0_leafPiece_260 : List (Nat × Jvm.ClassFile.Instr × Nat) := [(260, .aload_n 0, 1), (261, .aload_n 0, 1), (262, .aload_n 0, 1), (263, .aload_n 0, 1), (264, .bipush 7, 2), (266, .iconst 0, 1), (267, .invokevirtual 83, 3)]
set_option maxRecDepth 20000 in
theorem k_X0_leafPiece_260 {sc : xm_Sc} : xm_bok (xe_cy (XE sc) 21) b_X0_leafPiece_260 := by show xm_bok cX0_leafPiece _; unfold xm_bok; decide +kernel
def b_X0_leafPiece_270 : List (Nat × Jvm.ClassFile.Instr × Nat) := [(270, .iconst 2, 1), (271, .invokevirtual 101, 3)]
set_option maxRecDepth 20000 in
theorem k_X0_leafPiece_270 {sc : xm_Sc} : xm_bok (xe_cy (XE sc) 21) b_X0_leafPiece_270 := by show xm_bok cX0_leafPiece _; unfold xm_bok; decide +kernel
def b_X0_leafPiece_274 : List (Nat × Jvm.ClassFile.Instr × Nat) := [(274, .aload_n 0, 1), (275, .iconst 2, 1), (276, .iconst 2, 1), (277, .invokevirtual 92, 3)]
set_option maxRecDepth 20000 in
theorem k_X0_leafPiece_274 {sc : xm_Sc} : xm_bok (xe_cy (XE sc) 21) b_X0_leafPiece_274 := by show xm_bok cX0_leafPiece _; unfold xm_bok; decide +kernel
def b_X0_leafPiece_280 : List (Nat × Jvm.ClassFile.Instr × Nat) := [(280, .invokevirtual 80, 3)]
set_option maxRecDepth 20000 in
theorem k_X0_leafPiece_280 {sc : xm_Sc} : xm_bok (xe_cy (XE sc) 21) b_X0_leafPiece_280 := by show xm_bok cX0_leafPiece _; unfold xm_bok; decide +kernel
def b_X0_leafPiece_283 : List (Nat × Jvm.ClassFile.Instr × Nat) := [(283, .aload_n 0, 1), (284, .iconst 0, 1), (285, .iconst 0, 1), (286, .invokevirtual 83, 3)]
set_option maxRecDepth 20000 in
theorem k_X0_leafPiece_283 {sc : xm_Sc} : xm_bok (xe_cy (XE sc) 21) b_X0_leafPiece_283 := by show xm_bok cX0_leafPiece _; unfold xm_bok; decide +kernel
def b_X0_leafPiece_289 : List (Nat × Jvm.ClassFile.Instr × Nat) := [(289, .invokevirtual 86, 3)]
set_option maxRecDepth 20000 in
theorem k_X0_leafPiece_289 {sc : xm_Sc} : xm_bok (xe_cy (XE sc) 21) b_X0_leafPiece_289 := by show xm_bok cX0_leafPiece _; unfold xm_bok; decide +kernel
def b_X0_leafPiece_292 : List (Nat × Jvm.ClassFile.Instr × Nat) := [(292, .ireturn, 1)]
set_option maxRecDepth 20000 in
theorem k_X0_leafPiece_292 {sc : xm_Sc} : xm_bok (xe_cy (XE sc) 21) b_X0_leafPiece_292 := by show xm_bok cX0_leafPiece _; unfold xm_bok; decide +kernel
def b_X0_leafPiece_293 : List (Nat × Jvm.ClassFile.Instr × Nat) := [(293, .aload_n 0, 1), (294, .aload_n 0, 1), (295, .iconst 0, 1), (296, .iconst 1, 1), (297, .invokevirtual 73, 3)]
set_option maxRecDepth 20000 in
theorem k_X0_leafPiece_293 {sc : xm_Sc} : xm_bok (xe_cy (XE sc) 21) b_X0_leafPiece_293 := by show xm_bok cX0_leafPiece _; unfold xm_bok; decide +kernel
def b_X0_leafPiece_300 : List (Nat × Jvm.ClassFile.Instr × Nat) := [(300, .aload_n 0, 1), (301, .iconst 1, 1), (302, .invokevirtual 76, 3)]
set_option maxRecDepth 20000 in
theorem k_X0_leafPiece_300 {sc : xm_Sc} : xm_bok (xe_cy (XE sc) 21) b_X0_leafPiece_300 := by show xm_bok cX0_leafPiece _; unfold xm_bok; decide +kernel
def b_X0_leafPiece_305 : List (Nat × Jvm.ClassFile.Instr × Nat) := [(305, .invokevirtual 98, 3)]
set_option maxRecDepth 20000 in
theorem k_X0_leafPiece_305 {sc : xm_Sc} : xm_bok (xe_cy (XE sc) 21) b_X0_leafPiece_305 := by show xm_bok cX0_leafPiece _; unfold xm_bok; decide +kernel
def b_X0_leafPiece_308 : List (Nat × Jvm.ClassFile.Instr × Nat) := [(308, .ireturn, 1)]
set_option maxRecDepth 20000 in
theorem k_X0_leafPiece_308 {sc : xm_Sc} : xm_bok (xe_cy (XE sc) 21) b_X0_leafPiece_308 := by show xm_bok cX0_leafPiece _; unfold xm_bok; decide +kernel
def b_X0_leafPiece_309 : List (Nat × Jvm.ClassFile.Instr × Nat) := [(309, .aload_n 0, 1), (310, .aload_n 0, 1), (311, .iconst 1, 1), (312, .invokevirtual 76, 3)]
set_option maxRecDepth 20000 in
theorem k_X0_leafPiece_309 {sc : xm_Sc} : xm_bok (xe_cy (XE sc) 21) b_X0_leafPiece_309 := by show xm_bok cX0_leafPiece _; unfold xm_bok; decide +kernel
def b_X0_leafPiece_315 : List (Nat × Jvm.ClassFile.Instr × Nat) := [(315, .aload_n 0, 1), (316, .iconst 1, 1), (317, .iconst 1, 1), (318, .invokevirtual 73, 3)]
set_option maxRecDepth 20000 in
theorem k_X0_leafPiece_315 {sc : xm_Sc} : xm_bok (xe_cy (XE sc) 21) b_X0_leafPiece_315 := by show xm_bok cX0_leafPiece _; unfold xm_bok; decide +kernel
def b_X0_leafPiece_321 : List (Nat × Jvm.ClassFile.Instr × Nat) := [(321, .invokevirtual 98, 3)]
set_option maxRecDepth 20000 in
theorem k_X0_leafPiece_321 {sc : xm_Sc} : xm_bok (xe_cy (XE sc) 21) b_X0_leafPiece_321 := by show xm_bok cX0_leafPiece _; unfold xm_bok; decide +kernel
def b_X0_leafPiece_324 : List (Nat × Jvm.ClassFile.Instr × Nat) := [(324, .ireturn, 1)]
set_option maxRecDepth 20000 in
theorem k_X0_leafPiece_324 {sc : xm_Sc} : xm_bok (xe_cy (XE sc) 21) b_X0_leafPiece_324 := by show xm_bok cX0_leafPiece _; unfold xm_bok; decide +kernel
def b_X0_leafPiece_325 : List (Nat × Jvm.ClassFile.Instr × Nat) := [(325, .aload_n 0, 1), (326, .aload_n 0, 1), (327, .iconst 1, 1), (328, .invokevirtual 76, 3)]
set_option maxRecDepth 20000 in
theorem k_X0_leafPiece_325 {sc : xm_Sc} : xm_bok (xe_cy (XE sc) 21) b_X0_leafPiece_325 := by show xm_bok cX0_leafPiece _; unfold xm_bok; decide +kernel
def b_X0_leafPiece_331 : List (Nat × Jvm.ClassFile.Instr × Nat) := [(331, .aload_n 0, 1), (332, .bipush 6, 2), (334, .iconst 0, 1), (335, .invokevirtual 83, 3)]
set_option maxRecDepth 20000 in
theorem k_X0_leafPiece_331 {sc : xm_Sc} : xm_bok (xe_cy (XE sc) 21) b_X0_leafPiece_331 := by show xm_bok cX0_leafPiece _; unfold xm_bok; decide +kernel
def b_X0_leafPiece_338 : List (Nat × Jvm.ClassFile.Instr × Nat) := [(338, .invokevirtual 98, 3)]
set_option maxRecDepth 20000 in
theorem k_X0_leafPiece_338 {sc : xm_Sc} : xm_bok (xe_cy (XE sc) 21) b_X0_leafPiece_338 := by show xm_bok cX0_leafPiece _; unfold xm_bok; decide +kernel
def b_X0_leafPiece_341 : List (Nat × Jvm.ClassFile.Instr × Nat) := [(341, .ireturn, 1)]
set_option maxRecDepth 20000 in
theorem k_X0_leafPiece_341 {sc : xm_Sc} : xm_bok (xe_cy (XE sc) 21) b_X0_leafPiece_341 := by show xm_bok cX0_leafPiece _; unfold xm_bok; decide +kernel
def b_X0_leafPiece_342 : List (Nat × Jvm.ClassFile.Instr × Nat) := [(342, .aload_n 0, 1), (343, .aload_n 0, 1), (344, .bipush 9, 2), (346, .iconst 0, 1), (347, .invokevirtual 83, 3)]
set_option maxRecDepth 20000 in
theorem k_X0_leafPiece_342 {sc : xm_Sc} : xm_bok (xe_cy (XE sc) 21) b_X0_leafPiece_342 := by show xm_bok cX0_leafPiece _; unfold xm_bok; decide +kernel
def b_X0_leafPiece_350 : List (Nat × Jvm.ClassFile.Instr × Nat) := [(350, .aload_n 0, 1), (351, .aload_n 0, 1), (352, .bipush 6, 2), (354, .iconst 0, 1), (355, .invokevirtual 83, 3)]
set_option maxRecDepth 20000 in
theorem k_X0_leafPiece_350 {sc : xm_Sc} : xm_bok (xe_cy (XE sc) 21) b_X0_leafPiece_350 := by show xm_bok cX0_leafPiece _; unfold xm_bok; decide +kernel
def b_X0_leafPiece_358 : List (Nat × Jvm.ClassFile.Instr × Nat) := [(358, .aload_n 0, 1), (359, .iconst 1, 1), (360, .invokevirtual 76, 3)]
set_option maxRecDepth 20000 in
theorem k_X0_leafPiece_358 {sc : xm_Sc} : xm_bok (xe_cy (XE sc) 21) b_X0_leafPiece_358 := by show xm_bok cX0_leafPiece _; unfold xm_bok; decide +kernel
def b_X0_leafPiece_363 : List (Nat × Jvm.ClassFile.Instr × Nat) := [(363, .invokevirtual 98, 3)]
set_option maxRecDepth 20000 in
theorem k_X0_leafPiece_363 {sc : xm_Sc} : xm_bok (xe_cy (XE sc) 21) b_X0_leafPiece_363 := by show xm_bok cX0_leafPiece _; unfold xm_bok; decide +kernel
def b_X0_leafPiece_366 : List (Nat × Jvm.ClassFile.Instr × Nat) := [(366, .invokevirtual 98, 3)]
set_option maxRecDepth 20000 in
theorem k_X0_leafPiece_366 {sc : xm_Sc} : xm_bok (xe_cy (XE sc) 21) b_X0_leafPiece_366 := by show xm_bok cX0_leafPiece _; unfold xm_bok; decide +kernel
def b_X0_leafPiece_369 : List (Nat × Jvm.ClassFile.Instr × Nat) := [(369, .ireturn, 1)]
set_option maxRecDepth 20000 in
theorem k_X0_leafPiece_369 {sc : xm_Sc} : xm_bok (xe_cy (XE sc) 21) b_X0_leafPiece_369 := by show xm_bok cX0_leafPiece _; unfold xm_bok; decide +kernel
def b_X0_leafPiece_370 : List (Nat × Jvm.ClassFile.Instr × Nat) := [(370, .aload_n 0, 1), (371, .aload_n 0, 1), (372, .bipush 7, 2), (374, .iconst 0, 1), (375, .invokevirtual 83, 3)]
set_option maxRecDepth 20000 in
theorem k_X0_leafPiece_370 {sc : xm_Sc} : xm_bok (xe_cy (XE sc) 21) b_X0_leafPiece_370 := by show xm_bok cX0_leafPiece _; unfold xm_bok; decide +kernel
def b_X0_leafPiece_378 : List (Nat × Jvm.ClassFile.Instr × Nat) := [(378, .aload_n 0, 1), (379, .bipush 8, 2), (381, .iconst 0, 1), (382, .invokevirtual 83, 3)]
set_option maxRecDepth 20000 in
theorem k_X0_leafPiece_378 {sc : xm_Sc} : xm_bok (xe_cy (XE sc) 21) b_X0_leafPiece_378 := by show xm_bok cX0_leafPiece _; unfold xm_bok; decide +kernel
def b_X0_leafPiece_385 : List (Nat × Jvm.ClassFile.Instr × Nat) := [(385, .invokevirtual 98, 3)]
set_option maxRecDepth 20000 in
theorem k_X0_leafPiece_385 {sc : xm_Sc} : xm_bok (xe_cy (XE sc) 21) b_X0_leafPiece_385 := by show xm_bok cX0_leafPiece _; unfold xm_bok; decide +kernel
def b_X0_leafPiece_388 : List (Nat × Jvm.ClassFile.Instr × Nat) := [(388, .ireturn, 1)]
set_option maxRecDepth 20000 in
theorem k_X0_leafPiece_388 {sc : xm_Sc} : xm_bok (xe_cy (XE sc) 21) b_X0_leafPiece_388 := by show xm_bok cX0_leafPiece _; unfold xm_bok; decide +kernel
def b_X0_leafPiece_389 : List (Nat × Jvm.ClassFile.Instr × Nat) := [(389, .aload_n 0, 1), (390, .aload_n 0, 1), (391, .iconst 1, 1), (392, .iconst 1, 1), (393, .invokevirtual 92, 3)]
set_option maxRecDepth 20000 in
theorem k_X0_leafPiece_389 {sc : xm_Sc} : xm_bok (xe_cy (XE sc) 21) b_X0_leafPiece_389 := by show xm_bok cX0_leafPiece _; unfold xm_bok; decide +kernel
def b_X0_leafPiece_396 : List (Nat × Jvm.ClassFile.Instr × Nat) := [(396, .aload_n 0, 1), (397, .iconst 1, 1), (398, .iconst 1, 1), (399, .invokevirtual 95, 3)]
set_option maxRecDepth 20000 in
theorem k_X0_leafPiece_396 {sc : xm_Sc} : xm_bok (xe_cy (XE sc) 21) b_X0_leafPiece_396 := by show xm_bok cX0_leafPiece _; unfold xm_bok; decide +kernel
def b_X0_leafPiece_402 : List (Nat × Jvm.ClassFile.Instr × Nat) := [(402, .invokevirtual 98, 3)]
set_option maxRecDepth 20000 in
theorem k_X0_leafPiece_402 {sc : xm_Sc} : xm_bok (xe_cy (XE sc) 21) b_X0_leafPiece_402 := by show xm_bok cX0_leafPiece _; unfold xm_bok; decide +kernel
def b_X0_leafPiece_405 : List (Nat × Jvm.ClassFile.Instr × Nat) := [(405, .ireturn, 1)]
set_option maxRecDepth 20000 in
theorem k_X0_leafPiece_405 {sc : xm_Sc} : xm_bok (xe_cy (XE sc) 21) b_X0_leafPiece_405 := by show xm_bok cX0_leafPiece _; unfold xm_bok; decide +kernel
def b_X0_leafPiece_406 : List (Nat × Jvm.ClassFile.Instr × Nat) := [(406, .aload_n 0, 1), (407, .iconst 0, 1), (408, .iconst 0, 1), (409, .invokevirtual 73, 3)]
set_option maxRecDepth 20000 in
theorem k_X0_leafPiece_406 {sc : xm_Sc} : xm_bok (xe_cy (XE sc) 21) b_X0_leafPiece_406 := by show xm_bok cX0_leafPiece _; unfold xm_bok; decide +kernel
def b_X0_leafPiece_412 : List (Nat × Jvm.ClassFile.Instr × Nat) := [(412, .ireturn, 1)]
set_option maxRecDepth 20000 in
theorem k_X0_leafPiece_412 {sc : xm_Sc} : xm_bok (xe_cy (XE sc) 21) b_X0_leafPiece_412 := by show xm_bok cX0_leafPiece _; unfold xm_bok; decide +kernel
def b_X0_leafPiece_413 : List (Nat × Jvm.ClassFile.Instr × Nat) := [(413, .aload_n 0, 1), (414, .iconst 1, 1), (415, .iconst 0, 1), (416, .invokevirtual 73, 3)]
set_option maxRecDepth 20000 in
theorem k_X0_leafPiece_413 {sc : xm_Sc} : xm_bok (xe_cy (XE sc) 21) b_X0_leafPiece_413 := by show xm_bok cX0_leafPiece _; unfold xm_bok; decide +kernel
def b_X0_leafPiece_419 : List (Nat × Jvm.ClassFile.Instr × Nat) := [(419, .ireturn, 1)]
set_option maxRecDepth 20000 in
theorem k_X0_leafPiece_419 {sc : xm_Sc} : xm_bok (xe_cy (XE sc) 21) b_X0_leafPiece_419 := by show xm_bok cX0_leafPiece _; unfold xm_bok; decide +kernel
def b_X0_leafPiece_420 : List (Nat × Jvm.ClassFile.Instr × Nat) := [(420, .aload_n 0, 1), (421, .invokevirtual 123, 3)]
set_option maxRecDepth 20000 in
theorem k_X0_leafPiece_420 {sc : xm_Sc} : xm_bok (xe_cy (XE sc) 21) b_X0_leafPiece_420 := by show xm_bok cX0_leafPiece _; unfold xm_bok; decide +kernel
def b_X0_leafPiece_424 : List (Nat × Jvm.ClassFile.Instr × Nat) := [(424, .ireturn, 1)]
set_option maxRecDepth 20000 in
theorem k_X0_leafPiece_424 {sc : xm_Sc} : xm_bok (xe_cy (XE sc) 21) b_X0_leafPiece_424 := by show xm_bok cX0_leafPiece _; unfold xm_bok; decide +kernel
def b_X0_leafPiece_425 : List (Nat × Jvm.ClassFile.Instr × Nat) := [(425, .aload_n 0, 1), (426, .aload_n 0, 1), (427, .bipush 6, 2), (429, .iconst 0, 1), (430, .invokevirtual 83, 3)]
set_option maxRecDepth 20000 in
theorem k_X0_leafPiece_425 {sc : xm_Sc} : xm_bok (xe_cy (XE sc) 21) b_X0_leafPiece_425 := by show xm_bok cX0_leafPiece _; unfold xm_bok; decide +kernel
def b_X0_leafPiece_433 : List (Nat × Jvm.ClassFile.Instr × Nat) := [(433, .aload_n 0, 1), (434, .invokevirtual 123, 3)]
set_option maxRecDepth 20000 in
theorem k_X0_leafPiece_433 {sc : xm_Sc} : xm_bok (xe_cy (XE sc) 21) b_X0_leafPiece_433 := by show xm_bok cX0_leafPiece _; unfold xm_bok; decide +kernel
def b_X0_leafPiece_437 : List (Nat × Jvm.ClassFile.Instr × Nat) := [(437, .invokevirtual 86, 3)]
set_option maxRecDepth 20000 in
theorem k_X0_leafPiece_437 {sc : xm_Sc} : xm_bok (xe_cy (XE sc) 21) b_X0_leafPiece_437 := by show xm_bok cX0_leafPiece _; unfold xm_bok; decide +kernel
def b_X0_leafPiece_440 : List (Nat × Jvm.ClassFile.Instr × Nat) := [(440, .ireturn, 1)]
set_option maxRecDepth 20000 in
theorem k_X0_leafPiece_440 {sc : xm_Sc} : xm_bok (xe_cy (XE sc) 21) b_X0_leafPiece_440 := by show xm_bok cX0_leafPiece _; unfold xm_bok; decide +kernel
def b_X0_leafPiece_441 : List (Nat × Jvm.ClassFile.Instr × Nat) := [(441, .aload_n 0, 1), (442, .aload_n 0, 1), (443, .aload_n 0, 1), (444, .iconst 1, 1), (445, .invokevirtual 76, 3)]
set_option maxRecDepth 20000 in
theorem k_X0_leafPiece_441 {sc : xm_Sc} : xm_bok (xe_cy (XE sc) 21) b_X0_leafPiece_441 := by show xm_bok cX0_leafPiece _; unfold xm_bok; decide +kernel
def b_X0_leafPiece_448 : List (Nat × Jvm.ClassFile.Instr × Nat) := [(448, .aload_n 0, 1), (449, .iconst 1, 1), (450, .invokevirtual 127, 3)]
set_option maxRecDepth 20000 in
theorem k_X0_leafPiece_448 {sc : xm_Sc} : xm_bok (xe_cy (XE sc) 21) b_X0_leafPiece_448 := by show xm_bok cX0_leafPiece _; unfold xm_bok; decide +kernel
def b_X0_leafPiece_453 : List (Nat × Jvm.ClassFile.Instr × Nat) := [(453, .invokevirtual 80, 3)]
set_option maxRecDepth 20000 in
theorem k_X0_leafPiece_453 {sc : xm_Sc} : xm_bok (xe_cy (XE sc) 21) b_X0_leafPiece_453 := by show xm_bok cX0_leafPiece _; unfold xm_bok; decide +kernel
def b_X0_leafPiece_456 : List (Nat × Jvm.ClassFile.Instr × Nat) := [(456, .aload_n 0, 1), (457, .aload_n 0, 1), (458, .iconst 1, 1), (459, .iconst 0, 1), (460, .invokevirtual 73, 3)]
set_option maxRecDepth 20000 in
theorem k_X0_leafPiece_456 {sc : xm_Sc} : xm_bok (xe_cy (XE sc) 21) b_X0_leafPiece_456 := by show xm_bok cX0_leafPiece _; unfold xm_bok; decide +kernel
def b_X0_leafPiece_463 : List (Nat × Jvm.ClassFile.Instr × Nat) := [(463, .aload_n 0, 1), (464, .iconst 0, 1), (465, .iconst 0, 1), (466, .invokevirtual 73, 3)]
set_option maxRecDepth 20000 in
theorem k_X0_leafPiece_463 {sc : xm_Sc} : xm_bok (xe_cy (XE sc) 21) b_X0_leafPiece_463 := by show xm_bok cX0_leafPiece _; unfold xm_bok; decide +kernel
def b_X0_leafPiece_469 : List (Nat × Jvm.ClassFile.Instr × Nat) := [(469, .invokevirtual 98, 3)]
set_option maxRecDepth 20000 in
theorem k_X0_leafPiece_469 {sc : xm_Sc} : xm_bok (xe_cy (XE sc) 21) b_X0_leafPiece_469 := by show xm_bok cX0_leafPiece _; unfold xm_bok; decide +kernel
def b_X0_leafPiece_472 : List (Nat × Jvm.ClassFile.Instr × Nat) := [(472, .invokevirtual 86, 3)]
set_option maxRecDepth 20000 in
theorem k_X0_leafPiece_472 {sc : xm_Sc} : xm_bok (xe_cy (XE sc) 21) b_X0_leafPiece_472 := by show xm_bok cX0_leafPiece _; unfold xm_bok; decide +kernel
def b_X0_leafPiece_475 : List (Nat × Jvm.ClassFile.Instr × Nat) := [(475, .ireturn, 1)]
set_option maxRecDepth 20000 in
theorem k_X0_leafPiece_475 {sc : xm_Sc} : xm_bok (xe_cy (XE sc) 21) b_X0_leafPiece_475 := by show xm_bok cX0_leafPiece _; unfold xm_bok; decide +kernel
def b_X0_leafPiece_476 : List (Nat × Jvm.ClassFile.Instr × Nat) := [(476, .aload_n 0, 1), (477, .iconst 1, 1), (478, .invokevirtual 76, 3)]
set_option maxRecDepth 20000 in
theorem k_X0_leafPiece_476 {sc : xm_Sc} : xm_bok (xe_cy (XE sc) 21) b_X0_leafPiece_476 := by show xm_bok cX0_leafPiece _; unfold xm_bok; decide +kernel
def b_X0_leafPiece_481 : List (Nat × Jvm.ClassFile.Instr × Nat) := [(481, .ireturn, 1)]
set_option maxRecDepth 20000 in
theorem k_X0_leafPiece_481 {sc : xm_Sc} : xm_bok (xe_cy (XE sc) 21) b_X0_leafPiece_481 := by show xm_bok cX0_leafPiece _; unfold xm_bok; decide +kernel
set_option maxRecDepth 20000 in
theorem cn_21 {sc : xm_Sc} : xe_cn (XE sc) 21 = 0 := rfl
set_option maxRecDepth 20000 in
theorem ml_21 {sc : xm_Sc} : xe_ml (XE sc) 21 = 2 := rfl
set_option maxRecDepth 20000 in
theorem ry_21 {sc : xm_Sc} : xe_ry (XE sc) 21 = (some .int) := rfl
set_option maxRecDepth 20000 in
theorem is_21 {sc : xm_Sc} : xe_is (XE sc) 21 = false := rfl
set_option maxRecDepth 20000 in
theorem np_21 {sc : xm_Sc} : xe_np (XE sc) 21 = 1 := rfl
/- method 22: X0_middle -/
def b_X0_middle_0 : List (Nat × Jvm.ClassFile.Instr × Nat) := [(0, .aload_n 0, 1), (1, .aload_n 0, 1), (2, .iload_n 3, 1), (3, .iload_n 1, 1), (4, .invokevirtual 47, 3)]
set_option maxRecDepth 20000 in
theorem k_X0_middle_0 {sc : xm_Sc} : xm_bok (xe_cy (XE sc) 22) b_X0_middle_0 := by show xm_bok cX0_middle _; unfold xm_bok; decide +kernel
def b_X0_middle_7 : List (Nat × Jvm.ClassFile.Instr × Nat) := [(7, .aload_n 0, 1), (8, .aload_n 0, 1), (9, .iload_n 3, 1), (10, .iconst 2, 1), (11, .iload_n 3, 1), (12, .imul, 1), (13, .invokevirtual 95, 3)]
set_option maxRecDepth 20000 in
theorem k_X0_middle_7 {sc : xm_Sc} : xm_bok (xe_cy (XE sc) 22) b_X0_middle_7 := by show xm_bok cX0_middle _; unfold xm_bok; decide +kernel
def b_X0_middle_16 : List (Nat × Jvm.ClassFile.Instr × Nat) := [(16, .aload_n 0, 1), (17, .iload_n 3, 1), (18, .iload_n 2, 1), (19, .invokevirtual 47, 3)]
set_option maxRecDepth 20000 in
theorem k_X0_middle_16 {sc : xm_Sc} : xm_bok (xe_cy (XE sc) 22) b_X0_middle_16 := by show xm_bok cX0_middle _; unfold xm_bok; decide +kernel
def b_X0_middle_22 : List (Nat × Jvm.ClassFile.Instr × Nat) := [(22, .invokevirtual 80, 3)]
set_option maxRecDepth 20000 in
theorem k_X0_middle_22 {sc : xm_Sc} : xm_bok (xe_cy (XE sc) 22) b_X0_middle_22 := by show xm_bok cX0_middle _; unfold xm_bok; decide +kernel
def b_X0_middle_25 : List (Nat × Jvm.ClassFile.Instr × Nat) := [(25, .invokevirtual 80, 3)]
set_option maxRecDepth 20000 in
theorem k_X0_middle_25 {sc : xm_Sc} : xm_bok (xe_cy (XE sc) 22) b_X0_middle_25 := by show xm_bok cX0_middle _; unfold xm_bok; decide +kernel
def b_X0_middle_28 : List (Nat × Jvm.ClassFile.Instr × Nat) := [(28, .istore 4, 2), (30, .aload_n 0, 1), (31, .iload 4, 2), (33, .aload_n 0, 1), (34, .aload_n 0, 1), (35, .aload_n 0, 1), (36, .iload_n 3, 1), (37, .iconst 2, 1), (38, .iload_n 3, 1), (39, .imul, 1), (40, .invokevirtual 95, 3)]
set_option maxRecDepth 20000 in
theorem k_X0_middle_28 {sc : xm_Sc} : xm_bok (xe_cy (XE sc) 22) b_X0_middle_28 := by show xm_bok cX0_middle _; unfold xm_bok; decide +kernel
def b_X0_middle_43 : List (Nat × Jvm.ClassFile.Instr × Nat) := [(43, .aload_n 0, 1), (44, .iload_n 3, 1), (45, .iload_n 1, 1), (46, .invokevirtual 47, 3)]
set_option maxRecDepth 20000 in
theorem k_X0_middle_43 {sc : xm_Sc} : xm_bok (xe_cy (XE sc) 22) b_X0_middle_43 := by show xm_bok cX0_middle _; unfold xm_bok; decide +kernel
def b_X0_middle_49 : List (Nat × Jvm.ClassFile.Instr × Nat) := [(49, .invokevirtual 80, 3)]
set_option maxRecDepth 20000 in
theorem k_X0_middle_49 {sc : xm_Sc} : xm_bok (xe_cy (XE sc) 22) b_X0_middle_49 := by show xm_bok cX0_middle _; unfold xm_bok; decide +kernel
def b_X0_middle_52 : List (Nat × Jvm.ClassFile.Instr × Nat) := [(52, .iload_n 2, 1), (53, .invokevirtual 86, 3)]
set_option maxRecDepth 20000 in
theorem k_X0_middle_52 {sc : xm_Sc} : xm_bok (xe_cy (XE sc) 22) b_X0_middle_52 := by show xm_bok cX0_middle _; unfold xm_bok; decide +kernel
def b_X0_middle_56 : List (Nat × Jvm.ClassFile.Instr × Nat) := [(56, .invokevirtual 86, 3)]
set_option maxRecDepth 20000 in
theorem k_X0_middle_56 {sc : xm_Sc} : xm_bok (xe_cy (XE sc) 22) b_X0_middle_56 := by show xm_bok cX0_middle _; unfold xm_bok; decide +kernel
def b_X0_middle_59 : List (Nat × Jvm.ClassFile.Instr × Nat) := [(59, .ireturn, 1)]
set_option maxRecDepth 20000 in
theorem k_X0_middle_59 {sc : xm_Sc} : xm_bok (xe_cy (XE sc) 22) b_X0_middle_59 := by show xm_bok cX0_middle _; unfold xm_bok; decide +kernel
set_option maxRecDepth 20000 in
theorem cn_22 {sc : xm_Sc} : xe_cn (XE sc) 22 = 0 := rfl
set_option maxRecDepth 20000 in
theorem ml_22 {sc : xm_Sc} : xe_ml (XE sc) 22 = 5 := rfl
set_option maxRecDepth 20000 in
theorem ry_22 {sc : xm_Sc} : xe_ry (XE sc) 22 = (some .int) := rfl
set_option maxRecDepth 20000 in
theorem is_22 {sc : xm_Sc} : xe_is (XE sc) 22 = false := rfl
set_option maxRecDepth 20000 in
theorem np_22 {sc : xm_Sc} : xe_np (XE sc) 22 = 3 := rfl
/- method 23: X0_middleHalves -/
def b_X0_middleHalves_0 : List (Nat × Jvm.ClassFile.Instr × Nat) := [(0, .aload_n 0, 1), (1, .aload_n 0, 1), (2, .aload_n 0, 1), (3, .iload_n 1, 1), (4, .iload_n 1, 1), (5, .invokevirtual 92, 3)]
set_option maxRecDepth 20000 in
theorem k_X0_middleHalves_0 {sc : xm_Sc} : xm_bok (xe_cy (XE sc) 23) b_X0_middleHalves_0 := by show xm_bok cX0_middleHalves _; unfold xm_bok; decide +kernel
def b_X0_middleHalves_8 : List (Nat × Jvm.ClassFile.Instr × Nat) := [(8, .iconst 2, 1), (9, .iload_n 1, 1), (10, .imul, 1), (11, .invokevirtual 101, 3)]
set_option maxRecDepth 20000 in
theorem k_X0_middleHalves_8 {sc : xm_Sc} : xm_bok (xe_cy (XE sc) 23) b_X0_middleHalves_8 := by show xm_bok cX0_middleHalves _; unfold xm_bok; decide +kernel
def b_X0_middleHalves_14 : List (Nat × Jvm.ClassFile.Instr × Nat) := [(14, .aload_n 0, 1), (15, .iconst 2, 1), (16, .iload_n 1, 1), (17, .imul, 1), (18, .aload_n 0, 1), (19, .iload_n 1, 1), (20, .iload_n 1, 1), (21, .invokevirtual 95, 3)]
set_option maxRecDepth 20000 in
theorem k_X0_middleHalves_14 {sc : xm_Sc} : xm_bok (xe_cy (XE sc) 23) b_X0_middleHalves_14 := by show xm_bok cX0_middleHalves _; unfold xm_bok; decide +kernel
def b_X0_middleHalves_24 : List (Nat × Jvm.ClassFile.Instr × Nat) := [(24, .invokevirtual 47, 3)]
set_option maxRecDepth 20000 in
theorem k_X0_middleHalves_24 {sc : xm_Sc} : xm_bok (xe_cy (XE sc) 23) b_X0_middleHalves_24 := by show xm_bok cX0_middleHalves _; unfold xm_bok; decide +kernel
def b_X0_middleHalves_27 : List (Nat × Jvm.ClassFile.Instr × Nat) := [(27, .invokevirtual 80, 3)]
set_option maxRecDepth 20000 in
theorem k_X0_middleHalves_27 {sc : xm_Sc} : xm_bok (xe_cy (XE sc) 23) b_X0_middleHalves_27 := by show xm_bok cX0_middleHalves _; unfold xm_bok; decide +kernel
def b_X0_middleHalves_30 : List (Nat × Jvm.ClassFile.Instr × Nat) := [(30, .ireturn, 1)]
set_option maxRecDepth 20000 in
theorem k_X0_middleHalves_30 {sc : xm_Sc} : xm_bok (xe_cy (XE sc) 23) b_X0_middleHalves_30 := by show xm_bok cX0_middleHalves _; unfold xm_bok; decide +kernel
set_option maxRecDepth 20000 in
theorem cn_23 {sc : xm_Sc} : xe_cn (XE sc) 23 = 0 := rfl
set_option maxRecDepth 20000 in
theorem ml_23 {sc : xm_Sc} : xe_ml (XE sc) 23 = 2 := rfl
set_option maxRecDepth 20000 in
theorem ry_23 {sc : xm_Sc} : xe_ry (XE sc) 23 = (some .int) := rfl
set_option maxRecDepth 20000 in
theorem is_23 {sc : xm_Sc} : xe_is (XE sc) 23 = false := rfl
set_option maxRecDepth 20000 in
theorem np_23 {sc : xm_Sc} : xe_np (XE sc) 23 = 1 := rfl
/- method 24: X0_moving -/
def b_X0_moving_0 : List (Nat × Jvm.ClassFile.Instr × Nat) := [(0, .iconst 1, 1), (1, .iload_n 2, 1), (2, .ishl, 1), (3, .istore_n 3, 1), (4, .iload_n 1, 1), (5, .tableswitch 95 36 40 #[35, 43, 51, 62, 73], 35)]
set_option maxRecDepth 20000 in
theorem k_X0_moving_0 {sc : xm_Sc} : xm_bok (xe_cy (XE sc) 24) b_X0_moving_0 := by show xm_bok cX0_moving _; unfold xm_bok; decide +kernel
def b_X0_moving_40 : List (Nat × Jvm.ClassFile.Instr × Nat) := [(40, .aload_n 0, 1), (41, .bipush 16, 2), (43, .iload_n 2, 1), (44, .invokevirtual 83, 3)]
set_option maxRecDepth 20000 in
theorem k_X0_moving_40 {sc : xm_Sc} : xm_bok (xe_cy (XE sc) 24) b_X0_moving_40 := by show xm_bok cX0_moving _; unfold xm_bok; decide +kernel
def b_X0_moving_47 : List (Nat × Jvm.ClassFile.Instr × Nat) := [(47, .ireturn, 1)]
set_option maxRecDepth 20000 in
theorem k_X0_moving_47 {sc : xm_Sc} : xm_bok (xe_cy (XE sc) 24) b_X0_moving_47 := by show xm_bok cX0_moving _; unfold xm_bok; decide +kernel
def b_X0_moving_48 : List (Nat × Jvm.ClassFile.Instr × Nat) := [(48, .aload_n 0, 1), (49, .bipush 17, 2), (51, .iload_n 2, 1), (52, .invokevirtual 83, 3)]
set_option maxRecDepth 20000 in
theorem k_X0_moving_48 {sc : xm_Sc} : xm_bok (xe_cy (XE sc) 24) b_X0_moving_48 := by show xm_bok cX0_moving _; unfold xm_bok; decide +kernel
def b_X0_moving_55 : List (Nat × Jvm.ClassFile.Instr × Nat) := [(55, .ireturn, 1)]
set_option maxRecDepth 20000 in
theorem k_X0_moving_55 {sc : xm_Sc} : xm_bok (xe_cy (XE sc) 24) b_X0_moving_55 := by show xm_bok cX0_moving _; unfold xm_bok; decide +kernel
def b_X0_moving_56 : List (Nat × Jvm.ClassFile.Instr × Nat) := [(56, .aload_n 0, 1), (57, .iload_n 3, 1), (58, .iconst 2, 1), (59, .idiv, 1), (60, .iload_n 3, 1), (61, .iconst 2, 1), (62, .idiv, 1), (63, .invokevirtual 95, 3)]
set_option maxRecDepth 20000 in
theorem k_X0_moving_56 {sc : xm_Sc} : xm_bok (xe_cy (XE sc) 24) b_X0_moving_56 := by show xm_bok cX0_moving _; unfold xm_bok; decide +kernel
def b_X0_moving_66 : List (Nat × Jvm.ClassFile.Instr × Nat) := [(66, .ireturn, 1)]
set_option maxRecDepth 20000 in
theorem k_X0_moving_66 {sc : xm_Sc} : xm_bok (xe_cy (XE sc) 24) b_X0_moving_66 := by show xm_bok cX0_moving _; unfold xm_bok; decide +kernel
def b_X0_moving_67 : List (Nat × Jvm.ClassFile.Instr × Nat) := [(67, .aload_n 0, 1), (68, .iload_n 3, 1), (69, .iconst 2, 1), (70, .idiv, 1), (71, .iload_n 3, 1), (72, .iconst 2, 1), (73, .idiv, 1), (74, .invokevirtual 92, 3)]
set_option maxRecDepth 20000 in
theorem k_X0_moving_67 {sc : xm_Sc} : xm_bok (xe_cy (XE sc) 24) b_X0_moving_67 := by show xm_bok cX0_moving _; unfold xm_bok; decide +kernel
def b_X0_moving_77 : List (Nat × Jvm.ClassFile.Instr × Nat) := [(77, .ireturn, 1)]
set_option maxRecDepth 20000 in
theorem k_X0_moving_77 {sc : xm_Sc} : xm_bok (xe_cy (XE sc) 24) b_X0_moving_77 := by show xm_bok cX0_moving _; unfold xm_bok; decide +kernel
def b_X0_moving_78 : List (Nat × Jvm.ClassFile.Instr × Nat) := [(78, .aload_n 0, 1), (79, .aload_n 0, 1), (80, .iload_n 2, 1), (81, .iconst 1, 1), (82, .isub, 1), (83, .iload_n 3, 1), (84, .iconst 2, 1), (85, .idiv, 1), (86, .invokevirtual 89, 3)]
set_option maxRecDepth 20000 in
theorem k_X0_moving_78 {sc : xm_Sc} : xm_bok (xe_cy (XE sc) 24) b_X0_moving_78 := by show xm_bok cX0_moving _; unfold xm_bok; decide +kernel
def b_X0_moving_89 : List (Nat × Jvm.ClassFile.Instr × Nat) := [(89, .aload_n 0, 1), (90, .iload_n 3, 1), (91, .iconst 2, 1), (92, .idiv, 1), (93, .invokevirtual 76, 3)]
set_option maxRecDepth 20000 in
theorem k_X0_moving_89 {sc : xm_Sc} : xm_bok (xe_cy (XE sc) 24) b_X0_moving_89 := by show xm_bok cX0_moving _; unfold xm_bok; decide +kernel
def b_X0_moving_96 : List (Nat × Jvm.ClassFile.Instr × Nat) := [(96, .invokevirtual 80, 3)]
set_option maxRecDepth 20000 in
theorem k_X0_moving_96 {sc : xm_Sc} : xm_bok (xe_cy (XE sc) 24) b_X0_moving_96 := by show xm_bok cX0_moving _; unfold xm_bok; decide +kernel
def b_X0_moving_99 : List (Nat × Jvm.ClassFile.Instr × Nat) := [(99, .ireturn, 1)]
set_option maxRecDepth 20000 in
theorem k_X0_moving_99 {sc : xm_Sc} : xm_bok (xe_cy (XE sc) 24) b_X0_moving_99 := by show xm_bok cX0_moving _; unfold xm_bok; decide +kernel
def b_X0_moving_100 : List (Nat × Jvm.ClassFile.Instr × Nat) := [(100, .aload_n 0, 1), (101, .aload_n 0, 1), (102, .iload_n 3, 1), (103, .iconst 2, 1), (104, .idiv, 1), (105, .invokevirtual 76, 3)]
set_option maxRecDepth 20000 in
theorem k_X0_moving_100 {sc : xm_Sc} : xm_bok (xe_cy (XE sc) 24) b_X0_moving_100 := by show xm_bok cX0_moving _; unfold xm_bok; decide +kernel
def b_X0_moving_108 : List (Nat × Jvm.ClassFile.Instr × Nat) := [(108, .aload_n 0, 1), (109, .iload_n 2, 1), (110, .iconst 1, 1), (111, .isub, 1), (112, .iload_n 3, 1), (113, .iconst 2, 1), (114, .idiv, 1), (115, .invokevirtual 89, 3)]
set_option maxRecDepth 20000 in
theorem k_X0_moving_108 {sc : xm_Sc} : xm_bok (xe_cy (XE sc) 24) b_X0_moving_108 := by show xm_bok cX0_moving _; unfold xm_bok; decide +kernel
def b_X0_moving_118 : List (Nat × Jvm.ClassFile.Instr × Nat) := [(118, .invokevirtual 80, 3)]
set_option maxRecDepth 20000 in
theorem k_X0_moving_118 {sc : xm_Sc} : xm_bok (xe_cy (XE sc) 24) b_X0_moving_118 := by show xm_bok cX0_moving _; unfold xm_bok; decide +kernel
def b_X0_moving_121 : List (Nat × Jvm.ClassFile.Instr × Nat) := [(121, .ireturn, 1)]
set_option maxRecDepth 20000 in
theorem k_X0_moving_121 {sc : xm_Sc} : xm_bok (xe_cy (XE sc) 24) b_X0_moving_121 := by show xm_bok cX0_moving _; unfold xm_bok; decide +kernel
set_option maxRecDepth 20000 in
theorem cn_24 {sc : xm_Sc} : xe_cn (XE sc) 24 = 0 := rfl
set_option maxRecDepth 20000 in
theorem ml_24 {sc : xm_Sc} : xe_ml (XE sc) 24 = 4 := rfl
set_option maxRecDepth 20000 in
theorem ry_24 {sc : xm_Sc} : xe_ry (XE sc) 24 = (some .int) := rfl
set_option maxRecDepth 20000 in
theorem is_24 {sc : xm_Sc} : xe_is (XE sc) 24 = false := rfl
set_option maxRecDepth 20000 in
theorem np_24 {sc : xm_Sc} : xe_np (XE sc) 24 = 2 := rfl
/- method 25: X0_pair -/
def b_X0_pair_0 : List (Nat × Jvm.ClassFile.Instr × Nat) := [(0, .aload_n 0, 1), (1, .getfield 33, 3), (4, .iload_n 1, 1), (5, .iaload, 1), (6, .aload_n 0, 1), (7, .getfield 33, 3), (10, .iload_n 2, 1), (11, .iaload, 1), (12, .iadd, 1), (13, .istore_n 3, 1), (14, .aload_n 0, 1), (15, .getfield 11, 3), (18, .iload_n 2, 1), (19, .iaload, 1), (20, .bipush 8, 2), (22, .if_icmp .ne 5, 3)]
set_option maxRecDepth 20000 in
theorem k_X0_pair_0 {sc : xm_Sc} : xm_bok (xe_cy (XE sc) 25) b_X0_pair_0 := by show xm_bok cX0_pair _; unfold xm_bok; decide +kernel
def b_X0_pair_25 : List (Nat × Jvm.ClassFile.Instr × Nat) := [(25, .iload_n 1, 1), (26, .ireturn, 1)]
set_option maxRecDepth 20000 in
theorem k_X0_pair_25 {sc : xm_Sc} : xm_bok (xe_cy (XE sc) 25) b_X0_pair_25 := by show xm_bok cX0_pair _; unfold xm_bok; decide +kernel
def b_X0_pair_27 : List (Nat × Jvm.ClassFile.Instr × Nat) := [(27, .aload_n 0, 1), (28, .getfield 11, 3), (31, .iload_n 1, 1), (32, .iaload, 1), (33, .bipush 7, 2), (35, .if_icmp .ne 59, 3)]
set_option maxRecDepth 20000 in
theorem k_X0_pair_27 {sc : xm_Sc} : xm_bok (xe_cy (XE sc) 25) b_X0_pair_27 := by show xm_bok cX0_pair _; unfold xm_bok; decide +kernel
def b_X0_pair_38 : List (Nat × Jvm.ClassFile.Instr × Nat) := [(38, .aload_n 0, 1), (39, .getfield 11, 3), (42, .iload_n 2, 1), (43, .iaload, 1), (44, .bipush 7, 2), (46, .if_icmp .ne 48, 3)]
set_option maxRecDepth 20000 in
theorem k_X0_pair_38 {sc : xm_Sc} : xm_bok (xe_cy (XE sc) 25) b_X0_pair_38 := by show xm_bok cX0_pair _; unfold xm_bok; decide +kernel
def b_X0_pair_49 : List (Nat × Jvm.ClassFile.Instr × Nat) := [(49, .aload_n 0, 1), (50, .getfield 24, 3), (53, .iload_n 2, 1), (54, .iaload, 1), (55, .aload_n 0, 1), (56, .getfield 24, 3), (59, .iload_n 1, 1), (60, .iaload, 1), (61, .aload_n 0, 1), (62, .getfield 21, 3), (65, .iload_n 1, 1), (66, .iaload, 1), (67, .iadd, 1), (68, .if_icmp .ne 26, 3)]
set_option maxRecDepth 20000 in
theorem k_X0_pair_49 {sc : xm_Sc} : xm_bok (xe_cy (XE sc) 25) b_X0_pair_49 := by show xm_bok cX0_pair _; unfold xm_bok; decide +kernel
def b_X0_pair_71 : List (Nat × Jvm.ClassFile.Instr × Nat) := [(71, .aload_n 0, 1), (72, .bipush 7, 2), (74, .iconst (-1), 1), (75, .iconst (-1), 1), (76, .iload_n 3, 1), (77, .aload_n 0, 1), (78, .getfield 24, 3), (81, .iload_n 1, 1), (82, .iaload, 1), (83, .aload_n 0, 1), (84, .getfield 30, 3), (87, .iload_n 1, 1), (88, .iaload, 1), (89, .iload_n 3, 1), (90, .invokevirtual 43, 3)]
set_option maxRecDepth 20000 in
theorem k_X0_pair_71 {sc : xm_Sc} : xm_bok (xe_cy (XE sc) 25) b_X0_pair_71 := by show xm_bok cX0_pair _; unfold xm_bok; decide +kernel
def b_X0_pair_93 : List (Nat × Jvm.ClassFile.Instr × Nat) := [(93, .ireturn, 1)]
set_option maxRecDepth 20000 in
theorem k_X0_pair_93 {sc : xm_Sc} : xm_bok (xe_cy (XE sc) 25) b_X0_pair_93 := by show xm_bok cX0_pair _; unfold xm_bok; decide +kernel
def b_X0_pair_94 : List (Nat × Jvm.ClassFile.Instr × Nat) := [(94, .aload_n 0, 1), (95, .iload_n 1, 1), (96, .invokevirtual 54, 3)]
set_option maxRecDepth 20000 in
theorem k_X0_pair_94 {sc : xm_Sc} : xm_bok (xe_cy (XE sc) 25) b_X0_pair_94 := by show xm_bok cX0_pair _; unfold xm_bok; decide +kernel
def b_X0_pair_99 : List (Nat × Jvm.ClassFile.Instr × Nat) := [(99, .ifCond .eq 35, 3)]
set_option maxRecDepth 20000 in
theorem k_X0_pair_99 {sc : xm_Sc} : xm_bok (xe_cy (XE sc) 25) b_X0_pair_99 := by show xm_bok cX0_pair _; unfold xm_bok; decide +kernel
def b_X0_pair_102 : List (Nat × Jvm.ClassFile.Instr × Nat) := [(102, .aload_n 0, 1), (103, .iload_n 2, 1), (104, .invokevirtual 54, 3)]
set_option maxRecDepth 20000 in
theorem k_X0_pair_102 {sc : xm_Sc} : xm_bok (xe_cy (XE sc) 25) b_X0_pair_102 := by show xm_bok cX0_pair _; unfold xm_bok; decide +kernel
def b_X0_pair_107 : List (Nat × Jvm.ClassFile.Instr × Nat) := [(107, .ifCond .eq 27, 3)]
set_option maxRecDepth 20000 in
theorem k_X0_pair_107 {sc : xm_Sc} : xm_bok (xe_cy (XE sc) 25) b_X0_pair_107 := by show xm_bok cX0_pair _; unfold xm_bok; decide +kernel
def b_X0_pair_110 : List (Nat × Jvm.ClassFile.Instr × Nat) := [(110, .aload_n 0, 1), (111, .iconst 3, 1), (112, .aload_n 0, 1), (113, .getfield 15, 3), (116, .iload_n 1, 1), (117, .iaload, 1), (118, .iconst (-1), 1), (119, .iload_n 3, 1), (120, .iconst 1, 1), (121, .isub, 1), (122, .iconst 0, 1), (123, .aload_n 0, 1), (124, .getfield 30, 3), (127, .iload_n 1, 1), (128, .iaload, 1), (129, .iload_n 3, 1), (130, .invokevirtual 43, 3)]
set_option maxRecDepth 20000 in
theorem k_X0_pair_110 {sc : xm_Sc} : xm_bok (xe_cy (XE sc) 25) b_X0_pair_110 := by show xm_bok cX0_pair _; unfold xm_bok; decide +kernel
def b_X0_pair_133 : List (Nat × Jvm.ClassFile.Instr × Nat) := [(133, .ireturn, 1)]
set_option maxRecDepth 20000 in
theorem k_X0_pair_133 {sc : xm_Sc} : xm_bok (xe_cy (XE sc) 25) b_X0_pair_133 := by show xm_bok cX0_pair _; unfold xm_bok; decide +kernel
def b_X0_pair_134 : List (Nat × Jvm.ClassFile.Instr × Nat) := [(134, .aload_n 0, 1), (135, .iconst 2, 1), (136, .iload_n 1, 1), (137, .iload_n 2, 1), (138, .aload_n 0, 1), (139, .getfield 33, 3), (142, .iload_n 1, 1), (143, .iaload, 1), (144, .iconst 0, 1), (145, .aload_n 0, 1), (146, .getfield 30, 3), (149, .iload_n 1, 1), (150, .iaload, 1), (151, .iload_n 3, 1), (152, .invokevirtual 43, 3)]
set_option maxRecDepth 20000 in
theorem k_X0_pair_134 {sc : xm_Sc} : xm_bok (xe_cy (XE sc) 25) b_X0_pair_134 := by show xm_bok cX0_pair _; unfold xm_bok; decide +kernel
def b_X0_pair_155 : List (Nat × Jvm.ClassFile.Instr × Nat) := [(155, .ireturn, 1)]
set_option maxRecDepth 20000 in
theorem k_X0_pair_155 {sc : xm_Sc} : xm_bok (xe_cy (XE sc) 25) b_X0_pair_155 := by show xm_bok cX0_pair _; unfold xm_bok; decide +kernel
set_option maxRecDepth 20000 in
theorem cn_25 {sc : xm_Sc} : xe_cn (XE sc) 25 = 0 := rfl
set_option maxRecDepth 20000 in
theorem ml_25 {sc : xm_Sc} : xe_ml (XE sc) 25 = 4 := rfl
set_option maxRecDepth 20000 in
theorem ry_25 {sc : xm_Sc} : xe_ry (XE sc) 25 = (some .int) := rfl
set_option maxRecDepth 20000 in
theorem is_25 {sc : xm_Sc} : xe_is (XE sc) 25 = false := rfl
set_option maxRecDepth 20000 in
theorem np_25 {sc : xm_Sc} : xe_np (XE sc) 25 = 2 := rfl
/- method 26: X0_piece -/
def b_X0_piece_0 : List (Nat × Jvm.ClassFile.Instr × Nat) := [(0, .iload_n 1, 1), (1, .bipush 7, 2), (3, .imul, 1), (4, .iload_n 2, 1), (5, .iadd, 1), (6, .istore_n 3, 1), (7, .iload_n 2, 1), (8, .ifCond .lt 9, 3)]
set_option maxRecDepth 20000 in
theorem k_X0_piece_0 {sc : xm_Sc} : xm_bok (xe_cy (XE sc) 26) b_X0_piece_0 := by show xm_bok cX0_piece _; unfold xm_bok; decide +kernel
def b_X0_piece_11 : List (Nat × Jvm.ClassFile.Instr × Nat) := [(11, .iload_n 2, 1), (12, .bipush 7, 2), (14, .if_icmp .lt 7, 3)]
set_option maxRecDepth 20000 in
theorem k_X0_piece_11 {sc : xm_Sc} : xm_bok (xe_cy (XE sc) 26) b_X0_piece_11 := by show xm_bok cX0_piece _; unfold xm_bok; decide +kernel
def b_X0_piece_17 : List (Nat × Jvm.ClassFile.Instr × Nat) := [(17, .sipush 400, 3), (20, .ireturn, 1)]
set_option maxRecDepth 20000 in
theorem k_X0_piece_17 {sc : xm_Sc} : xm_bok (xe_cy (XE sc) 26) b_X0_piece_17 := by show xm_bok cX0_piece _; unfold xm_bok; decide +kernel
def b_X0_piece_21 : List (Nat × Jvm.ClassFile.Instr × Nat) := [(21, .aload_n 0, 1), (22, .getfield 36, 3), (25, .iload_n 3, 1), (26, .iaload, 1), (27, .ifCond .eq 10, 3)]
set_option maxRecDepth 20000 in
theorem k_X0_piece_21 {sc : xm_Sc} : xm_bok (xe_cy (XE sc) 26) b_X0_piece_21 := by show xm_bok cX0_piece _; unfold xm_bok; decide +kernel
def b_X0_piece_30 : List (Nat × Jvm.ClassFile.Instr × Nat) := [(30, .aload_n 0, 1), (31, .getfield 36, 3), (34, .iload_n 3, 1), (35, .iaload, 1), (36, .ireturn, 1)]
set_option maxRecDepth 20000 in
theorem k_X0_piece_30 {sc : xm_Sc} : xm_bok (xe_cy (XE sc) 26) b_X0_piece_30 := by show xm_bok cX0_piece _; unfold xm_bok; decide +kernel
def b_X0_piece_37 : List (Nat × Jvm.ClassFile.Instr × Nat) := [(37, .iload_n 1, 1), (38, .bipush 20, 2), (40, .if_icmp .lt 21, 3)]
set_option maxRecDepth 20000 in
theorem k_X0_piece_37 {sc : xm_Sc} : xm_bok (xe_cy (XE sc) 26) b_X0_piece_37 := by show xm_bok cX0_piece _; unfold xm_bok; decide +kernel
def b_X0_piece_43 : List (Nat × Jvm.ClassFile.Instr × Nat) := [(43, .aload_n 0, 1), (44, .getfield 36, 3), (47, .iload_n 3, 1), (48, .aload_n 0, 1), (49, .iload_n 1, 1), (50, .iload_n 2, 1), (51, .iconst 1, 1), (52, .iload_n 2, 1), (53, .ishl, 1), (54, .invokevirtual 108, 3)]
set_option maxRecDepth 20000 in
theorem k_X0_piece_43 {sc : xm_Sc} : xm_bok (xe_cy (XE sc) 26) b_X0_piece_43 := by show xm_bok cX0_piece _; unfold xm_bok; decide +kernel
def b_X0_piece_57 : List (Nat × Jvm.ClassFile.Instr × Nat) := [(57, .iastore, 1), (58, .goto 27, 3)]
set_option maxRecDepth 20000 in
theorem k_X0_piece_57 {sc : xm_Sc} : xm_bok (xe_cy (XE sc) 26) b_X0_piece_57 := by show xm_bok cX0_piece _; unfold xm_bok; decide +kernel
def b_X0_piece_61 : List (Nat × Jvm.ClassFile.Instr × Nat) := [(61, .aload_n 0, 1), (62, .getfield 36, 3), (65, .iload_n 3, 1), (66, .iload_n 2, 1), (67, .ifCond .ne 11, 3)]
set_option maxRecDepth 20000 in
theorem k_X0_piece_61 {sc : xm_Sc} : xm_bok (xe_cy (XE sc) 26) b_X0_piece_61 := by show xm_bok cX0_piece _; unfold xm_bok; decide +kernel
def b_X0_piece_70 : List (Nat × Jvm.ClassFile.Instr × Nat) := [(70, .aload_n 0, 1), (71, .iload_n 1, 1), (72, .invokevirtual 111, 3)]
set_option maxRecDepth 20000 in
theorem k_X0_piece_70 {sc : xm_Sc} : xm_bok (xe_cy (XE sc) 26) b_X0_piece_70 := by show xm_bok cX0_piece _; unfold xm_bok; decide +kernel
def b_X0_piece_75 : List (Nat × Jvm.ClassFile.Instr × Nat) := [(75, .goto 9, 3)]
set_option maxRecDepth 20000 in
theorem k_X0_piece_75 {sc : xm_Sc} : xm_bok (xe_cy (XE sc) 26) b_X0_piece_75 := by show xm_bok cX0_piece _; unfold xm_bok; decide +kernel
def b_X0_piece_78 : List (Nat × Jvm.ClassFile.Instr × Nat) := [(78, .aload_n 0, 1), (79, .iload_n 1, 1), (80, .iload_n 2, 1), (81, .invokevirtual 114, 3)]
set_option maxRecDepth 20000 in
theorem k_X0_piece_78 {sc : xm_Sc} : xm_bok (xe_cy (XE sc) 26) b_X0_piece_78 := by show xm_bok cX0_piece _; unfold xm_bok; decide +kernel
def b_X0_piece_84 : List (Nat × Jvm.ClassFile.Instr × Nat) := [(84, .iastore, 1)]
set_option maxRecDepth 20000 in
theorem k_X0_piece_84 {sc : xm_Sc} : xm_bok (xe_cy (XE sc) 26) b_X0_piece_84 := by show xm_bok cX0_piece _; unfold xm_bok; decide +kernel
def b_X0_piece_85 : List (Nat × Jvm.ClassFile.Instr × Nat) := [(85, .aload_n 0, 1), (86, .getfield 36, 3), (89, .iload_n 3, 1), (90, .iaload, 1), (91, .ireturn, 1)]
set_option maxRecDepth 20000 in
theorem k_X0_piece_85 {sc : xm_Sc} : xm_bok (xe_cy (XE sc) 26) b_X0_piece_85 := by show xm_bok cX0_piece _; unfold xm_bok; decide +kernel
set_option maxRecDepth 20000 in
theorem cn_26 {sc : xm_Sc} : xe_cn (XE sc) 26 = 0 := rfl
set_option maxRecDepth 20000 in
theorem ml_26 {sc : xm_Sc} : xe_ml (XE sc) 26 = 4 := rfl
set_option maxRecDepth 20000 in
theorem ry_26 {sc : xm_Sc} : xe_ry (XE sc) 26 = (some .int) := rfl
set_option maxRecDepth 20000 in
theorem is_26 {sc : xm_Sc} : xe_is (XE sc) 26 = false := rfl
set_option maxRecDepth 20000 in
theorem np_26 {sc : xm_Sc} : xe_np (XE sc) 26 = 2 := rfl
/- method 27: X0_place -/
def b_X0_place_0 : List (Nat × Jvm.ClassFile.Instr × Nat) := [(0, .aload_n 0, 1), (1, .getfield 11, 3), (4, .iload_n 1, 1), (5, .iload_n 2, 1), (6, .iastore, 1), (7, .aload_n 0, 1), (8, .getfield 15, 3), (11, .iload_n 1, 1), (12, .iload_n 3, 1), (13, .iastore, 1), (14, .aload_n 0, 1), (15, .getfield 18, 3), (18, .iload_n 1, 1), (19, .iload 4, 2), (21, .iastore, 1), (22, .aload_n 0, 1), (23, .getfield 21, 3), (26, .iload_n 1, 1), (27, .iload 5, 2), (29, .iastore, 1), (30, .aload_n 0, 1), (31, .getfield 24, 3), (34, .iload_n 1, 1), (35, .iload 6, 2), (37, .iastore, 1), (38, .return_, 1)]
set_option maxRecDepth 20000 in
theorem k_X0_place_0 {sc : xm_Sc} : xm_bok (xe_cy (XE sc) 27) b_X0_place_0 := by show xm_bok cX0_place _; unfold xm_bok; decide +kernel
set_option maxRecDepth 20000 in
theorem cn_27 {sc : xm_Sc} : xe_cn (XE sc) 27 = 0 := rfl
set_option maxRecDepth 20000 in
theorem ml_27 {sc : xm_Sc} : xe_ml (XE sc) 27 = 7 := rfl
set_option maxRecDepth 20000 in
theorem ry_27 {sc : xm_Sc} : xe_ry (XE sc) 27 = none := rfl
set_option maxRecDepth 20000 in
theorem is_27 {sc : xm_Sc} : xe_is (XE sc) 27 = false := rfl
set_option maxRecDepth 20000 in
theorem np_27 {sc : xm_Sc} : xe_np (XE sc) 27 = 6 := rfl
/- method 28: X0_product -/
def b_X0_product_0 : List (Nat × Jvm.ClassFile.Instr × Nat) := [(0, .aload_n 0, 1), (1, .aload_n 0, 1), (2, .aload_n 0, 1), (3, .aload_n 0, 1), (4, .iconst 0, 1), (5, .iconst 1, 1), (6, .iload_n 2, 1), (7, .invokevirtual 152, 3)]
set_option maxRecDepth 20000 in
theorem k_X0_product_0 {sc : xm_Sc} : xm_bok (xe_cy (XE sc) 28) b_X0_product_0 := by show xm_bok cX0_product _; unfold xm_bok; decide +kernel
def b_X0_product_10 : List (Nat × Jvm.ClassFile.Instr × Nat) := [(10, .aload_n 0, 1), (11, .iconst 1, 1), (12, .iconst 1, 1), (13, .iload_n 2, 1), (14, .invokevirtual 152, 3)]
set_option maxRecDepth 20000 in
theorem k_X0_product_10 {sc : xm_Sc} : xm_bok (xe_cy (XE sc) 28) b_X0_product_10 := by show xm_bok cX0_product _; unfold xm_bok; decide +kernel
def b_X0_product_17 : List (Nat × Jvm.ClassFile.Instr × Nat) := [(17, .invokevirtual 80, 3)]
set_option maxRecDepth 20000 in
theorem k_X0_product_17 {sc : xm_Sc} : xm_bok (xe_cy (XE sc) 28) b_X0_product_17 := by show xm_bok cX0_product _; unfold xm_bok; decide +kernel
def b_X0_product_20 : List (Nat × Jvm.ClassFile.Instr × Nat) := [(20, .aload_n 0, 1), (21, .aload_n 0, 1), (22, .iconst 2, 1), (23, .iconst 1, 1), (24, .iload_n 2, 1), (25, .invokevirtual 152, 3)]
set_option maxRecDepth 20000 in
theorem k_X0_product_20 {sc : xm_Sc} : xm_bok (xe_cy (XE sc) 28) b_X0_product_20 := by show xm_bok cX0_product _; unfold xm_bok; decide +kernel
def b_X0_product_28 : List (Nat × Jvm.ClassFile.Instr × Nat) := [(28, .aload_n 0, 1), (29, .iconst 3, 1), (30, .iconst 1, 1), (31, .iload_n 2, 1), (32, .invokevirtual 152, 3)]
set_option maxRecDepth 20000 in
theorem k_X0_product_28 {sc : xm_Sc} : xm_bok (xe_cy (XE sc) 28) b_X0_product_28 := by show xm_bok cX0_product _; unfold xm_bok; decide +kernel
def b_X0_product_35 : List (Nat × Jvm.ClassFile.Instr × Nat) := [(35, .invokevirtual 80, 3)]
set_option maxRecDepth 20000 in
theorem k_X0_product_35 {sc : xm_Sc} : xm_bok (xe_cy (XE sc) 28) b_X0_product_35 := by show xm_bok cX0_product _; unfold xm_bok; decide +kernel
def b_X0_product_38 : List (Nat × Jvm.ClassFile.Instr × Nat) := [(38, .invokevirtual 80, 3)]
set_option maxRecDepth 20000 in
theorem k_X0_product_38 {sc : xm_Sc} : xm_bok (xe_cy (XE sc) 28) b_X0_product_38 := by show xm_bok cX0_product _; unfold xm_bok; decide +kernel
def b_X0_product_41 : List (Nat × Jvm.ClassFile.Instr × Nat) := [(41, .iload_n 1, 1), (42, .invokevirtual 86, 3)]
set_option maxRecDepth 20000 in
theorem k_X0_product_41 {sc : xm_Sc} : xm_bok (xe_cy (XE sc) 28) b_X0_product_41 := by show xm_bok cX0_product _; unfold xm_bok; decide +kernel
def b_X0_product_45 : List (Nat × Jvm.ClassFile.Instr × Nat) := [(45, .istore_n 3, 1), (46, .aload_n 0, 1), (47, .iload_n 3, 1), (48, .aload_n 0, 1), (49, .bipush 8, 2), (51, .iload_n 2, 1), (52, .imul, 1), (53, .invokevirtual 76, 3)]
set_option maxRecDepth 20000 in
theorem k_X0_product_45 {sc : xm_Sc} : xm_bok (xe_cy (XE sc) 28) b_X0_product_45 := by show xm_bok cX0_product _; unfold xm_bok; decide +kernel
def b_X0_product_56 : List (Nat × Jvm.ClassFile.Instr × Nat) := [(56, .invokevirtual 80, 3)]
set_option maxRecDepth 20000 in
theorem k_X0_product_56 {sc : xm_Sc} : xm_bok (xe_cy (XE sc) 28) b_X0_product_56 := by show xm_bok cX0_product _; unfold xm_bok; decide +kernel
def b_X0_product_59 : List (Nat × Jvm.ClassFile.Instr × Nat) := [(59, .istore 4, 2), (61, .aload_n 0, 1), (62, .aload_n 0, 1), (63, .aload_n 0, 1), (64, .iconst 2, 1), (65, .iload_n 2, 1), (66, .imul, 1), (67, .aload_n 0, 1), (68, .aload_n 0, 1), (69, .iconst 0, 1), (70, .iconst 0, 1), (71, .iload_n 2, 1), (72, .invokevirtual 152, 3)]
set_option maxRecDepth 20000 in
theorem k_X0_product_59 {sc : xm_Sc} : xm_bok (xe_cy (XE sc) 28) b_X0_product_59 := by show xm_bok cX0_product _; unfold xm_bok; decide +kernel
def b_X0_product_75 : List (Nat × Jvm.ClassFile.Instr × Nat) := [(75, .aload_n 0, 1), (76, .iconst 1, 1), (77, .iconst 1, 1), (78, .iload_n 2, 1), (79, .invokevirtual 152, 3)]
set_option maxRecDepth 20000 in
theorem k_X0_product_75 {sc : xm_Sc} : xm_bok (xe_cy (XE sc) 28) b_X0_product_75 := by show xm_bok cX0_product _; unfold xm_bok; decide +kernel
def b_X0_product_82 : List (Nat × Jvm.ClassFile.Instr × Nat) := [(82, .invokevirtual 80, 3)]
set_option maxRecDepth 20000 in
theorem k_X0_product_82 {sc : xm_Sc} : xm_bok (xe_cy (XE sc) 28) b_X0_product_82 := by show xm_bok cX0_product _; unfold xm_bok; decide +kernel
def b_X0_product_85 : List (Nat × Jvm.ClassFile.Instr × Nat) := [(85, .invokevirtual 47, 3)]
set_option maxRecDepth 20000 in
theorem k_X0_product_85 {sc : xm_Sc} : xm_bok (xe_cy (XE sc) 28) b_X0_product_85 := by show xm_bok cX0_product _; unfold xm_bok; decide +kernel
def b_X0_product_88 : List (Nat × Jvm.ClassFile.Instr × Nat) := [(88, .aload_n 0, 1), (89, .aload_n 0, 1), (90, .iconst 2, 1), (91, .iload_n 2, 1), (92, .imul, 1), (93, .aload_n 0, 1), (94, .iconst 2, 1), (95, .iconst 0, 1), (96, .iload_n 2, 1), (97, .invokevirtual 152, 3)]
set_option maxRecDepth 20000 in
theorem k_X0_product_88 {sc : xm_Sc} : xm_bok (xe_cy (XE sc) 28) b_X0_product_88 := by show xm_bok cX0_product _; unfold xm_bok; decide +kernel
def b_X0_product_100 : List (Nat × Jvm.ClassFile.Instr × Nat) := [(100, .invokevirtual 47, 3)]
set_option maxRecDepth 20000 in
theorem k_X0_product_100 {sc : xm_Sc} : xm_bok (xe_cy (XE sc) 28) b_X0_product_100 := by show xm_bok cX0_product _; unfold xm_bok; decide +kernel
def b_X0_product_103 : List (Nat × Jvm.ClassFile.Instr × Nat) := [(103, .aload_n 0, 1), (104, .aload_n 0, 1), (105, .iload_n 2, 1), (106, .iload_n 2, 1), (107, .invokevirtual 95, 3)]
set_option maxRecDepth 20000 in
theorem k_X0_product_103 {sc : xm_Sc} : xm_bok (xe_cy (XE sc) 28) b_X0_product_103 := by show xm_bok cX0_product _; unfold xm_bok; decide +kernel
def b_X0_product_110 : List (Nat × Jvm.ClassFile.Instr × Nat) := [(110, .bipush 8, 2), (112, .iload_n 2, 1), (113, .imul, 1), (114, .invokevirtual 101, 3)]
set_option maxRecDepth 20000 in
theorem k_X0_product_110 {sc : xm_Sc} : xm_bok (xe_cy (XE sc) 28) b_X0_product_110 := by show xm_bok cX0_product _; unfold xm_bok; decide +kernel
def b_X0_product_117 : List (Nat × Jvm.ClassFile.Instr × Nat) := [(117, .invokevirtual 80, 3)]
set_option maxRecDepth 20000 in
theorem k_X0_product_117 {sc : xm_Sc} : xm_bok (xe_cy (XE sc) 28) b_X0_product_117 := by show xm_bok cX0_product _; unfold xm_bok; decide +kernel
def b_X0_product_120 : List (Nat × Jvm.ClassFile.Instr × Nat) := [(120, .invokevirtual 80, 3)]
set_option maxRecDepth 20000 in
theorem k_X0_product_120 {sc : xm_Sc} : xm_bok (xe_cy (XE sc) 28) b_X0_product_120 := by show xm_bok cX0_product _; unfold xm_bok; decide +kernel
def b_X0_product_123 : List (Nat × Jvm.ClassFile.Instr × Nat) := [(123, .iload_n 1, 1), (124, .invokevirtual 86, 3)]
set_option maxRecDepth 20000 in
theorem k_X0_product_123 {sc : xm_Sc} : xm_bok (xe_cy (XE sc) 28) b_X0_product_123 := by show xm_bok cX0_product _; unfold xm_bok; decide +kernel
def b_X0_product_127 : List (Nat × Jvm.ClassFile.Instr × Nat) := [(127, .istore 5, 2), (129, .aload_n 0, 1), (130, .iload 5, 2), (132, .aload_n 0, 1), (133, .bipush 10, 2), (135, .iload_n 2, 1), (136, .imul, 1), (137, .invokevirtual 76, 3)]
set_option maxRecDepth 20000 in
theorem k_X0_product_127 {sc : xm_Sc} : xm_bok (xe_cy (XE sc) 28) b_X0_product_127 := by show xm_bok cX0_product _; unfold xm_bok; decide +kernel
def b_X0_product_140 : List (Nat × Jvm.ClassFile.Instr × Nat) := [(140, .invokevirtual 80, 3)]
set_option maxRecDepth 20000 in
theorem k_X0_product_140 {sc : xm_Sc} : xm_bok (xe_cy (XE sc) 28) b_X0_product_140 := by show xm_bok cX0_product _; unfold xm_bok; decide +kernel
def b_X0_product_143 : List (Nat × Jvm.ClassFile.Instr × Nat) := [(143, .istore 6, 2), (145, .aload_n 0, 1), (146, .aload_n 0, 1), (147, .aload_n 0, 1), (148, .iconst 4, 1), (149, .iload_n 2, 1), (150, .imul, 1), (151, .aload_n 0, 1), (152, .aload_n 0, 1), (153, .iconst 0, 1), (154, .iconst 1, 1), (155, .iload_n 2, 1), (156, .invokevirtual 152, 3)]
set_option maxRecDepth 20000 in
theorem k_X0_product_143 {sc : xm_Sc} : xm_bok (xe_cy (XE sc) 28) b_X0_product_143 := by show xm_bok cX0_product _; unfold xm_bok; decide +kernel
def b_X0_product_159 : List (Nat × Jvm.ClassFile.Instr × Nat) := [(159, .aload_n 0, 1), (160, .iconst 1, 1), (161, .iconst 0, 1), (162, .iload_n 2, 1), (163, .invokevirtual 152, 3)]
set_option maxRecDepth 20000 in
theorem k_X0_product_159 {sc : xm_Sc} : xm_bok (xe_cy (XE sc) 28) b_X0_product_159 := by show xm_bok cX0_product _; unfold xm_bok; decide +kernel
def b_X0_product_166 : List (Nat × Jvm.ClassFile.Instr × Nat) := [(166, .invokevirtual 80, 3)]
set_option maxRecDepth 20000 in
theorem k_X0_product_166 {sc : xm_Sc} : xm_bok (xe_cy (XE sc) 28) b_X0_product_166 := by show xm_bok cX0_product _; unfold xm_bok; decide +kernel
def b_X0_product_169 : List (Nat × Jvm.ClassFile.Instr × Nat) := [(169, .invokevirtual 47, 3)]
set_option maxRecDepth 20000 in
theorem k_X0_product_169 {sc : xm_Sc} : xm_bok (xe_cy (XE sc) 28) b_X0_product_169 := by show xm_bok cX0_product _; unfold xm_bok; decide +kernel
def b_X0_product_172 : List (Nat × Jvm.ClassFile.Instr × Nat) := [(172, .aload_n 0, 1), (173, .aload_n 0, 1), (174, .iconst 4, 1), (175, .iload_n 2, 1), (176, .imul, 1), (177, .aload_n 0, 1), (178, .iconst 3, 1), (179, .iconst 0, 1), (180, .iload_n 2, 1), (181, .invokevirtual 152, 3)]
set_option maxRecDepth 20000 in
theorem k_X0_product_172 {sc : xm_Sc} : xm_bok (xe_cy (XE sc) 28) b_X0_product_172 := by show xm_bok cX0_product _; unfold xm_bok; decide +kernel
def b_X0_product_184 : List (Nat × Jvm.ClassFile.Instr × Nat) := [(184, .invokevirtual 47, 3)]
set_option maxRecDepth 20000 in
theorem k_X0_product_184 {sc : xm_Sc} : xm_bok (xe_cy (XE sc) 28) b_X0_product_184 := by show xm_bok cX0_product _; unfold xm_bok; decide +kernel
def b_X0_product_187 : List (Nat × Jvm.ClassFile.Instr × Nat) := [(187, .aload_n 0, 1), (188, .aload_n 0, 1), (189, .iload_n 2, 1), (190, .iload_n 2, 1), (191, .invokevirtual 92, 3)]
set_option maxRecDepth 20000 in
theorem k_X0_product_187 {sc : xm_Sc} : xm_bok (xe_cy (XE sc) 28) b_X0_product_187 := by show xm_bok cX0_product _; unfold xm_bok; decide +kernel
def b_X0_product_194 : List (Nat × Jvm.ClassFile.Instr × Nat) := [(194, .bipush 10, 2), (196, .iload_n 2, 1), (197, .imul, 1), (198, .invokevirtual 101, 3)]
set_option maxRecDepth 20000 in
theorem k_X0_product_194 {sc : xm_Sc} : xm_bok (xe_cy (XE sc) 28) b_X0_product_194 := by show xm_bok cX0_product _; unfold xm_bok; decide +kernel
def b_X0_product_201 : List (Nat × Jvm.ClassFile.Instr × Nat) := [(201, .invokevirtual 80, 3)]
set_option maxRecDepth 20000 in
theorem k_X0_product_201 {sc : xm_Sc} : xm_bok (xe_cy (XE sc) 28) b_X0_product_201 := by show xm_bok cX0_product _; unfold xm_bok; decide +kernel
def b_X0_product_204 : List (Nat × Jvm.ClassFile.Instr × Nat) := [(204, .invokevirtual 80, 3)]
set_option maxRecDepth 20000 in
theorem k_X0_product_204 {sc : xm_Sc} : xm_bok (xe_cy (XE sc) 28) b_X0_product_204 := by show xm_bok cX0_product _; unfold xm_bok; decide +kernel
def b_X0_product_207 : List (Nat × Jvm.ClassFile.Instr × Nat) := [(207, .iload_n 1, 1), (208, .invokevirtual 86, 3)]
set_option maxRecDepth 20000 in
theorem k_X0_product_207 {sc : xm_Sc} : xm_bok (xe_cy (XE sc) 28) b_X0_product_207 := by show xm_bok cX0_product _; unfold xm_bok; decide +kernel
def b_X0_product_211 : List (Nat × Jvm.ClassFile.Instr × Nat) := [(211, .istore 7, 2), (213, .aload_n 0, 1), (214, .iload 7, 2), (216, .aload_n 0, 1), (217, .bipush 12, 2), (219, .iload_n 2, 1), (220, .imul, 1), (221, .invokevirtual 76, 3)]
set_option maxRecDepth 20000 in
theorem k_X0_product_211 {sc : xm_Sc} : xm_bok (xe_cy (XE sc) 28) b_X0_product_211 := by show xm_bok cX0_product _; unfold xm_bok; decide +kernel
def b_X0_product_224 : List (Nat × Jvm.ClassFile.Instr × Nat) := [(224, .invokevirtual 80, 3)]
set_option maxRecDepth 20000 in
theorem k_X0_product_224 {sc : xm_Sc} : xm_bok (xe_cy (XE sc) 28) b_X0_product_224 := by show xm_bok cX0_product _; unfold xm_bok; decide +kernel
def b_X0_product_227 : List (Nat × Jvm.ClassFile.Instr × Nat) := [(227, .istore 8, 2), (229, .aload_n 0, 1), (230, .aload_n 0, 1), (231, .aload_n 0, 1), (232, .bipush 6, 2), (234, .iload_n 2, 1), (235, .imul, 1), (236, .aload_n 0, 1), (237, .aload_n 0, 1), (238, .iconst 0, 1), (239, .iconst 0, 1), (240, .iload_n 2, 1), (241, .invokevirtual 152, 3)]
set_option maxRecDepth 20000 in
theorem k_X0_product_227 {sc : xm_Sc} : xm_bok (xe_cy (XE sc) 28) b_X0_product_227 := by show xm_bok cX0_product _; unfold xm_bok; decide +kernel
def b_X0_product_244 : List (Nat × Jvm.ClassFile.Instr × Nat) := [(244, .aload_n 0, 1), (245, .iconst 1, 1), (246, .iconst 0, 1), (247, .iload_n 2, 1), (248, .invokevirtual 152, 3)]
set_option maxRecDepth 20000 in
theorem k_X0_product_244 {sc : xm_Sc} : xm_bok (xe_cy (XE sc) 28) b_X0_product_244 := by show xm_bok cX0_product _; unfold xm_bok; decide +kernel
def b_X0_product_251 : List (Nat × Jvm.ClassFile.Instr × Nat) := [(251, .invokevirtual 80, 3)]
set_option maxRecDepth 20000 in
theorem k_X0_product_251 {sc : xm_Sc} : xm_bok (xe_cy (XE sc) 28) b_X0_product_251 := by show xm_bok cX0_product _; unfold xm_bok; decide +kernel
def b_X0_product_254 : List (Nat × Jvm.ClassFile.Instr × Nat) := [(254, .invokevirtual 47, 3)]
set_option maxRecDepth 20000 in
theorem k_X0_product_254 {sc : xm_Sc} : xm_bok (xe_cy (XE sc) 28) b_X0_product_254 := by show xm_bok cX0_product _; unfold xm_bok; decide +kernel
def b_X0_product_257 : List (Nat × Jvm.ClassFile.Instr × Nat) := [(257, .aload_n 0, 1), (258, .aload_n 0, 1), (259, .iconst 2, 1), (260, .iload_n 2, 1), (261, .imul, 1), (262, .aload_n 0, 1), (263, .aload_n 0, 1), (264, .iload_n 2, 1), (265, .iload_n 2, 1), (266, .invokevirtual 95, 3)]
set_option maxRecDepth 20000 in
theorem k_X0_product_257 {sc : xm_Sc} : xm_bok (xe_cy (XE sc) 28) b_X0_product_257 := by show xm_bok cX0_product _; unfold xm_bok; decide +kernel
def b_X0_product_269 : List (Nat × Jvm.ClassFile.Instr × Nat) := [(269, .bipush 10, 2), (271, .iload_n 2, 1), (272, .imul, 1), (273, .invokevirtual 101, 3)]
set_option maxRecDepth 20000 in
theorem k_X0_product_269 {sc : xm_Sc} : xm_bok (xe_cy (XE sc) 28) b_X0_product_269 := by show xm_bok cX0_product _; unfold xm_bok; decide +kernel
def b_X0_product_276 : List (Nat × Jvm.ClassFile.Instr × Nat) := [(276, .invokevirtual 47, 3)]
set_option maxRecDepth 20000 in
theorem k_X0_product_276 {sc : xm_Sc} : xm_bok (xe_cy (XE sc) 28) b_X0_product_276 := by show xm_bok cX0_product _; unfold xm_bok; decide +kernel
def b_X0_product_279 : List (Nat × Jvm.ClassFile.Instr × Nat) := [(279, .aload_n 0, 1), (280, .aload_n 0, 1), (281, .iload_n 2, 1), (282, .iload_n 2, 1), (283, .invokevirtual 95, 3)]
set_option maxRecDepth 20000 in
theorem k_X0_product_279 {sc : xm_Sc} : xm_bok (xe_cy (XE sc) 28) b_X0_product_279 := by show xm_bok cX0_product _; unfold xm_bok; decide +kernel
def b_X0_product_286 : List (Nat × Jvm.ClassFile.Instr × Nat) := [(286, .bipush 12, 2), (288, .iload_n 2, 1), (289, .imul, 1), (290, .invokevirtual 101, 3)]
set_option maxRecDepth 20000 in
theorem k_X0_product_286 {sc : xm_Sc} : xm_bok (xe_cy (XE sc) 28) b_X0_product_286 := by show xm_bok cX0_product _; unfold xm_bok; decide +kernel
def b_X0_product_293 : List (Nat × Jvm.ClassFile.Instr × Nat) := [(293, .invokevirtual 80, 3)]
set_option maxRecDepth 20000 in
theorem k_X0_product_293 {sc : xm_Sc} : xm_bok (xe_cy (XE sc) 28) b_X0_product_293 := by show xm_bok cX0_product _; unfold xm_bok; decide +kernel
def b_X0_product_296 : List (Nat × Jvm.ClassFile.Instr × Nat) := [(296, .invokevirtual 80, 3)]
set_option maxRecDepth 20000 in
theorem k_X0_product_296 {sc : xm_Sc} : xm_bok (xe_cy (XE sc) 28) b_X0_product_296 := by show xm_bok cX0_product _; unfold xm_bok; decide +kernel
def b_X0_product_299 : List (Nat × Jvm.ClassFile.Instr × Nat) := [(299, .iload_n 1, 1), (300, .invokevirtual 86, 3)]
set_option maxRecDepth 20000 in
theorem k_X0_product_299 {sc : xm_Sc} : xm_bok (xe_cy (XE sc) 28) b_X0_product_299 := by show xm_bok cX0_product _; unfold xm_bok; decide +kernel
def b_X0_product_303 : List (Nat × Jvm.ClassFile.Instr × Nat) := [(303, .istore 9, 2), (305, .aload_n 0, 1), (306, .iconst 4, 1), (307, .iload_n 2, 1), (308, .imul, 1), (309, .aload_n 0, 1), (310, .aload_n 0, 1), (311, .iload_n 2, 1), (312, .iload_n 2, 1), (313, .invokevirtual 92, 3)]
set_option maxRecDepth 20000 in
theorem k_X0_product_303 {sc : xm_Sc} : xm_bok (xe_cy (XE sc) 28) b_X0_product_303 := by show xm_bok cX0_product _; unfold xm_bok; decide +kernel
def b_X0_product_316 : List (Nat × Jvm.ClassFile.Instr × Nat) := [(316, .bipush 8, 2), (318, .iload_n 2, 1), (319, .imul, 1), (320, .invokevirtual 101, 3)]
set_option maxRecDepth 20000 in
theorem k_X0_product_316 {sc : xm_Sc} : xm_bok (xe_cy (XE sc) 28) b_X0_product_316 := by show xm_bok cX0_product _; unfold xm_bok; decide +kernel
def b_X0_product_323 : List (Nat × Jvm.ClassFile.Instr × Nat) := [(323, .invokevirtual 47, 3)]
set_option maxRecDepth 20000 in
theorem k_X0_product_323 {sc : xm_Sc} : xm_bok (xe_cy (XE sc) 28) b_X0_product_323 := by show xm_bok cX0_product _; unfold xm_bok; decide +kernel
def b_X0_product_326 : List (Nat × Jvm.ClassFile.Instr × Nat) := [(326, .istore 10, 2), (328, .aload_n 0, 1), (329, .iload 9, 2), (331, .aload_n 0, 1), (332, .aload_n 0, 1), (333, .aload_n 0, 1), (334, .iload_n 2, 1), (335, .iload_n 2, 1), (336, .invokevirtual 92, 3)]
set_option maxRecDepth 20000 in
theorem k_X0_product_326 {sc : xm_Sc} : xm_bok (xe_cy (XE sc) 28) b_X0_product_326 := by show xm_bok cX0_product _; unfold xm_bok; decide +kernel
def b_X0_product_339 : List (Nat × Jvm.ClassFile.Instr × Nat) := [(339, .bipush 12, 2), (341, .iload_n 2, 1), (342, .imul, 1), (343, .invokevirtual 101, 3)]
set_option maxRecDepth 20000 in
theorem k_X0_product_339 {sc : xm_Sc} : xm_bok (xe_cy (XE sc) 28) b_X0_product_339 := by show xm_bok cX0_product _; unfold xm_bok; decide +kernel
def b_X0_product_346 : List (Nat × Jvm.ClassFile.Instr × Nat) := [(346, .iload 10, 2), (348, .invokevirtual 80, 3)]
set_option maxRecDepth 20000 in
theorem k_X0_product_346 {sc : xm_Sc} : xm_bok (xe_cy (XE sc) 28) b_X0_product_346 := by show xm_bok cX0_product _; unfold xm_bok; decide +kernel
def b_X0_product_351 : List (Nat × Jvm.ClassFile.Instr × Nat) := [(351, .invokevirtual 80, 3)]
set_option maxRecDepth 20000 in
theorem k_X0_product_351 {sc : xm_Sc} : xm_bok (xe_cy (XE sc) 28) b_X0_product_351 := by show xm_bok cX0_product _; unfold xm_bok; decide +kernel
def b_X0_product_354 : List (Nat × Jvm.ClassFile.Instr × Nat) := [(354, .istore 11, 2), (356, .aload_n 0, 1), (357, .iload 4, 2), (359, .aload_n 0, 1), (360, .iload 6, 2), (362, .aload_n 0, 1), (363, .iload 8, 2), (365, .iload 11, 2), (367, .invokevirtual 86, 3)]
set_option maxRecDepth 20000 in
theorem k_X0_product_354 {sc : xm_Sc} : xm_bok (xe_cy (XE sc) 28) b_X0_product_354 := by show xm_bok cX0_product _; unfold xm_bok; decide +kernel
def b_X0_product_370 : List (Nat × Jvm.ClassFile.Instr × Nat) := [(370, .invokevirtual 86, 3)]
set_option maxRecDepth 20000 in
theorem k_X0_product_370 {sc : xm_Sc} : xm_bok (xe_cy (XE sc) 28) b_X0_product_370 := by show xm_bok cX0_product _; unfold xm_bok; decide +kernel
def b_X0_product_373 : List (Nat × Jvm.ClassFile.Instr × Nat) := [(373, .invokevirtual 86, 3)]
set_option maxRecDepth 20000 in
theorem k_X0_product_373 {sc : xm_Sc} : xm_bok (xe_cy (XE sc) 28) b_X0_product_373 := by show xm_bok cX0_product _; unfold xm_bok; decide +kernel
def b_X0_product_376 : List (Nat × Jvm.ClassFile.Instr × Nat) := [(376, .ireturn, 1)]
set_option maxRecDepth 20000 in
theorem k_X0_product_376 {sc : xm_Sc} : xm_bok (xe_cy (XE sc) 28) b_X0_product_376 := by show xm_bok cX0_product _; unfold xm_bok; decide +kernel
set_option maxRecDepth 20000 in
theorem cn_28 {sc : xm_Sc} : xe_cn (XE sc) 28 = 0 := rfl
set_option maxRecDepth 20000 in
theorem ml_28 {sc : xm_Sc} : xe_ml (XE sc) 28 = 12 := rfl
set_option maxRecDepth 20000 in
theorem ry_28 {sc : xm_Sc} : xe_ry (XE sc) 28 = (some .int) := rfl
set_option maxRecDepth 20000 in
theorem is_28 {sc : xm_Sc} : xe_is (XE sc) 28 = false := rfl
set_option maxRecDepth 20000 in
theorem np_28 {sc : xm_Sc} : xe_np (XE sc) 28 = 2 := rfl
/- method 29: X0_quarter -/
def b_X0_quarter_0 : List (Nat × Jvm.ClassFile.Instr × Nat) := [(0, .iload_n 2, 1), (1, .ifCond .eq 12, 3)]
set_option maxRecDepth 20000 in
theorem k_X0_quarter_0 {sc : xm_Sc} : xm_bok (xe_cy (XE sc) 29) b_X0_quarter_0 := by show xm_bok cX0_quarter _; unfold xm_bok; decide +kernel
def b_X0_quarter_4 : List (Nat × Jvm.ClassFile.Instr × Nat) := [(4, .aload_n 0, 1), (5, .iload_n 3, 1), (6, .iload_n 3, 1), (7, .invokevirtual 92, 3)]
set_option maxRecDepth 20000 in
theorem k_X0_quarter_4 {sc : xm_Sc} : xm_bok (xe_cy (XE sc) 29) b_X0_quarter_4 := by show xm_bok cX0_quarter _; unfold xm_bok; decide +kernel
def b_X0_quarter_10 : List (Nat × Jvm.ClassFile.Instr × Nat) := [(10, .goto 9, 3)]
set_option maxRecDepth 20000 in
theorem k_X0_quarter_10 {sc : xm_Sc} : xm_bok (xe_cy (XE sc) 29) b_X0_quarter_10 := by show xm_bok cX0_quarter _; unfold xm_bok; decide +kernel
def b_X0_quarter_13 : List (Nat × Jvm.ClassFile.Instr × Nat) := [(13, .aload_n 0, 1), (14, .iload_n 3, 1), (15, .iload_n 3, 1), (16, .invokevirtual 95, 3)]
set_option maxRecDepth 20000 in
theorem k_X0_quarter_13 {sc : xm_Sc} : xm_bok (xe_cy (XE sc) 29) b_X0_quarter_13 := by show xm_bok cX0_quarter _; unfold xm_bok; decide +kernel
def b_X0_quarter_19 : List (Nat × Jvm.ClassFile.Instr × Nat) := [(19, .istore 4, 2), (21, .iload_n 1, 1), (22, .iconst 1, 1), (23, .iand, 1), (24, .ifCond .ne 15, 3)]
set_option maxRecDepth 20000 in
theorem k_X0_quarter_19 {sc : xm_Sc} : xm_bok (xe_cy (XE sc) 29) b_X0_quarter_19 := by show xm_bok cX0_quarter _; unfold xm_bok; decide +kernel
def b_X0_quarter_27 : List (Nat × Jvm.ClassFile.Instr × Nat) := [(27, .aload_n 0, 1), (28, .iload 4, 2), (30, .iconst 2, 1), (31, .iload_n 3, 1), (32, .imul, 1), (33, .invokevirtual 101, 3)]
set_option maxRecDepth 20000 in
theorem k_X0_quarter_27 {sc : xm_Sc} : xm_bok (xe_cy (XE sc) 29) b_X0_quarter_27 := by show xm_bok cX0_quarter _; unfold xm_bok; decide +kernel
def b_X0_quarter_36 : List (Nat × Jvm.ClassFile.Instr × Nat) := [(36, .goto 12, 3)]
set_option maxRecDepth 20000 in
theorem k_X0_quarter_36 {sc : xm_Sc} : xm_bok (xe_cy (XE sc) 29) b_X0_quarter_36 := by show xm_bok cX0_quarter _; unfold xm_bok; decide +kernel
def b_X0_quarter_39 : List (Nat × Jvm.ClassFile.Instr × Nat) := [(39, .aload_n 0, 1), (40, .iconst 2, 1), (41, .iload_n 3, 1), (42, .imul, 1), (43, .iload 4, 2), (45, .invokevirtual 47, 3)]
set_option maxRecDepth 20000 in
theorem k_X0_quarter_39 {sc : xm_Sc} : xm_bok (xe_cy (XE sc) 29) b_X0_quarter_39 := by show xm_bok cX0_quarter _; unfold xm_bok; decide +kernel
def b_X0_quarter_48 : List (Nat × Jvm.ClassFile.Instr × Nat) := [(48, .istore 5, 2), (50, .iload_n 1, 1), (51, .iconst 2, 1), (52, .if_icmp .ge 15, 3)]
set_option maxRecDepth 20000 in
theorem k_X0_quarter_48 {sc : xm_Sc} : xm_bok (xe_cy (XE sc) 29) b_X0_quarter_48 := by show xm_bok cX0_quarter _; unfold xm_bok; decide +kernel
def b_X0_quarter_55 : List (Nat × Jvm.ClassFile.Instr × Nat) := [(55, .aload_n 0, 1), (56, .iload 5, 2), (58, .iconst 4, 1), (59, .iload_n 3, 1), (60, .imul, 1), (61, .invokevirtual 101, 3)]
set_option maxRecDepth 20000 in
theorem k_X0_quarter_55 {sc : xm_Sc} : xm_bok (xe_cy (XE sc) 29) b_X0_quarter_55 := by show xm_bok cX0_quarter _; unfold xm_bok; decide +kernel
def b_X0_quarter_64 : List (Nat × Jvm.ClassFile.Instr × Nat) := [(64, .goto 12, 3)]
set_option maxRecDepth 20000 in
theorem k_X0_quarter_64 {sc : xm_Sc} : xm_bok (xe_cy (XE sc) 29) b_X0_quarter_64 := by show xm_bok cX0_quarter _; unfold xm_bok; decide +kernel
def b_X0_quarter_67 : List (Nat × Jvm.ClassFile.Instr × Nat) := [(67, .aload_n 0, 1), (68, .iconst 4, 1), (69, .iload_n 3, 1), (70, .imul, 1), (71, .iload 5, 2), (73, .invokevirtual 47, 3)]
set_option maxRecDepth 20000 in
theorem k_X0_quarter_67 {sc : xm_Sc} : xm_bok (xe_cy (XE sc) 29) b_X0_quarter_67 := by show xm_bok cX0_quarter _; unfold xm_bok; decide +kernel
def b_X0_quarter_76 : List (Nat × Jvm.ClassFile.Instr × Nat) := [(76, .ireturn, 1)]
set_option maxRecDepth 20000 in
theorem k_X0_quarter_76 {sc : xm_Sc} : xm_bok (xe_cy (XE sc) 29) b_X0_quarter_76 := by show xm_bok cX0_quarter _; unfold xm_bok; decide +kernel
set_option maxRecDepth 20000 in
theorem cn_29 {sc : xm_Sc} : xe_cn (XE sc) 29 = 0 := rfl
set_option maxRecDepth 20000 in
theorem ml_29 {sc : xm_Sc} : xe_ml (XE sc) 29 = 6 := rfl
set_option maxRecDepth 20000 in
theorem ry_29 {sc : xm_Sc} : xe_ry (XE sc) 29 = (some .int) := rfl
set_option maxRecDepth 20000 in
theorem is_29 {sc : xm_Sc} : xe_is (XE sc) 29 = false := rfl
set_option maxRecDepth 20000 in
theorem np_29 {sc : xm_Sc} : xe_np (XE sc) 29 = 3 := rfl
/- method 30: X0_reckoning -/
def b_X0_reckoning_0 : List (Nat × Jvm.ClassFile.Instr × Nat) := [(0, .iconst 1, 1), (1, .iload_n 2, 1), (2, .ishl, 1), (3, .istore_n 3, 1), (4, .iload_n 1, 1), (5, .tableswitch 271 0 7 #[47, 77, 84, 114, 121, 157, 193, 229], 47)]
set_option maxRecDepth 20000 in
theorem k_X0_reckoning_0 {sc : xm_Sc} : xm_bok (xe_cy (XE sc) 30) b_X0_reckoning_0 := by show xm_bok cX0_reckoning _; unfold xm_bok; decide +kernel
def b_X0_reckoning_52 : List (Nat × Jvm.ClassFile.Instr × Nat) := [(52, .aload_n 0, 1), (53, .aload_n 0, 1), (54, .aload_n 0, 1), (55, .iconst 0, 1), (56, .iconst 2, 1), (57, .iload_n 3, 1), (58, .imul, 1), (59, .invokevirtual 73, 3)]
set_option maxRecDepth 20000 in
theorem k_X0_reckoning_52 {sc : xm_Sc} : xm_bok (xe_cy (XE sc) 30) b_X0_reckoning_52 := by show xm_bok cX0_reckoning _; unfold xm_bok; decide +kernel
def b_X0_reckoning_62 : List (Nat × Jvm.ClassFile.Instr × Nat) := [(62, .aload_n 0, 1), (63, .iconst 2, 1), (64, .iload_n 3, 1), (65, .imul, 1), (66, .invokevirtual 76, 3)]
set_option maxRecDepth 20000 in
theorem k_X0_reckoning_62 {sc : xm_Sc} : xm_bok (xe_cy (XE sc) 30) b_X0_reckoning_62 := by show xm_bok cX0_reckoning _; unfold xm_bok; decide +kernel
def b_X0_reckoning_69 : List (Nat × Jvm.ClassFile.Instr × Nat) := [(69, .invokevirtual 80, 3)]
set_option maxRecDepth 20000 in
theorem k_X0_reckoning_69 {sc : xm_Sc} : xm_bok (xe_cy (XE sc) 30) b_X0_reckoning_69 := by show xm_bok cX0_reckoning _; unfold xm_bok; decide +kernel
def b_X0_reckoning_72 : List (Nat × Jvm.ClassFile.Instr × Nat) := [(72, .aload_n 0, 1), (73, .iconst 0, 1), (74, .iload_n 2, 1), (75, .invokevirtual 83, 3)]
set_option maxRecDepth 20000 in
theorem k_X0_reckoning_72 {sc : xm_Sc} : xm_bok (xe_cy (XE sc) 30) b_X0_reckoning_72 := by show xm_bok cX0_reckoning _; unfold xm_bok; decide +kernel
def b_X0_reckoning_78 : List (Nat × Jvm.ClassFile.Instr × Nat) := [(78, .invokevirtual 86, 3)]
set_option maxRecDepth 20000 in
theorem k_X0_reckoning_78 {sc : xm_Sc} : xm_bok (xe_cy (XE sc) 30) b_X0_reckoning_78 := by show xm_bok cX0_reckoning _; unfold xm_bok; decide +kernel
def b_X0_reckoning_81 : List (Nat × Jvm.ClassFile.Instr × Nat) := [(81, .ireturn, 1)]
set_option maxRecDepth 20000 in
theorem k_X0_reckoning_81 {sc : xm_Sc} : xm_bok (xe_cy (XE sc) 30) b_X0_reckoning_81 := by show xm_bok cX0_reckoning _; unfold xm_bok; decide +kernel
def b_X0_reckoning_82 : List (Nat × Jvm.ClassFile.Instr × Nat) := [(82, .aload_n 0, 1), (83, .iconst 0, 1), (84, .iload_n 2, 1), (85, .invokevirtual 83, 3)]
set_option maxRecDepth 20000 in
theorem k_X0_reckoning_82 {sc : xm_Sc} : xm_bok (xe_cy (XE sc) 30) b_X0_reckoning_82 := by show xm_bok cX0_reckoning _; unfold xm_bok; decide +kernel
def b_X0_reckoning_88 : List (Nat × Jvm.ClassFile.Instr × Nat) := [(88, .ireturn, 1)]
set_option maxRecDepth 20000 in
theorem k_X0_reckoning_88 {sc : xm_Sc} : xm_bok (xe_cy (XE sc) 30) b_X0_reckoning_88 := by show xm_bok cX0_reckoning _; unfold xm_bok; decide +kernel
def b_X0_reckoning_89 : List (Nat × Jvm.ClassFile.Instr × Nat) := [(89, .aload_n 0, 1), (90, .aload_n 0, 1), (91, .aload_n 0, 1), (92, .iconst 0, 1), (93, .iconst 2, 1), (94, .iload_n 3, 1), (95, .imul, 1), (96, .invokevirtual 73, 3)]
set_option maxRecDepth 20000 in
theorem k_X0_reckoning_89 {sc : xm_Sc} : xm_bok (xe_cy (XE sc) 30) b_X0_reckoning_89 := by show xm_bok cX0_reckoning _; unfold xm_bok; decide +kernel
def b_X0_reckoning_99 : List (Nat × Jvm.ClassFile.Instr × Nat) := [(99, .aload_n 0, 1), (100, .iconst 2, 1), (101, .iload_n 3, 1), (102, .imul, 1), (103, .invokevirtual 76, 3)]
set_option maxRecDepth 20000 in
theorem k_X0_reckoning_99 {sc : xm_Sc} : xm_bok (xe_cy (XE sc) 30) b_X0_reckoning_99 := by show xm_bok cX0_reckoning _; unfold xm_bok; decide +kernel
def b_X0_reckoning_106 : List (Nat × Jvm.ClassFile.Instr × Nat) := [(106, .invokevirtual 80, 3)]
set_option maxRecDepth 20000 in
theorem k_X0_reckoning_106 {sc : xm_Sc} : xm_bok (xe_cy (XE sc) 30) b_X0_reckoning_106 := by show xm_bok cX0_reckoning _; unfold xm_bok; decide +kernel
def b_X0_reckoning_109 : List (Nat × Jvm.ClassFile.Instr × Nat) := [(109, .aload_n 0, 1), (110, .iconst 1, 1), (111, .iload_n 2, 1), (112, .invokevirtual 83, 3)]
set_option maxRecDepth 20000 in
theorem k_X0_reckoning_109 {sc : xm_Sc} : xm_bok (xe_cy (XE sc) 30) b_X0_reckoning_109 := by show xm_bok cX0_reckoning _; unfold xm_bok; decide +kernel
def b_X0_reckoning_115 : List (Nat × Jvm.ClassFile.Instr × Nat) := [(115, .invokevirtual 86, 3)]
set_option maxRecDepth 20000 in
theorem k_X0_reckoning_115 {sc : xm_Sc} : xm_bok (xe_cy (XE sc) 30) b_X0_reckoning_115 := by show xm_bok cX0_reckoning _; unfold xm_bok; decide +kernel
def b_X0_reckoning_118 : List (Nat × Jvm.ClassFile.Instr × Nat) := [(118, .ireturn, 1)]
set_option maxRecDepth 20000 in
theorem k_X0_reckoning_118 {sc : xm_Sc} : xm_bok (xe_cy (XE sc) 30) b_X0_reckoning_118 := by show xm_bok cX0_reckoning _; unfold xm_bok; decide +kernel
def b_X0_reckoning_119 : List (Nat × Jvm.ClassFile.Instr × Nat) := [(119, .aload_n 0, 1), (120, .iconst 1, 1), (121, .iload_n 2, 1), (122, .invokevirtual 83, 3)]
set_option maxRecDepth 20000 in
theorem k_X0_reckoning_119 {sc : xm_Sc} : xm_bok (xe_cy (XE sc) 30) b_X0_reckoning_119 := by show xm_bok cX0_reckoning _; unfold xm_bok; decide +kernel
def b_X0_reckoning_125 : List (Nat × Jvm.ClassFile.Instr × Nat) := [(125, .ireturn, 1)]
set_option maxRecDepth 20000 in
theorem k_X0_reckoning_125 {sc : xm_Sc} : xm_bok (xe_cy (XE sc) 30) b_X0_reckoning_125 := by show xm_bok cX0_reckoning _; unfold xm_bok; decide +kernel
def b_X0_reckoning_126 : List (Nat × Jvm.ClassFile.Instr × Nat) := [(126, .aload_n 0, 1), (127, .aload_n 0, 1), (128, .aload_n 0, 1), (129, .iconst 1, 1), (130, .iload_n 3, 1), (131, .invokevirtual 73, 3)]
set_option maxRecDepth 20000 in
theorem k_X0_reckoning_126 {sc : xm_Sc} : xm_bok (xe_cy (XE sc) 30) b_X0_reckoning_126 := by show xm_bok cX0_reckoning _; unfold xm_bok; decide +kernel
def b_X0_reckoning_134 : List (Nat × Jvm.ClassFile.Instr × Nat) := [(134, .aload_n 0, 1), (135, .aload_n 0, 1), (136, .iload_n 3, 1), (137, .invokevirtual 76, 3)]
set_option maxRecDepth 20000 in
theorem k_X0_reckoning_134 {sc : xm_Sc} : xm_bok (xe_cy (XE sc) 30) b_X0_reckoning_134 := by show xm_bok cX0_reckoning _; unfold xm_bok; decide +kernel
def b_X0_reckoning_140 : List (Nat × Jvm.ClassFile.Instr × Nat) := [(140, .aload_n 0, 1), (141, .iload_n 2, 1), (142, .iload_n 3, 1), (143, .invokevirtual 89, 3)]
set_option maxRecDepth 20000 in
theorem k_X0_reckoning_140 {sc : xm_Sc} : xm_bok (xe_cy (XE sc) 30) b_X0_reckoning_140 := by show xm_bok cX0_reckoning _; unfold xm_bok; decide +kernel
def b_X0_reckoning_146 : List (Nat × Jvm.ClassFile.Instr × Nat) := [(146, .invokevirtual 80, 3)]
set_option maxRecDepth 20000 in
theorem k_X0_reckoning_146 {sc : xm_Sc} : xm_bok (xe_cy (XE sc) 30) b_X0_reckoning_146 := by show xm_bok cX0_reckoning _; unfold xm_bok; decide +kernel
def b_X0_reckoning_149 : List (Nat × Jvm.ClassFile.Instr × Nat) := [(149, .invokevirtual 80, 3)]
set_option maxRecDepth 20000 in
theorem k_X0_reckoning_149 {sc : xm_Sc} : xm_bok (xe_cy (XE sc) 30) b_X0_reckoning_149 := by show xm_bok cX0_reckoning _; unfold xm_bok; decide +kernel
def b_X0_reckoning_152 : List (Nat × Jvm.ClassFile.Instr × Nat) := [(152, .aload_n 0, 1), (153, .iconst 0, 1), (154, .iload_n 2, 1), (155, .invokevirtual 83, 3)]
set_option maxRecDepth 20000 in
theorem k_X0_reckoning_152 {sc : xm_Sc} : xm_bok (xe_cy (XE sc) 30) b_X0_reckoning_152 := by show xm_bok cX0_reckoning _; unfold xm_bok; decide +kernel
def b_X0_reckoning_158 : List (Nat × Jvm.ClassFile.Instr × Nat) := [(158, .invokevirtual 86, 3)]
set_option maxRecDepth 20000 in
theorem k_X0_reckoning_158 {sc : xm_Sc} : xm_bok (xe_cy (XE sc) 30) b_X0_reckoning_158 := by show xm_bok cX0_reckoning _; unfold xm_bok; decide +kernel
def b_X0_reckoning_161 : List (Nat × Jvm.ClassFile.Instr × Nat) := [(161, .ireturn, 1)]
set_option maxRecDepth 20000 in
theorem k_X0_reckoning_161 {sc : xm_Sc} : xm_bok (xe_cy (XE sc) 30) b_X0_reckoning_161 := by show xm_bok cX0_reckoning _; unfold xm_bok; decide +kernel
def b_X0_reckoning_162 : List (Nat × Jvm.ClassFile.Instr × Nat) := [(162, .aload_n 0, 1), (163, .aload_n 0, 1), (164, .aload_n 0, 1), (165, .iconst 1, 1), (166, .iload_n 3, 1), (167, .invokevirtual 73, 3)]
set_option maxRecDepth 20000 in
theorem k_X0_reckoning_162 {sc : xm_Sc} : xm_bok (xe_cy (XE sc) 30) b_X0_reckoning_162 := by show xm_bok cX0_reckoning _; unfold xm_bok; decide +kernel
def b_X0_reckoning_170 : List (Nat × Jvm.ClassFile.Instr × Nat) := [(170, .aload_n 0, 1), (171, .aload_n 0, 1), (172, .iload_n 3, 1), (173, .invokevirtual 76, 3)]
set_option maxRecDepth 20000 in
theorem k_X0_reckoning_170 {sc : xm_Sc} : xm_bok (xe_cy (XE sc) 30) b_X0_reckoning_170 := by show xm_bok cX0_reckoning _; unfold xm_bok; decide +kernel
def b_X0_reckoning_176 : List (Nat × Jvm.ClassFile.Instr × Nat) := [(176, .aload_n 0, 1), (177, .iload_n 2, 1), (178, .iload_n 3, 1), (179, .invokevirtual 89, 3)]
set_option maxRecDepth 20000 in
theorem k_X0_reckoning_176 {sc : xm_Sc} : xm_bok (xe_cy (XE sc) 30) b_X0_reckoning_176 := by show xm_bok cX0_reckoning _; unfold xm_bok; decide +kernel
def b_X0_reckoning_182 : List (Nat × Jvm.ClassFile.Instr × Nat) := [(182, .invokevirtual 80, 3)]
set_option maxRecDepth 20000 in
theorem k_X0_reckoning_182 {sc : xm_Sc} : xm_bok (xe_cy (XE sc) 30) b_X0_reckoning_182 := by show xm_bok cX0_reckoning _; unfold xm_bok; decide +kernel
def b_X0_reckoning_185 : List (Nat × Jvm.ClassFile.Instr × Nat) := [(185, .invokevirtual 80, 3)]
set_option maxRecDepth 20000 in
theorem k_X0_reckoning_185 {sc : xm_Sc} : xm_bok (xe_cy (XE sc) 30) b_X0_reckoning_185 := by show xm_bok cX0_reckoning _; unfold xm_bok; decide +kernel
def b_X0_reckoning_188 : List (Nat × Jvm.ClassFile.Instr × Nat) := [(188, .aload_n 0, 1), (189, .iconst 1, 1), (190, .iload_n 2, 1), (191, .invokevirtual 83, 3)]
set_option maxRecDepth 20000 in
theorem k_X0_reckoning_188 {sc : xm_Sc} : xm_bok (xe_cy (XE sc) 30) b_X0_reckoning_188 := by show xm_bok cX0_reckoning _; unfold xm_bok; decide +kernel
def b_X0_reckoning_194 : List (Nat × Jvm.ClassFile.Instr × Nat) := [(194, .invokevirtual 86, 3)]
set_option maxRecDepth 20000 in
theorem k_X0_reckoning_194 {sc : xm_Sc} : xm_bok (xe_cy (XE sc) 30) b_X0_reckoning_194 := by show xm_bok cX0_reckoning _; unfold xm_bok; decide +kernel
def b_X0_reckoning_197 : List (Nat × Jvm.ClassFile.Instr × Nat) := [(197, .ireturn, 1)]
set_option maxRecDepth 20000 in
theorem k_X0_reckoning_197 {sc : xm_Sc} : xm_bok (xe_cy (XE sc) 30) b_X0_reckoning_197 := by show xm_bok cX0_reckoning _; unfold xm_bok; decide +kernel
def b_X0_reckoning_198 : List (Nat × Jvm.ClassFile.Instr × Nat) := [(198, .aload_n 0, 1), (199, .aload_n 0, 1), (200, .aload_n 0, 1), (201, .iconst 0, 1), (202, .iload_n 3, 1), (203, .invokevirtual 73, 3)]
set_option maxRecDepth 20000 in
theorem k_X0_reckoning_198 {sc : xm_Sc} : xm_bok (xe_cy (XE sc) 30) b_X0_reckoning_198 := by show xm_bok cX0_reckoning _; unfold xm_bok; decide +kernel
def b_X0_reckoning_206 : List (Nat × Jvm.ClassFile.Instr × Nat) := [(206, .aload_n 0, 1), (207, .aload_n 0, 1), (208, .iload_n 2, 1), (209, .iload_n 3, 1), (210, .invokevirtual 89, 3)]
set_option maxRecDepth 20000 in
theorem k_X0_reckoning_206 {sc : xm_Sc} : xm_bok (xe_cy (XE sc) 30) b_X0_reckoning_206 := by show xm_bok cX0_reckoning _; unfold xm_bok; decide +kernel
def b_X0_reckoning_213 : List (Nat × Jvm.ClassFile.Instr × Nat) := [(213, .aload_n 0, 1), (214, .iload_n 3, 1), (215, .invokevirtual 76, 3)]
set_option maxRecDepth 20000 in
theorem k_X0_reckoning_213 {sc : xm_Sc} : xm_bok (xe_cy (XE sc) 30) b_X0_reckoning_213 := by show xm_bok cX0_reckoning _; unfold xm_bok; decide +kernel
def b_X0_reckoning_218 : List (Nat × Jvm.ClassFile.Instr × Nat) := [(218, .invokevirtual 80, 3)]
set_option maxRecDepth 20000 in
theorem k_X0_reckoning_218 {sc : xm_Sc} : xm_bok (xe_cy (XE sc) 30) b_X0_reckoning_218 := by show xm_bok cX0_reckoning _; unfold xm_bok; decide +kernel
def b_X0_reckoning_221 : List (Nat × Jvm.ClassFile.Instr × Nat) := [(221, .invokevirtual 80, 3)]
set_option maxRecDepth 20000 in
theorem k_X0_reckoning_221 {sc : xm_Sc} : xm_bok (xe_cy (XE sc) 30) b_X0_reckoning_221 := by show xm_bok cX0_reckoning _; unfold xm_bok; decide +kernel
def b_X0_reckoning_224 : List (Nat × Jvm.ClassFile.Instr × Nat) := [(224, .aload_n 0, 1), (225, .iconst 1, 1), (226, .iload_n 2, 1), (227, .invokevirtual 83, 3)]
set_option maxRecDepth 20000 in
theorem k_X0_reckoning_224 {sc : xm_Sc} : xm_bok (xe_cy (XE sc) 30) b_X0_reckoning_224 := by show xm_bok cX0_reckoning _; unfold xm_bok; decide +kernel
def b_X0_reckoning_230 : List (Nat × Jvm.ClassFile.Instr × Nat) := [(230, .invokevirtual 86, 3)]
set_option maxRecDepth 20000 in
theorem k_X0_reckoning_230 {sc : xm_Sc} : xm_bok (xe_cy (XE sc) 30) b_X0_reckoning_230 := by show xm_bok cX0_reckoning _; unfold xm_bok; decide +kernel
def b_X0_reckoning_233 : List (Nat × Jvm.ClassFile.Instr × Nat) := [(233, .ireturn, 1)]
set_option maxRecDepth 20000 in
theorem k_X0_reckoning_233 {sc : xm_Sc} : xm_bok (xe_cy (XE sc) 30) b_X0_reckoning_233 := by show xm_bok cX0_reckoning _; unfold xm_bok; decide +kernel
def b_X0_reckoning_234 : List (Nat × Jvm.ClassFile.Instr × Nat) := [(234, .aload_n 0, 1), (235, .aload_n 0, 1), (236, .aload_n 0, 1), (237, .iconst 2, 1), (238, .iload_n 3, 1), (239, .imul, 1), (240, .invokevirtual 76, 3)]
set_option maxRecDepth 20000 in
theorem k_X0_reckoning_234 {sc : xm_Sc} : xm_bok (xe_cy (XE sc) 30) b_X0_reckoning_234 := by show xm_bok cX0_reckoning _; unfold xm_bok; decide +kernel
def b_X0_reckoning_243 : List (Nat × Jvm.ClassFile.Instr × Nat) := [(243, .aload_n 0, 1), (244, .aload_n 0, 1), (245, .iload_n 2, 1), (246, .iconst 2, 1), (247, .iload_n 3, 1), (248, .imul, 1), (249, .invokevirtual 89, 3)]
set_option maxRecDepth 20000 in
theorem k_X0_reckoning_243 {sc : xm_Sc} : xm_bok (xe_cy (XE sc) 30) b_X0_reckoning_243 := by show xm_bok cX0_reckoning _; unfold xm_bok; decide +kernel
def b_X0_reckoning_252 : List (Nat × Jvm.ClassFile.Instr × Nat) := [(252, .aload_n 0, 1), (253, .iload_n 2, 1), (254, .iconst 2, 1), (255, .iload_n 3, 1), (256, .imul, 1), (257, .invokevirtual 89, 3)]
set_option maxRecDepth 20000 in
theorem k_X0_reckoning_252 {sc : xm_Sc} : xm_bok (xe_cy (XE sc) 30) b_X0_reckoning_252 := by show xm_bok cX0_reckoning _; unfold xm_bok; decide +kernel
def b_X0_reckoning_260 : List (Nat × Jvm.ClassFile.Instr × Nat) := [(260, .invokevirtual 80, 3)]
set_option maxRecDepth 20000 in
theorem k_X0_reckoning_260 {sc : xm_Sc} : xm_bok (xe_cy (XE sc) 30) b_X0_reckoning_260 := by show xm_bok cX0_reckoning _; unfold xm_bok; decide +kernel
def b_X0_reckoning_263 : List (Nat × Jvm.ClassFile.Instr × Nat) := [(263, .invokevirtual 80, 3)]
set_option maxRecDepth 20000 in
theorem k_X0_reckoning_263 {sc : xm_Sc} : xm_bok (xe_cy (XE sc) 30) b_X0_reckoning_263 := by show xm_bok cX0_reckoning _; unfold xm_bok; decide +kernel
def b_X0_reckoning_266 : List (Nat × Jvm.ClassFile.Instr × Nat) := [(266, .aload_n 0, 1), (267, .iconst 3, 1), (268, .iload_n 2, 1), (269, .invokevirtual 83, 3)]
set_option maxRecDepth 20000 in
theorem k_X0_reckoning_266 {sc : xm_Sc} : xm_bok (xe_cy (XE sc) 30) b_X0_reckoning_266 := by show xm_bok cX0_reckoning _; unfold xm_bok; decide +kernel
def b_X0_reckoning_272 : List (Nat × Jvm.ClassFile.Instr × Nat) := [(272, .invokevirtual 86, 3)]
set_option maxRecDepth 20000 in
theorem k_X0_reckoning_272 {sc : xm_Sc} : xm_bok (xe_cy (XE sc) 30) b_X0_reckoning_272 := by show xm_bok cX0_reckoning _; unfold xm_bok; decide +kernel
def b_X0_reckoning_275 : List (Nat × Jvm.ClassFile.Instr × Nat) := [(275, .ireturn, 1)]
set_option maxRecDepth 20000 in
theorem k_X0_reckoning_275 {sc : xm_Sc} : xm_bok (xe_cy (XE sc) 30) b_X0_reckoning_275 := by show xm_bok cX0_reckoning _; unfold xm_bok; decide +kernel
def b_X0_reckoning_276 : List (Nat × Jvm.ClassFile.Instr × Nat) := [(276, .aload_n 0, 1), (277, .iconst 3, 1), (278, .iload_n 2, 1), (279, .invokevirtual 83, 3)]
set_option maxRecDepth 20000 in
theorem k_X0_reckoning_276 {sc : xm_Sc} : xm_bok (xe_cy (XE sc) 30) b_X0_reckoning_276 := by show xm_bok cX0_reckoning _; unfold xm_bok; decide +kernel
def b_X0_reckoning_282 : List (Nat × Jvm.ClassFile.Instr × Nat) := [(282, .ireturn, 1)]
set_option maxRecDepth 20000 in
theorem k_X0_reckoning_282 {sc : xm_Sc} : xm_bok (xe_cy (XE sc) 30) b_X0_reckoning_282 := by show xm_bok cX0_reckoning _; unfold xm_bok; decide +kernel
set_option maxRecDepth 20000 in
theorem cn_30 {sc : xm_Sc} : xe_cn (XE sc) 30 = 0 := rfl
set_option maxRecDepth 20000 in
theorem ml_30 {sc : xm_Sc} : xe_ml (XE sc) 30 = 4 := rfl
set_option maxRecDepth 20000 in
theorem ry_30 {sc : xm_Sc} : xe_ry (XE sc) 30 = (some .int) := rfl
set_option maxRecDepth 20000 in
theorem is_30 {sc : xm_Sc} : xe_is (XE sc) 30 = false := rfl
set_option maxRecDepth 20000 in
theorem np_30 {sc : xm_Sc} : xe_np (XE sc) 30 = 2 := rfl
/- method 31: X0_ripple -/
def b_X0_ripple_0 : List (Nat × Jvm.ClassFile.Instr × Nat) := [(0, .aload_n 0, 1), (1, .aload_n 0, 1), (2, .aload_n 0, 1), (3, .iconst 1, 1), (4, .iconst 4, 1), (5, .iload_n 2, 1), (6, .imul, 1), (7, .invokevirtual 95, 3)]
set_option maxRecDepth 20000 in
theorem k_X0_ripple_0 {sc : xm_Sc} : xm_bok (xe_cy (XE sc) 31) b_X0_ripple_0 := by show xm_bok cX0_ripple _; unfold xm_bok; decide +kernel
def b_X0_ripple_10 : List (Nat × Jvm.ClassFile.Instr × Nat) := [(10, .aload_n 0, 1), (11, .iconst 1, 1), (12, .aload_n 0, 1), (13, .iconst 2, 1), (14, .iload_n 2, 1), (15, .iconst 1, 1), (16, .invokevirtual 148, 3)]
set_option maxRecDepth 20000 in
theorem k_X0_ripple_10 {sc : xm_Sc} : xm_bok (xe_cy (XE sc) 31) b_X0_ripple_10 := by show xm_bok cX0_ripple _; unfold xm_bok; decide +kernel
def b_X0_ripple_19 : List (Nat × Jvm.ClassFile.Instr × Nat) := [(19, .invokevirtual 47, 3)]
set_option maxRecDepth 20000 in
theorem k_X0_ripple_19 {sc : xm_Sc} : xm_bok (xe_cy (XE sc) 31) b_X0_ripple_19 := by show xm_bok cX0_ripple _; unfold xm_bok; decide +kernel
def b_X0_ripple_22 : List (Nat × Jvm.ClassFile.Instr × Nat) := [(22, .invokevirtual 80, 3)]
set_option maxRecDepth 20000 in
theorem k_X0_ripple_22 {sc : xm_Sc} : xm_bok (xe_cy (XE sc) 31) b_X0_ripple_22 := by show xm_bok cX0_ripple _; unfold xm_bok; decide +kernel
def b_X0_ripple_25 : List (Nat × Jvm.ClassFile.Instr × Nat) := [(25, .iload_n 1, 1), (26, .invokevirtual 86, 3)]
set_option maxRecDepth 20000 in
theorem k_X0_ripple_25 {sc : xm_Sc} : xm_bok (xe_cy (XE sc) 31) b_X0_ripple_25 := by show xm_bok cX0_ripple _; unfold xm_bok; decide +kernel
def b_X0_ripple_29 : List (Nat × Jvm.ClassFile.Instr × Nat) := [(29, .istore_n 3, 1), (30, .aload_n 0, 1), (31, .iload_n 3, 1), (32, .aload_n 0, 1), (33, .iconst 1, 1), (34, .aload_n 0, 1), (35, .iconst 2, 1), (36, .iload_n 2, 1), (37, .iconst 0, 1), (38, .invokevirtual 148, 3)]
set_option maxRecDepth 20000 in
theorem k_X0_ripple_29 {sc : xm_Sc} : xm_bok (xe_cy (XE sc) 31) b_X0_ripple_29 := by show xm_bok cX0_ripple _; unfold xm_bok; decide +kernel
def b_X0_ripple_41 : List (Nat × Jvm.ClassFile.Instr × Nat) := [(41, .invokevirtual 47, 3)]
set_option maxRecDepth 20000 in
theorem k_X0_ripple_41 {sc : xm_Sc} : xm_bok (xe_cy (XE sc) 31) b_X0_ripple_41 := by show xm_bok cX0_ripple _; unfold xm_bok; decide +kernel
def b_X0_ripple_44 : List (Nat × Jvm.ClassFile.Instr × Nat) := [(44, .invokevirtual 80, 3)]
set_option maxRecDepth 20000 in
theorem k_X0_ripple_44 {sc : xm_Sc} : xm_bok (xe_cy (XE sc) 31) b_X0_ripple_44 := by show xm_bok cX0_ripple _; unfold xm_bok; decide +kernel
def b_X0_ripple_47 : List (Nat × Jvm.ClassFile.Instr × Nat) := [(47, .istore 4, 2), (49, .aload_n 0, 1), (50, .aload_n 0, 1), (51, .aload_n 0, 1), (52, .aload_n 0, 1), (53, .iconst 1, 1), (54, .iload_n 2, 1), (55, .invokevirtual 95, 3)]
set_option maxRecDepth 20000 in
theorem k_X0_ripple_47 {sc : xm_Sc} : xm_bok (xe_cy (XE sc) 31) b_X0_ripple_47 := by show xm_bok cX0_ripple _; unfold xm_bok; decide +kernel
def b_X0_ripple_58 : List (Nat × Jvm.ClassFile.Instr × Nat) := [(58, .iconst 2, 1), (59, .iload_n 2, 1), (60, .imul, 1), (61, .invokevirtual 101, 3)]
set_option maxRecDepth 20000 in
theorem k_X0_ripple_58 {sc : xm_Sc} : xm_bok (xe_cy (XE sc) 31) b_X0_ripple_58 := by show xm_bok cX0_ripple _; unfold xm_bok; decide +kernel
def b_X0_ripple_64 : List (Nat × Jvm.ClassFile.Instr × Nat) := [(64, .aload_n 0, 1), (65, .iconst 1, 1), (66, .iload_n 2, 1), (67, .iadd, 1), (68, .iconst 2, 1), (69, .iload_n 2, 1), (70, .imul, 1), (71, .invokevirtual 92, 3)]
set_option maxRecDepth 20000 in
theorem k_X0_ripple_64 {sc : xm_Sc} : xm_bok (xe_cy (XE sc) 31) b_X0_ripple_64 := by show xm_bok cX0_ripple _; unfold xm_bok; decide +kernel
def b_X0_ripple_74 : List (Nat × Jvm.ClassFile.Instr × Nat) := [(74, .invokevirtual 80, 3)]
set_option maxRecDepth 20000 in
theorem k_X0_ripple_74 {sc : xm_Sc} : xm_bok (xe_cy (XE sc) 31) b_X0_ripple_74 := by show xm_bok cX0_ripple _; unfold xm_bok; decide +kernel
def b_X0_ripple_77 : List (Nat × Jvm.ClassFile.Instr × Nat) := [(77, .iload_n 1, 1), (78, .invokevirtual 86, 3)]
set_option maxRecDepth 20000 in
theorem k_X0_ripple_77 {sc : xm_Sc} : xm_bok (xe_cy (XE sc) 31) b_X0_ripple_77 := by show xm_bok cX0_ripple _; unfold xm_bok; decide +kernel
def b_X0_ripple_81 : List (Nat × Jvm.ClassFile.Instr × Nat) := [(81, .istore 5, 2), (83, .aload_n 0, 1), (84, .iload 5, 2), (86, .aload_n 0, 1), (87, .aload_n 0, 1), (88, .iconst 1, 1), (89, .iload_n 2, 1), (90, .invokevirtual 92, 3)]
set_option maxRecDepth 20000 in
theorem k_X0_ripple_81 {sc : xm_Sc} : xm_bok (xe_cy (XE sc) 31) b_X0_ripple_81 := by show xm_bok cX0_ripple _; unfold xm_bok; decide +kernel
def b_X0_ripple_93 : List (Nat × Jvm.ClassFile.Instr × Nat) := [(93, .iconst 2, 1), (94, .iload_n 2, 1), (95, .imul, 1), (96, .invokevirtual 101, 3)]
set_option maxRecDepth 20000 in
theorem k_X0_ripple_93 {sc : xm_Sc} : xm_bok (xe_cy (XE sc) 31) b_X0_ripple_93 := by show xm_bok cX0_ripple _; unfold xm_bok; decide +kernel
def b_X0_ripple_99 : List (Nat × Jvm.ClassFile.Instr × Nat) := [(99, .invokevirtual 80, 3)]
set_option maxRecDepth 20000 in
theorem k_X0_ripple_99 {sc : xm_Sc} : xm_bok (xe_cy (XE sc) 31) b_X0_ripple_99 := by show xm_bok cX0_ripple _; unfold xm_bok; decide +kernel
def b_X0_ripple_102 : List (Nat × Jvm.ClassFile.Instr × Nat) := [(102, .istore 6, 2), (104, .aload_n 0, 1), (105, .aload_n 0, 1), (106, .aload_n 0, 1), (107, .iconst 1, 1), (108, .iload_n 2, 1), (109, .invokevirtual 95, 3)]
set_option maxRecDepth 20000 in
theorem k_X0_ripple_102 {sc : xm_Sc} : xm_bok (xe_cy (XE sc) 31) b_X0_ripple_102 := by show xm_bok cX0_ripple _; unfold xm_bok; decide +kernel
def b_X0_ripple_112 : List (Nat × Jvm.ClassFile.Instr × Nat) := [(112, .iload_n 2, 1), (113, .invokevirtual 101, 3)]
set_option maxRecDepth 20000 in
theorem k_X0_ripple_112 {sc : xm_Sc} : xm_bok (xe_cy (XE sc) 31) b_X0_ripple_112 := by show xm_bok cX0_ripple _; unfold xm_bok; decide +kernel
def b_X0_ripple_116 : List (Nat × Jvm.ClassFile.Instr × Nat) := [(116, .aload_n 0, 1), (117, .aload_n 0, 1), (118, .aload_n 0, 1), (119, .iconst 1, 1), (120, .iload_n 2, 1), (121, .invokevirtual 92, 3)]
set_option maxRecDepth 20000 in
theorem k_X0_ripple_116 {sc : xm_Sc} : xm_bok (xe_cy (XE sc) 31) b_X0_ripple_116 := by show xm_bok cX0_ripple _; unfold xm_bok; decide +kernel
def b_X0_ripple_124 : List (Nat × Jvm.ClassFile.Instr × Nat) := [(124, .iload_n 2, 1), (125, .invokevirtual 101, 3)]
set_option maxRecDepth 20000 in
theorem k_X0_ripple_124 {sc : xm_Sc} : xm_bok (xe_cy (XE sc) 31) b_X0_ripple_124 := by show xm_bok cX0_ripple _; unfold xm_bok; decide +kernel
def b_X0_ripple_128 : List (Nat × Jvm.ClassFile.Instr × Nat) := [(128, .aload_n 0, 1), (129, .iconst 1, 1), (130, .iload_n 2, 1), (131, .iadd, 1), (132, .iload_n 2, 1), (133, .invokevirtual 92, 3)]
set_option maxRecDepth 20000 in
theorem k_X0_ripple_128 {sc : xm_Sc} : xm_bok (xe_cy (XE sc) 31) b_X0_ripple_128 := by show xm_bok cX0_ripple _; unfold xm_bok; decide +kernel
def b_X0_ripple_136 : List (Nat × Jvm.ClassFile.Instr × Nat) := [(136, .invokevirtual 80, 3)]
set_option maxRecDepth 20000 in
theorem k_X0_ripple_136 {sc : xm_Sc} : xm_bok (xe_cy (XE sc) 31) b_X0_ripple_136 := by show xm_bok cX0_ripple _; unfold xm_bok; decide +kernel
def b_X0_ripple_139 : List (Nat × Jvm.ClassFile.Instr × Nat) := [(139, .invokevirtual 80, 3)]
set_option maxRecDepth 20000 in
theorem k_X0_ripple_139 {sc : xm_Sc} : xm_bok (xe_cy (XE sc) 31) b_X0_ripple_139 := by show xm_bok cX0_ripple _; unfold xm_bok; decide +kernel
def b_X0_ripple_142 : List (Nat × Jvm.ClassFile.Instr × Nat) := [(142, .istore 7, 2), (144, .aload_n 0, 1), (145, .iload 4, 2), (147, .aload_n 0, 1), (148, .iload 6, 2), (150, .iload 7, 2), (152, .invokevirtual 86, 3)]
set_option maxRecDepth 20000 in
theorem k_X0_ripple_142 {sc : xm_Sc} : xm_bok (xe_cy (XE sc) 31) b_X0_ripple_142 := by show xm_bok cX0_ripple _; unfold xm_bok; decide +kernel
def b_X0_ripple_155 : List (Nat × Jvm.ClassFile.Instr × Nat) := [(155, .invokevirtual 86, 3)]
set_option maxRecDepth 20000 in
theorem k_X0_ripple_155 {sc : xm_Sc} : xm_bok (xe_cy (XE sc) 31) b_X0_ripple_155 := by show xm_bok cX0_ripple _; unfold xm_bok; decide +kernel
def b_X0_ripple_158 : List (Nat × Jvm.ClassFile.Instr × Nat) := [(158, .ireturn, 1)]
set_option maxRecDepth 20000 in
theorem k_X0_ripple_158 {sc : xm_Sc} : xm_bok (xe_cy (XE sc) 31) b_X0_ripple_158 := by show xm_bok cX0_ripple _; unfold xm_bok; decide +kernel
set_option maxRecDepth 20000 in
theorem cn_31 {sc : xm_Sc} : xe_cn (XE sc) 31 = 0 := rfl
set_option maxRecDepth 20000 in
theorem ml_31 {sc : xm_Sc} : xe_ml (XE sc) 31 = 8 := rfl
set_option maxRecDepth 20000 in
theorem ry_31 {sc : xm_Sc} : xe_ry (XE sc) 31 = (some .int) := rfl
set_option maxRecDepth 20000 in
theorem is_31 {sc : xm_Sc} : xe_is (XE sc) 31 = false := rfl
set_option maxRecDepth 20000 in
theorem np_31 {sc : xm_Sc} : xe_np (XE sc) 31 = 2 := rfl
/- method 32: X0_second -/
def b_X0_second_0 : List (Nat × Jvm.ClassFile.Instr × Nat) := [(0, .aload_n 0, 1), (1, .bipush 7, 2), (3, .iconst (-1), 1), (4, .iconst (-1), 1), (5, .iload_n 2, 1), (6, .iload_n 1, 1), (7, .iload_n 1, 1), (8, .iload_n 2, 1), (9, .iadd, 1), (10, .iload_n 2, 1), (11, .invokevirtual 43, 3)]
set_option maxRecDepth 20000 in
theorem k_X0_second_0 {sc : xm_Sc} : xm_bok (xe_cy (XE sc) 32) b_X0_second_0 := by show xm_bok cX0_second _; unfold xm_bok; decide +kernel
def b_X0_second_14 : List (Nat × Jvm.ClassFile.Instr × Nat) := [(14, .ireturn, 1)]
set_option maxRecDepth 20000 in
theorem k_X0_second_14 {sc : xm_Sc} : xm_bok (xe_cy (XE sc) 32) b_X0_second_14 := by show xm_bok cX0_second _; unfold xm_bok; decide +kernel
set_option maxRecDepth 20000 in
theorem cn_32 {sc : xm_Sc} : xe_cn (XE sc) 32 = 0 := rfl
set_option maxRecDepth 20000 in
theorem ml_32 {sc : xm_Sc} : xe_ml (XE sc) 32 = 3 := rfl
set_option maxRecDepth 20000 in
theorem ry_32 {sc : xm_Sc} : xe_ry (XE sc) 32 = (some .int) := rfl
set_option maxRecDepth 20000 in
theorem is_32 {sc : xm_Sc} : xe_is (XE sc) 32 = false := rfl
set_option maxRecDepth 20000 in
theorem np_32 {sc : xm_Sc} : xe_np (XE sc) 32 = 2 := rfl
/- method 33: X0_take -/
def b_X0_take_0 : List (Nat × Jvm.ClassFile.Instr × Nat) := [(0, .aload_n 0, 1), (1, .aload_n 0, 1), (2, .getfield 11, 3), (5, .iload_n 1, 1), (6, .iaload, 1), (7, .aload_n 0, 1), (8, .getfield 15, 3), (11, .iload_n 1, 1), (12, .iaload, 1), (13, .aload_n 0, 1), (14, .getfield 18, 3), (17, .iload_n 1, 1), (18, .iaload, 1), (19, .aload_n 0, 1), (20, .getfield 21, 3), (23, .iload_n 1, 1), (24, .iaload, 1), (25, .aload_n 0, 1), (26, .getfield 24, 3), (29, .iload_n 1, 1), (30, .iaload, 1), (31, .aload_n 0, 1), (32, .getfield 30, 3), (35, .iload_n 1, 1), (36, .iaload, 1), (37, .iload_n 2, 1), (38, .iadd, 1), (39, .aload_n 0, 1), (40, .getfield 33, 3), (43, .iload_n 1, 1), (44, .iaload, 1), (45, .invokevirtual 43, 3)]
set_option maxRecDepth 20000 in
theorem k_X0_take_0 {sc : xm_Sc} : xm_bok (xe_cy (XE sc) 33) b_X0_take_0 := by show xm_bok cX0_take _; unfold xm_bok; decide +kernel
def b_X0_take_48 : List (Nat × Jvm.ClassFile.Instr × Nat) := [(48, .ireturn, 1)]
set_option maxRecDepth 20000 in
theorem k_X0_take_48 {sc : xm_Sc} : xm_bok (xe_cy (XE sc) 33) b_X0_take_48 := by show xm_bok cX0_take _; unfold xm_bok; decide +kernel
set_option maxRecDepth 20000 in
theorem cn_33 {sc : xm_Sc} : xe_cn (XE sc) 33 = 0 := rfl
set_option maxRecDepth 20000 in
theorem ml_33 {sc : xm_Sc} : xe_ml (XE sc) 33 = 3 := rfl
set_option maxRecDepth 20000 in
theorem ry_33 {sc : xm_Sc} : xe_ry (XE sc) 33 = (some .int) := rfl
set_option maxRecDepth 20000 in
theorem is_33 {sc : xm_Sc} : xe_is (XE sc) 33 = false := rfl
set_option maxRecDepth 20000 in
theorem np_33 {sc : xm_Sc} : xe_np (XE sc) 33 = 2 := rfl
/- method 34: X0_testing -/
def b_X0_testing_0 : List (Nat × Jvm.ClassFile.Instr × Nat) := [(0, .iconst 1, 1), (1, .iload_n 2, 1), (2, .ishl, 1), (3, .istore_n 3, 1), (4, .iload_n 1, 1), (5, .tableswitch 220 19 30 #[63, 81, 142, 149, 156, 164, 172, 180, 188, 196, 204, 212], 63)]
set_option maxRecDepth 20000 in
theorem k_X0_testing_0 {sc : xm_Sc} : xm_bok (xe_cy (XE sc) 34) b_X0_testing_0 := by show xm_bok cX0_testing _; unfold xm_bok; decide +kernel
def b_X0_testing_68 : List (Nat × Jvm.ClassFile.Instr × Nat) := [(68, .aload_n 0, 1), (69, .aload_n 0, 1), (70, .iconst 4, 1), (71, .iload_n 2, 1), (72, .invokevirtual 83, 3)]
set_option maxRecDepth 20000 in
theorem k_X0_testing_68 {sc : xm_Sc} : xm_bok (xe_cy (XE sc) 34) b_X0_testing_68 := by show xm_bok cX0_testing _; unfold xm_bok; decide +kernel
def b_X0_testing_75 : List (Nat × Jvm.ClassFile.Instr × Nat) := [(75, .aload_n 0, 1), (76, .bipush 6, 2), (78, .iconst 0, 1), (79, .invokevirtual 83, 3)]
set_option maxRecDepth 20000 in
theorem k_X0_testing_75 {sc : xm_Sc} : xm_bok (xe_cy (XE sc) 34) b_X0_testing_75 := by show xm_bok cX0_testing _; unfold xm_bok; decide +kernel
def b_X0_testing_82 : List (Nat × Jvm.ClassFile.Instr × Nat) := [(82, .invokevirtual 86, 3)]
set_option maxRecDepth 20000 in
theorem k_X0_testing_82 {sc : xm_Sc} : xm_bok (xe_cy (XE sc) 34) b_X0_testing_82 := by show xm_bok cX0_testing _; unfold xm_bok; decide +kernel
def b_X0_testing_85 : List (Nat × Jvm.ClassFile.Instr × Nat) := [(85, .ireturn, 1)]
set_option maxRecDepth 20000 in
theorem k_X0_testing_85 {sc : xm_Sc} : xm_bok (xe_cy (XE sc) 34) b_X0_testing_85 := by show xm_bok cX0_testing _; unfold xm_bok; decide +kernel
def b_X0_testing_86 : List (Nat × Jvm.ClassFile.Instr × Nat) := [(86, .aload_n 0, 1), (87, .iconst 1, 1), (88, .iload_n 3, 1), (89, .invokevirtual 73, 3)]
set_option maxRecDepth 20000 in
theorem k_X0_testing_86 {sc : xm_Sc} : xm_bok (xe_cy (XE sc) 34) b_X0_testing_86 := by show xm_bok cX0_testing _; unfold xm_bok; decide +kernel
def b_X0_testing_92 : List (Nat × Jvm.ClassFile.Instr × Nat) := [(92, .istore 4, 2), (94, .iconst 0, 1), (95, .istore 5, 2)]
set_option maxRecDepth 20000 in
theorem k_X0_testing_92 {sc : xm_Sc} : xm_bok (xe_cy (XE sc) 34) b_X0_testing_92 := by show xm_bok cX0_testing _; unfold xm_bok; decide +kernel
def b_X0_testing_97 : List (Nat × Jvm.ClassFile.Instr × Nat) := [(97, .iload 5, 2), (99, .iload_n 2, 1), (100, .if_icmp .ge 24, 3)]
set_option maxRecDepth 20000 in
theorem k_X0_testing_97 {sc : xm_Sc} : xm_bok (xe_cy (XE sc) 34) b_X0_testing_97 := by show xm_bok cX0_testing _; unfold xm_bok; decide +kernel
def b_X0_testing_103 : List (Nat × Jvm.ClassFile.Instr × Nat) := [(103, .aload_n 0, 1), (104, .aload_n 0, 1), (105, .iload 5, 2), (107, .iload_n 3, 1), (108, .invokevirtual 89, 3)]
set_option maxRecDepth 20000 in
theorem k_X0_testing_103 {sc : xm_Sc} : xm_bok (xe_cy (XE sc) 34) b_X0_testing_103 := by show xm_bok cX0_testing _; unfold xm_bok; decide +kernel
def b_X0_testing_111 : List (Nat × Jvm.ClassFile.Instr × Nat) := [(111, .iload 4, 2), (113, .invokevirtual 80, 3)]
set_option maxRecDepth 20000 in
theorem k_X0_testing_111 {sc : xm_Sc} : xm_bok (xe_cy (XE sc) 34) b_X0_testing_111 := by show xm_bok cX0_testing _; unfold xm_bok; decide +kernel
def b_X0_testing_116 : List (Nat × Jvm.ClassFile.Instr × Nat) := [(116, .istore 4, 2), (118, .iinc 5 1, 3), (121, .goto (-24), 3)]
set_option maxRecDepth 20000 in
theorem k_X0_testing_116 {sc : xm_Sc} : xm_bok (xe_cy (XE sc) 34) b_X0_testing_116 := by show xm_bok cX0_testing _; unfold xm_bok; decide +kernel
def b_X0_testing_124 : List (Nat × Jvm.ClassFile.Instr × Nat) := [(124, .aload_n 0, 1), (125, .aload_n 0, 1), (126, .aload_n 0, 1), (127, .iload_n 3, 1), (128, .invokevirtual 76, 3)]
set_option maxRecDepth 20000 in
theorem k_X0_testing_124 {sc : xm_Sc} : xm_bok (xe_cy (XE sc) 34) b_X0_testing_124 := by show xm_bok cX0_testing _; unfold xm_bok; decide +kernel
def b_X0_testing_131 : List (Nat × Jvm.ClassFile.Instr × Nat) := [(131, .iload 4, 2), (133, .invokevirtual 80, 3)]
set_option maxRecDepth 20000 in
theorem k_X0_testing_131 {sc : xm_Sc} : xm_bok (xe_cy (XE sc) 34) b_X0_testing_131 := by show xm_bok cX0_testing _; unfold xm_bok; decide +kernel
def b_X0_testing_136 : List (Nat × Jvm.ClassFile.Instr × Nat) := [(136, .aload_n 0, 1), (137, .bipush 23, 2), (139, .iload_n 2, 1), (140, .invokevirtual 83, 3)]
set_option maxRecDepth 20000 in
theorem k_X0_testing_136 {sc : xm_Sc} : xm_bok (xe_cy (XE sc) 34) b_X0_testing_136 := by show xm_bok cX0_testing _; unfold xm_bok; decide +kernel
def b_X0_testing_143 : List (Nat × Jvm.ClassFile.Instr × Nat) := [(143, .invokevirtual 86, 3)]
set_option maxRecDepth 20000 in
theorem k_X0_testing_143 {sc : xm_Sc} : xm_bok (xe_cy (XE sc) 34) b_X0_testing_143 := by show xm_bok cX0_testing _; unfold xm_bok; decide +kernel
def b_X0_testing_146 : List (Nat × Jvm.ClassFile.Instr × Nat) := [(146, .ireturn, 1)]
set_option maxRecDepth 20000 in
theorem k_X0_testing_146 {sc : xm_Sc} : xm_bok (xe_cy (XE sc) 34) b_X0_testing_146 := by show xm_bok cX0_testing _; unfold xm_bok; decide +kernel
def b_X0_testing_147 : List (Nat × Jvm.ClassFile.Instr × Nat) := [(147, .aload_n 0, 1), (148, .iconst 5, 1), (149, .iload_n 2, 1), (150, .invokevirtual 83, 3)]
set_option maxRecDepth 20000 in
theorem k_X0_testing_147 {sc : xm_Sc} : xm_bok (xe_cy (XE sc) 34) b_X0_testing_147 := by show xm_bok cX0_testing _; unfold xm_bok; decide +kernel
def b_X0_testing_153 : List (Nat × Jvm.ClassFile.Instr × Nat) := [(153, .ireturn, 1)]
set_option maxRecDepth 20000 in
theorem k_X0_testing_153 {sc : xm_Sc} : xm_bok (xe_cy (XE sc) 34) b_X0_testing_153 := by show xm_bok cX0_testing _; unfold xm_bok; decide +kernel
def b_X0_testing_154 : List (Nat × Jvm.ClassFile.Instr × Nat) := [(154, .aload_n 0, 1), (155, .iconst 4, 1), (156, .iload_n 2, 1), (157, .invokevirtual 83, 3)]
set_option maxRecDepth 20000 in
theorem k_X0_testing_154 {sc : xm_Sc} : xm_bok (xe_cy (XE sc) 34) b_X0_testing_154 := by show xm_bok cX0_testing _; unfold xm_bok; decide +kernel
def b_X0_testing_160 : List (Nat × Jvm.ClassFile.Instr × Nat) := [(160, .ireturn, 1)]
set_option maxRecDepth 20000 in
theorem k_X0_testing_160 {sc : xm_Sc} : xm_bok (xe_cy (XE sc) 34) b_X0_testing_160 := by show xm_bok cX0_testing _; unfold xm_bok; decide +kernel
def b_X0_testing_161 : List (Nat × Jvm.ClassFile.Instr × Nat) := [(161, .aload_n 0, 1), (162, .bipush 6, 2), (164, .iload_n 2, 1), (165, .invokevirtual 83, 3)]
set_option maxRecDepth 20000 in
theorem k_X0_testing_161 {sc : xm_Sc} : xm_bok (xe_cy (XE sc) 34) b_X0_testing_161 := by show xm_bok cX0_testing _; unfold xm_bok; decide +kernel
def b_X0_testing_168 : List (Nat × Jvm.ClassFile.Instr × Nat) := [(168, .ireturn, 1)]
set_option maxRecDepth 20000 in
theorem k_X0_testing_168 {sc : xm_Sc} : xm_bok (xe_cy (XE sc) 34) b_X0_testing_168 := by show xm_bok cX0_testing _; unfold xm_bok; decide +kernel
def b_X0_testing_169 : List (Nat × Jvm.ClassFile.Instr × Nat) := [(169, .aload_n 0, 1), (170, .bipush 7, 2), (172, .iload_n 2, 1), (173, .invokevirtual 83, 3)]
set_option maxRecDepth 20000 in
theorem k_X0_testing_169 {sc : xm_Sc} : xm_bok (xe_cy (XE sc) 34) b_X0_testing_169 := by show xm_bok cX0_testing _; unfold xm_bok; decide +kernel
def b_X0_testing_176 : List (Nat × Jvm.ClassFile.Instr × Nat) := [(176, .ireturn, 1)]
set_option maxRecDepth 20000 in
theorem k_X0_testing_176 {sc : xm_Sc} : xm_bok (xe_cy (XE sc) 34) b_X0_testing_176 := by show xm_bok cX0_testing _; unfold xm_bok; decide +kernel
def b_X0_testing_177 : List (Nat × Jvm.ClassFile.Instr × Nat) := [(177, .aload_n 0, 1), (178, .bipush 8, 2), (180, .iload_n 2, 1), (181, .invokevirtual 83, 3)]
set_option maxRecDepth 20000 in
theorem k_X0_testing_177 {sc : xm_Sc} : xm_bok (xe_cy (XE sc) 34) b_X0_testing_177 := by show xm_bok cX0_testing _; unfold xm_bok; decide +kernel
def b_X0_testing_184 : List (Nat × Jvm.ClassFile.Instr × Nat) := [(184, .ireturn, 1)]
set_option maxRecDepth 20000 in
theorem k_X0_testing_184 {sc : xm_Sc} : xm_bok (xe_cy (XE sc) 34) b_X0_testing_184 := by show xm_bok cX0_testing _; unfold xm_bok; decide +kernel
def b_X0_testing_185 : List (Nat × Jvm.ClassFile.Instr × Nat) := [(185, .aload_n 0, 1), (186, .bipush 9, 2), (188, .iload_n 2, 1), (189, .invokevirtual 83, 3)]
set_option maxRecDepth 20000 in
theorem k_X0_testing_185 {sc : xm_Sc} : xm_bok (xe_cy (XE sc) 34) b_X0_testing_185 := by show xm_bok cX0_testing _; unfold xm_bok; decide +kernel
def b_X0_testing_192 : List (Nat × Jvm.ClassFile.Instr × Nat) := [(192, .ireturn, 1)]
set_option maxRecDepth 20000 in
theorem k_X0_testing_192 {sc : xm_Sc} : xm_bok (xe_cy (XE sc) 34) b_X0_testing_192 := by show xm_bok cX0_testing _; unfold xm_bok; decide +kernel
def b_X0_testing_193 : List (Nat × Jvm.ClassFile.Instr × Nat) := [(193, .aload_n 0, 1), (194, .bipush 10, 2), (196, .iload_n 2, 1), (197, .invokevirtual 83, 3)]
set_option maxRecDepth 20000 in
theorem k_X0_testing_193 {sc : xm_Sc} : xm_bok (xe_cy (XE sc) 34) b_X0_testing_193 := by show xm_bok cX0_testing _; unfold xm_bok; decide +kernel
def b_X0_testing_200 : List (Nat × Jvm.ClassFile.Instr × Nat) := [(200, .ireturn, 1)]
set_option maxRecDepth 20000 in
theorem k_X0_testing_200 {sc : xm_Sc} : xm_bok (xe_cy (XE sc) 34) b_X0_testing_200 := by show xm_bok cX0_testing _; unfold xm_bok; decide +kernel
def b_X0_testing_201 : List (Nat × Jvm.ClassFile.Instr × Nat) := [(201, .aload_n 0, 1), (202, .bipush 11, 2), (204, .iload_n 2, 1), (205, .invokevirtual 83, 3)]
set_option maxRecDepth 20000 in
theorem k_X0_testing_201 {sc : xm_Sc} : xm_bok (xe_cy (XE sc) 34) b_X0_testing_201 := by show xm_bok cX0_testing _; unfold xm_bok; decide +kernel
def b_X0_testing_208 : List (Nat × Jvm.ClassFile.Instr × Nat) := [(208, .ireturn, 1)]
set_option maxRecDepth 20000 in
theorem k_X0_testing_208 {sc : xm_Sc} : xm_bok (xe_cy (XE sc) 34) b_X0_testing_208 := by show xm_bok cX0_testing _; unfold xm_bok; decide +kernel
def b_X0_testing_209 : List (Nat × Jvm.ClassFile.Instr × Nat) := [(209, .aload_n 0, 1), (210, .bipush 12, 2), (212, .iload_n 2, 1), (213, .invokevirtual 83, 3)]
set_option maxRecDepth 20000 in
theorem k_X0_testing_209 {sc : xm_Sc} : xm_bok (xe_cy (XE sc) 34) b_X0_testing_209 := by show xm_bok cX0_testing _; unfold xm_bok; decide +kernel
def b_X0_testing_216 : List (Nat × Jvm.ClassFile.Instr × Nat) := [(216, .ireturn, 1)]
set_option maxRecDepth 20000 in
theorem k_X0_testing_216 {sc : xm_Sc} : xm_bok (xe_cy (XE sc) 34) b_X0_testing_216 := by show xm_bok cX0_testing _; unfold xm_bok; decide +kernel
def b_X0_testing_217 : List (Nat × Jvm.ClassFile.Instr × Nat) := [(217, .aload_n 0, 1), (218, .bipush 13, 2), (220, .iload_n 2, 1), (221, .invokevirtual 83, 3)]
set_option maxRecDepth 20000 in
theorem k_X0_testing_217 {sc : xm_Sc} : xm_bok (xe_cy (XE sc) 34) b_X0_testing_217 := by show xm_bok cX0_testing _; unfold xm_bok; decide +kernel
def b_X0_testing_224 : List (Nat × Jvm.ClassFile.Instr × Nat) := [(224, .ireturn, 1)]
set_option maxRecDepth 20000 in
theorem k_X0_testing_224 {sc : xm_Sc} : xm_bok (xe_cy (XE sc) 34) b_X0_testing_224 := by show xm_bok cX0_testing _; unfold xm_bok; decide +kernel
def b_X0_testing_225 : List (Nat × Jvm.ClassFile.Instr × Nat) := [(225, .aload_n 0, 1), (226, .bipush 14, 2), (228, .iload_n 2, 1), (229, .invokevirtual 83, 3)]
set_option maxRecDepth 20000 in
theorem k_X0_testing_225 {sc : xm_Sc} : xm_bok (xe_cy (XE sc) 34) b_X0_testing_225 := by show xm_bok cX0_testing _; unfold xm_bok; decide +kernel
def b_X0_testing_232 : List (Nat × Jvm.ClassFile.Instr × Nat) := [(232, .ireturn, 1)]
set_option maxRecDepth 20000 in
theorem k_X0_testing_232 {sc : xm_Sc} : xm_bok (xe_cy (XE sc) 34) b_X0_testing_232 := by show xm_bok cX0_testing _; unfold xm_bok; decide +kernel
set_option maxRecDepth 20000 in
theorem cn_34 {sc : xm_Sc} : xe_cn (XE sc) 34 = 0 := rfl
set_option maxRecDepth 20000 in
theorem ml_34 {sc : xm_Sc} : xe_ml (XE sc) 34 = 6 := rfl
set_option maxRecDepth 20000 in
theorem ry_34 {sc : xm_Sc} : xe_ry (XE sc) 34 = (some .int) := rfl
set_option maxRecDepth 20000 in
theorem is_34 {sc : xm_Sc} : xe_is (XE sc) 34 = false := rfl
set_option maxRecDepth 20000 in
theorem np_34 {sc : xm_Sc} : xe_np (XE sc) 34 = 2 := rfl
/- method 35: X0_unit -/
def b_X0_unit_0 : List (Nat × Jvm.ClassFile.Instr × Nat) := [(0, .aload_n 0, 1), (1, .bipush 8, 2), (3, .iconst (-1), 1), (4, .iconst (-1), 1), (5, .iconst 0, 1), (6, .iconst 0, 1), (7, .iload_n 1, 1), (8, .iconst 0, 1), (9, .invokevirtual 43, 3)]
set_option maxRecDepth 20000 in
theorem k_X0_unit_0 {sc : xm_Sc} : xm_bok (xe_cy (XE sc) 35) b_X0_unit_0 := by show xm_bok cX0_unit _; unfold xm_bok; decide +kernel
def b_X0_unit_12 : List (Nat × Jvm.ClassFile.Instr × Nat) := [(12, .ireturn, 1)]
set_option maxRecDepth 20000 in
theorem k_X0_unit_12 {sc : xm_Sc} : xm_bok (xe_cy (XE sc) 35) b_X0_unit_12 := by show xm_bok cX0_unit _; unfold xm_bok; decide +kernel
set_option maxRecDepth 20000 in
theorem cn_35 {sc : xm_Sc} : xe_cn (XE sc) 35 = 0 := rfl
set_option maxRecDepth 20000 in
theorem ml_35 {sc : xm_Sc} : xe_ml (XE sc) 35 = 2 := rfl
set_option maxRecDepth 20000 in
theorem ry_35 {sc : xm_Sc} : xe_ry (XE sc) 35 = (some .int) := rfl
set_option maxRecDepth 20000 in
theorem is_35 {sc : xm_Sc} : xe_is (XE sc) 35 = false := rfl
set_option maxRecDepth 20000 in
theorem np_35 {sc : xm_Sc} : xe_np (XE sc) 35 = 1 := rfl
/- method 36: X0_widened -/
def b_X0_widened_0 : List (Nat × Jvm.ClassFile.Instr × Nat) := [(0, .aload_n 0, 1), (1, .getfield 30, 3), (4, .iload_n 1, 1), (5, .iaload, 1), (6, .iload_n 2, 1), (7, .if_icmp .ne 7, 3)]
set_option maxRecDepth 20000 in
theorem k_X0_widened_0 {sc : xm_Sc} : xm_bok (xe_cy (XE sc) 36) b_X0_widened_0 := by show xm_bok cX0_widened _; unfold xm_bok; decide +kernel
def b_X0_widened_10 : List (Nat × Jvm.ClassFile.Instr × Nat) := [(10, .iload_n 1, 1), (11, .goto 44, 3)]
set_option maxRecDepth 20000 in
theorem k_X0_widened_10 {sc : xm_Sc} : xm_bok (xe_cy (XE sc) 36) b_X0_widened_10 := by show xm_bok cX0_widened _; unfold xm_bok; decide +kernel
def b_X0_widened_14 : List (Nat × Jvm.ClassFile.Instr × Nat) := [(14, .aload_n 0, 1), (15, .aload_n 0, 1), (16, .getfield 11, 3), (19, .iload_n 1, 1), (20, .iaload, 1), (21, .aload_n 0, 1), (22, .getfield 15, 3), (25, .iload_n 1, 1), (26, .iaload, 1), (27, .aload_n 0, 1), (28, .getfield 18, 3), (31, .iload_n 1, 1), (32, .iaload, 1), (33, .aload_n 0, 1), (34, .getfield 21, 3), (37, .iload_n 1, 1), (38, .iaload, 1), (39, .aload_n 0, 1), (40, .getfield 24, 3), (43, .iload_n 1, 1), (44, .iaload, 1), (45, .iload_n 2, 1), (46, .aload_n 0, 1), (47, .getfield 33, 3), (50, .iload_n 1, 1), (51, .iaload, 1), (52, .invokevirtual 43, 3)]
set_option maxRecDepth 20000 in
theorem k_X0_widened_14 {sc : xm_Sc} : xm_bok (xe_cy (XE sc) 36) b_X0_widened_14 := by show xm_bok cX0_widened _; unfold xm_bok; decide +kernel
def b_X0_widened_55 : List (Nat × Jvm.ClassFile.Instr × Nat) := [(55, .ireturn, 1)]
set_option maxRecDepth 20000 in
theorem k_X0_widened_55 {sc : xm_Sc} : xm_bok (xe_cy (XE sc) 36) b_X0_widened_55 := by show xm_bok cX0_widened _; unfold xm_bok; decide +kernel
set_option maxRecDepth 20000 in
theorem cn_36 {sc : xm_Sc} : xe_cn (XE sc) 36 = 0 := rfl
set_option maxRecDepth 20000 in
theorem ml_36 {sc : xm_Sc} : xe_ml (XE sc) 36 = 3 := rfl
set_option maxRecDepth 20000 in
theorem ry_36 {sc : xm_Sc} : xe_ry (XE sc) 36 = (some .int) := rfl
set_option maxRecDepth 20000 in
theorem is_36 {sc : xm_Sc} : xe_is (XE sc) 36 = false := rfl
set_option maxRecDepth 20000 in
theorem np_36 {sc : xm_Sc} : xe_np (XE sc) 36 = 2 := rfl
/- method 37: X0_window -/
def b_X0_window_0 : List (Nat × Jvm.ClassFile.Instr × Nat) := [(0, .aload_n 0, 1), (1, .iconst 1, 1), (2, .iload_n 2, 1), (3, .ishl, 1), (4, .invokevirtual 133, 3)]
set_option maxRecDepth 20000 in
theorem k_X0_window_0 {sc : xm_Sc} : xm_bok (xe_cy (XE sc) 37) b_X0_window_0 := by show xm_bok cX0_window _; unfold xm_bok; decide +kernel
def b_X0_window_7 : List (Nat × Jvm.ClassFile.Instr × Nat) := [(7, .istore 4, 2), (9, .iload_n 2, 1), (10, .iconst 1, 1), (11, .iadd, 1), (12, .istore 5, 2)]
set_option maxRecDepth 20000 in
theorem k_X0_window_7 {sc : xm_Sc} : xm_bok (xe_cy (XE sc) 37) b_X0_window_7 := by show xm_bok cX0_window _; unfold xm_bok; decide +kernel
def b_X0_window_14 : List (Nat × Jvm.ClassFile.Instr × Nat) := [(14, .iload 5, 2), (16, .iload_n 1, 1), (17, .if_icmp .ge 70, 3)]
set_option maxRecDepth 20000 in
theorem k_X0_window_14 {sc : xm_Sc} : xm_bok (xe_cy (XE sc) 37) b_X0_window_14 := by show xm_bok cX0_window _; unfold xm_bok; decide +kernel
def b_X0_window_20 : List (Nat × Jvm.ClassFile.Instr × Nat) := [(20, .iconst 1, 1), (21, .iload 5, 2), (23, .ishl, 1), (24, .istore 6, 2), (26, .aload_n 0, 1), (27, .aload_n 0, 1), (28, .iload 6, 2), (30, .invokevirtual 133, 3)]
set_option maxRecDepth 20000 in
theorem k_X0_window_20 {sc : xm_Sc} : xm_bok (xe_cy (XE sc) 37) b_X0_window_20 := by show xm_bok cX0_window _; unfold xm_bok; decide +kernel
def b_X0_window_33 : List (Nat × Jvm.ClassFile.Instr × Nat) := [(33, .iload 4, 2), (35, .invokevirtual 86, 3)]
set_option maxRecDepth 20000 in
theorem k_X0_window_33 {sc : xm_Sc} : xm_bok (xe_cy (XE sc) 37) b_X0_window_33 := by show xm_bok cX0_window _; unfold xm_bok; decide +kernel
def b_X0_window_38 : List (Nat × Jvm.ClassFile.Instr × Nat) := [(38, .istore 7, 2), (40, .iload_n 3, 1), (41, .ifCond .eq 22, 3)]
set_option maxRecDepth 20000 in
theorem k_X0_window_38 {sc : xm_Sc} : xm_bok (xe_cy (XE sc) 37) b_X0_window_38 := by show xm_bok cX0_window _; unfold xm_bok; decide +kernel
def b_X0_window_44 : List (Nat × Jvm.ClassFile.Instr × Nat) := [(44, .aload_n 0, 1), (45, .iload 7, 2), (47, .aload_n 0, 1), (48, .iconst 2, 1), (49, .iload 6, 2), (51, .imul, 1), (52, .iload 4, 2), (54, .invokevirtual 47, 3)]
set_option maxRecDepth 20000 in
theorem k_X0_window_44 {sc : xm_Sc} : xm_bok (xe_cy (XE sc) 37) b_X0_window_44 := by show xm_bok cX0_window _; unfold xm_bok; decide +kernel
def b_X0_window_57 : List (Nat × Jvm.ClassFile.Instr × Nat) := [(57, .invokevirtual 80, 3)]
set_option maxRecDepth 20000 in
theorem k_X0_window_57 {sc : xm_Sc} : xm_bok (xe_cy (XE sc) 37) b_X0_window_57 := by show xm_bok cX0_window _; unfold xm_bok; decide +kernel
def b_X0_window_60 : List (Nat × Jvm.ClassFile.Instr × Nat) := [(60, .goto 19, 3)]
set_option maxRecDepth 20000 in
theorem k_X0_window_60 {sc : xm_Sc} : xm_bok (xe_cy (XE sc) 37) b_X0_window_60 := by show xm_bok cX0_window _; unfold xm_bok; decide +kernel
def b_X0_window_63 : List (Nat × Jvm.ClassFile.Instr × Nat) := [(63, .aload_n 0, 1), (64, .aload_n 0, 1), (65, .iload 4, 2), (67, .iconst 2, 1), (68, .iload 6, 2), (70, .imul, 1), (71, .invokevirtual 101, 3)]
set_option maxRecDepth 20000 in
theorem k_X0_window_63 {sc : xm_Sc} : xm_bok (xe_cy (XE sc) 37) b_X0_window_63 := by show xm_bok cX0_window _; unfold xm_bok; decide +kernel
def b_X0_window_74 : List (Nat × Jvm.ClassFile.Instr × Nat) := [(74, .iload 7, 2), (76, .invokevirtual 80, 3)]
set_option maxRecDepth 20000 in
theorem k_X0_window_74 {sc : xm_Sc} : xm_bok (xe_cy (XE sc) 37) b_X0_window_74 := by show xm_bok cX0_window _; unfold xm_bok; decide +kernel
def b_X0_window_79 : List (Nat × Jvm.ClassFile.Instr × Nat) := [(79, .istore 4, 2), (81, .iinc 5 1, 3), (84, .goto (-70), 3)]
set_option maxRecDepth 20000 in
theorem k_X0_window_79 {sc : xm_Sc} : xm_bok (xe_cy (XE sc) 37) b_X0_window_79 := by show xm_bok cX0_window _; unfold xm_bok; decide +kernel
def b_X0_window_87 : List (Nat × Jvm.ClassFile.Instr × Nat) := [(87, .iload 4, 2), (89, .ireturn, 1)]
set_option maxRecDepth 20000 in
theorem k_X0_window_87 {sc : xm_Sc} : xm_bok (xe_cy (XE sc) 37) b_X0_window_87 := by show xm_bok cX0_window _; unfold xm_bok; decide +kernel
set_option maxRecDepth 20000 in
theorem cn_37 {sc : xm_Sc} : xe_cn (XE sc) 37 = 0 := rfl
set_option maxRecDepth 20000 in
theorem ml_37 {sc : xm_Sc} : xe_ml (XE sc) 37 = 8 := rfl
set_option maxRecDepth 20000 in
theorem ry_37 {sc : xm_Sc} : xe_ry (XE sc) 37 = (some .int) := rfl
set_option maxRecDepth 20000 in
theorem is_37 {sc : xm_Sc} : xe_is (XE sc) 37 = false := rfl
set_option maxRecDepth 20000 in
theorem np_37 {sc : xm_Sc} : xe_np (XE sc) 37 = 3 := rfl
/- method 38: X0_zeros -/
def b_X0_zeros_0 : List (Nat × Jvm.ClassFile.Instr × Nat) := [(0, .aload_n 0, 1), (1, .aload_n 0, 1), (2, .bipush 13, 2), (4, .iload_n 1, 1), (5, .invokevirtual 83, 3)]
set_option maxRecDepth 20000 in
theorem k_X0_zeros_0 {sc : xm_Sc} : xm_bok (xe_cy (XE sc) 38) b_X0_zeros_0 := by show xm_bok cX0_zeros _; unfold xm_bok; decide +kernel
def b_X0_zeros_8 : List (Nat × Jvm.ClassFile.Instr × Nat) := [(8, .iload_n 2, 1), (9, .invokevirtual 51, 3)]
set_option maxRecDepth 20000 in
theorem k_X0_zeros_8 {sc : xm_Sc} : xm_bok (xe_cy (XE sc) 38) b_X0_zeros_8 := by show xm_bok cX0_zeros _; unfold xm_bok; decide +kernel
def b_X0_zeros_12 : List (Nat × Jvm.ClassFile.Instr × Nat) := [(12, .ireturn, 1)]
set_option maxRecDepth 20000 in
theorem k_X0_zeros_12 {sc : xm_Sc} : xm_bok (xe_cy (XE sc) 38) b_X0_zeros_12 := by show xm_bok cX0_zeros _; unfold xm_bok; decide +kernel
set_option maxRecDepth 20000 in
theorem cn_38 {sc : xm_Sc} : xe_cn (XE sc) 38 = 0 := rfl
set_option maxRecDepth 20000 in
theorem ml_38 {sc : xm_Sc} : xe_ml (XE sc) 38 = 3 := rfl
set_option maxRecDepth 20000 in
theorem ry_38 {sc : xm_Sc} : xe_ry (XE sc) 38 = (some .int) := rfl
set_option maxRecDepth 20000 in
theorem is_38 {sc : xm_Sc} : xe_is (XE sc) 38 = false := rfl
set_option maxRecDepth 20000 in
theorem np_38 {sc : xm_Sc} : xe_np (XE sc) 38 = 2 := rfl
/- method 39: X0_zerosAhead -/
def b_X0_zerosAhead_0 : List (Nat × Jvm.ClassFile.Instr × Nat) := [(0, .aload_n 0, 1), (1, .aload_n 0, 1), (2, .aload_n 0, 1), (3, .iconst 0, 1), (4, .bipush 8, 2), (6, .invokevirtual 73, 3)]
set_option maxRecDepth 20000 in
theorem k_X0_zerosAhead_0 {sc : xm_Sc} : xm_bok (xe_cy (XE sc) 39) b_X0_zerosAhead_0 := by show xm_bok cX0_zerosAhead _; unfold xm_bok; decide +kernel
def b_X0_zerosAhead_9 : List (Nat × Jvm.ClassFile.Instr × Nat) := [(9, .aload_n 0, 1), (10, .aload_n 0, 1), (11, .bipush 8, 2), (13, .invokevirtual 76, 3)]
set_option maxRecDepth 20000 in
theorem k_X0_zerosAhead_9 {sc : xm_Sc} : xm_bok (xe_cy (XE sc) 39) b_X0_zerosAhead_9 := by show xm_bok cX0_zerosAhead _; unfold xm_bok; decide +kernel
def b_X0_zerosAhead_16 : List (Nat × Jvm.ClassFile.Instr × Nat) := [(16, .aload_n 0, 1), (17, .iload_n 3, 1), (18, .bipush 8, 2), (20, .invokevirtual 156, 3)]
set_option maxRecDepth 20000 in
theorem k_X0_zerosAhead_16 {sc : xm_Sc} : xm_bok (xe_cy (XE sc) 39) b_X0_zerosAhead_16 := by show xm_bok cX0_zerosAhead _; unfold xm_bok; decide +kernel
def b_X0_zerosAhead_23 : List (Nat × Jvm.ClassFile.Instr × Nat) := [(23, .invokevirtual 80, 3)]
set_option maxRecDepth 20000 in
theorem k_X0_zerosAhead_23 {sc : xm_Sc} : xm_bok (xe_cy (XE sc) 39) b_X0_zerosAhead_23 := by show xm_bok cX0_zerosAhead _; unfold xm_bok; decide +kernel
def b_X0_zerosAhead_26 : List (Nat × Jvm.ClassFile.Instr × Nat) := [(26, .invokevirtual 80, 3)]
set_option maxRecDepth 20000 in
theorem k_X0_zerosAhead_26 {sc : xm_Sc} : xm_bok (xe_cy (XE sc) 39) b_X0_zerosAhead_26 := by show xm_bok cX0_zerosAhead _; unfold xm_bok; decide +kernel
def b_X0_zerosAhead_29 : List (Nat × Jvm.ClassFile.Instr × Nat) := [(29, .aload_n 0, 1), (30, .invokevirtual 142, 3)]
set_option maxRecDepth 20000 in
theorem k_X0_zerosAhead_29 {sc : xm_Sc} : xm_bok (xe_cy (XE sc) 39) b_X0_zerosAhead_29 := by show xm_bok cX0_zerosAhead _; unfold xm_bok; decide +kernel
def b_X0_zerosAhead_33 : List (Nat × Jvm.ClassFile.Instr × Nat) := [(33, .invokevirtual 86, 3)]
set_option maxRecDepth 20000 in
theorem k_X0_zerosAhead_33 {sc : xm_Sc} : xm_bok (xe_cy (XE sc) 39) b_X0_zerosAhead_33 := by show xm_bok cX0_zerosAhead _; unfold xm_bok; decide +kernel
def b_X0_zerosAhead_36 : List (Nat × Jvm.ClassFile.Instr × Nat) := [(36, .istore 4, 2), (38, .aload_n 0, 1), (39, .aload_n 0, 1), (40, .aload_n 0, 1), (41, .aload_n 0, 1), (42, .iconst 4, 1), (43, .iload_n 2, 1), (44, .iconst 1, 1), (45, .isub, 1), (46, .invokevirtual 83, 3)]
set_option maxRecDepth 20000 in
theorem k_X0_zerosAhead_36 {sc : xm_Sc} : xm_bok (xe_cy (XE sc) 39) b_X0_zerosAhead_36 := by show xm_bok cX0_zerosAhead _; unfold xm_bok; decide +kernel
def b_X0_zerosAhead_49 : List (Nat × Jvm.ClassFile.Instr × Nat) := [(49, .iload_n 3, 1), (50, .invokevirtual 101, 3)]
set_option maxRecDepth 20000 in
theorem k_X0_zerosAhead_49 {sc : xm_Sc} : xm_bok (xe_cy (XE sc) 39) b_X0_zerosAhead_49 := by show xm_bok cX0_zerosAhead _; unfold xm_bok; decide +kernel
def b_X0_zerosAhead_53 : List (Nat × Jvm.ClassFile.Instr × Nat) := [(53, .aload_n 0, 1), (54, .iconst 2, 1), (55, .iload_n 3, 1), (56, .imul, 1), (57, .invokevirtual 76, 3)]
set_option maxRecDepth 20000 in
theorem k_X0_zerosAhead_53 {sc : xm_Sc} : xm_bok (xe_cy (XE sc) 39) b_X0_zerosAhead_53 := by show xm_bok cX0_zerosAhead _; unfold xm_bok; decide +kernel
def b_X0_zerosAhead_60 : List (Nat × Jvm.ClassFile.Instr × Nat) := [(60, .invokevirtual 80, 3)]
set_option maxRecDepth 20000 in
theorem k_X0_zerosAhead_60 {sc : xm_Sc} : xm_bok (xe_cy (XE sc) 39) b_X0_zerosAhead_60 := by show xm_bok cX0_zerosAhead _; unfold xm_bok; decide +kernel
def b_X0_zerosAhead_63 : List (Nat × Jvm.ClassFile.Instr × Nat) := [(63, .aload_n 0, 1), (64, .aload_n 0, 1), (65, .iload_n 3, 1), (66, .aload_n 0, 1), (67, .iload_n 1, 1), (68, .iload 4, 2), (70, .invokevirtual 86, 3)]
set_option maxRecDepth 20000 in
theorem k_X0_zerosAhead_63 {sc : xm_Sc} : xm_bok (xe_cy (XE sc) 39) b_X0_zerosAhead_63 := by show xm_bok cX0_zerosAhead _; unfold xm_bok; decide +kernel
def b_X0_zerosAhead_73 : List (Nat × Jvm.ClassFile.Instr × Nat) := [(73, .invokevirtual 47, 3)]
set_option maxRecDepth 20000 in
theorem k_X0_zerosAhead_73 {sc : xm_Sc} : xm_bok (xe_cy (XE sc) 39) b_X0_zerosAhead_73 := by show xm_bok cX0_zerosAhead _; unfold xm_bok; decide +kernel
def b_X0_zerosAhead_76 : List (Nat × Jvm.ClassFile.Instr × Nat) := [(76, .aload_n 0, 1), (77, .iload_n 1, 1), (78, .iload_n 3, 1), (79, .invokevirtual 101, 3)]
set_option maxRecDepth 20000 in
theorem k_X0_zerosAhead_76 {sc : xm_Sc} : xm_bok (xe_cy (XE sc) 39) b_X0_zerosAhead_76 := by show xm_bok cX0_zerosAhead _; unfold xm_bok; decide +kernel
def b_X0_zerosAhead_82 : List (Nat × Jvm.ClassFile.Instr × Nat) := [(82, .invokevirtual 98, 3)]
set_option maxRecDepth 20000 in
theorem k_X0_zerosAhead_82 {sc : xm_Sc} : xm_bok (xe_cy (XE sc) 39) b_X0_zerosAhead_82 := by show xm_bok cX0_zerosAhead _; unfold xm_bok; decide +kernel
def b_X0_zerosAhead_85 : List (Nat × Jvm.ClassFile.Instr × Nat) := [(85, .invokevirtual 86, 3)]
set_option maxRecDepth 20000 in
theorem k_X0_zerosAhead_85 {sc : xm_Sc} : xm_bok (xe_cy (XE sc) 39) b_X0_zerosAhead_85 := by show xm_bok cX0_zerosAhead _; unfold xm_bok; decide +kernel
def b_X0_zerosAhead_88 : List (Nat × Jvm.ClassFile.Instr × Nat) := [(88, .ireturn, 1)]
set_option maxRecDepth 20000 in
theorem k_X0_zerosAhead_88 {sc : xm_Sc} : xm_bok (xe_cy (XE sc) 39) b_X0_zerosAhead_88 := by show xm_bok cX0_zerosAhead _; unfold xm_bok; decide +kernel
set_option maxRecDepth 20000 in
theorem cn_39 {sc : xm_Sc} : xe_cn (XE sc) 39 = 0 := rfl
set_option maxRecDepth 20000 in
theorem ml_39 {sc : xm_Sc} : xe_ml (XE sc) 39 = 5 := rfl
set_option maxRecDepth 20000 in
theorem ry_39 {sc : xm_Sc} : xe_ry (XE sc) 39 = (some .int) := rfl
set_option maxRecDepth 20000 in
theorem is_39 {sc : xm_Sc} : xe_is (XE sc) 39 = false := rfl
set_option maxRecDepth 20000 in
theorem np_39 {sc : xm_Sc} : xe_np (XE sc) 39 = 3 := rfl
set_option maxRecDepth 20000 in
theorem fl_0_11 {sc : xm_Sc} : xe_fl (XE sc) 0 11 = some (0, 0) := rfl
set_option maxRecDepth 20000 in
theorem fl_0_15 {sc : xm_Sc} : xe_fl (XE sc) 0 15 = some (0, 1) := rfl
set_option maxRecDepth 20000 in
theorem fl_0_18 {sc : xm_Sc} : xe_fl (XE sc) 0 18 = some (0, 2) := rfl
set_option maxRecDepth 20000 in
theorem fl_0_21 {sc : xm_Sc} : xe_fl (XE sc) 0 21 = some (0, 3) := rfl
set_option maxRecDepth 20000 in
theorem fl_0_24 {sc : xm_Sc} : xe_fl (XE sc) 0 24 = some (0, 4) := rfl
set_option maxRecDepth 20000 in
theorem fl_0_27 {sc : xm_Sc} : xe_fl (XE sc) 0 27 = some (0, 5) := rfl
set_option maxRecDepth 20000 in
theorem fl_0_30 {sc : xm_Sc} : xe_fl (XE sc) 0 30 = some (0, 6) := rfl
set_option maxRecDepth 20000 in
theorem fl_0_33 {sc : xm_Sc} : xe_fl (XE sc) 0 33 = some (0, 7) := rfl
set_option maxRecDepth 20000 in
theorem fl_0_36 {sc : xm_Sc} : xe_fl (XE sc) 0 36 = some (0, 8) := rfl
set_option maxRecDepth 20000 in
theorem fl_0_39 {sc : xm_Sc} : xe_fl (XE sc) 0 39 = some (0, 9) := rfl
set_option maxRecDepth 20000 in
theorem lk_0_43 {sc : xm_Sc} : xe_lk (XE sc) 0 43 = some 0 := rfl
set_option maxRecDepth 20000 in
theorem lk_0_47 {sc : xm_Sc} : xe_lk (XE sc) 0 47 = some 12 := rfl
set_option maxRecDepth 20000 in
theorem lk_0_51 {sc : xm_Sc} : xe_lk (XE sc) 0 51 = some 36 := rfl
set_option maxRecDepth 20000 in
theorem lk_0_54 {sc : xm_Sc} : xe_lk (XE sc) 0 54 = some 19 := rfl
set_option maxRecDepth 20000 in
theorem lk_0_58 {sc : xm_Sc} : xe_lk (XE sc) 0 58 = some 30 := rfl
set_option maxRecDepth 20000 in
theorem lk_0_61 {sc : xm_Sc} : xe_lk (XE sc) 0 61 = some 8 := rfl
set_option maxRecDepth 20000 in
theorem lk_0_64 {sc : xm_Sc} : xe_lk (XE sc) 0 64 = some 34 := rfl
set_option maxRecDepth 20000 in
theorem lk_0_67 {sc : xm_Sc} : xe_lk (XE sc) 0 67 = some 2 := rfl
set_option maxRecDepth 20000 in
theorem lk_0_70 {sc : xm_Sc} : xe_lk (XE sc) 0 70 = some 24 := rfl
set_option maxRecDepth 20000 in
theorem lk_0_73 {sc : xm_Sc} : xe_lk (XE sc) 0 73 = some 3 := rfl
set_option maxRecDepth 20000 in
theorem lk_0_76 {sc : xm_Sc} : xe_lk (XE sc) 0 76 = some 18 := rfl
set_option maxRecDepth 20000 in
theorem lk_0_80 {sc : xm_Sc} : xe_lk (XE sc) 0 80 = some 25 := rfl
set_option maxRecDepth 20000 in
theorem lk_0_83 {sc : xm_Sc} : xe_lk (XE sc) 0 83 = some 26 := rfl
set_option maxRecDepth 20000 in
theorem lk_0_86 {sc : xm_Sc} : xe_lk (XE sc) 0 86 = some 7 := rfl
set_option maxRecDepth 20000 in
theorem lk_0_89 {sc : xm_Sc} : xe_lk (XE sc) 0 89 = some 38 := rfl
set_option maxRecDepth 20000 in
theorem lk_0_92 {sc : xm_Sc} : xe_lk (XE sc) 0 92 = some 32 := rfl
set_option maxRecDepth 20000 in
theorem lk_0_95 {sc : xm_Sc} : xe_lk (XE sc) 0 95 = some 15 := rfl
set_option maxRecDepth 20000 in
theorem lk_0_98 {sc : xm_Sc} : xe_lk (XE sc) 0 98 = some 6 := rfl
set_option maxRecDepth 20000 in
theorem lk_0_101 {sc : xm_Sc} : xe_lk (XE sc) 0 101 = some 33 := rfl
set_option maxRecDepth 20000 in
theorem lk_0_104 {sc : xm_Sc} : xe_lk (XE sc) 0 104 = some 22 := rfl
set_option maxRecDepth 20000 in
theorem lk_0_108 {sc : xm_Sc} : xe_lk (XE sc) 0 108 = some 20 := rfl
set_option maxRecDepth 20000 in
theorem lk_0_111 {sc : xm_Sc} : xe_lk (XE sc) 0 111 = some 21 := rfl
set_option maxRecDepth 20000 in
theorem lk_0_114 {sc : xm_Sc} : xe_lk (XE sc) 0 114 = some 16 := rfl
set_option maxRecDepth 20000 in
theorem lk_0_117 {sc : xm_Sc} : xe_lk (XE sc) 0 117 = some 11 := rfl
set_option maxRecDepth 20000 in
theorem lk_0_120 {sc : xm_Sc} : xe_lk (XE sc) 0 120 = some 10 := rfl
set_option maxRecDepth 20000 in
theorem lk_0_123 {sc : xm_Sc} : xe_lk (XE sc) 0 123 = some 14 := rfl
set_option maxRecDepth 20000 in
theorem lk_0_127 {sc : xm_Sc} : xe_lk (XE sc) 0 127 = some 35 := rfl
set_option maxRecDepth 20000 in
theorem lk_0_130 {sc : xm_Sc} : xe_lk (XE sc) 0 130 = some 31 := rfl
set_option maxRecDepth 20000 in
theorem lk_0_133 {sc : xm_Sc} : xe_lk (XE sc) 0 133 = some 23 := rfl
set_option maxRecDepth 20000 in
theorem lk_0_136 {sc : xm_Sc} : xe_lk (XE sc) 0 136 = some 28 := rfl
set_option maxRecDepth 20000 in
theorem lk_0_139 {sc : xm_Sc} : xe_lk (XE sc) 0 139 = some 5 := rfl
set_option maxRecDepth 20000 in
theorem lk_0_142 {sc : xm_Sc} : xe_lk (XE sc) 0 142 = some 1 := rfl
set_option maxRecDepth 20000 in
theorem lk_0_145 {sc : xm_Sc} : xe_lk (XE sc) 0 145 = some 39 := rfl
set_option maxRecDepth 20000 in
theorem lk_0_148 {sc : xm_Sc} : xe_lk (XE sc) 0 148 = some 17 := rfl
set_option maxRecDepth 20000 in
theorem lk_0_152 {sc : xm_Sc} : xe_lk (XE sc) 0 152 = some 29 := rfl
set_option maxRecDepth 20000 in
theorem lk_0_156 {sc : xm_Sc} : xe_lk (XE sc) 0 156 = some 13 := rfl
set_option maxRecDepth 20000 in
theorem lk_0_159 {sc : xm_Sc} : xe_lk (XE sc) 0 159 = some 37 := rfl
set_option maxRecDepth 20000 in
theorem lk_0_162 {sc : xm_Sc} : xe_lk (XE sc) 0 162 = some 4 := rfl
