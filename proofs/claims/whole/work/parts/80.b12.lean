/- method 200: X12_again -/
def b_X12_again_0 : List (Nat × Jvm.ClassFile.Instr × Nat) := [(0, .aload_n 0, 1), (1, .iconst 0, 1), (2, .putfield 205, 3), (5, .iconst 0, 1), (6, .istore_n 1, 1)]
set_option maxRecDepth 20000 in
theorem k_X12_again_0 {sc : xm_Sc} : xm_bok (xe_cy (XE sc) 200) b_X12_again_0 := by show xm_bok cX12_again _; unfold xm_bok; decide +kernel
def b_X12_again_7 : List (Nat × Jvm.ClassFile.Instr × Nat) := [(7, .iload_n 1, 1), (8, .aload_n 0, 1), (9, .getfield 220, 3), (12, .if_icmp .ge 21, 3)]
set_option maxRecDepth 20000 in
theorem k_X12_again_7 {sc : xm_Sc} : xm_bok (xe_cy (XE sc) 200) b_X12_again_7 := by show xm_bok cX12_again _; unfold xm_bok; decide +kernel
def b_X12_again_15 : List (Nat × Jvm.ClassFile.Instr × Nat) := [(15, .aload_n 0, 1), (16, .getfield 7, 3), (19, .iload_n 1, 1), (20, .aload_n 0, 1), (21, .getfield 13, 3), (24, .iload_n 1, 1), (25, .iaload, 1), (26, .iastore, 1), (27, .iinc 1 1, 3), (30, .goto (-23), 3)]
set_option maxRecDepth 20000 in
theorem k_X12_again_15 {sc : xm_Sc} : xm_bok (xe_cy (XE sc) 200) b_X12_again_15 := by show xm_bok cX12_again _; unfold xm_bok; decide +kernel
def b_X12_again_33 : List (Nat × Jvm.ClassFile.Instr × Nat) := [(33, .aload_n 0, 1), (34, .aload_n 0, 1), (35, .getfield 220, 3), (38, .putfield 215, 3), (41, .aload_n 0, 1), (42, .getfield 220, 3), (45, .ireturn, 1)]
set_option maxRecDepth 20000 in
theorem k_X12_again_33 {sc : xm_Sc} : xm_bok (xe_cy (XE sc) 200) b_X12_again_33 := by show xm_bok cX12_again _; unfold xm_bok; decide +kernel
set_option maxRecDepth 20000 in
theorem cn_200 {sc : xm_Sc} : xe_cn (XE sc) 200 = 12 := rfl
set_option maxRecDepth 20000 in
theorem ml_200 {sc : xm_Sc} : xe_ml (XE sc) 200 = 2 := rfl
set_option maxRecDepth 20000 in
theorem ry_200 {sc : xm_Sc} : xe_ry (XE sc) 200 = (some .int) := rfl
set_option maxRecDepth 20000 in
theorem is_200 {sc : xm_Sc} : xe_is (XE sc) 200 = false := rfl
set_option maxRecDepth 20000 in
theorem np_200 {sc : xm_Sc} : xe_np (XE sc) 200 = 0 := rfl
/- method 201: X12_ahead -/
def b_X12_ahead_0 : List (Nat × Jvm.ClassFile.Instr × Nat) := [(0, .lconst 0, 1), (1, .lstore_n 3, 1)]
set_option maxRecDepth 20000 in
theorem k_X12_ahead_0 {sc : xm_Sc} : xm_bok (xe_cy (XE sc) 201) b_X12_ahead_0 := by show xm_bok cX12_ahead _; unfold xm_bok; decide +kernel
def b_X12_ahead_2 : List (Nat × Jvm.ClassFile.Instr × Nat) := [(2, .lload_n 3, 1), (3, .iload_n 2, 1), (4, .i2l, 1), (5, .lcmp, 1), (6, .ifCond .ge 25, 3)]
set_option maxRecDepth 20000 in
theorem k_X12_ahead_2 {sc : xm_Sc} : xm_bok (xe_cy (XE sc) 201) b_X12_ahead_2 := by show xm_bok cX12_ahead _; unfold xm_bok; decide +kernel
def b_X12_ahead_9 : List (Nat × Jvm.ClassFile.Instr × Nat) := [(9, .lload_n 0, 1), (10, .iload_n 2, 1), (11, .iconst 1, 1), (12, .isub, 1), (13, .lload_n 3, 1), (14, .l2i, 1), (15, .isub, 1), (16, .lshr, 1), (17, .lconst 1, 1), (18, .land, 1), (19, .lconst 0, 1), (20, .lcmp, 1), (21, .ifCond .ne 10, 3)]
set_option maxRecDepth 20000 in
theorem k_X12_ahead_9 {sc : xm_Sc} : xm_bok (xe_cy (XE sc) 201) b_X12_ahead_9 := by show xm_bok cX12_ahead _; unfold xm_bok; decide +kernel
def b_X12_ahead_24 : List (Nat × Jvm.ClassFile.Instr × Nat) := [(24, .lload_n 3, 1), (25, .lconst 1, 1), (26, .ladd, 1), (27, .lstore_n 3, 1), (28, .goto (-26), 3)]
set_option maxRecDepth 20000 in
theorem k_X12_ahead_24 {sc : xm_Sc} : xm_bok (xe_cy (XE sc) 201) b_X12_ahead_24 := by show xm_bok cX12_ahead _; unfold xm_bok; decide +kernel
def b_X12_ahead_31 : List (Nat × Jvm.ClassFile.Instr × Nat) := [(31, .lload_n 3, 1), (32, .lreturn, 1)]
set_option maxRecDepth 20000 in
theorem k_X12_ahead_31 {sc : xm_Sc} : xm_bok (xe_cy (XE sc) 201) b_X12_ahead_31 := by show xm_bok cX12_ahead _; unfold xm_bok; decide +kernel
set_option maxRecDepth 20000 in
theorem cn_201 {sc : xm_Sc} : xe_cn (XE sc) 201 = 12 := rfl
set_option maxRecDepth 20000 in
theorem ml_201 {sc : xm_Sc} : xe_ml (XE sc) 201 = 5 := rfl
set_option maxRecDepth 20000 in
theorem ry_201 {sc : xm_Sc} : xe_ry (XE sc) 201 = (some .long) := rfl
set_option maxRecDepth 20000 in
theorem is_201 {sc : xm_Sc} : xe_is (XE sc) 201 = true := rfl
set_option maxRecDepth 20000 in
theorem np_201 {sc : xm_Sc} : xe_np (XE sc) 201 = 2 := rfl
/- method 202: X12_atMost -/
def b_X12_atMost_0 : List (Nat × Jvm.ClassFile.Instr × Nat) := [(0, .lload_n 0, 1), (1, .ldc2_w 209, 3), (4, .lcmp, 1), (5, .ifCond .le 9, 3)]
set_option maxRecDepth 20000 in
theorem k_X12_atMost_0 {sc : xm_Sc} : xm_bok (xe_cy (XE sc) 202) b_X12_atMost_0 := by show xm_bok cX12_atMost _; unfold xm_bok; decide +kernel
def b_X12_atMost_8 : List (Nat × Jvm.ClassFile.Instr × Nat) := [(8, .ldc2_w 209, 3), (11, .goto 4, 3)]
set_option maxRecDepth 20000 in
theorem k_X12_atMost_8 {sc : xm_Sc} : xm_bok (xe_cy (XE sc) 202) b_X12_atMost_8 := by show xm_bok cX12_atMost _; unfold xm_bok; decide +kernel
def b_X12_atMost_14 : List (Nat × Jvm.ClassFile.Instr × Nat) := [(14, .lload_n 0, 1)]
set_option maxRecDepth 20000 in
theorem k_X12_atMost_14 {sc : xm_Sc} : xm_bok (xe_cy (XE sc) 202) b_X12_atMost_14 := by show xm_bok cX12_atMost _; unfold xm_bok; decide +kernel
def b_X12_atMost_15 : List (Nat × Jvm.ClassFile.Instr × Nat) := [(15, .lreturn, 1)]
set_option maxRecDepth 20000 in
theorem k_X12_atMost_15 {sc : xm_Sc} : xm_bok (xe_cy (XE sc) 202) b_X12_atMost_15 := by show xm_bok cX12_atMost _; unfold xm_bok; decide +kernel
set_option maxRecDepth 20000 in
theorem cn_202 {sc : xm_Sc} : xe_cn (XE sc) 202 = 12 := rfl
set_option maxRecDepth 20000 in
theorem ml_202 {sc : xm_Sc} : xe_ml (XE sc) 202 = 2 := rfl
set_option maxRecDepth 20000 in
theorem ry_202 {sc : xm_Sc} : xe_ry (XE sc) 202 = (some .long) := rfl
set_option maxRecDepth 20000 in
theorem is_202 {sc : xm_Sc} : xe_is (XE sc) 202 = true := rfl
set_option maxRecDepth 20000 in
theorem np_202 {sc : xm_Sc} : xe_np (XE sc) 202 = 1 := rfl
/- method 203: X12_begin -/
def b_X12_begin_0 : List (Nat × Jvm.ClassFile.Instr × Nat) := [(0, .aload_n 0, 1), (1, .getfield 166, 3), (4, .aload_n 0, 1), (5, .getfield 494, 3), (8, .iload_n 1, 1), (9, .iastore, 1), (10, .aload_n 0, 1), (11, .getfield 169, 3), (14, .aload_n 0, 1), (15, .getfield 494, 3), (18, .iconst 0, 1), (19, .iastore, 1), (20, .aload_n 0, 1), (21, .getfield 172, 3), (24, .aload_n 0, 1), (25, .getfield 494, 3), (28, .iload_n 2, 1), (29, .iastore, 1), (30, .aload_n 0, 1), (31, .getfield 175, 3), (34, .aload_n 0, 1), (35, .getfield 494, 3), (38, .iload_n 3, 1), (39, .iastore, 1), (40, .aload_n 0, 1), (41, .dup, 1), (42, .getfield 494, 3), (45, .iconst 1, 1), (46, .iadd, 1), (47, .putfield 494, 3), (50, .aload_n 0, 1), (51, .getfield 54, 3), (54, .iload_n 1, 1), (55, .iaload, 1), (56, .istore 4, 2), (58, .aload_n 0, 1), (59, .dup, 1), (60, .getfield 497, 3), (63, .lconst 1, 1), (64, .ladd, 1), (65, .putfield 497, 3), (68, .iload 4, 2), (70, .bipush 7, 2), (72, .if_icmp .eq 10, 3)]
set_option maxRecDepth 20000 in
theorem k_X12_begin_0 {sc : xm_Sc} : xm_bok (xe_cy (XE sc) 203) b_X12_begin_0 := by show xm_bok cX12_begin _; unfold xm_bok; decide +kernel
def b_X12_begin_75 : List (Nat × Jvm.ClassFile.Instr × Nat) := [(75, .iload 4, 2), (77, .bipush 12, 2), (79, .if_icmp .ne 18, 3)]
set_option maxRecDepth 20000 in
theorem k_X12_begin_75 {sc : xm_Sc} : xm_bok (xe_cy (XE sc) 203) b_X12_begin_75 := by show xm_bok cX12_begin _; unfold xm_bok; decide +kernel
def b_X12_begin_82 : List (Nat × Jvm.ClassFile.Instr × Nat) := [(82, .aload_n 0, 1), (83, .dup, 1), (84, .getfield 497, 3), (87, .aload_n 0, 1), (88, .iload_n 1, 1), (89, .invokevirtual 403, 3)]
set_option maxRecDepth 20000 in
theorem k_X12_begin_82 {sc : xm_Sc} : xm_bok (xe_cy (XE sc) 203) b_X12_begin_82 := by show xm_bok cX12_begin _; unfold xm_bok; decide +kernel
def b_X12_begin_92 : List (Nat × Jvm.ClassFile.Instr × Nat) := [(92, .i2l, 1), (93, .ladd, 1), (94, .putfield 497, 3)]
set_option maxRecDepth 20000 in
theorem k_X12_begin_92 {sc : xm_Sc} : xm_bok (xe_cy (XE sc) 203) b_X12_begin_92 := by show xm_bok cX12_begin _; unfold xm_bok; decide +kernel
def b_X12_begin_97 : List (Nat × Jvm.ClassFile.Instr × Nat) := [(97, .iload 4, 2), (99, .bipush 10, 2), (101, .if_icmp .eq 10, 3)]
set_option maxRecDepth 20000 in
theorem k_X12_begin_97 {sc : xm_Sc} : xm_bok (xe_cy (XE sc) 203) b_X12_begin_97 := by show xm_bok cX12_begin _; unfold xm_bok; decide +kernel
def b_X12_begin_104 : List (Nat × Jvm.ClassFile.Instr × Nat) := [(104, .iload 4, 2), (106, .bipush 12, 2), (108, .if_icmp .ne 18, 3)]
set_option maxRecDepth 20000 in
theorem k_X12_begin_104 {sc : xm_Sc} : xm_bok (xe_cy (XE sc) 203) b_X12_begin_104 := by show xm_bok cX12_begin _; unfold xm_bok; decide +kernel
def b_X12_begin_111 : List (Nat × Jvm.ClassFile.Instr × Nat) := [(111, .aload_n 0, 1), (112, .dup, 1), (113, .getfield 497, 3), (116, .aload_n 0, 1), (117, .iload_n 1, 1), (118, .invokevirtual 400, 3)]
set_option maxRecDepth 20000 in
theorem k_X12_begin_111 {sc : xm_Sc} : xm_bok (xe_cy (XE sc) 203) b_X12_begin_111 := by show xm_bok cX12_begin _; unfold xm_bok; decide +kernel
def b_X12_begin_121 : List (Nat × Jvm.ClassFile.Instr × Nat) := [(121, .i2l, 1), (122, .ladd, 1), (123, .putfield 497, 3)]
set_option maxRecDepth 20000 in
theorem k_X12_begin_121 {sc : xm_Sc} : xm_bok (xe_cy (XE sc) 203) b_X12_begin_121 := by show xm_bok cX12_begin _; unfold xm_bok; decide +kernel
def b_X12_begin_126 : List (Nat × Jvm.ClassFile.Instr × Nat) := [(126, .return_, 1)]
set_option maxRecDepth 20000 in
theorem k_X12_begin_126 {sc : xm_Sc} : xm_bok (xe_cy (XE sc) 203) b_X12_begin_126 := by show xm_bok cX12_begin _; unfold xm_bok; decide +kernel
set_option maxRecDepth 20000 in
theorem cn_203 {sc : xm_Sc} : xe_cn (XE sc) 203 = 12 := rfl
set_option maxRecDepth 20000 in
theorem ml_203 {sc : xm_Sc} : xe_ml (XE sc) 203 = 5 := rfl
set_option maxRecDepth 20000 in
theorem ry_203 {sc : xm_Sc} : xe_ry (XE sc) 203 = none := rfl
set_option maxRecDepth 20000 in
theorem is_203 {sc : xm_Sc} : xe_is (XE sc) 203 = false := rfl
set_option maxRecDepth 20000 in
theorem np_203 {sc : xm_Sc} : xe_np (XE sc) 203 = 3 := rfl
/- method 204: X12_beginCells -/
def b_X12_beginCells_0 : List (Nat × Jvm.ClassFile.Instr × Nat) := [(0, .aload_n 0, 1), (1, .iconst 0, 1), (2, .putfield 233, 3), (5, .aload_n 0, 1), (6, .iconst 1, 1), (7, .iconst (-1), 1), (8, .iconst (-1), 1), (9, .invokevirtual 236, 3)]
set_option maxRecDepth 20000 in
theorem k_X12_beginCells_0 {sc : xm_Sc} : xm_bok (xe_cy (XE sc) 204) b_X12_beginCells_0 := by show xm_bok cX12_beginCells _; unfold xm_bok; decide +kernel
def b_X12_beginCells_12 : List (Nat × Jvm.ClassFile.Instr × Nat) := [(12, .istore_n 1, 1), (13, .aload_n 0, 1), (14, .getfield 137, 3), (17, .iconst 0, 1), (18, .aload_n 0, 1), (19, .iconst 2, 1), (20, .iload_n 1, 1), (21, .iload_n 1, 1), (22, .invokevirtual 236, 3)]
set_option maxRecDepth 20000 in
theorem k_X12_beginCells_12 {sc : xm_Sc} : xm_bok (xe_cy (XE sc) 204) b_X12_beginCells_12 := by show xm_bok cX12_beginCells _; unfold xm_bok; decide +kernel
def b_X12_beginCells_25 : List (Nat × Jvm.ClassFile.Instr × Nat) := [(25, .iastore, 1), (26, .iconst 1, 1), (27, .istore_n 2, 1)]
set_option maxRecDepth 20000 in
theorem k_X12_beginCells_25 {sc : xm_Sc} : xm_bok (xe_cy (XE sc) 204) b_X12_beginCells_25 := by show xm_bok cX12_beginCells _; unfold xm_bok; decide +kernel
def b_X12_beginCells_28 : List (Nat × Jvm.ClassFile.Instr × Nat) := [(28, .iload_n 2, 1), (29, .bipush 9, 2), (31, .if_icmp .ge 36, 3)]
set_option maxRecDepth 20000 in
theorem k_X12_beginCells_28 {sc : xm_Sc} : xm_bok (xe_cy (XE sc) 204) b_X12_beginCells_28 := by show xm_bok cX12_beginCells _; unfold xm_bok; decide +kernel
def b_X12_beginCells_34 : List (Nat × Jvm.ClassFile.Instr × Nat) := [(34, .aload_n 0, 1), (35, .getfield 137, 3), (38, .iload_n 2, 1), (39, .aload_n 0, 1), (40, .iconst 3, 1), (41, .aload_n 0, 1), (42, .getfield 137, 3), (45, .iload_n 2, 1), (46, .iconst 1, 1), (47, .isub, 1), (48, .iaload, 1), (49, .aload_n 0, 1), (50, .getfield 137, 3), (53, .iload_n 2, 1), (54, .iconst 1, 1), (55, .isub, 1), (56, .iaload, 1), (57, .invokevirtual 236, 3)]
set_option maxRecDepth 20000 in
theorem k_X12_beginCells_34 {sc : xm_Sc} : xm_bok (xe_cy (XE sc) 204) b_X12_beginCells_34 := by show xm_bok cX12_beginCells _; unfold xm_bok; decide +kernel
def b_X12_beginCells_60 : List (Nat × Jvm.ClassFile.Instr × Nat) := [(60, .iastore, 1), (61, .iinc 2 1, 3), (64, .goto (-36), 3)]
set_option maxRecDepth 20000 in
theorem k_X12_beginCells_60 {sc : xm_Sc} : xm_bok (xe_cy (XE sc) 204) b_X12_beginCells_60 := by show xm_bok cX12_beginCells _; unfold xm_bok; decide +kernel
def b_X12_beginCells_67 : List (Nat × Jvm.ClassFile.Instr × Nat) := [(67, .return_, 1)]
set_option maxRecDepth 20000 in
theorem k_X12_beginCells_67 {sc : xm_Sc} : xm_bok (xe_cy (XE sc) 204) b_X12_beginCells_67 := by show xm_bok cX12_beginCells _; unfold xm_bok; decide +kernel
set_option maxRecDepth 20000 in
theorem cn_204 {sc : xm_Sc} : xe_cn (XE sc) 204 = 12 := rfl
set_option maxRecDepth 20000 in
theorem ml_204 {sc : xm_Sc} : xe_ml (XE sc) 204 = 3 := rfl
set_option maxRecDepth 20000 in
theorem ry_204 {sc : xm_Sc} : xe_ry (XE sc) 204 = none := rfl
set_option maxRecDepth 20000 in
theorem is_204 {sc : xm_Sc} : xe_is (XE sc) 204 = false := rfl
set_option maxRecDepth 20000 in
theorem np_204 {sc : xm_Sc} : xe_np (XE sc) 204 = 0 := rfl
/- method 205: X12_beginKinds -/
def b_X12_beginKinds_0 : List (Nat × Jvm.ClassFile.Instr × Nat) := [(0, .iconst 0, 1), (1, .istore_n 1, 1)]
set_option maxRecDepth 20000 in
theorem k_X12_beginKinds_0 {sc : xm_Sc} : xm_bok (xe_cy (XE sc) 205) b_X12_beginKinds_0 := by show xm_bok cX12_beginKinds _; unfold xm_bok; decide +kernel
def b_X12_beginKinds_2 : List (Nat × Jvm.ClassFile.Instr × Nat) := [(2, .iload_n 1, 1), (3, .sipush 4096, 3), (6, .if_icmp .ge 16, 3)]
set_option maxRecDepth 20000 in
theorem k_X12_beginKinds_2 {sc : xm_Sc} : xm_bok (xe_cy (XE sc) 205) b_X12_beginKinds_2 := by show xm_bok cX12_beginKinds _; unfold xm_bok; decide +kernel
def b_X12_beginKinds_9 : List (Nat × Jvm.ClassFile.Instr × Nat) := [(9, .aload_n 0, 1), (10, .getfield 112, 3), (13, .iload_n 1, 1), (14, .iconst (-1), 1), (15, .iastore, 1), (16, .iinc 1 1, 3), (19, .goto (-17), 3)]
set_option maxRecDepth 20000 in
theorem k_X12_beginKinds_9 {sc : xm_Sc} : xm_bok (xe_cy (XE sc) 205) b_X12_beginKinds_9 := by show xm_bok cX12_beginKinds _; unfold xm_bok; decide +kernel
def b_X12_beginKinds_22 : List (Nat × Jvm.ClassFile.Instr × Nat) := [(22, .aload_n 0, 1), (23, .sipush 3200, 3), (26, .putfield 262, 3), (29, .aload_n 0, 1), (30, .getfield 91, 3), (33, .aload_n 0, 1), (34, .getfield 262, 3), (37, .iconst 1, 1), (38, .iastore, 1), (39, .aload_n 0, 1), (40, .getfield 94, 3), (43, .aload_n 0, 1), (44, .getfield 262, 3), (47, .iconst (-1), 1), (48, .iastore, 1), (49, .aload_n 0, 1), (50, .getfield 97, 3), (53, .aload_n 0, 1), (54, .getfield 262, 3), (57, .iconst (-1), 1), (58, .iastore, 1), (59, .aload_n 0, 1), (60, .getfield 100, 3), (63, .aload_n 0, 1), (64, .getfield 262, 3), (67, .iconst 0, 1), (68, .iastore, 1), (69, .aload_n 0, 1), (70, .getfield 103, 3), (73, .aload_n 0, 1), (74, .getfield 262, 3), (77, .iconst 0, 1), (78, .iastore, 1), (79, .aload_n 0, 1), (80, .getfield 106, 3), (83, .aload_n 0, 1), (84, .getfield 262, 3), (87, .iconst 1, 1), (88, .iastore, 1), (89, .aload_n 0, 1), (90, .dup, 1), (91, .getfield 262, 3), (94, .iconst 1, 1), (95, .iadd, 1), (96, .putfield 262, 3), (99, .return_, 1)]
set_option maxRecDepth 20000 in
theorem k_X12_beginKinds_22 {sc : xm_Sc} : xm_bok (xe_cy (XE sc) 205) b_X12_beginKinds_22 := by show xm_bok cX12_beginKinds _; unfold xm_bok; decide +kernel
set_option maxRecDepth 20000 in
theorem cn_205 {sc : xm_Sc} : xe_cn (XE sc) 205 = 12 := rfl
set_option maxRecDepth 20000 in
theorem ml_205 {sc : xm_Sc} : xe_ml (XE sc) 205 = 2 := rfl
set_option maxRecDepth 20000 in
theorem ry_205 {sc : xm_Sc} : xe_ry (XE sc) 205 = none := rfl
set_option maxRecDepth 20000 in
theorem is_205 {sc : xm_Sc} : xe_is (XE sc) 205 = false := rfl
set_option maxRecDepth 20000 in
theorem np_205 {sc : xm_Sc} : xe_np (XE sc) 205 = 0 := rfl
/- method 206: X12_begun -/
def b_X12_begun_0 : List (Nat × Jvm.ClassFile.Instr × Nat) := [(0, .aload_n 0, 1), (1, .getfield 601, 3), (4, .iconst 2, 1), (5, .if_icmp .ne 35, 3)]
set_option maxRecDepth 20000 in
theorem k_X12_begun_0 {sc : xm_Sc} : xm_bok (xe_cy (XE sc) 206) b_X12_begun_0 := by show xm_bok cX12_begun _; unfold xm_bok; decide +kernel
def b_X12_begun_8 : List (Nat × Jvm.ClassFile.Instr × Nat) := [(8, .aload_n 0, 1), (9, .getfield 184, 3), (12, .aload_n 0, 1), (13, .getfield 629, 3), (16, .iconst (-1), 1), (17, .iastore, 1), (18, .aload_n 0, 1), (19, .getfield 187, 3), (22, .aload_n 0, 1), (23, .getfield 629, 3), (26, .iconst 0, 1), (27, .iastore, 1), (28, .aload_n 0, 1), (29, .dup, 1), (30, .getfield 629, 3), (33, .iconst 1, 1), (34, .iadd, 1), (35, .putfield 629, 3), (38, .iconst (-1), 1), (39, .ireturn, 1)]
set_option maxRecDepth 20000 in
theorem k_X12_begun_8 {sc : xm_Sc} : xm_bok (xe_cy (XE sc) 206) b_X12_begun_8 := by show xm_bok cX12_begun _; unfold xm_bok; decide +kernel
def b_X12_begun_40 : List (Nat × Jvm.ClassFile.Instr × Nat) := [(40, .aload_n 0, 1), (41, .invokevirtual 616, 3)]
set_option maxRecDepth 20000 in
theorem k_X12_begun_40 {sc : xm_Sc} : xm_bok (xe_cy (XE sc) 206) b_X12_begun_40 := by show xm_bok cX12_begun _; unfold xm_bok; decide +kernel
def b_X12_begun_44 : List (Nat × Jvm.ClassFile.Instr × Nat) := [(44, .lstore_n 1, 1), (45, .lload_n 1, 1), (46, .lconst 0, 1), (47, .lcmp, 1), (48, .ifCond .ne 13, 3)]
set_option maxRecDepth 20000 in
theorem k_X12_begun_44 {sc : xm_Sc} : xm_bok (xe_cy (XE sc) 206) b_X12_begun_44 := by show xm_bok cX12_begun _; unfold xm_bok; decide +kernel
def b_X12_begun_51 : List (Nat × Jvm.ClassFile.Instr × Nat) := [(51, .aload_n 0, 1), (52, .iconst 1, 1), (53, .aload_n 0, 1), (54, .getfield 598, 3), (57, .invokevirtual 604, 3)]
set_option maxRecDepth 20000 in
theorem k_X12_begun_51 {sc : xm_Sc} : xm_bok (xe_cy (XE sc) 206) b_X12_begun_51 := by show xm_bok cX12_begun _; unfold xm_bok; decide +kernel
def b_X12_begun_60 : List (Nat × Jvm.ClassFile.Instr × Nat) := [(60, .ireturn, 1)]
set_option maxRecDepth 20000 in
theorem k_X12_begun_60 {sc : xm_Sc} : xm_bok (xe_cy (XE sc) 206) b_X12_begun_60 := by show xm_bok cX12_begun _; unfold xm_bok; decide +kernel
def b_X12_begun_61 : List (Nat × Jvm.ClassFile.Instr × Nat) := [(61, .aload_n 0, 1), (62, .lload_n 1, 1), (63, .invokevirtual 619, 3)]
set_option maxRecDepth 20000 in
theorem k_X12_begun_61 {sc : xm_Sc} : xm_bok (xe_cy (XE sc) 206) b_X12_begun_61 := by show xm_bok cX12_begun _; unfold xm_bok; decide +kernel
def b_X12_begun_66 : List (Nat × Jvm.ClassFile.Instr × Nat) := [(66, .istore_n 3, 1), (67, .iload_n 3, 1), (68, .bipush 13, 2), (70, .if_icmp .ne 8, 3)]
set_option maxRecDepth 20000 in
theorem k_X12_begun_66 {sc : xm_Sc} : xm_bok (xe_cy (XE sc) 206) b_X12_begun_66 := by show xm_bok cX12_begun _; unfold xm_bok; decide +kernel
def b_X12_begun_73 : List (Nat × Jvm.ClassFile.Instr × Nat) := [(73, .aload_n 0, 1), (74, .invokevirtual 641, 3)]
set_option maxRecDepth 20000 in
theorem k_X12_begun_73 {sc : xm_Sc} : xm_bok (xe_cy (XE sc) 206) b_X12_begun_73 := by show xm_bok cX12_begun _; unfold xm_bok; decide +kernel
def b_X12_begun_77 : List (Nat × Jvm.ClassFile.Instr × Nat) := [(77, .ireturn, 1)]
set_option maxRecDepth 20000 in
theorem k_X12_begun_77 {sc : xm_Sc} : xm_bok (xe_cy (XE sc) 206) b_X12_begun_77 := by show xm_bok cX12_begun _; unfold xm_bok; decide +kernel
def b_X12_begun_78 : List (Nat × Jvm.ClassFile.Instr × Nat) := [(78, .iload_n 3, 1), (79, .ifCond .lt 9, 3)]
set_option maxRecDepth 20000 in
theorem k_X12_begun_78 {sc : xm_Sc} : xm_bok (xe_cy (XE sc) 206) b_X12_begun_78 := by show xm_bok cX12_begun _; unfold xm_bok; decide +kernel
def b_X12_begun_82 : List (Nat × Jvm.ClassFile.Instr × Nat) := [(82, .aload_n 0, 1), (83, .iload_n 3, 1), (84, .invokevirtual 644, 3)]
set_option maxRecDepth 20000 in
theorem k_X12_begun_82 {sc : xm_Sc} : xm_bok (xe_cy (XE sc) 206) b_X12_begun_82 := by show xm_bok cX12_begun _; unfold xm_bok; decide +kernel
def b_X12_begun_87 : List (Nat × Jvm.ClassFile.Instr × Nat) := [(87, .ireturn, 1)]
set_option maxRecDepth 20000 in
theorem k_X12_begun_87 {sc : xm_Sc} : xm_bok (xe_cy (XE sc) 206) b_X12_begun_87 := by show xm_bok cX12_begun _; unfold xm_bok; decide +kernel
def b_X12_begun_88 : List (Nat × Jvm.ClassFile.Instr × Nat) := [(88, .aload_n 0, 1), (89, .lload_n 1, 1), (90, .invokevirtual 623, 3)]
set_option maxRecDepth 20000 in
theorem k_X12_begun_88 {sc : xm_Sc} : xm_bok (xe_cy (XE sc) 206) b_X12_begun_88 := by show xm_bok cX12_begun _; unfold xm_bok; decide +kernel
def b_X12_begun_93 : List (Nat × Jvm.ClassFile.Instr × Nat) := [(93, .istore 4, 2), (95, .iload 4, 2), (97, .ifCond .ge 15, 3)]
set_option maxRecDepth 20000 in
theorem k_X12_begun_93 {sc : xm_Sc} : xm_bok (xe_cy (XE sc) 206) b_X12_begun_93 := by show xm_bok cX12_begun _; unfold xm_bok; decide +kernel
def b_X12_begun_100 : List (Nat × Jvm.ClassFile.Instr × Nat) := [(100, .aload_n 0, 1), (101, .iconst 2, 1), (102, .aload_n 0, 1), (103, .getfield 598, 3), (106, .invokevirtual 604, 3)]
set_option maxRecDepth 20000 in
theorem k_X12_begun_100 {sc : xm_Sc} : xm_bok (xe_cy (XE sc) 206) b_X12_begun_100 := by show xm_bok cX12_begun _; unfold xm_bok; decide +kernel
def b_X12_begun_109 : List (Nat × Jvm.ClassFile.Instr × Nat) := [(109, .goto 5, 3)]
set_option maxRecDepth 20000 in
theorem k_X12_begun_109 {sc : xm_Sc} : xm_bok (xe_cy (XE sc) 206) b_X12_begun_109 := by show xm_bok cX12_begun _; unfold xm_bok; decide +kernel
def b_X12_begun_112 : List (Nat × Jvm.ClassFile.Instr × Nat) := [(112, .iload 4, 2)]
set_option maxRecDepth 20000 in
theorem k_X12_begun_112 {sc : xm_Sc} : xm_bok (xe_cy (XE sc) 206) b_X12_begun_112 := by show xm_bok cX12_begun _; unfold xm_bok; decide +kernel
def b_X12_begun_114 : List (Nat × Jvm.ClassFile.Instr × Nat) := [(114, .ireturn, 1)]
set_option maxRecDepth 20000 in
theorem k_X12_begun_114 {sc : xm_Sc} : xm_bok (xe_cy (XE sc) 206) b_X12_begun_114 := by show xm_bok cX12_begun _; unfold xm_bok; decide +kernel
set_option maxRecDepth 20000 in
theorem cn_206 {sc : xm_Sc} : xe_cn (XE sc) 206 = 12 := rfl
set_option maxRecDepth 20000 in
theorem ml_206 {sc : xm_Sc} : xe_ml (XE sc) 206 = 5 := rfl
set_option maxRecDepth 20000 in
theorem ry_206 {sc : xm_Sc} : xe_ry (XE sc) 206 = (some .int) := rfl
set_option maxRecDepth 20000 in
theorem is_206 {sc : xm_Sc} : xe_is (XE sc) 206 = false := rfl
set_option maxRecDepth 20000 in
theorem np_206 {sc : xm_Sc} : xe_np (XE sc) 206 = 0 := rfl
/- method 207: X12_below -/
def b_X12_below_0 : List (Nat × Jvm.ClassFile.Instr × Nat) := [(0, .lload_n 0, 1), (1, .ldc2_w 419, 3), (4, .ladd, 1), (5, .lload_n 2, 1), (6, .ldc2_w 419, 3), (9, .ladd, 1), (10, .lcmp, 1), (11, .ifCond .ge 7, 3)]
set_option maxRecDepth 20000 in
theorem k_X12_below_0 {sc : xm_Sc} : xm_bok (xe_cy (XE sc) 207) b_X12_below_0 := by show xm_bok cX12_below _; unfold xm_bok; decide +kernel
def b_X12_below_14 : List (Nat × Jvm.ClassFile.Instr × Nat) := [(14, .iconst 1, 1), (15, .goto 4, 3)]
set_option maxRecDepth 20000 in
theorem k_X12_below_14 {sc : xm_Sc} : xm_bok (xe_cy (XE sc) 207) b_X12_below_14 := by show xm_bok cX12_below _; unfold xm_bok; decide +kernel
def b_X12_below_18 : List (Nat × Jvm.ClassFile.Instr × Nat) := [(18, .iconst 0, 1)]
set_option maxRecDepth 20000 in
theorem k_X12_below_18 {sc : xm_Sc} : xm_bok (xe_cy (XE sc) 207) b_X12_below_18 := by show xm_bok cX12_below _; unfold xm_bok; decide +kernel
def b_X12_below_19 : List (Nat × Jvm.ClassFile.Instr × Nat) := [(19, .ireturn, 1)]
set_option maxRecDepth 20000 in
theorem k_X12_below_19 {sc : xm_Sc} : xm_bok (xe_cy (XE sc) 207) b_X12_below_19 := by show xm_bok cX12_below _; unfold xm_bok; decide +kernel
set_option maxRecDepth 20000 in
theorem cn_207 {sc : xm_Sc} : xe_cn (XE sc) 207 = 12 := rfl
set_option maxRecDepth 20000 in
theorem ml_207 {sc : xm_Sc} : xe_ml (XE sc) 207 = 4 := rfl
set_option maxRecDepth 20000 in
theorem ry_207 {sc : xm_Sc} : xe_ry (XE sc) 207 = (some .boolean) := rfl
set_option maxRecDepth 20000 in
theorem is_207 {sc : xm_Sc} : xe_is (XE sc) 207 = true := rfl
set_option maxRecDepth 20000 in
theorem np_207 {sc : xm_Sc} : xe_np (XE sc) 207 = 2 := rfl
/- method 208: X12_bit -/
def b_X12_bit_0 : List (Nat × Jvm.ClassFile.Instr × Nat) := [(0, .aload_n 0, 1), (1, .getfield 330, 3), (4, .ifCond .le 5, 3)]
set_option maxRecDepth 20000 in
theorem k_X12_bit_0 {sc : xm_Sc} : xm_bok (xe_cy (XE sc) 208) b_X12_bit_0 := by show xm_bok cX12_bit _; unfold xm_bok; decide +kernel
def b_X12_bit_7 : List (Nat × Jvm.ClassFile.Instr × Nat) := [(7, .iconst 0, 1), (8, .ireturn, 1)]
set_option maxRecDepth 20000 in
theorem k_X12_bit_7 {sc : xm_Sc} : xm_bok (xe_cy (XE sc) 208) b_X12_bit_7 := by show xm_bok cX12_bit _; unfold xm_bok; decide +kernel
def b_X12_bit_9 : List (Nat × Jvm.ClassFile.Instr × Nat) := [(9, .aload_n 0, 1), (10, .getfield 333, 3), (13, .aload_n 0, 1), (14, .getfield 336, 3), (17, .if_icmp .lt 10, 3)]
set_option maxRecDepth 20000 in
theorem k_X12_bit_9 {sc : xm_Sc} : xm_bok (xe_cy (XE sc) 208) b_X12_bit_9 := by show xm_bok cX12_bit _; unfold xm_bok; decide +kernel
def b_X12_bit_20 : List (Nat × Jvm.ClassFile.Instr × Nat) := [(20, .aload_n 0, 1), (21, .iconst 1, 1), (22, .putfield 330, 3), (25, .iconst 0, 1), (26, .ireturn, 1)]
set_option maxRecDepth 20000 in
theorem k_X12_bit_20 {sc : xm_Sc} : xm_bok (xe_cy (XE sc) 208) b_X12_bit_20 := by show xm_bok cX12_bit _; unfold xm_bok; decide +kernel
def b_X12_bit_27 : List (Nat × Jvm.ClassFile.Instr × Nat) := [(27, .aload_n 0, 1), (28, .dup, 1), (29, .getfield 333, 3), (32, .iconst 1, 1), (33, .iadd, 1), (34, .putfield 333, 3), (37, .aload_n 0, 1), (38, .aload_n 0, 1), (39, .getfield 333, 3), (42, .iconst 1, 1), (43, .isub, 1), (44, .invokevirtual 283, 3)]
set_option maxRecDepth 20000 in
theorem k_X12_bit_27 {sc : xm_Sc} : xm_bok (xe_cy (XE sc) 208) b_X12_bit_27 := by show xm_bok cX12_bit _; unfold xm_bok; decide +kernel
def b_X12_bit_47 : List (Nat × Jvm.ClassFile.Instr × Nat) := [(47, .ireturn, 1)]
set_option maxRecDepth 20000 in
theorem k_X12_bit_47 {sc : xm_Sc} : xm_bok (xe_cy (XE sc) 208) b_X12_bit_47 := by show xm_bok cX12_bit _; unfold xm_bok; decide +kernel
set_option maxRecDepth 20000 in
theorem cn_208 {sc : xm_Sc} : xe_cn (XE sc) 208 = 12 := rfl
set_option maxRecDepth 20000 in
theorem ml_208 {sc : xm_Sc} : xe_ml (XE sc) 208 = 1 := rfl
set_option maxRecDepth 20000 in
theorem ry_208 {sc : xm_Sc} : xe_ry (XE sc) 208 = (some .int) := rfl
set_option maxRecDepth 20000 in
theorem is_208 {sc : xm_Sc} : xe_is (XE sc) 208 = false := rfl
set_option maxRecDepth 20000 in
theorem np_208 {sc : xm_Sc} : xe_np (XE sc) 208 = 0 := rfl
/- method 209: X12_bitAnd -/
def b_X12_bitAnd_0 : List (Nat × Jvm.ClassFile.Instr × Nat) := [(0, .aload_n 0, 1), (1, .iconst 3, 1), (2, .aload_n 0, 1), (3, .getfield 137, 3), (6, .iconst 0, 1), (7, .iaload, 1), (8, .iload_n 1, 1), (9, .invokevirtual 236, 3)]
set_option maxRecDepth 20000 in
theorem k_X12_bitAnd_0 {sc : xm_Sc} : xm_bok (xe_cy (XE sc) 209) b_X12_bitAnd_0 := by show xm_bok cX12_bitAnd _; unfold xm_bok; decide +kernel
def b_X12_bitAnd_12 : List (Nat × Jvm.ClassFile.Instr × Nat) := [(12, .ireturn, 1)]
set_option maxRecDepth 20000 in
theorem k_X12_bitAnd_12 {sc : xm_Sc} : xm_bok (xe_cy (XE sc) 209) b_X12_bitAnd_12 := by show xm_bok cX12_bitAnd _; unfold xm_bok; decide +kernel
set_option maxRecDepth 20000 in
theorem cn_209 {sc : xm_Sc} : xe_cn (XE sc) 209 = 12 := rfl
set_option maxRecDepth 20000 in
theorem ml_209 {sc : xm_Sc} : xe_ml (XE sc) 209 = 2 := rfl
set_option maxRecDepth 20000 in
theorem ry_209 {sc : xm_Sc} : xe_ry (XE sc) 209 = (some .int) := rfl
set_option maxRecDepth 20000 in
theorem is_209 {sc : xm_Sc} : xe_is (XE sc) 209 = false := rfl
set_option maxRecDepth 20000 in
theorem np_209 {sc : xm_Sc} : xe_np (XE sc) 209 = 1 := rfl
/- method 210: X12_bitsOf -/
def b_X12_bitsOf_0 : List (Nat × Jvm.ClassFile.Instr × Nat) := [(0, .iconst 0, 1), (1, .istore_n 2, 1), (2, .iconst 0, 1), (3, .istore_n 3, 1)]
set_option maxRecDepth 20000 in
theorem k_X12_bitsOf_0 {sc : xm_Sc} : xm_bok (xe_cy (XE sc) 210) b_X12_bitsOf_0 := by show xm_bok cX12_bitsOf _; unfold xm_bok; decide +kernel
def b_X12_bitsOf_4 : List (Nat × Jvm.ClassFile.Instr × Nat) := [(4, .iload_n 3, 1), (5, .iload_n 1, 1), (6, .if_icmp .ge 18, 3)]
set_option maxRecDepth 20000 in
theorem k_X12_bitsOf_4 {sc : xm_Sc} : xm_bok (xe_cy (XE sc) 210) b_X12_bitsOf_4 := by show xm_bok cX12_bitsOf _; unfold xm_bok; decide +kernel
def b_X12_bitsOf_9 : List (Nat × Jvm.ClassFile.Instr × Nat) := [(9, .iload_n 2, 1), (10, .iconst 1, 1), (11, .ishl, 1), (12, .aload_n 0, 1), (13, .invokevirtual 339, 3)]
set_option maxRecDepth 20000 in
theorem k_X12_bitsOf_9 {sc : xm_Sc} : xm_bok (xe_cy (XE sc) 210) b_X12_bitsOf_9 := by show xm_bok cX12_bitsOf _; unfold xm_bok; decide +kernel
def b_X12_bitsOf_16 : List (Nat × Jvm.ClassFile.Instr × Nat) := [(16, .ior, 1), (17, .istore_n 2, 1), (18, .iinc 3 1, 3), (21, .goto (-17), 3)]
set_option maxRecDepth 20000 in
theorem k_X12_bitsOf_16 {sc : xm_Sc} : xm_bok (xe_cy (XE sc) 210) b_X12_bitsOf_16 := by show xm_bok cX12_bitsOf _; unfold xm_bok; decide +kernel
def b_X12_bitsOf_24 : List (Nat × Jvm.ClassFile.Instr × Nat) := [(24, .iload_n 2, 1), (25, .ireturn, 1)]
set_option maxRecDepth 20000 in
theorem k_X12_bitsOf_24 {sc : xm_Sc} : xm_bok (xe_cy (XE sc) 210) b_X12_bitsOf_24 := by show xm_bok cX12_bitsOf _; unfold xm_bok; decide +kernel
set_option maxRecDepth 20000 in
theorem cn_210 {sc : xm_Sc} : xe_cn (XE sc) 210 = 12 := rfl
set_option maxRecDepth 20000 in
theorem ml_210 {sc : xm_Sc} : xe_ml (XE sc) 210 = 4 := rfl
set_option maxRecDepth 20000 in
theorem ry_210 {sc : xm_Sc} : xe_ry (XE sc) 210 = (some .int) := rfl
set_option maxRecDepth 20000 in
theorem is_210 {sc : xm_Sc} : xe_is (XE sc) 210 = false := rfl
set_option maxRecDepth 20000 in
theorem np_210 {sc : xm_Sc} : xe_np (XE sc) 210 = 1 := rfl
/- method 211: X12_bound -/
def b_X12_bound_0 : List (Nat × Jvm.ClassFile.Instr × Nat) := [(0, .aload_n 0, 1), (1, .getfield 54, 3), (4, .iload_n 1, 1), (5, .iaload, 1), (6, .istore_n 2, 1), (7, .iload_n 2, 1), (8, .bipush 6, 2), (10, .if_icmp .gt 12, 3)]
set_option maxRecDepth 20000 in
theorem k_X12_bound_0 {sc : xm_Sc} : xm_bok (xe_cy (XE sc) 211) b_X12_bound_0 := by show xm_bok cX12_bound _; unfold xm_bok; decide +kernel
def b_X12_bound_13 : List (Nat × Jvm.ClassFile.Instr × Nat) := [(13, .aload_n 0, 1), (14, .getfield 57, 3), (17, .iload_n 1, 1), (18, .iaload, 1), (19, .goto 4, 3)]
set_option maxRecDepth 20000 in
theorem k_X12_bound_13 {sc : xm_Sc} : xm_bok (xe_cy (XE sc) 211) b_X12_bound_13 := by show xm_bok cX12_bound _; unfold xm_bok; decide +kernel
def b_X12_bound_22 : List (Nat × Jvm.ClassFile.Instr × Nat) := [(22, .iconst (-1), 1)]
set_option maxRecDepth 20000 in
theorem k_X12_bound_22 {sc : xm_Sc} : xm_bok (xe_cy (XE sc) 211) b_X12_bound_22 := by show xm_bok cX12_bound _; unfold xm_bok; decide +kernel
def b_X12_bound_23 : List (Nat × Jvm.ClassFile.Instr × Nat) := [(23, .istore_n 3, 1), (24, .iload_n 2, 1), (25, .iconst 2, 1), (26, .if_icmp .gt 12, 3)]
set_option maxRecDepth 20000 in
theorem k_X12_bound_23 {sc : xm_Sc} : xm_bok (xe_cy (XE sc) 211) b_X12_bound_23 := by show xm_bok cX12_bound _; unfold xm_bok; decide +kernel
def b_X12_bound_29 : List (Nat × Jvm.ClassFile.Instr × Nat) := [(29, .aload_n 0, 1), (30, .getfield 60, 3), (33, .iload_n 1, 1), (34, .iaload, 1), (35, .goto 4, 3)]
set_option maxRecDepth 20000 in
theorem k_X12_bound_29 {sc : xm_Sc} : xm_bok (xe_cy (XE sc) 211) b_X12_bound_29 := by show xm_bok cX12_bound _; unfold xm_bok; decide +kernel
def b_X12_bound_38 : List (Nat × Jvm.ClassFile.Instr × Nat) := [(38, .iconst (-1), 1)]
set_option maxRecDepth 20000 in
theorem k_X12_bound_38 {sc : xm_Sc} : xm_bok (xe_cy (XE sc) 211) b_X12_bound_38 := by show xm_bok cX12_bound _; unfold xm_bok; decide +kernel
def b_X12_bound_39 : List (Nat × Jvm.ClassFile.Instr × Nat) := [(39, .istore 4, 2), (41, .iload_n 3, 1), (42, .ifCond .lt 16, 3)]
set_option maxRecDepth 20000 in
theorem k_X12_bound_39 {sc : xm_Sc} : xm_bok (xe_cy (XE sc) 211) b_X12_bound_39 := by show xm_bok cX12_bound _; unfold xm_bok; decide +kernel
def b_X12_bound_45 : List (Nat × Jvm.ClassFile.Instr × Nat) := [(45, .aload_n 0, 1), (46, .getfield 54, 3), (49, .iload_n 3, 1), (50, .iaload, 1), (51, .bipush 11, 2), (53, .if_icmp .ne 5, 3)]
set_option maxRecDepth 20000 in
theorem k_X12_bound_45 {sc : xm_Sc} : xm_bok (xe_cy (XE sc) 211) b_X12_bound_45 := by show xm_bok cX12_bound _; unfold xm_bok; decide +kernel
def b_X12_bound_56 : List (Nat × Jvm.ClassFile.Instr × Nat) := [(56, .iconst (-1), 1), (57, .istore_n 3, 1)]
set_option maxRecDepth 20000 in
theorem k_X12_bound_56 {sc : xm_Sc} : xm_bok (xe_cy (XE sc) 211) b_X12_bound_56 := by show xm_bok cX12_bound _; unfold xm_bok; decide +kernel
def b_X12_bound_58 : List (Nat × Jvm.ClassFile.Instr × Nat) := [(58, .iload 4, 2), (60, .ifCond .lt 18, 3)]
set_option maxRecDepth 20000 in
theorem k_X12_bound_58 {sc : xm_Sc} : xm_bok (xe_cy (XE sc) 211) b_X12_bound_58 := by show xm_bok cX12_bound _; unfold xm_bok; decide +kernel
def b_X12_bound_63 : List (Nat × Jvm.ClassFile.Instr × Nat) := [(63, .aload_n 0, 1), (64, .getfield 54, 3), (67, .iload 4, 2), (69, .iaload, 1), (70, .bipush 11, 2), (72, .if_icmp .ne 6, 3)]
set_option maxRecDepth 20000 in
theorem k_X12_bound_63 {sc : xm_Sc} : xm_bok (xe_cy (XE sc) 211) b_X12_bound_63 := by show xm_bok cX12_bound _; unfold xm_bok; decide +kernel
def b_X12_bound_75 : List (Nat × Jvm.ClassFile.Instr × Nat) := [(75, .iconst (-1), 1), (76, .istore 4, 2)]
set_option maxRecDepth 20000 in
theorem k_X12_bound_75 {sc : xm_Sc} : xm_bok (xe_cy (XE sc) 211) b_X12_bound_75 := by show xm_bok cX12_bound _; unfold xm_bok; decide +kernel
def b_X12_bound_78 : List (Nat × Jvm.ClassFile.Instr × Nat) := [(78, .iload_n 3, 1), (79, .ifCond .ge 7, 3)]
set_option maxRecDepth 20000 in
theorem k_X12_bound_78 {sc : xm_Sc} : xm_bok (xe_cy (XE sc) 211) b_X12_bound_78 := by show xm_bok cX12_bound _; unfold xm_bok; decide +kernel
def b_X12_bound_82 : List (Nat × Jvm.ClassFile.Instr × Nat) := [(82, .lconst 0, 1), (83, .goto 9, 3)]
set_option maxRecDepth 20000 in
theorem k_X12_bound_82 {sc : xm_Sc} : xm_bok (xe_cy (XE sc) 211) b_X12_bound_82 := by show xm_bok cX12_bound _; unfold xm_bok; decide +kernel
def b_X12_bound_86 : List (Nat × Jvm.ClassFile.Instr × Nat) := [(86, .aload_n 0, 1), (87, .getfield 78, 3), (90, .iload_n 3, 1), (91, .laload, 1)]
set_option maxRecDepth 20000 in
theorem k_X12_bound_86 {sc : xm_Sc} : xm_bok (xe_cy (XE sc) 211) b_X12_bound_86 := by show xm_bok cX12_bound _; unfold xm_bok; decide +kernel
def b_X12_bound_92 : List (Nat × Jvm.ClassFile.Instr × Nat) := [(92, .iload 4, 2), (94, .ifCond .ge 7, 3)]
set_option maxRecDepth 20000 in
theorem k_X12_bound_92 {sc : xm_Sc} : xm_bok (xe_cy (XE sc) 211) b_X12_bound_92 := by show xm_bok cX12_bound _; unfold xm_bok; decide +kernel
def b_X12_bound_97 : List (Nat × Jvm.ClassFile.Instr × Nat) := [(97, .lconst 0, 1), (98, .goto 10, 3)]
set_option maxRecDepth 20000 in
theorem k_X12_bound_97 {sc : xm_Sc} : xm_bok (xe_cy (XE sc) 211) b_X12_bound_97 := by show xm_bok cX12_bound _; unfold xm_bok; decide +kernel
def b_X12_bound_101 : List (Nat × Jvm.ClassFile.Instr × Nat) := [(101, .aload_n 0, 1), (102, .getfield 78, 3), (105, .iload 4, 2), (107, .laload, 1)]
set_option maxRecDepth 20000 in
theorem k_X12_bound_101 {sc : xm_Sc} : xm_bok (xe_cy (XE sc) 211) b_X12_bound_101 := by show xm_bok cX12_bound _; unfold xm_bok; decide +kernel
def b_X12_bound_108 : List (Nat × Jvm.ClassFile.Instr × Nat) := [(108, .invokestatic 396, 3)]
set_option maxRecDepth 20000 in
theorem k_X12_bound_108 {sc : xm_Sc} : xm_bok (xe_cy (XE sc) 211) b_X12_bound_108 := by show xm_bok cX12_bound _; unfold xm_bok; decide +kernel
def b_X12_bound_111 : List (Nat × Jvm.ClassFile.Instr × Nat) := [(111, .lstore 5, 2), (113, .iload_n 3, 1), (114, .ifCond .ge 7, 3)]
set_option maxRecDepth 20000 in
theorem k_X12_bound_111 {sc : xm_Sc} : xm_bok (xe_cy (XE sc) 211) b_X12_bound_111 := by show xm_bok cX12_bound _; unfold xm_bok; decide +kernel
def b_X12_bound_117 : List (Nat × Jvm.ClassFile.Instr × Nat) := [(117, .lconst 0, 1), (118, .goto 9, 3)]
set_option maxRecDepth 20000 in
theorem k_X12_bound_117 {sc : xm_Sc} : xm_bok (xe_cy (XE sc) 211) b_X12_bound_117 := by show xm_bok cX12_bound _; unfold xm_bok; decide +kernel
def b_X12_bound_121 : List (Nat × Jvm.ClassFile.Instr × Nat) := [(121, .aload_n 0, 1), (122, .getfield 82, 3), (125, .iload_n 3, 1), (126, .laload, 1)]
set_option maxRecDepth 20000 in
theorem k_X12_bound_121 {sc : xm_Sc} : xm_bok (xe_cy (XE sc) 211) b_X12_bound_121 := by show xm_bok cX12_bound _; unfold xm_bok; decide +kernel
def b_X12_bound_127 : List (Nat × Jvm.ClassFile.Instr × Nat) := [(127, .iload 4, 2), (129, .ifCond .ge 7, 3)]
set_option maxRecDepth 20000 in
theorem k_X12_bound_127 {sc : xm_Sc} : xm_bok (xe_cy (XE sc) 211) b_X12_bound_127 := by show xm_bok cX12_bound _; unfold xm_bok; decide +kernel
def b_X12_bound_132 : List (Nat × Jvm.ClassFile.Instr × Nat) := [(132, .lconst 0, 1), (133, .goto 10, 3)]
set_option maxRecDepth 20000 in
theorem k_X12_bound_132 {sc : xm_Sc} : xm_bok (xe_cy (XE sc) 211) b_X12_bound_132 := by show xm_bok cX12_bound _; unfold xm_bok; decide +kernel
def b_X12_bound_136 : List (Nat × Jvm.ClassFile.Instr × Nat) := [(136, .aload_n 0, 1), (137, .getfield 82, 3), (140, .iload 4, 2), (142, .laload, 1)]
set_option maxRecDepth 20000 in
theorem k_X12_bound_136 {sc : xm_Sc} : xm_bok (xe_cy (XE sc) 211) b_X12_bound_136 := by show xm_bok cX12_bound _; unfold xm_bok; decide +kernel
def b_X12_bound_143 : List (Nat × Jvm.ClassFile.Instr × Nat) := [(143, .invokestatic 396, 3)]
set_option maxRecDepth 20000 in
theorem k_X12_bound_143 {sc : xm_Sc} : xm_bok (xe_cy (XE sc) 211) b_X12_bound_143 := by show xm_bok cX12_bound _; unfold xm_bok; decide +kernel
def b_X12_bound_146 : List (Nat × Jvm.ClassFile.Instr × Nat) := [(146, .lstore 7, 2), (148, .iload_n 3, 1), (149, .ifCond .ge 7, 3)]
set_option maxRecDepth 20000 in
theorem k_X12_bound_146 {sc : xm_Sc} : xm_bok (xe_cy (XE sc) 211) b_X12_bound_146 := by show xm_bok cX12_bound _; unfold xm_bok; decide +kernel
def b_X12_bound_152 : List (Nat × Jvm.ClassFile.Instr × Nat) := [(152, .lconst 0, 1), (153, .goto 9, 3)]
set_option maxRecDepth 20000 in
theorem k_X12_bound_152 {sc : xm_Sc} : xm_bok (xe_cy (XE sc) 211) b_X12_bound_152 := by show xm_bok cX12_bound _; unfold xm_bok; decide +kernel
def b_X12_bound_156 : List (Nat × Jvm.ClassFile.Instr × Nat) := [(156, .aload_n 0, 1), (157, .getfield 85, 3), (160, .iload_n 3, 1), (161, .laload, 1)]
set_option maxRecDepth 20000 in
theorem k_X12_bound_156 {sc : xm_Sc} : xm_bok (xe_cy (XE sc) 211) b_X12_bound_156 := by show xm_bok cX12_bound _; unfold xm_bok; decide +kernel
def b_X12_bound_162 : List (Nat × Jvm.ClassFile.Instr × Nat) := [(162, .lstore 9, 2), (164, .iload 4, 2), (166, .ifCond .ge 7, 3)]
set_option maxRecDepth 20000 in
theorem k_X12_bound_162 {sc : xm_Sc} : xm_bok (xe_cy (XE sc) 211) b_X12_bound_162 := by show xm_bok cX12_bound _; unfold xm_bok; decide +kernel
def b_X12_bound_169 : List (Nat × Jvm.ClassFile.Instr × Nat) := [(169, .lconst 0, 1), (170, .goto 10, 3)]
set_option maxRecDepth 20000 in
theorem k_X12_bound_169 {sc : xm_Sc} : xm_bok (xe_cy (XE sc) 211) b_X12_bound_169 := by show xm_bok cX12_bound _; unfold xm_bok; decide +kernel
def b_X12_bound_173 : List (Nat × Jvm.ClassFile.Instr × Nat) := [(173, .aload_n 0, 1), (174, .getfield 85, 3), (177, .iload 4, 2), (179, .laload, 1)]
set_option maxRecDepth 20000 in
theorem k_X12_bound_173 {sc : xm_Sc} : xm_bok (xe_cy (XE sc) 211) b_X12_bound_173 := by show xm_bok cX12_bound _; unfold xm_bok; decide +kernel
def b_X12_bound_180 : List (Nat × Jvm.ClassFile.Instr × Nat) := [(180, .lstore 11, 2), (182, .lconst 1, 1), (183, .iload_n 2, 1), (184, .iconst 1, 1), (185, .if_icmp .ne 13, 3)]
set_option maxRecDepth 20000 in
theorem k_X12_bound_180 {sc : xm_Sc} : xm_bok (xe_cy (XE sc) 211) b_X12_bound_180 := by show xm_bok cX12_bound _; unfold xm_bok; decide +kernel
def b_X12_bound_188 : List (Nat × Jvm.ClassFile.Instr × Nat) := [(188, .lload 9, 2), (190, .lload 11, 2), (192, .invokestatic 396, 3)]
set_option maxRecDepth 20000 in
theorem k_X12_bound_188 {sc : xm_Sc} : xm_bok (xe_cy (XE sc) 211) b_X12_bound_188 := by show xm_bok cX12_bound _; unfold xm_bok; decide +kernel
def b_X12_bound_195 : List (Nat × Jvm.ClassFile.Instr × Nat) := [(195, .goto 8, 3)]
set_option maxRecDepth 20000 in
theorem k_X12_bound_195 {sc : xm_Sc} : xm_bok (xe_cy (XE sc) 211) b_X12_bound_195 := by show xm_bok cX12_bound _; unfold xm_bok; decide +kernel
def b_X12_bound_198 : List (Nat × Jvm.ClassFile.Instr × Nat) := [(198, .lload 9, 2), (200, .lload 11, 2), (202, .ladd, 1)]
set_option maxRecDepth 20000 in
theorem k_X12_bound_198 {sc : xm_Sc} : xm_bok (xe_cy (XE sc) 211) b_X12_bound_198 := by show xm_bok cX12_bound _; unfold xm_bok; decide +kernel
def b_X12_bound_203 : List (Nat × Jvm.ClassFile.Instr × Nat) := [(203, .ladd, 1), (204, .lstore 13, 2), (206, .iload_n 2, 1), (207, .ifCond .ne 20, 3)]
set_option maxRecDepth 20000 in
theorem k_X12_bound_203 {sc : xm_Sc} : xm_bok (xe_cy (XE sc) 211) b_X12_bound_203 := by show xm_bok cX12_bound _; unfold xm_bok; decide +kernel
def b_X12_bound_210 : List (Nat × Jvm.ClassFile.Instr × Nat) := [(210, .lload 5, 2), (212, .aload_n 0, 1), (213, .iload_n 3, 1), (214, .invokevirtual 400, 3)]
set_option maxRecDepth 20000 in
theorem k_X12_bound_210 {sc : xm_Sc} : xm_bok (xe_cy (XE sc) 211) b_X12_bound_210 := by show xm_bok cX12_bound _; unfold xm_bok; decide +kernel
def b_X12_bound_217 : List (Nat × Jvm.ClassFile.Instr × Nat) := [(217, .i2l, 1), (218, .ladd, 1), (219, .lstore 5, 2), (221, .lload 7, 2), (223, .lconst 1, 1), (224, .ladd, 1), (225, .lstore 7, 2)]
set_option maxRecDepth 20000 in
theorem k_X12_bound_217 {sc : xm_Sc} : xm_bok (xe_cy (XE sc) 211) b_X12_bound_217 := by show xm_bok cX12_bound _; unfold xm_bok; decide +kernel
def b_X12_bound_227 : List (Nat × Jvm.ClassFile.Instr × Nat) := [(227, .iload_n 2, 1), (228, .bipush 11, 2), (230, .if_icmp .ne 6, 3)]
set_option maxRecDepth 20000 in
theorem k_X12_bound_227 {sc : xm_Sc} : xm_bok (xe_cy (XE sc) 211) b_X12_bound_227 := by show xm_bok cX12_bound _; unfold xm_bok; decide +kernel
def b_X12_bound_233 : List (Nat × Jvm.ClassFile.Instr × Nat) := [(233, .lconst 0, 1), (234, .lstore 13, 2)]
set_option maxRecDepth 20000 in
theorem k_X12_bound_233 {sc : xm_Sc} : xm_bok (xe_cy (XE sc) 211) b_X12_bound_233 := by show xm_bok cX12_bound _; unfold xm_bok; decide +kernel
def b_X12_bound_236 : List (Nat × Jvm.ClassFile.Instr × Nat) := [(236, .iload_n 2, 1), (237, .bipush 7, 2), (239, .if_icmp .ne 14, 3)]
set_option maxRecDepth 20000 in
theorem k_X12_bound_236 {sc : xm_Sc} : xm_bok (xe_cy (XE sc) 211) b_X12_bound_236 := by show xm_bok cX12_bound _; unfold xm_bok; decide +kernel
def b_X12_bound_242 : List (Nat × Jvm.ClassFile.Instr × Nat) := [(242, .lload 13, 2), (244, .aload_n 0, 1), (245, .iload_n 1, 1), (246, .invokevirtual 403, 3)]
set_option maxRecDepth 20000 in
theorem k_X12_bound_242 {sc : xm_Sc} : xm_bok (xe_cy (XE sc) 211) b_X12_bound_242 := by show xm_bok cX12_bound _; unfold xm_bok; decide +kernel
def b_X12_bound_249 : List (Nat × Jvm.ClassFile.Instr × Nat) := [(249, .i2l, 1), (250, .ladd, 1), (251, .lstore 13, 2)]
set_option maxRecDepth 20000 in
theorem k_X12_bound_249 {sc : xm_Sc} : xm_bok (xe_cy (XE sc) 211) b_X12_bound_249 := by show xm_bok cX12_bound _; unfold xm_bok; decide +kernel
def b_X12_bound_253 : List (Nat × Jvm.ClassFile.Instr × Nat) := [(253, .iload_n 2, 1), (254, .bipush 10, 2), (256, .if_icmp .ne 14, 3)]
set_option maxRecDepth 20000 in
theorem k_X12_bound_253 {sc : xm_Sc} : xm_bok (xe_cy (XE sc) 211) b_X12_bound_253 := by show xm_bok cX12_bound _; unfold xm_bok; decide +kernel
def b_X12_bound_259 : List (Nat × Jvm.ClassFile.Instr × Nat) := [(259, .lload 13, 2), (261, .aload_n 0, 1), (262, .iload_n 1, 1), (263, .invokevirtual 400, 3)]
set_option maxRecDepth 20000 in
theorem k_X12_bound_259 {sc : xm_Sc} : xm_bok (xe_cy (XE sc) 211) b_X12_bound_259 := by show xm_bok cX12_bound _; unfold xm_bok; decide +kernel
def b_X12_bound_266 : List (Nat × Jvm.ClassFile.Instr × Nat) := [(266, .i2l, 1), (267, .ladd, 1), (268, .lstore 13, 2)]
set_option maxRecDepth 20000 in
theorem k_X12_bound_266 {sc : xm_Sc} : xm_bok (xe_cy (XE sc) 211) b_X12_bound_266 := by show xm_bok cX12_bound _; unfold xm_bok; decide +kernel
def b_X12_bound_270 : List (Nat × Jvm.ClassFile.Instr × Nat) := [(270, .iload_n 2, 1), (271, .bipush 12, 2), (273, .if_icmp .ne 20, 3)]
set_option maxRecDepth 20000 in
theorem k_X12_bound_270 {sc : xm_Sc} : xm_bok (xe_cy (XE sc) 211) b_X12_bound_270 := by show xm_bok cX12_bound _; unfold xm_bok; decide +kernel
def b_X12_bound_276 : List (Nat × Jvm.ClassFile.Instr × Nat) := [(276, .lload 13, 2), (278, .aload_n 0, 1), (279, .iload_n 1, 1), (280, .invokevirtual 403, 3)]
set_option maxRecDepth 20000 in
theorem k_X12_bound_276 {sc : xm_Sc} : xm_bok (xe_cy (XE sc) 211) b_X12_bound_276 := by show xm_bok cX12_bound _; unfold xm_bok; decide +kernel
def b_X12_bound_283 : List (Nat × Jvm.ClassFile.Instr × Nat) := [(283, .aload_n 0, 1), (284, .iload_n 1, 1), (285, .invokevirtual 400, 3)]
set_option maxRecDepth 20000 in
theorem k_X12_bound_283 {sc : xm_Sc} : xm_bok (xe_cy (XE sc) 211) b_X12_bound_283 := by show xm_bok cX12_bound _; unfold xm_bok; decide +kernel
def b_X12_bound_288 : List (Nat × Jvm.ClassFile.Instr × Nat) := [(288, .iadd, 1), (289, .i2l, 1), (290, .ladd, 1), (291, .lstore 13, 2)]
set_option maxRecDepth 20000 in
theorem k_X12_bound_288 {sc : xm_Sc} : xm_bok (xe_cy (XE sc) 211) b_X12_bound_288 := by show xm_bok cX12_bound _; unfold xm_bok; decide +kernel
def b_X12_bound_293 : List (Nat × Jvm.ClassFile.Instr × Nat) := [(293, .aload_n 0, 1), (294, .getfield 78, 3), (297, .iload_n 1, 1), (298, .lload 5, 2), (300, .invokestatic 406, 3)]
set_option maxRecDepth 20000 in
theorem k_X12_bound_293 {sc : xm_Sc} : xm_bok (xe_cy (XE sc) 211) b_X12_bound_293 := by show xm_bok cX12_bound _; unfold xm_bok; decide +kernel
def b_X12_bound_303 : List (Nat × Jvm.ClassFile.Instr × Nat) := [(303, .lastore, 1), (304, .aload_n 0, 1), (305, .getfield 82, 3), (308, .iload_n 1, 1), (309, .lload 7, 2), (311, .invokestatic 406, 3)]
set_option maxRecDepth 20000 in
theorem k_X12_bound_303 {sc : xm_Sc} : xm_bok (xe_cy (XE sc) 211) b_X12_bound_303 := by show xm_bok cX12_bound _; unfold xm_bok; decide +kernel
def b_X12_bound_314 : List (Nat × Jvm.ClassFile.Instr × Nat) := [(314, .lastore, 1), (315, .aload_n 0, 1), (316, .getfield 85, 3), (319, .iload_n 1, 1), (320, .lload 13, 2), (322, .invokestatic 406, 3)]
set_option maxRecDepth 20000 in
theorem k_X12_bound_314 {sc : xm_Sc} : xm_bok (xe_cy (XE sc) 211) b_X12_bound_314 := by show xm_bok cX12_bound _; unfold xm_bok; decide +kernel
def b_X12_bound_325 : List (Nat × Jvm.ClassFile.Instr × Nat) := [(325, .lastore, 1), (326, .return_, 1)]
set_option maxRecDepth 20000 in
theorem k_X12_bound_325 {sc : xm_Sc} : xm_bok (xe_cy (XE sc) 211) b_X12_bound_325 := by show xm_bok cX12_bound _; unfold xm_bok; decide +kernel
set_option maxRecDepth 20000 in
theorem cn_211 {sc : xm_Sc} : xe_cn (XE sc) 211 = 12 := rfl
set_option maxRecDepth 20000 in
theorem ml_211 {sc : xm_Sc} : xe_ml (XE sc) 211 = 15 := rfl
set_option maxRecDepth 20000 in
theorem ry_211 {sc : xm_Sc} : xe_ry (XE sc) 211 = none := rfl
set_option maxRecDepth 20000 in
theorem is_211 {sc : xm_Sc} : xe_is (XE sc) 211 = false := rfl
set_option maxRecDepth 20000 in
theorem np_211 {sc : xm_Sc} : xe_np (XE sc) 211 = 1 := rfl
/- method 212: X12_caseTypes -/
def b_X12_caseTypes_0 : List (Nat × Jvm.ClassFile.Instr × Nat) := [(0, .aload_n 0, 1), (1, .invokevirtual 246, 3)]
set_option maxRecDepth 20000 in
theorem k_X12_caseTypes_0 {sc : xm_Sc} : xm_bok (xe_cy (XE sc) 212) b_X12_caseTypes_0 := by show xm_bok cX12_caseTypes _; unfold xm_bok; decide +kernel
def b_X12_caseTypes_4 : List (Nat × Jvm.ClassFile.Instr × Nat) := [(4, .istore_n 2, 1), (5, .aload_n 0, 1), (6, .invokevirtual 246, 3)]
set_option maxRecDepth 20000 in
theorem k_X12_caseTypes_4 {sc : xm_Sc} : xm_bok (xe_cy (XE sc) 212) b_X12_caseTypes_4 := by show xm_bok cX12_caseTypes _; unfold xm_bok; decide +kernel
def b_X12_caseTypes_9 : List (Nat × Jvm.ClassFile.Instr × Nat) := [(9, .istore_n 3, 1), (10, .aload_n 0, 1), (11, .invokevirtual 246, 3)]
set_option maxRecDepth 20000 in
theorem k_X12_caseTypes_9 {sc : xm_Sc} : xm_bok (xe_cy (XE sc) 212) b_X12_caseTypes_9 := by show xm_bok cX12_caseTypes _; unfold xm_bok; decide +kernel
def b_X12_caseTypes_14 : List (Nat × Jvm.ClassFile.Instr × Nat) := [(14, .istore 4, 2), (16, .aload_n 0, 1), (17, .getfield 19, 3), (20, .iload_n 1, 1), (21, .iaload, 1), (22, .istore 5, 2), (24, .aload_n 0, 1), (25, .getfield 22, 3), (28, .iload_n 1, 1), (29, .iaload, 1), (30, .istore 6, 2), (32, .aload_n 0, 1), (33, .getfield 34, 3), (36, .iload_n 1, 1), (37, .aload_n 0, 1), (38, .iconst 3, 1), (39, .aload_n 0, 1), (40, .iconst 2, 1), (41, .iload_n 2, 1), (42, .iload_n 3, 1), (43, .invokevirtual 236, 3)]
set_option maxRecDepth 20000 in
theorem k_X12_caseTypes_14 {sc : xm_Sc} : xm_bok (xe_cy (XE sc) 212) b_X12_caseTypes_14 := by show xm_bok cX12_caseTypes _; unfold xm_bok; decide +kernel
def b_X12_caseTypes_46 : List (Nat × Jvm.ClassFile.Instr × Nat) := [(46, .iload 4, 2), (48, .invokevirtual 236, 3)]
set_option maxRecDepth 20000 in
theorem k_X12_caseTypes_46 {sc : xm_Sc} : xm_bok (xe_cy (XE sc) 212) b_X12_caseTypes_46 := by show xm_bok cX12_caseTypes _; unfold xm_bok; decide +kernel
def b_X12_caseTypes_51 : List (Nat × Jvm.ClassFile.Instr × Nat) := [(51, .iastore, 1), (52, .iconst 1, 1), (53, .istore 7, 2), (55, .aload_n 0, 1), (56, .getfield 16, 3), (59, .iload 5, 2), (61, .iaload, 1), (62, .bipush 11, 2), (64, .if_icmp .eq 24, 3)]
set_option maxRecDepth 20000 in
theorem k_X12_caseTypes_51 {sc : xm_Sc} : xm_bok (xe_cy (XE sc) 212) b_X12_caseTypes_51 := by show xm_bok cX12_caseTypes _; unfold xm_bok; decide +kernel
def b_X12_caseTypes_67 : List (Nat × Jvm.ClassFile.Instr × Nat) := [(67, .aload_n 0, 1), (68, .aload_n 0, 1), (69, .getfield 34, 3), (72, .iload 5, 2), (74, .iaload, 1), (75, .aload_n 0, 1), (76, .iconst 3, 1), (77, .iload_n 2, 1), (78, .iload 4, 2), (80, .invokevirtual 236, 3)]
set_option maxRecDepth 20000 in
theorem k_X12_caseTypes_67 {sc : xm_Sc} : xm_bok (xe_cy (XE sc) 212) b_X12_caseTypes_67 := by show xm_bok cX12_caseTypes _; unfold xm_bok; decide +kernel
def b_X12_caseTypes_83 : List (Nat × Jvm.ClassFile.Instr × Nat) := [(83, .invokevirtual 250, 3)]
set_option maxRecDepth 20000 in
theorem k_X12_caseTypes_83 {sc : xm_Sc} : xm_bok (xe_cy (XE sc) 212) b_X12_caseTypes_83 := by show xm_bok cX12_caseTypes _; unfold xm_bok; decide +kernel
def b_X12_caseTypes_86 : List (Nat × Jvm.ClassFile.Instr × Nat) := [(86, .istore 7, 2)]
set_option maxRecDepth 20000 in
theorem k_X12_caseTypes_86 {sc : xm_Sc} : xm_bok (xe_cy (XE sc) 212) b_X12_caseTypes_86 := by show xm_bok cX12_caseTypes _; unfold xm_bok; decide +kernel
def b_X12_caseTypes_88 : List (Nat × Jvm.ClassFile.Instr × Nat) := [(88, .aload_n 0, 1), (89, .getfield 16, 3), (92, .iload 6, 2), (94, .iaload, 1), (95, .bipush 11, 2), (97, .if_icmp .eq 37, 3)]
set_option maxRecDepth 20000 in
theorem k_X12_caseTypes_88 {sc : xm_Sc} : xm_bok (xe_cy (XE sc) 212) b_X12_caseTypes_88 := by show xm_bok cX12_caseTypes _; unfold xm_bok; decide +kernel
def b_X12_caseTypes_100 : List (Nat × Jvm.ClassFile.Instr × Nat) := [(100, .iload 7, 2), (102, .ifCond .eq 29, 3)]
set_option maxRecDepth 20000 in
theorem k_X12_caseTypes_100 {sc : xm_Sc} : xm_bok (xe_cy (XE sc) 212) b_X12_caseTypes_100 := by show xm_bok cX12_caseTypes _; unfold xm_bok; decide +kernel
def b_X12_caseTypes_105 : List (Nat × Jvm.ClassFile.Instr × Nat) := [(105, .aload_n 0, 1), (106, .aload_n 0, 1), (107, .getfield 34, 3), (110, .iload 6, 2), (112, .iaload, 1), (113, .aload_n 0, 1), (114, .iconst 3, 1), (115, .iload_n 3, 1), (116, .iload 4, 2), (118, .invokevirtual 236, 3)]
set_option maxRecDepth 20000 in
theorem k_X12_caseTypes_105 {sc : xm_Sc} : xm_bok (xe_cy (XE sc) 212) b_X12_caseTypes_105 := by show xm_bok cX12_caseTypes _; unfold xm_bok; decide +kernel
def b_X12_caseTypes_121 : List (Nat × Jvm.ClassFile.Instr × Nat) := [(121, .invokevirtual 250, 3)]
set_option maxRecDepth 20000 in
theorem k_X12_caseTypes_121 {sc : xm_Sc} : xm_bok (xe_cy (XE sc) 212) b_X12_caseTypes_121 := by show xm_bok cX12_caseTypes _; unfold xm_bok; decide +kernel
def b_X12_caseTypes_124 : List (Nat × Jvm.ClassFile.Instr × Nat) := [(124, .ifCond .eq 7, 3)]
set_option maxRecDepth 20000 in
theorem k_X12_caseTypes_124 {sc : xm_Sc} : xm_bok (xe_cy (XE sc) 212) b_X12_caseTypes_124 := by show xm_bok cX12_caseTypes _; unfold xm_bok; decide +kernel
def b_X12_caseTypes_127 : List (Nat × Jvm.ClassFile.Instr × Nat) := [(127, .iconst 1, 1), (128, .goto 4, 3)]
set_option maxRecDepth 20000 in
theorem k_X12_caseTypes_127 {sc : xm_Sc} : xm_bok (xe_cy (XE sc) 212) b_X12_caseTypes_127 := by show xm_bok cX12_caseTypes _; unfold xm_bok; decide +kernel
def b_X12_caseTypes_131 : List (Nat × Jvm.ClassFile.Instr × Nat) := [(131, .iconst 0, 1)]
set_option maxRecDepth 20000 in
theorem k_X12_caseTypes_131 {sc : xm_Sc} : xm_bok (xe_cy (XE sc) 212) b_X12_caseTypes_131 := by show xm_bok cX12_caseTypes _; unfold xm_bok; decide +kernel
def b_X12_caseTypes_132 : List (Nat × Jvm.ClassFile.Instr × Nat) := [(132, .istore 7, 2)]
set_option maxRecDepth 20000 in
theorem k_X12_caseTypes_132 {sc : xm_Sc} : xm_bok (xe_cy (XE sc) 212) b_X12_caseTypes_132 := by show xm_bok cX12_caseTypes _; unfold xm_bok; decide +kernel
def b_X12_caseTypes_134 : List (Nat × Jvm.ClassFile.Instr × Nat) := [(134, .aload_n 0, 1), (135, .getfield 16, 3), (138, .iload 5, 2), (140, .iaload, 1), (141, .bipush 11, 2), (143, .if_icmp .eq 48, 3)]
set_option maxRecDepth 20000 in
theorem k_X12_caseTypes_134 {sc : xm_Sc} : xm_bok (xe_cy (XE sc) 212) b_X12_caseTypes_134 := by show xm_bok cX12_caseTypes _; unfold xm_bok; decide +kernel
def b_X12_caseTypes_146 : List (Nat × Jvm.ClassFile.Instr × Nat) := [(146, .aload_n 0, 1), (147, .getfield 16, 3), (150, .iload 6, 2), (152, .iaload, 1), (153, .bipush 11, 2), (155, .if_icmp .eq 36, 3)]
set_option maxRecDepth 20000 in
theorem k_X12_caseTypes_146 {sc : xm_Sc} : xm_bok (xe_cy (XE sc) 212) b_X12_caseTypes_146 := by show xm_bok cX12_caseTypes _; unfold xm_bok; decide +kernel
def b_X12_caseTypes_158 : List (Nat × Jvm.ClassFile.Instr × Nat) := [(158, .iload 7, 2), (160, .ifCond .eq 28, 3)]
set_option maxRecDepth 20000 in
theorem k_X12_caseTypes_158 {sc : xm_Sc} : xm_bok (xe_cy (XE sc) 212) b_X12_caseTypes_158 := by show xm_bok cX12_caseTypes _; unfold xm_bok; decide +kernel
def b_X12_caseTypes_163 : List (Nat × Jvm.ClassFile.Instr × Nat) := [(163, .aload_n 0, 1), (164, .aload_n 0, 1), (165, .getfield 37, 3), (168, .iload 5, 2), (170, .iaload, 1), (171, .aload_n 0, 1), (172, .getfield 37, 3), (175, .iload 6, 2), (177, .iaload, 1), (178, .invokevirtual 250, 3)]
set_option maxRecDepth 20000 in
theorem k_X12_caseTypes_163 {sc : xm_Sc} : xm_bok (xe_cy (XE sc) 212) b_X12_caseTypes_163 := by show xm_bok cX12_caseTypes _; unfold xm_bok; decide +kernel
def b_X12_caseTypes_181 : List (Nat × Jvm.ClassFile.Instr × Nat) := [(181, .ifCond .eq 7, 3)]
set_option maxRecDepth 20000 in
theorem k_X12_caseTypes_181 {sc : xm_Sc} : xm_bok (xe_cy (XE sc) 212) b_X12_caseTypes_181 := by show xm_bok cX12_caseTypes _; unfold xm_bok; decide +kernel
def b_X12_caseTypes_184 : List (Nat × Jvm.ClassFile.Instr × Nat) := [(184, .iconst 1, 1), (185, .goto 4, 3)]
set_option maxRecDepth 20000 in
theorem k_X12_caseTypes_184 {sc : xm_Sc} : xm_bok (xe_cy (XE sc) 212) b_X12_caseTypes_184 := by show xm_bok cX12_caseTypes _; unfold xm_bok; decide +kernel
def b_X12_caseTypes_188 : List (Nat × Jvm.ClassFile.Instr × Nat) := [(188, .iconst 0, 1)]
set_option maxRecDepth 20000 in
theorem k_X12_caseTypes_188 {sc : xm_Sc} : xm_bok (xe_cy (XE sc) 212) b_X12_caseTypes_188 := by show xm_bok cX12_caseTypes _; unfold xm_bok; decide +kernel
def b_X12_caseTypes_189 : List (Nat × Jvm.ClassFile.Instr × Nat) := [(189, .istore 7, 2)]
set_option maxRecDepth 20000 in
theorem k_X12_caseTypes_189 {sc : xm_Sc} : xm_bok (xe_cy (XE sc) 212) b_X12_caseTypes_189 := by show xm_bok cX12_caseTypes _; unfold xm_bok; decide +kernel
def b_X12_caseTypes_191 : List (Nat × Jvm.ClassFile.Instr × Nat) := [(191, .aload_n 0, 1), (192, .getfield 37, 3), (195, .iload_n 1, 1), (196, .aload_n 0, 1), (197, .getfield 16, 3), (200, .iload 5, 2), (202, .iaload, 1), (203, .bipush 11, 2), (205, .if_icmp .eq 13, 3)]
set_option maxRecDepth 20000 in
theorem k_X12_caseTypes_191 {sc : xm_Sc} : xm_bok (xe_cy (XE sc) 212) b_X12_caseTypes_191 := by show xm_bok cX12_caseTypes _; unfold xm_bok; decide +kernel
def b_X12_caseTypes_208 : List (Nat × Jvm.ClassFile.Instr × Nat) := [(208, .aload_n 0, 1), (209, .getfield 37, 3), (212, .iload 5, 2), (214, .iaload, 1), (215, .goto 10, 3)]
set_option maxRecDepth 20000 in
theorem k_X12_caseTypes_208 {sc : xm_Sc} : xm_bok (xe_cy (XE sc) 212) b_X12_caseTypes_208 := by show xm_bok cX12_caseTypes _; unfold xm_bok; decide +kernel
def b_X12_caseTypes_218 : List (Nat × Jvm.ClassFile.Instr × Nat) := [(218, .aload_n 0, 1), (219, .getfield 37, 3), (222, .iload 6, 2), (224, .iaload, 1)]
set_option maxRecDepth 20000 in
theorem k_X12_caseTypes_218 {sc : xm_Sc} : xm_bok (xe_cy (XE sc) 212) b_X12_caseTypes_218 := by show xm_bok cX12_caseTypes _; unfold xm_bok; decide +kernel
def b_X12_caseTypes_225 : List (Nat × Jvm.ClassFile.Instr × Nat) := [(225, .iastore, 1), (226, .iload 7, 2), (228, .ireturn, 1)]
set_option maxRecDepth 20000 in
theorem k_X12_caseTypes_225 {sc : xm_Sc} : xm_bok (xe_cy (XE sc) 212) b_X12_caseTypes_225 := by show xm_bok cX12_caseTypes _; unfold xm_bok; decide +kernel
set_option maxRecDepth 20000 in
theorem cn_212 {sc : xm_Sc} : xe_cn (XE sc) 212 = 12 := rfl
set_option maxRecDepth 20000 in
theorem ml_212 {sc : xm_Sc} : xe_ml (XE sc) 212 = 8 := rfl
set_option maxRecDepth 20000 in
theorem ry_212 {sc : xm_Sc} : xe_ry (XE sc) 212 = (some .boolean) := rfl
set_option maxRecDepth 20000 in
theorem is_212 {sc : xm_Sc} : xe_is (XE sc) 212 = false := rfl
set_option maxRecDepth 20000 in
theorem np_212 {sc : xm_Sc} : xe_np (XE sc) 212 = 1 := rfl
/- method 213: X12_cell -/
def b_X12_cell_0 : List (Nat × Jvm.ClassFile.Instr × Nat) := [(0, .aload_n 0, 1), (1, .getfield 118, 3), (4, .aload_n 0, 1), (5, .getfield 233, 3), (8, .iload_n 1, 1), (9, .iastore, 1), (10, .aload_n 0, 1), (11, .getfield 121, 3), (14, .aload_n 0, 1), (15, .getfield 233, 3), (18, .iload_n 2, 1), (19, .iastore, 1), (20, .aload_n 0, 1), (21, .getfield 124, 3), (24, .aload_n 0, 1), (25, .getfield 233, 3), (28, .iload_n 3, 1), (29, .iastore, 1), (30, .aload_n 0, 1), (31, .getfield 127, 3), (34, .aload_n 0, 1), (35, .getfield 233, 3), (38, .aload_n 0, 1), (39, .getfield 233, 3), (42, .iastore, 1), (43, .aload_n 0, 1), (44, .dup, 1), (45, .getfield 233, 3), (48, .iconst 1, 1), (49, .iadd, 1), (50, .putfield 233, 3), (53, .aload_n 0, 1), (54, .getfield 233, 3), (57, .iconst 1, 1), (58, .isub, 1), (59, .ireturn, 1)]
set_option maxRecDepth 20000 in
theorem k_X12_cell_0 {sc : xm_Sc} : xm_bok (xe_cy (XE sc) 213) b_X12_cell_0 := by show xm_bok cX12_cell _; unfold xm_bok; decide +kernel
set_option maxRecDepth 20000 in
theorem cn_213 {sc : xm_Sc} : xe_cn (XE sc) 213 = 12 := rfl
set_option maxRecDepth 20000 in
theorem ml_213 {sc : xm_Sc} : xe_ml (XE sc) 213 = 4 := rfl
set_option maxRecDepth 20000 in
theorem ry_213 {sc : xm_Sc} : xe_ry (XE sc) 213 = (some .int) := rfl
set_option maxRecDepth 20000 in
theorem is_213 {sc : xm_Sc} : xe_is (XE sc) 213 = false := rfl
set_option maxRecDepth 20000 in
theorem np_213 {sc : xm_Sc} : xe_np (XE sc) 213 = 3 := rfl
/- method 214: X12_childOf -/
def b_X12_childOf_0 : List (Nat × Jvm.ClassFile.Instr × Nat) := [(0, .iload_n 2, 1), (1, .ifCond .ne 25, 3)]
set_option maxRecDepth 20000 in
theorem k_X12_childOf_0 {sc : xm_Sc} : xm_bok (xe_cy (XE sc) 214) b_X12_childOf_0 := by show xm_bok cX12_childOf _; unfold xm_bok; decide +kernel
def b_X12_childOf_4 : List (Nat × Jvm.ClassFile.Instr × Nat) := [(4, .aload_n 0, 1), (5, .getfield 16, 3), (8, .iload_n 1, 1), (9, .iaload, 1), (10, .bipush 6, 2), (12, .if_icmp .gt 12, 3)]
set_option maxRecDepth 20000 in
theorem k_X12_childOf_4 {sc : xm_Sc} : xm_bok (xe_cy (XE sc) 214) b_X12_childOf_4 := by show xm_bok cX12_childOf _; unfold xm_bok; decide +kernel
def b_X12_childOf_15 : List (Nat × Jvm.ClassFile.Instr × Nat) := [(15, .aload_n 0, 1), (16, .getfield 19, 3), (19, .iload_n 1, 1), (20, .iaload, 1), (21, .goto 4, 3)]
set_option maxRecDepth 20000 in
theorem k_X12_childOf_15 {sc : xm_Sc} : xm_bok (xe_cy (XE sc) 214) b_X12_childOf_15 := by show xm_bok cX12_childOf _; unfold xm_bok; decide +kernel
def b_X12_childOf_24 : List (Nat × Jvm.ClassFile.Instr × Nat) := [(24, .iconst (-1), 1)]
set_option maxRecDepth 20000 in
theorem k_X12_childOf_24 {sc : xm_Sc} : xm_bok (xe_cy (XE sc) 214) b_X12_childOf_24 := by show xm_bok cX12_childOf _; unfold xm_bok; decide +kernel
def b_X12_childOf_25 : List (Nat × Jvm.ClassFile.Instr × Nat) := [(25, .ireturn, 1)]
set_option maxRecDepth 20000 in
theorem k_X12_childOf_25 {sc : xm_Sc} : xm_bok (xe_cy (XE sc) 214) b_X12_childOf_25 := by show xm_bok cX12_childOf _; unfold xm_bok; decide +kernel
def b_X12_childOf_26 : List (Nat × Jvm.ClassFile.Instr × Nat) := [(26, .iload_n 2, 1), (27, .iconst 1, 1), (28, .if_icmp .ne 22, 3)]
set_option maxRecDepth 20000 in
theorem k_X12_childOf_26 {sc : xm_Sc} : xm_bok (xe_cy (XE sc) 214) b_X12_childOf_26 := by show xm_bok cX12_childOf _; unfold xm_bok; decide +kernel
def b_X12_childOf_31 : List (Nat × Jvm.ClassFile.Instr × Nat) := [(31, .aload_n 0, 1), (32, .getfield 16, 3), (35, .iload_n 1, 1), (36, .iaload, 1), (37, .iconst 2, 1), (38, .if_icmp .gt 12, 3)]
set_option maxRecDepth 20000 in
theorem k_X12_childOf_31 {sc : xm_Sc} : xm_bok (xe_cy (XE sc) 214) b_X12_childOf_31 := by show xm_bok cX12_childOf _; unfold xm_bok; decide +kernel
def b_X12_childOf_41 : List (Nat × Jvm.ClassFile.Instr × Nat) := [(41, .aload_n 0, 1), (42, .getfield 22, 3), (45, .iload_n 1, 1), (46, .iaload, 1), (47, .goto 4, 3)]
set_option maxRecDepth 20000 in
theorem k_X12_childOf_41 {sc : xm_Sc} : xm_bok (xe_cy (XE sc) 214) b_X12_childOf_41 := by show xm_bok cX12_childOf _; unfold xm_bok; decide +kernel
def b_X12_childOf_50 : List (Nat × Jvm.ClassFile.Instr × Nat) := [(50, .iconst (-1), 1)]
set_option maxRecDepth 20000 in
theorem k_X12_childOf_50 {sc : xm_Sc} : xm_bok (xe_cy (XE sc) 214) b_X12_childOf_50 := by show xm_bok cX12_childOf _; unfold xm_bok; decide +kernel
def b_X12_childOf_51 : List (Nat × Jvm.ClassFile.Instr × Nat) := [(51, .ireturn, 1)]
set_option maxRecDepth 20000 in
theorem k_X12_childOf_51 {sc : xm_Sc} : xm_bok (xe_cy (XE sc) 214) b_X12_childOf_51 := by show xm_bok cX12_childOf _; unfold xm_bok; decide +kernel
set_option maxRecDepth 20000 in
theorem cn_214 {sc : xm_Sc} : xe_cn (XE sc) 214 = 12 := rfl
set_option maxRecDepth 20000 in
theorem ml_214 {sc : xm_Sc} : xe_ml (XE sc) 214 = 3 := rfl
set_option maxRecDepth 20000 in
theorem ry_214 {sc : xm_Sc} : xe_ry (XE sc) 214 = (some .int) := rfl
set_option maxRecDepth 20000 in
theorem is_214 {sc : xm_Sc} : xe_is (XE sc) 214 = false := rfl
set_option maxRecDepth 20000 in
theorem np_214 {sc : xm_Sc} : xe_np (XE sc) 214 = 2 := rfl
/- method 215: X12_compose -/
def b_X12_compose_0 : List (Nat × Jvm.ClassFile.Instr × Nat) := [(0, .aload_n 0, 1), (1, .aload_n 0, 1), (2, .getfield 57, 3), (5, .iload_n 1, 1), (6, .iaload, 1), (7, .invokevirtual 400, 3)]
set_option maxRecDepth 20000 in
theorem k_X12_compose_0 {sc : xm_Sc} : xm_bok (xe_cy (XE sc) 215) b_X12_compose_0 := by show xm_bok cX12_compose _; unfold xm_bok; decide +kernel
def b_X12_compose_10 : List (Nat × Jvm.ClassFile.Instr × Nat) := [(10, .istore 5, 2), (12, .iload_n 2, 1), (13, .ifCond .ne 87, 3)]
set_option maxRecDepth 20000 in
theorem k_X12_compose_10 {sc : xm_Sc} : xm_bok (xe_cy (XE sc) 215) b_X12_compose_10 := by show xm_bok cX12_compose _; unfold xm_bok; decide +kernel
def b_X12_compose_16 : List (Nat × Jvm.ClassFile.Instr × Nat) := [(16, .aload_n 0, 1), (17, .dup, 1), (18, .getfield 501, 3), (21, .iload 5, 2), (23, .i2l, 1), (24, .ladd, 1), (25, .putfield 501, 3), (28, .aload_n 0, 1), (29, .dup, 1), (30, .getfield 504, 3), (33, .lconst 1, 1), (34, .ladd, 1), (35, .putfield 504, 3), (38, .aload_n 0, 1), (39, .aload_n 0, 1), (40, .getfield 507, 3), (43, .aload_n 0, 1), (44, .getfield 501, 3), (47, .invokestatic 396, 3)]
set_option maxRecDepth 20000 in
theorem k_X12_compose_16 {sc : xm_Sc} : xm_bok (xe_cy (XE sc) 215) b_X12_compose_16 := by show xm_bok cX12_compose _; unfold xm_bok; decide +kernel
def b_X12_compose_50 : List (Nat × Jvm.ClassFile.Instr × Nat) := [(50, .putfield 507, 3), (53, .aload_n 0, 1), (54, .aload_n 0, 1), (55, .getfield 510, 3), (58, .aload_n 0, 1), (59, .getfield 504, 3), (62, .invokestatic 396, 3)]
set_option maxRecDepth 20000 in
theorem k_X12_compose_50 {sc : xm_Sc} : xm_bok (xe_cy (XE sc) 215) b_X12_compose_50 := by show xm_bok cX12_compose _; unfold xm_bok; decide +kernel
def b_X12_compose_65 : List (Nat × Jvm.ClassFile.Instr × Nat) := [(65, .putfield 510, 3), (68, .aload_n 0, 1), (69, .dup, 1), (70, .getfield 513, 3), (73, .iload 5, 2), (75, .iadd, 1), (76, .putfield 513, 3), (79, .aload_n 0, 1), (80, .aload_n 0, 1), (81, .getfield 57, 3), (84, .iload_n 1, 1), (85, .iaload, 1), (86, .iload_n 3, 1), (87, .aload_n 0, 1), (88, .getfield 513, 3), (91, .iload 5, 2), (93, .isub, 1), (94, .invokevirtual 516, 3)]
set_option maxRecDepth 20000 in
theorem k_X12_compose_65 {sc : xm_Sc} : xm_bok (xe_cy (XE sc) 215) b_X12_compose_65 := by show xm_bok cX12_compose _; unfold xm_bok; decide +kernel
def b_X12_compose_97 : List (Nat × Jvm.ClassFile.Instr × Nat) := [(97, .goto 73, 3)]
set_option maxRecDepth 20000 in
theorem k_X12_compose_97 {sc : xm_Sc} : xm_bok (xe_cy (XE sc) 215) b_X12_compose_97 := by show xm_bok cX12_compose _; unfold xm_bok; decide +kernel
def b_X12_compose_100 : List (Nat × Jvm.ClassFile.Instr × Nat) := [(100, .iload_n 2, 1), (101, .iconst 1, 1), (102, .if_icmp .ne 25, 3)]
set_option maxRecDepth 20000 in
theorem k_X12_compose_100 {sc : xm_Sc} : xm_bok (xe_cy (XE sc) 215) b_X12_compose_100 := by show xm_bok cX12_compose _; unfold xm_bok; decide +kernel
def b_X12_compose_105 : List (Nat × Jvm.ClassFile.Instr × Nat) := [(105, .aload_n 0, 1), (106, .aload_n 0, 1), (107, .getfield 60, 3), (110, .iload_n 1, 1), (111, .iaload, 1), (112, .aload_n 0, 1), (113, .getfield 513, 3), (116, .iload 5, 2), (118, .isub, 1), (119, .iload 4, 2), (121, .invokevirtual 516, 3)]
set_option maxRecDepth 20000 in
theorem k_X12_compose_105 {sc : xm_Sc} : xm_bok (xe_cy (XE sc) 215) b_X12_compose_105 := by show xm_bok cX12_compose _; unfold xm_bok; decide +kernel
def b_X12_compose_124 : List (Nat × Jvm.ClassFile.Instr × Nat) := [(124, .goto 46, 3)]
set_option maxRecDepth 20000 in
theorem k_X12_compose_124 {sc : xm_Sc} : xm_bok (xe_cy (XE sc) 215) b_X12_compose_124 := by show xm_bok cX12_compose _; unfold xm_bok; decide +kernel
def b_X12_compose_127 : List (Nat × Jvm.ClassFile.Instr × Nat) := [(127, .aload_n 0, 1), (128, .dup, 1), (129, .getfield 501, 3), (132, .iload 5, 2), (134, .i2l, 1), (135, .lsub, 1), (136, .putfield 501, 3), (139, .aload_n 0, 1), (140, .dup, 1), (141, .getfield 504, 3), (144, .lconst 1, 1), (145, .lsub, 1), (146, .putfield 504, 3), (149, .aload_n 0, 1), (150, .dup, 1), (151, .getfield 513, 3), (154, .iload 5, 2), (156, .isub, 1), (157, .putfield 513, 3), (160, .aload_n 0, 1), (161, .dup, 1), (162, .getfield 494, 3), (165, .iconst 1, 1), (166, .isub, 1), (167, .putfield 494, 3)]
set_option maxRecDepth 20000 in
theorem k_X12_compose_127 {sc : xm_Sc} : xm_bok (xe_cy (XE sc) 215) b_X12_compose_127 := by show xm_bok cX12_compose _; unfold xm_bok; decide +kernel
def b_X12_compose_170 : List (Nat × Jvm.ClassFile.Instr × Nat) := [(170, .return_, 1)]
set_option maxRecDepth 20000 in
theorem k_X12_compose_170 {sc : xm_Sc} : xm_bok (xe_cy (XE sc) 215) b_X12_compose_170 := by show xm_bok cX12_compose _; unfold xm_bok; decide +kernel
set_option maxRecDepth 20000 in
theorem cn_215 {sc : xm_Sc} : xe_cn (XE sc) 215 = 12 := rfl
set_option maxRecDepth 20000 in
theorem ml_215 {sc : xm_Sc} : xe_ml (XE sc) 215 = 6 := rfl
set_option maxRecDepth 20000 in
theorem ry_215 {sc : xm_Sc} : xe_ry (XE sc) 215 = none := rfl
set_option maxRecDepth 20000 in
theorem is_215 {sc : xm_Sc} : xe_is (XE sc) 215 = false := rfl
set_option maxRecDepth 20000 in
theorem np_215 {sc : xm_Sc} : xe_np (XE sc) 215 = 4 := rfl
/- method 216: X12_definitions -/
def b_X12_definitions_0 : List (Nat × Jvm.ClassFile.Instr × Nat) := [(0, .aload_n 0, 1), (1, .iconst 0, 1), (2, .putfield 223, 3), (5, .aload_n 0, 1), (6, .iconst 0, 1), (7, .putfield 610, 3), (10, .aload_n 0, 1), (11, .iconst 0, 1), (12, .putfield 595, 3), (15, .iconst (-1), 1), (16, .istore_n 1, 1), (17, .aload_n 0, 1), (18, .invokevirtual 613, 3)]
set_option maxRecDepth 20000 in
theorem k_X12_definitions_0 {sc : xm_Sc} : xm_bok (xe_cy (XE sc) 216) b_X12_definitions_0 := by show xm_bok cX12_definitions _; unfold xm_bok; decide +kernel
def b_X12_definitions_21 : List (Nat × Jvm.ClassFile.Instr × Nat) := [(21, .iconst 1, 1), (22, .istore_n 2, 1)]
set_option maxRecDepth 20000 in
theorem k_X12_definitions_21 {sc : xm_Sc} : xm_bok (xe_cy (XE sc) 216) b_X12_definitions_21 := by show xm_bok cX12_definitions _; unfold xm_bok; decide +kernel
def b_X12_definitions_23 : List (Nat × Jvm.ClassFile.Instr × Nat) := [(23, .aload_n 0, 1), (24, .getfield 592, 3), (27, .ifCond .ne 147, 3)]
set_option maxRecDepth 20000 in
theorem k_X12_definitions_23 {sc : xm_Sc} : xm_bok (xe_cy (XE sc) 216) b_X12_definitions_23 := by show xm_bok cX12_definitions _; unfold xm_bok; decide +kernel
def b_X12_definitions_30 : List (Nat × Jvm.ClassFile.Instr × Nat) := [(30, .iload_n 2, 1), (31, .ifCond .eq 143, 3)]
set_option maxRecDepth 20000 in
theorem k_X12_definitions_30 {sc : xm_Sc} : xm_bok (xe_cy (XE sc) 216) b_X12_definitions_30 := by show xm_bok cX12_definitions _; unfold xm_bok; decide +kernel
def b_X12_definitions_34 : List (Nat × Jvm.ClassFile.Instr × Nat) := [(34, .aload_n 0, 1), (35, .invokevirtual 616, 3)]
set_option maxRecDepth 20000 in
theorem k_X12_definitions_34 {sc : xm_Sc} : xm_bok (xe_cy (XE sc) 216) b_X12_definitions_34 := by show xm_bok cX12_definitions _; unfold xm_bok; decide +kernel
def b_X12_definitions_38 : List (Nat × Jvm.ClassFile.Instr × Nat) := [(38, .lstore_n 3, 1), (39, .lload_n 3, 1), (40, .lconst 0, 1), (41, .lcmp, 1), (42, .ifCond .eq 11, 3)]
set_option maxRecDepth 20000 in
theorem k_X12_definitions_38 {sc : xm_Sc} : xm_bok (xe_cy (XE sc) 216) b_X12_definitions_38 := by show xm_bok cX12_definitions _; unfold xm_bok; decide +kernel
def b_X12_definitions_45 : List (Nat × Jvm.ClassFile.Instr × Nat) := [(45, .aload_n 0, 1), (46, .lload_n 3, 1), (47, .invokevirtual 619, 3)]
set_option maxRecDepth 20000 in
theorem k_X12_definitions_45 {sc : xm_Sc} : xm_bok (xe_cy (XE sc) 216) b_X12_definitions_45 := by show xm_bok cX12_definitions _; unfold xm_bok; decide +kernel
def b_X12_definitions_50 : List (Nat × Jvm.ClassFile.Instr × Nat) := [(50, .ifCond .lt 13, 3)]
set_option maxRecDepth 20000 in
theorem k_X12_definitions_50 {sc : xm_Sc} : xm_bok (xe_cy (XE sc) 216) b_X12_definitions_50 := by show xm_bok cX12_definitions _; unfold xm_bok; decide +kernel
def b_X12_definitions_53 : List (Nat × Jvm.ClassFile.Instr × Nat) := [(53, .aload_n 0, 1), (54, .iconst 1, 1), (55, .aload_n 0, 1), (56, .getfield 598, 3), (59, .invokevirtual 604, 3)]
set_option maxRecDepth 20000 in
theorem k_X12_definitions_53 {sc : xm_Sc} : xm_bok (xe_cy (XE sc) 216) b_X12_definitions_53 := by show xm_bok cX12_definitions _; unfold xm_bok; decide +kernel
def b_X12_definitions_62 : List (Nat × Jvm.ClassFile.Instr × Nat) := [(62, .ireturn, 1)]
set_option maxRecDepth 20000 in
theorem k_X12_definitions_62 {sc : xm_Sc} : xm_bok (xe_cy (XE sc) 216) b_X12_definitions_62 := by show xm_bok cX12_definitions _; unfold xm_bok; decide +kernel
def b_X12_definitions_63 : List (Nat × Jvm.ClassFile.Instr × Nat) := [(63, .aload_n 0, 1), (64, .lload_n 3, 1), (65, .invokevirtual 623, 3)]
set_option maxRecDepth 20000 in
theorem k_X12_definitions_63 {sc : xm_Sc} : xm_bok (xe_cy (XE sc) 216) b_X12_definitions_63 := by show xm_bok cX12_definitions _; unfold xm_bok; decide +kernel
def b_X12_definitions_68 : List (Nat × Jvm.ClassFile.Instr × Nat) := [(68, .ifCond .lt 13, 3)]
set_option maxRecDepth 20000 in
theorem k_X12_definitions_68 {sc : xm_Sc} : xm_bok (xe_cy (XE sc) 216) b_X12_definitions_68 := by show xm_bok cX12_definitions _; unfold xm_bok; decide +kernel
def b_X12_definitions_71 : List (Nat × Jvm.ClassFile.Instr × Nat) := [(71, .aload_n 0, 1), (72, .iconst 2, 1), (73, .aload_n 0, 1), (74, .getfield 598, 3), (77, .invokevirtual 604, 3)]
set_option maxRecDepth 20000 in
theorem k_X12_definitions_71 {sc : xm_Sc} : xm_bok (xe_cy (XE sc) 216) b_X12_definitions_71 := by show xm_bok cX12_definitions _; unfold xm_bok; decide +kernel
def b_X12_definitions_80 : List (Nat × Jvm.ClassFile.Instr × Nat) := [(80, .ireturn, 1)]
set_option maxRecDepth 20000 in
theorem k_X12_definitions_80 {sc : xm_Sc} : xm_bok (xe_cy (XE sc) 216) b_X12_definitions_80 := by show xm_bok cX12_definitions _; unfold xm_bok; decide +kernel
def b_X12_definitions_81 : List (Nat × Jvm.ClassFile.Instr × Nat) := [(81, .aload_n 0, 1), (82, .invokevirtual 613, 3)]
set_option maxRecDepth 20000 in
theorem k_X12_definitions_81 {sc : xm_Sc} : xm_bok (xe_cy (XE sc) 216) b_X12_definitions_81 := by show xm_bok cX12_definitions _; unfold xm_bok; decide +kernel
def b_X12_definitions_85 : List (Nat × Jvm.ClassFile.Instr × Nat) := [(85, .aload_n 0, 1), (86, .getfield 592, 3), (89, .ifCond .ne 21, 3)]
set_option maxRecDepth 20000 in
theorem k_X12_definitions_85 {sc : xm_Sc} : xm_bok (xe_cy (XE sc) 216) b_X12_definitions_85 := by show xm_bok cX12_definitions _; unfold xm_bok; decide +kernel
def b_X12_definitions_92 : List (Nat × Jvm.ClassFile.Instr × Nat) := [(92, .aload_n 0, 1), (93, .getfield 601, 3), (96, .iconst 1, 1), (97, .if_icmp .eq 13, 3)]
set_option maxRecDepth 20000 in
theorem k_X12_definitions_92 {sc : xm_Sc} : xm_bok (xe_cy (XE sc) 216) b_X12_definitions_92 := by show xm_bok cX12_definitions _; unfold xm_bok; decide +kernel
def b_X12_definitions_100 : List (Nat × Jvm.ClassFile.Instr × Nat) := [(100, .aload_n 0, 1), (101, .iconst 1, 1), (102, .aload_n 0, 1), (103, .getfield 598, 3), (106, .invokevirtual 604, 3)]
set_option maxRecDepth 20000 in
theorem k_X12_definitions_100 {sc : xm_Sc} : xm_bok (xe_cy (XE sc) 216) b_X12_definitions_100 := by show xm_bok cX12_definitions _; unfold xm_bok; decide +kernel
def b_X12_definitions_109 : List (Nat × Jvm.ClassFile.Instr × Nat) := [(109, .ireturn, 1)]
set_option maxRecDepth 20000 in
theorem k_X12_definitions_109 {sc : xm_Sc} : xm_bok (xe_cy (XE sc) 216) b_X12_definitions_109 := by show xm_bok cX12_definitions _; unfold xm_bok; decide +kernel
def b_X12_definitions_110 : List (Nat × Jvm.ClassFile.Instr × Nat) := [(110, .aload_n 0, 1), (111, .invokevirtual 653, 3)]
set_option maxRecDepth 20000 in
theorem k_X12_definitions_110 {sc : xm_Sc} : xm_bok (xe_cy (XE sc) 216) b_X12_definitions_110 := by show xm_bok cX12_definitions _; unfold xm_bok; decide +kernel
def b_X12_definitions_114 : List (Nat × Jvm.ClassFile.Instr × Nat) := [(114, .istore_n 1, 1), (115, .aload_n 0, 1), (116, .getfield 592, 3), (119, .ifCond .le 5, 3)]
set_option maxRecDepth 20000 in
theorem k_X12_definitions_114 {sc : xm_Sc} : xm_bok (xe_cy (XE sc) 216) b_X12_definitions_114 := by show xm_bok cX12_definitions _; unfold xm_bok; decide +kernel
def b_X12_definitions_122 : List (Nat × Jvm.ClassFile.Instr × Nat) := [(122, .iconst (-1), 1), (123, .ireturn, 1)]
set_option maxRecDepth 20000 in
theorem k_X12_definitions_122 {sc : xm_Sc} : xm_bok (xe_cy (XE sc) 216) b_X12_definitions_122 := by show xm_bok cX12_definitions _; unfold xm_bok; decide +kernel
def b_X12_definitions_124 : List (Nat × Jvm.ClassFile.Instr × Nat) := [(124, .aload_n 0, 1), (125, .getfield 178, 3), (128, .aload_n 0, 1), (129, .getfield 610, 3), (132, .lload_n 3, 1), (133, .lastore, 1), (134, .aload_n 0, 1), (135, .getfield 181, 3), (138, .aload_n 0, 1), (139, .getfield 610, 3), (142, .iload_n 1, 1), (143, .iastore, 1), (144, .aload_n 0, 1), (145, .dup, 1), (146, .getfield 610, 3), (149, .iconst 1, 1), (150, .iadd, 1), (151, .putfield 610, 3), (154, .aload_n 0, 1), (155, .invokevirtual 613, 3)]
set_option maxRecDepth 20000 in
theorem k_X12_definitions_124 {sc : xm_Sc} : xm_bok (xe_cy (XE sc) 216) b_X12_definitions_124 := by show xm_bok cX12_definitions _; unfold xm_bok; decide +kernel
def b_X12_definitions_158 : List (Nat × Jvm.ClassFile.Instr × Nat) := [(158, .aload_n 0, 1), (159, .getfield 601, 3), (162, .ifCond .eq 7, 3)]
set_option maxRecDepth 20000 in
theorem k_X12_definitions_158 {sc : xm_Sc} : xm_bok (xe_cy (XE sc) 216) b_X12_definitions_158 := by show xm_bok cX12_definitions _; unfold xm_bok; decide +kernel
def b_X12_definitions_165 : List (Nat × Jvm.ClassFile.Instr × Nat) := [(165, .iconst 1, 1), (166, .goto 4, 3)]
set_option maxRecDepth 20000 in
theorem k_X12_definitions_165 {sc : xm_Sc} : xm_bok (xe_cy (XE sc) 216) b_X12_definitions_165 := by show xm_bok cX12_definitions _; unfold xm_bok; decide +kernel
def b_X12_definitions_169 : List (Nat × Jvm.ClassFile.Instr × Nat) := [(169, .iconst 0, 1)]
set_option maxRecDepth 20000 in
theorem k_X12_definitions_169 {sc : xm_Sc} : xm_bok (xe_cy (XE sc) 216) b_X12_definitions_169 := by show xm_bok cX12_definitions _; unfold xm_bok; decide +kernel
def b_X12_definitions_170 : List (Nat × Jvm.ClassFile.Instr × Nat) := [(170, .istore_n 2, 1), (171, .goto (-148), 3)]
set_option maxRecDepth 20000 in
theorem k_X12_definitions_170 {sc : xm_Sc} : xm_bok (xe_cy (XE sc) 216) b_X12_definitions_170 := by show xm_bok cX12_definitions _; unfold xm_bok; decide +kernel
def b_X12_definitions_174 : List (Nat × Jvm.ClassFile.Instr × Nat) := [(174, .iload_n 1, 1), (175, .ireturn, 1)]
set_option maxRecDepth 20000 in
theorem k_X12_definitions_174 {sc : xm_Sc} : xm_bok (xe_cy (XE sc) 216) b_X12_definitions_174 := by show xm_bok cX12_definitions _; unfold xm_bok; decide +kernel
set_option maxRecDepth 20000 in
theorem cn_216 {sc : xm_Sc} : xe_cn (XE sc) 216 = 12 := rfl
set_option maxRecDepth 20000 in
theorem ml_216 {sc : xm_Sc} : xe_ml (XE sc) 216 = 5 := rfl
set_option maxRecDepth 20000 in
theorem ry_216 {sc : xm_Sc} : xe_ry (XE sc) 216 = (some .int) := rfl
set_option maxRecDepth 20000 in
theorem is_216 {sc : xm_Sc} : xe_is (XE sc) 216 = false := rfl
set_option maxRecDepth 20000 in
theorem np_216 {sc : xm_Sc} : xe_np (XE sc) 216 = 0 := rfl
/- method 217: X12_digitFor -/
def b_X12_digitFor_0 : List (Nat × Jvm.ClassFile.Instr × Nat) := [(0, .iload_n 0, 1), (1, .bipush 10, 2), (3, .if_icmp .ge 10, 3)]
set_option maxRecDepth 20000 in
theorem k_X12_digitFor_0 {sc : xm_Sc} : xm_bok (xe_cy (XE sc) 217) b_X12_digitFor_0 := by show xm_bok cX12_digitFor _; unfold xm_bok; decide +kernel
def b_X12_digitFor_6 : List (Nat × Jvm.ClassFile.Instr × Nat) := [(6, .bipush 48, 2), (8, .iload_n 0, 1), (9, .iadd, 1), (10, .goto 7, 3)]
set_option maxRecDepth 20000 in
theorem k_X12_digitFor_6 {sc : xm_Sc} : xm_bok (xe_cy (XE sc) 217) b_X12_digitFor_6 := by show xm_bok cX12_digitFor _; unfold xm_bok; decide +kernel
def b_X12_digitFor_13 : List (Nat × Jvm.ClassFile.Instr × Nat) := [(13, .bipush 87, 2), (15, .iload_n 0, 1), (16, .iadd, 1)]
set_option maxRecDepth 20000 in
theorem k_X12_digitFor_13 {sc : xm_Sc} : xm_bok (xe_cy (XE sc) 217) b_X12_digitFor_13 := by show xm_bok cX12_digitFor _; unfold xm_bok; decide +kernel
def b_X12_digitFor_17 : List (Nat × Jvm.ClassFile.Instr × Nat) := [(17, .ireturn, 1)]
set_option maxRecDepth 20000 in
theorem k_X12_digitFor_17 {sc : xm_Sc} : xm_bok (xe_cy (XE sc) 217) b_X12_digitFor_17 := by show xm_bok cX12_digitFor _; unfold xm_bok; decide +kernel
set_option maxRecDepth 20000 in
theorem cn_217 {sc : xm_Sc} : xe_cn (XE sc) 217 = 12 := rfl
set_option maxRecDepth 20000 in
theorem ml_217 {sc : xm_Sc} : xe_ml (XE sc) 217 = 1 := rfl
set_option maxRecDepth 20000 in
theorem ry_217 {sc : xm_Sc} : xe_ry (XE sc) 217 = (some .int) := rfl
set_option maxRecDepth 20000 in
theorem is_217 {sc : xm_Sc} : xe_is (XE sc) 217 = true := rfl
set_option maxRecDepth 20000 in
theorem np_217 {sc : xm_Sc} : xe_np (XE sc) 217 = 1 := rfl
/- method 218: X12_digitOf -/
def b_X12_digitOf_0 : List (Nat × Jvm.ClassFile.Instr × Nat) := [(0, .iload_n 0, 1), (1, .bipush 48, 2), (3, .bipush 57, 2), (5, .invokestatic 211, 3)]
set_option maxRecDepth 20000 in
theorem k_X12_digitOf_0 {sc : xm_Sc} : xm_bok (xe_cy (XE sc) 218) b_X12_digitOf_0 := by show xm_bok cX12_digitOf _; unfold xm_bok; decide +kernel
def b_X12_digitOf_8 : List (Nat × Jvm.ClassFile.Instr × Nat) := [(8, .ifCond .eq 10, 3)]
set_option maxRecDepth 20000 in
theorem k_X12_digitOf_8 {sc : xm_Sc} : xm_bok (xe_cy (XE sc) 218) b_X12_digitOf_8 := by show xm_bok cX12_digitOf _; unfold xm_bok; decide +kernel
def b_X12_digitOf_11 : List (Nat × Jvm.ClassFile.Instr × Nat) := [(11, .iload_n 0, 1), (12, .bipush 48, 2), (14, .isub, 1), (15, .goto 22, 3)]
set_option maxRecDepth 20000 in
theorem k_X12_digitOf_11 {sc : xm_Sc} : xm_bok (xe_cy (XE sc) 218) b_X12_digitOf_11 := by show xm_bok cX12_digitOf _; unfold xm_bok; decide +kernel
def b_X12_digitOf_18 : List (Nat × Jvm.ClassFile.Instr × Nat) := [(18, .iload_n 0, 1), (19, .bipush 97, 2), (21, .bipush 102, 2), (23, .invokestatic 211, 3)]
set_option maxRecDepth 20000 in
theorem k_X12_digitOf_18 {sc : xm_Sc} : xm_bok (xe_cy (XE sc) 218) b_X12_digitOf_18 := by show xm_bok cX12_digitOf _; unfold xm_bok; decide +kernel
def b_X12_digitOf_26 : List (Nat × Jvm.ClassFile.Instr × Nat) := [(26, .ifCond .eq 10, 3)]
set_option maxRecDepth 20000 in
theorem k_X12_digitOf_26 {sc : xm_Sc} : xm_bok (xe_cy (XE sc) 218) b_X12_digitOf_26 := by show xm_bok cX12_digitOf _; unfold xm_bok; decide +kernel
def b_X12_digitOf_29 : List (Nat × Jvm.ClassFile.Instr × Nat) := [(29, .iload_n 0, 1), (30, .bipush 87, 2), (32, .isub, 1), (33, .goto 4, 3)]
set_option maxRecDepth 20000 in
theorem k_X12_digitOf_29 {sc : xm_Sc} : xm_bok (xe_cy (XE sc) 218) b_X12_digitOf_29 := by show xm_bok cX12_digitOf _; unfold xm_bok; decide +kernel
def b_X12_digitOf_36 : List (Nat × Jvm.ClassFile.Instr × Nat) := [(36, .iconst (-1), 1)]
set_option maxRecDepth 20000 in
theorem k_X12_digitOf_36 {sc : xm_Sc} : xm_bok (xe_cy (XE sc) 218) b_X12_digitOf_36 := by show xm_bok cX12_digitOf _; unfold xm_bok; decide +kernel
def b_X12_digitOf_37 : List (Nat × Jvm.ClassFile.Instr × Nat) := [(37, .ireturn, 1)]
set_option maxRecDepth 20000 in
theorem k_X12_digitOf_37 {sc : xm_Sc} : xm_bok (xe_cy (XE sc) 218) b_X12_digitOf_37 := by show xm_bok cX12_digitOf _; unfold xm_bok; decide +kernel
set_option maxRecDepth 20000 in
theorem cn_218 {sc : xm_Sc} : xe_cn (XE sc) 218 = 12 := rfl
set_option maxRecDepth 20000 in
theorem ml_218 {sc : xm_Sc} : xe_ml (XE sc) 218 = 1 := rfl
set_option maxRecDepth 20000 in
theorem ry_218 {sc : xm_Sc} : xe_ry (XE sc) 218 = (some .int) := rfl
set_option maxRecDepth 20000 in
theorem is_218 {sc : xm_Sc} : xe_is (XE sc) 218 = true := rfl
set_option maxRecDepth 20000 in
theorem np_218 {sc : xm_Sc} : xe_np (XE sc) 218 = 1 := rfl
/- method 219: X12_digitsOf -/
def b_X12_digitsOf_0 : List (Nat × Jvm.ClassFile.Instr × Nat) := [(0, .iconst 0, 1), (1, .istore_n 1, 1)]
set_option maxRecDepth 20000 in
theorem k_X12_digitsOf_0 {sc : xm_Sc} : xm_bok (xe_cy (XE sc) 219) b_X12_digitsOf_0 := by show xm_bok cX12_digitsOf _; unfold xm_bok; decide +kernel
def b_X12_digitsOf_2 : List (Nat × Jvm.ClassFile.Instr × Nat) := [(2, .iload_n 0, 1), (3, .iload_n 1, 1), (4, .iconst 1, 1), (5, .iadd, 1), (6, .ishr, 1), (7, .ifCond .le 9, 3)]
set_option maxRecDepth 20000 in
theorem k_X12_digitsOf_2 {sc : xm_Sc} : xm_bok (xe_cy (XE sc) 219) b_X12_digitsOf_2 := by show xm_bok cX12_digitsOf _; unfold xm_bok; decide +kernel
def b_X12_digitsOf_10 : List (Nat × Jvm.ClassFile.Instr × Nat) := [(10, .iinc 1 1, 3), (13, .goto (-11), 3)]
set_option maxRecDepth 20000 in
theorem k_X12_digitsOf_10 {sc : xm_Sc} : xm_bok (xe_cy (XE sc) 219) b_X12_digitsOf_10 := by show xm_bok cX12_digitsOf _; unfold xm_bok; decide +kernel
def b_X12_digitsOf_16 : List (Nat × Jvm.ClassFile.Instr × Nat) := [(16, .iload_n 1, 1), (17, .ireturn, 1)]
set_option maxRecDepth 20000 in
theorem k_X12_digitsOf_16 {sc : xm_Sc} : xm_bok (xe_cy (XE sc) 219) b_X12_digitsOf_16 := by show xm_bok cX12_digitsOf _; unfold xm_bok; decide +kernel
set_option maxRecDepth 20000 in
theorem cn_219 {sc : xm_Sc} : xe_cn (XE sc) 219 = 12 := rfl
set_option maxRecDepth 20000 in
theorem ml_219 {sc : xm_Sc} : xe_ml (XE sc) 219 = 2 := rfl
set_option maxRecDepth 20000 in
theorem ry_219 {sc : xm_Sc} : xe_ry (XE sc) 219 = (some .int) := rfl
set_option maxRecDepth 20000 in
theorem is_219 {sc : xm_Sc} : xe_is (XE sc) 219 = true := rfl
set_option maxRecDepth 20000 in
theorem np_219 {sc : xm_Sc} : xe_np (XE sc) 219 = 1 := rfl
/- method 220: X12_expression -/
def b_X12_expression_0 : List (Nat × Jvm.ClassFile.Instr × Nat) := [(0, .aload_n 0, 1), (1, .iconst 0, 1), (2, .putfield 629, 3)]
set_option maxRecDepth 20000 in
theorem k_X12_expression_0 {sc : xm_Sc} : xm_bok (xe_cy (XE sc) 220) b_X12_expression_0 := by show xm_bok cX12_expression _; unfold xm_bok; decide +kernel
def b_X12_expression_5 : List (Nat × Jvm.ClassFile.Instr × Nat) := [(5, .aload_n 0, 1), (6, .getfield 592, 3), (9, .ifCond .ne 64, 3)]
set_option maxRecDepth 20000 in
theorem k_X12_expression_5 {sc : xm_Sc} : xm_bok (xe_cy (XE sc) 220) b_X12_expression_5 := by show xm_bok cX12_expression _; unfold xm_bok; decide +kernel
def b_X12_expression_12 : List (Nat × Jvm.ClassFile.Instr × Nat) := [(12, .aload_n 0, 1), (13, .invokevirtual 613, 3)]
set_option maxRecDepth 20000 in
theorem k_X12_expression_12 {sc : xm_Sc} : xm_bok (xe_cy (XE sc) 220) b_X12_expression_12 := by show xm_bok cX12_expression _; unfold xm_bok; decide +kernel
def b_X12_expression_16 : List (Nat × Jvm.ClassFile.Instr × Nat) := [(16, .aload_n 0, 1), (17, .getfield 592, 3), (20, .ifCond .le 5, 3)]
set_option maxRecDepth 20000 in
theorem k_X12_expression_16 {sc : xm_Sc} : xm_bok (xe_cy (XE sc) 220) b_X12_expression_16 := by show xm_bok cX12_expression _; unfold xm_bok; decide +kernel
def b_X12_expression_23 : List (Nat × Jvm.ClassFile.Instr × Nat) := [(23, .iconst (-1), 1), (24, .ireturn, 1)]
set_option maxRecDepth 20000 in
theorem k_X12_expression_23 {sc : xm_Sc} : xm_bok (xe_cy (XE sc) 220) b_X12_expression_23 := by show xm_bok cX12_expression _; unfold xm_bok; decide +kernel
def b_X12_expression_25 : List (Nat × Jvm.ClassFile.Instr × Nat) := [(25, .aload_n 0, 1), (26, .invokevirtual 647, 3)]
set_option maxRecDepth 20000 in
theorem k_X12_expression_25 {sc : xm_Sc} : xm_bok (xe_cy (XE sc) 220) b_X12_expression_25 := by show xm_bok cX12_expression _; unfold xm_bok; decide +kernel
def b_X12_expression_29 : List (Nat × Jvm.ClassFile.Instr × Nat) := [(29, .istore_n 1, 1)]
set_option maxRecDepth 20000 in
theorem k_X12_expression_29 {sc : xm_Sc} : xm_bok (xe_cy (XE sc) 220) b_X12_expression_29 := by show xm_bok cX12_expression _; unfold xm_bok; decide +kernel
def b_X12_expression_30 : List (Nat × Jvm.ClassFile.Instr × Nat) := [(30, .aload_n 0, 1), (31, .getfield 592, 3), (34, .ifCond .ne 23, 3)]
set_option maxRecDepth 20000 in
theorem k_X12_expression_30 {sc : xm_Sc} : xm_bok (xe_cy (XE sc) 220) b_X12_expression_30 := by show xm_bok cX12_expression _; unfold xm_bok; decide +kernel
def b_X12_expression_37 : List (Nat × Jvm.ClassFile.Instr × Nat) := [(37, .iload_n 1, 1), (38, .ifCond .lt 19, 3)]
set_option maxRecDepth 20000 in
theorem k_X12_expression_37 {sc : xm_Sc} : xm_bok (xe_cy (XE sc) 220) b_X12_expression_37 := by show xm_bok cX12_expression _; unfold xm_bok; decide +kernel
def b_X12_expression_41 : List (Nat × Jvm.ClassFile.Instr × Nat) := [(41, .aload_n 0, 1), (42, .getfield 629, 3), (45, .ifCond .le 12, 3)]
set_option maxRecDepth 20000 in
theorem k_X12_expression_41 {sc : xm_Sc} : xm_bok (xe_cy (XE sc) 220) b_X12_expression_41 := by show xm_bok cX12_expression _; unfold xm_bok; decide +kernel
def b_X12_expression_48 : List (Nat × Jvm.ClassFile.Instr × Nat) := [(48, .aload_n 0, 1), (49, .iload_n 1, 1), (50, .invokevirtual 650, 3)]
set_option maxRecDepth 20000 in
theorem k_X12_expression_48 {sc : xm_Sc} : xm_bok (xe_cy (XE sc) 220) b_X12_expression_48 := by show xm_bok cX12_expression _; unfold xm_bok; decide +kernel
def b_X12_expression_53 : List (Nat × Jvm.ClassFile.Instr × Nat) := [(53, .istore_n 1, 1), (54, .goto (-24), 3)]
set_option maxRecDepth 20000 in
theorem k_X12_expression_53 {sc : xm_Sc} : xm_bok (xe_cy (XE sc) 220) b_X12_expression_53 := by show xm_bok cX12_expression _; unfold xm_bok; decide +kernel
def b_X12_expression_57 : List (Nat × Jvm.ClassFile.Instr × Nat) := [(57, .aload_n 0, 1), (58, .getfield 592, 3), (61, .ifCond .ne 9, 3)]
set_option maxRecDepth 20000 in
theorem k_X12_expression_57 {sc : xm_Sc} : xm_bok (xe_cy (XE sc) 220) b_X12_expression_57 := by show xm_bok cX12_expression _; unfold xm_bok; decide +kernel
def b_X12_expression_64 : List (Nat × Jvm.ClassFile.Instr × Nat) := [(64, .iload_n 1, 1), (65, .ifCond .lt 5, 3)]
set_option maxRecDepth 20000 in
theorem k_X12_expression_64 {sc : xm_Sc} : xm_bok (xe_cy (XE sc) 220) b_X12_expression_64 := by show xm_bok cX12_expression _; unfold xm_bok; decide +kernel
def b_X12_expression_68 : List (Nat × Jvm.ClassFile.Instr × Nat) := [(68, .iload_n 1, 1), (69, .ireturn, 1)]
set_option maxRecDepth 20000 in
theorem k_X12_expression_68 {sc : xm_Sc} : xm_bok (xe_cy (XE sc) 220) b_X12_expression_68 := by show xm_bok cX12_expression _; unfold xm_bok; decide +kernel
def b_X12_expression_70 : List (Nat × Jvm.ClassFile.Instr × Nat) := [(70, .goto (-65), 3)]
set_option maxRecDepth 20000 in
theorem k_X12_expression_70 {sc : xm_Sc} : xm_bok (xe_cy (XE sc) 220) b_X12_expression_70 := by show xm_bok cX12_expression _; unfold xm_bok; decide +kernel
def b_X12_expression_73 : List (Nat × Jvm.ClassFile.Instr × Nat) := [(73, .iconst (-1), 1), (74, .ireturn, 1)]
set_option maxRecDepth 20000 in
theorem k_X12_expression_73 {sc : xm_Sc} : xm_bok (xe_cy (XE sc) 220) b_X12_expression_73 := by show xm_bok cX12_expression _; unfold xm_bok; decide +kernel
set_option maxRecDepth 20000 in
theorem cn_220 {sc : xm_Sc} : xe_cn (XE sc) 220 = 12 := rfl
set_option maxRecDepth 20000 in
theorem ml_220 {sc : xm_Sc} : xe_ml (XE sc) 220 = 2 := rfl
set_option maxRecDepth 20000 in
theorem ry_220 {sc : xm_Sc} : xe_ry (XE sc) 220 = (some .int) := rfl
set_option maxRecDepth 20000 in
theorem is_220 {sc : xm_Sc} : xe_is (XE sc) 220 = false := rfl
set_option maxRecDepth 20000 in
theorem np_220 {sc : xm_Sc} : xe_np (XE sc) 220 = 0 := rfl
/- method 221: X12_feed -/
def b_X12_feed_0 : List (Nat × Jvm.ClassFile.Instr × Nat) := [(0, .aload_n 0, 1), (1, .iload_n 1, 1), (2, .iconst 1, 1), (3, .bipush 8, 2), (5, .invokestatic 211, 3)]
set_option maxRecDepth 20000 in
theorem k_X12_feed_0 {sc : xm_Sc} : xm_bok (xe_cy (XE sc) 221) b_X12_feed_0 := by show xm_bok cX12_feed _; unfold xm_bok; decide +kernel
def b_X12_feed_8 : List (Nat × Jvm.ClassFile.Instr × Nat) := [(8, .ifCond .ne 7, 3)]
set_option maxRecDepth 20000 in
theorem k_X12_feed_8 {sc : xm_Sc} : xm_bok (xe_cy (XE sc) 221) b_X12_feed_8 := by show xm_bok cX12_feed _; unfold xm_bok; decide +kernel
def b_X12_feed_11 : List (Nat × Jvm.ClassFile.Instr × Nat) := [(11, .iconst 1, 1), (12, .goto 20, 3)]
set_option maxRecDepth 20000 in
theorem k_X12_feed_11 {sc : xm_Sc} : xm_bok (xe_cy (XE sc) 221) b_X12_feed_11 := by show xm_bok cX12_feed _; unfold xm_bok; decide +kernel
def b_X12_feed_15 : List (Nat × Jvm.ClassFile.Instr × Nat) := [(15, .aload_n 0, 1), (16, .getfield 215, 3), (19, .iload_n 1, 1), (20, .iadd, 1), (21, .sipush 8192, 3), (24, .if_icmp .le 7, 3)]
set_option maxRecDepth 20000 in
theorem k_X12_feed_15 {sc : xm_Sc} : xm_bok (xe_cy (XE sc) 221) b_X12_feed_15 := by show xm_bok cX12_feed _; unfold xm_bok; decide +kernel
def b_X12_feed_27 : List (Nat × Jvm.ClassFile.Instr × Nat) := [(27, .iconst 2, 1), (28, .goto 4, 3)]
set_option maxRecDepth 20000 in
theorem k_X12_feed_27 {sc : xm_Sc} : xm_bok (xe_cy (XE sc) 221) b_X12_feed_27 := by show xm_bok cX12_feed _; unfold xm_bok; decide +kernel
def b_X12_feed_31 : List (Nat × Jvm.ClassFile.Instr × Nat) := [(31, .iconst 0, 1)]
set_option maxRecDepth 20000 in
theorem k_X12_feed_31 {sc : xm_Sc} : xm_bok (xe_cy (XE sc) 221) b_X12_feed_31 := by show xm_bok cX12_feed _; unfold xm_bok; decide +kernel
def b_X12_feed_32 : List (Nat × Jvm.ClassFile.Instr × Nat) := [(32, .putfield 205, 3), (35, .aload_n 0, 1), (36, .getfield 205, 3), (39, .ifCond .le 5, 3)]
set_option maxRecDepth 20000 in
theorem k_X12_feed_32 {sc : xm_Sc} : xm_bok (xe_cy (XE sc) 221) b_X12_feed_32 := by show xm_bok cX12_feed _; unfold xm_bok; decide +kernel
def b_X12_feed_42 : List (Nat × Jvm.ClassFile.Instr × Nat) := [(42, .iconst 0, 1), (43, .ireturn, 1)]
set_option maxRecDepth 20000 in
theorem k_X12_feed_42 {sc : xm_Sc} : xm_bok (xe_cy (XE sc) 221) b_X12_feed_42 := by show xm_bok cX12_feed _; unfold xm_bok; decide +kernel
def b_X12_feed_44 : List (Nat × Jvm.ClassFile.Instr × Nat) := [(44, .iconst 0, 1), (45, .istore 4, 2)]
set_option maxRecDepth 20000 in
theorem k_X12_feed_44 {sc : xm_Sc} : xm_bok (xe_cy (XE sc) 221) b_X12_feed_44 := by show xm_bok cX12_feed _; unfold xm_bok; decide +kernel
def b_X12_feed_47 : List (Nat × Jvm.ClassFile.Instr × Nat) := [(47, .iload 4, 2), (49, .iload_n 1, 1), (50, .if_icmp .ge 40, 3)]
set_option maxRecDepth 20000 in
theorem k_X12_feed_47 {sc : xm_Sc} : xm_bok (xe_cy (XE sc) 221) b_X12_feed_47 := by show xm_bok cX12_feed _; unfold xm_bok; decide +kernel
def b_X12_feed_53 : List (Nat × Jvm.ClassFile.Instr × Nat) := [(53, .aload_n 0, 1), (54, .getfield 7, 3), (57, .aload_n 0, 1), (58, .getfield 215, 3), (61, .lload_n 2, 1), (62, .bipush 8, 2), (64, .iload 4, 2), (66, .imul, 1), (67, .lshr, 1), (68, .ldc2_w 218, 3), (71, .land, 1), (72, .l2i, 1), (73, .iastore, 1), (74, .aload_n 0, 1), (75, .dup, 1), (76, .getfield 215, 3), (79, .iconst 1, 1), (80, .iadd, 1), (81, .putfield 215, 3), (84, .iinc 4 1, 3), (87, .goto (-40), 3)]
set_option maxRecDepth 20000 in
theorem k_X12_feed_53 {sc : xm_Sc} : xm_bok (xe_cy (XE sc) 221) b_X12_feed_53 := by show xm_bok cX12_feed _; unfold xm_bok; decide +kernel
def b_X12_feed_90 : List (Nat × Jvm.ClassFile.Instr × Nat) := [(90, .aload_n 0, 1), (91, .getfield 215, 3), (94, .ireturn, 1)]
set_option maxRecDepth 20000 in
theorem k_X12_feed_90 {sc : xm_Sc} : xm_bok (xe_cy (XE sc) 221) b_X12_feed_90 := by show xm_bok cX12_feed _; unfold xm_bok; decide +kernel
set_option maxRecDepth 20000 in
theorem cn_221 {sc : xm_Sc} : xe_cn (XE sc) 221 = 12 := rfl
set_option maxRecDepth 20000 in
theorem ml_221 {sc : xm_Sc} : xe_ml (XE sc) 221 = 5 := rfl
set_option maxRecDepth 20000 in
theorem ry_221 {sc : xm_Sc} : xe_ry (XE sc) 221 = (some .int) := rfl
set_option maxRecDepth 20000 in
theorem is_221 {sc : xm_Sc} : xe_is (XE sc) 221 = false := rfl
set_option maxRecDepth 20000 in
theorem np_221 {sc : xm_Sc} : xe_np (XE sc) 221 = 2 := rfl
/- method 222: X12_fill -/
def b_X12_fill_0 : List (Nat × Jvm.ClassFile.Instr × Nat) := [(0, .iconst 0, 1), (1, .istore 4, 2)]
set_option maxRecDepth 20000 in
theorem k_X12_fill_0 {sc : xm_Sc} : xm_bok (xe_cy (XE sc) 222) b_X12_fill_0 := by show xm_bok cX12_fill _; unfold xm_bok; decide +kernel
def b_X12_fill_3 : List (Nat × Jvm.ClassFile.Instr × Nat) := [(3, .iload 4, 2), (5, .bipush 8, 2), (7, .if_icmp .ge 35, 3)]
set_option maxRecDepth 20000 in
theorem k_X12_fill_3 {sc : xm_Sc} : xm_bok (xe_cy (XE sc) 222) b_X12_fill_3 := by show xm_bok cX12_fill _; unfold xm_bok; decide +kernel
def b_X12_fill_10 : List (Nat × Jvm.ClassFile.Instr × Nat) := [(10, .aload_n 0, 1), (11, .getfield 154, 3), (14, .bipush 8, 2), (16, .iload_n 1, 1), (17, .imul, 1), (18, .iload 4, 2), (20, .iadd, 1), (21, .iload_n 3, 1), (22, .ifCond .ge 7, 3)]
set_option maxRecDepth 20000 in
theorem k_X12_fill_10 {sc : xm_Sc} : xm_bok (xe_cy (XE sc) 222) b_X12_fill_10 := by show xm_bok cX12_fill _; unfold xm_bok; decide +kernel
def b_X12_fill_25 : List (Nat × Jvm.ClassFile.Instr × Nat) := [(25, .iconst 0, 1), (26, .goto 9, 3)]
set_option maxRecDepth 20000 in
theorem k_X12_fill_25 {sc : xm_Sc} : xm_bok (xe_cy (XE sc) 222) b_X12_fill_25 := by show xm_bok cX12_fill _; unfold xm_bok; decide +kernel
def b_X12_fill_29 : List (Nat × Jvm.ClassFile.Instr × Nat) := [(29, .aload_n 2, 1), (30, .iload_n 3, 1), (31, .iload 4, 2), (33, .iadd, 1), (34, .iaload, 1)]
set_option maxRecDepth 20000 in
theorem k_X12_fill_29 {sc : xm_Sc} : xm_bok (xe_cy (XE sc) 222) b_X12_fill_29 := by show xm_bok cX12_fill _; unfold xm_bok; decide +kernel
def b_X12_fill_35 : List (Nat × Jvm.ClassFile.Instr × Nat) := [(35, .iastore, 1), (36, .iinc 4 1, 3), (39, .goto (-36), 3)]
set_option maxRecDepth 20000 in
theorem k_X12_fill_35 {sc : xm_Sc} : xm_bok (xe_cy (XE sc) 222) b_X12_fill_35 := by show xm_bok cX12_fill _; unfold xm_bok; decide +kernel
def b_X12_fill_42 : List (Nat × Jvm.ClassFile.Instr × Nat) := [(42, .return_, 1)]
set_option maxRecDepth 20000 in
theorem k_X12_fill_42 {sc : xm_Sc} : xm_bok (xe_cy (XE sc) 222) b_X12_fill_42 := by show xm_bok cX12_fill _; unfold xm_bok; decide +kernel
set_option maxRecDepth 20000 in
theorem cn_222 {sc : xm_Sc} : xe_cn (XE sc) 222 = 12 := rfl
set_option maxRecDepth 20000 in
theorem ml_222 {sc : xm_Sc} : xe_ml (XE sc) 222 = 5 := rfl
set_option maxRecDepth 20000 in
theorem ry_222 {sc : xm_Sc} : xe_ry (XE sc) 222 = none := rfl
set_option maxRecDepth 20000 in
theorem is_222 {sc : xm_Sc} : xe_is (XE sc) 222 = false := rfl
set_option maxRecDepth 20000 in
theorem np_222 {sc : xm_Sc} : xe_np (XE sc) 222 = 3 := rfl
/- method 223: X12_find -/
def b_X12_find_0 : List (Nat × Jvm.ClassFile.Instr × Nat) := [(0, .iload_n 1, 1), (1, .istore_n 2, 1)]
set_option maxRecDepth 20000 in
theorem k_X12_find_0 {sc : xm_Sc} : xm_bok (xe_cy (XE sc) 223) b_X12_find_0 := by show xm_bok cX12_find _; unfold xm_bok; decide +kernel
def b_X12_find_2 : List (Nat × Jvm.ClassFile.Instr × Nat) := [(2, .aload_n 0, 1), (3, .getfield 127, 3), (6, .iload_n 2, 1), (7, .iaload, 1), (8, .iload_n 2, 1), (9, .if_icmp .eq 13, 3)]
set_option maxRecDepth 20000 in
theorem k_X12_find_2 {sc : xm_Sc} : xm_bok (xe_cy (XE sc) 223) b_X12_find_2 := by show xm_bok cX12_find _; unfold xm_bok; decide +kernel
def b_X12_find_12 : List (Nat × Jvm.ClassFile.Instr × Nat) := [(12, .aload_n 0, 1), (13, .getfield 127, 3), (16, .iload_n 2, 1), (17, .iaload, 1), (18, .istore_n 2, 1), (19, .goto (-17), 3)]
set_option maxRecDepth 20000 in
theorem k_X12_find_12 {sc : xm_Sc} : xm_bok (xe_cy (XE sc) 223) b_X12_find_12 := by show xm_bok cX12_find _; unfold xm_bok; decide +kernel
def b_X12_find_22 : List (Nat × Jvm.ClassFile.Instr × Nat) := [(22, .iload_n 2, 1), (23, .ireturn, 1)]
set_option maxRecDepth 20000 in
theorem k_X12_find_22 {sc : xm_Sc} : xm_bok (xe_cy (XE sc) 223) b_X12_find_22 := by show xm_bok cX12_find _; unfold xm_bok; decide +kernel
set_option maxRecDepth 20000 in
theorem cn_223 {sc : xm_Sc} : xe_cn (XE sc) 223 = 12 := rfl
set_option maxRecDepth 20000 in
theorem ml_223 {sc : xm_Sc} : xe_ml (XE sc) 223 = 3 := rfl
set_option maxRecDepth 20000 in
theorem ry_223 {sc : xm_Sc} : xe_ry (XE sc) 223 = (some .int) := rfl
set_option maxRecDepth 20000 in
theorem is_223 {sc : xm_Sc} : xe_is (XE sc) 223 = false := rfl
set_option maxRecDepth 20000 in
theorem np_223 {sc : xm_Sc} : xe_np (XE sc) 223 = 1 := rfl
/- method 224: X12_findTypes -/
def b_X12_findTypes_0 : List (Nat × Jvm.ClassFile.Instr × Nat) := [(0, .aload_n 0, 1), (1, .invokevirtual 271, 3)]
set_option maxRecDepth 20000 in
theorem k_X12_findTypes_0 {sc : xm_Sc} : xm_bok (xe_cy (XE sc) 224) b_X12_findTypes_0 := by show xm_bok cX12_findTypes _; unfold xm_bok; decide +kernel
def b_X12_findTypes_4 : List (Nat × Jvm.ClassFile.Instr × Nat) := [(4, .aload_n 0, 1), (5, .invokevirtual 274, 3)]
set_option maxRecDepth 20000 in
theorem k_X12_findTypes_4 {sc : xm_Sc} : xm_bok (xe_cy (XE sc) 224) b_X12_findTypes_4 := by show xm_bok cX12_findTypes _; unfold xm_bok; decide +kernel
def b_X12_findTypes_8 : List (Nat × Jvm.ClassFile.Instr × Nat) := [(8, .iconst 0, 1), (9, .istore_n 1, 1)]
set_option maxRecDepth 20000 in
theorem k_X12_findTypes_8 {sc : xm_Sc} : xm_bok (xe_cy (XE sc) 224) b_X12_findTypes_8 := by show xm_bok cX12_findTypes _; unfold xm_bok; decide +kernel
def b_X12_findTypes_10 : List (Nat × Jvm.ClassFile.Instr × Nat) := [(10, .iload_n 1, 1), (11, .aload_n 0, 1), (12, .getfield 226, 3), (15, .if_icmp .ge 25, 3)]
set_option maxRecDepth 20000 in
theorem k_X12_findTypes_10 {sc : xm_Sc} : xm_bok (xe_cy (XE sc) 224) b_X12_findTypes_10 := by show xm_bok cX12_findTypes _; unfold xm_bok; decide +kernel
def b_X12_findTypes_18 : List (Nat × Jvm.ClassFile.Instr × Nat) := [(18, .aload_n 0, 1), (19, .aload_n 0, 1), (20, .getfield 40, 3), (23, .iload_n 1, 1), (24, .iaload, 1), (25, .invokevirtual 277, 3)]
set_option maxRecDepth 20000 in
theorem k_X12_findTypes_18 {sc : xm_Sc} : xm_bok (xe_cy (XE sc) 224) b_X12_findTypes_18 := by show xm_bok cX12_findTypes _; unfold xm_bok; decide +kernel
def b_X12_findTypes_28 : List (Nat × Jvm.ClassFile.Instr × Nat) := [(28, .ifCond .ne 6, 3)]
set_option maxRecDepth 20000 in
theorem k_X12_findTypes_28 {sc : xm_Sc} : xm_bok (xe_cy (XE sc) 224) b_X12_findTypes_28 := by show xm_bok cX12_findTypes _; unfold xm_bok; decide +kernel
def b_X12_findTypes_31 : List (Nat × Jvm.ClassFile.Instr × Nat) := [(31, .bipush 8, 2), (33, .ireturn, 1)]
set_option maxRecDepth 20000 in
theorem k_X12_findTypes_31 {sc : xm_Sc} : xm_bok (xe_cy (XE sc) 224) b_X12_findTypes_31 := by show xm_bok cX12_findTypes _; unfold xm_bok; decide +kernel
def b_X12_findTypes_34 : List (Nat × Jvm.ClassFile.Instr × Nat) := [(34, .iinc 1 1, 3), (37, .goto (-27), 3)]
set_option maxRecDepth 20000 in
theorem k_X12_findTypes_34 {sc : xm_Sc} : xm_bok (xe_cy (XE sc) 224) b_X12_findTypes_34 := by show xm_bok cX12_findTypes _; unfold xm_bok; decide +kernel
def b_X12_findTypes_40 : List (Nat × Jvm.ClassFile.Instr × Nat) := [(40, .iconst 0, 1), (41, .istore_n 1, 1)]
set_option maxRecDepth 20000 in
theorem k_X12_findTypes_40 {sc : xm_Sc} : xm_bok (xe_cy (XE sc) 224) b_X12_findTypes_40 := by show xm_bok cX12_findTypes _; unfold xm_bok; decide +kernel
def b_X12_findTypes_42 : List (Nat × Jvm.ClassFile.Instr × Nat) := [(42, .iload_n 1, 1), (43, .aload_n 0, 1), (44, .getfield 233, 3), (47, .if_icmp .ge 16, 3)]
set_option maxRecDepth 20000 in
theorem k_X12_findTypes_42 {sc : xm_Sc} : xm_bok (xe_cy (XE sc) 224) b_X12_findTypes_42 := by show xm_bok cX12_findTypes _; unfold xm_bok; decide +kernel
def b_X12_findTypes_50 : List (Nat × Jvm.ClassFile.Instr × Nat) := [(50, .aload_n 0, 1), (51, .getfield 130, 3), (54, .iload_n 1, 1), (55, .iconst (-1), 1), (56, .iastore, 1), (57, .iinc 1 1, 3), (60, .goto (-18), 3)]
set_option maxRecDepth 20000 in
theorem k_X12_findTypes_50 {sc : xm_Sc} : xm_bok (xe_cy (XE sc) 224) b_X12_findTypes_50 := by show xm_bok cX12_findTypes _; unfold xm_bok; decide +kernel
def b_X12_findTypes_63 : List (Nat × Jvm.ClassFile.Instr × Nat) := [(63, .iconst 0, 1), (64, .istore_n 1, 1), (65, .iconst 0, 1), (66, .istore_n 2, 1)]
set_option maxRecDepth 20000 in
theorem k_X12_findTypes_63 {sc : xm_Sc} : xm_bok (xe_cy (XE sc) 224) b_X12_findTypes_63 := by show xm_bok cX12_findTypes _; unfold xm_bok; decide +kernel
def b_X12_findTypes_67 : List (Nat × Jvm.ClassFile.Instr × Nat) := [(67, .iload_n 2, 1), (68, .aload_n 0, 1), (69, .getfield 226, 3), (72, .if_icmp .ge 123, 3)]
set_option maxRecDepth 20000 in
theorem k_X12_findTypes_67 {sc : xm_Sc} : xm_bok (xe_cy (XE sc) 224) b_X12_findTypes_67 := by show xm_bok cX12_findTypes _; unfold xm_bok; decide +kernel
def b_X12_findTypes_75 : List (Nat × Jvm.ClassFile.Instr × Nat) := [(75, .aload_n 0, 1), (76, .getfield 40, 3), (79, .iload_n 2, 1), (80, .iaload, 1), (81, .istore_n 3, 1), (82, .aload_n 0, 1), (83, .getfield 16, 3), (86, .iload_n 3, 1), (87, .iaload, 1), (88, .bipush 11, 2), (90, .if_icmp .ne 6, 3)]
set_option maxRecDepth 20000 in
theorem k_X12_findTypes_75 {sc : xm_Sc} : xm_bok (xe_cy (XE sc) 224) b_X12_findTypes_75 := by show xm_bok cX12_findTypes _; unfold xm_bok; decide +kernel
def b_X12_findTypes_93 : List (Nat × Jvm.ClassFile.Instr × Nat) := [(93, .goto 96, 3)]
set_option maxRecDepth 20000 in
theorem k_X12_findTypes_93 {sc : xm_Sc} : xm_bok (xe_cy (XE sc) 224) b_X12_findTypes_93 := by show xm_bok cX12_findTypes _; unfold xm_bok; decide +kernel
def b_X12_findTypes_96 : List (Nat × Jvm.ClassFile.Instr × Nat) := [(96, .aload_n 0, 1), (97, .aload_n 0, 1), (98, .getfield 34, 3), (101, .iload_n 3, 1), (102, .iaload, 1), (103, .invokevirtual 280, 3)]
set_option maxRecDepth 20000 in
theorem k_X12_findTypes_96 {sc : xm_Sc} : xm_bok (xe_cy (XE sc) 224) b_X12_findTypes_96 := by show xm_bok cX12_findTypes _; unfold xm_bok; decide +kernel
def b_X12_findTypes_106 : List (Nat × Jvm.ClassFile.Instr × Nat) := [(106, .istore 4, 2), (108, .iload 4, 2), (110, .ifCond .ge 7, 3)]
set_option maxRecDepth 20000 in
theorem k_X12_findTypes_106 {sc : xm_Sc} : xm_bok (xe_cy (XE sc) 224) b_X12_findTypes_106 := by show xm_bok cX12_findTypes _; unfold xm_bok; decide +kernel
def b_X12_findTypes_113 : List (Nat × Jvm.ClassFile.Instr × Nat) := [(113, .iconst (-1), 1), (114, .goto 13, 3)]
set_option maxRecDepth 20000 in
theorem k_X12_findTypes_113 {sc : xm_Sc} : xm_bok (xe_cy (XE sc) 224) b_X12_findTypes_113 := by show xm_bok cX12_findTypes _; unfold xm_bok; decide +kernel
def b_X12_findTypes_117 : List (Nat × Jvm.ClassFile.Instr × Nat) := [(117, .aload_n 0, 1), (118, .aload_n 0, 1), (119, .getfield 37, 3), (122, .iload_n 3, 1), (123, .iaload, 1), (124, .invokevirtual 280, 3)]
set_option maxRecDepth 20000 in
theorem k_X12_findTypes_117 {sc : xm_Sc} : xm_bok (xe_cy (XE sc) 224) b_X12_findTypes_117 := by show xm_bok cX12_findTypes _; unfold xm_bok; decide +kernel
def b_X12_findTypes_127 : List (Nat × Jvm.ClassFile.Instr × Nat) := [(127, .istore 5, 2), (129, .iload 5, 2), (131, .ifCond .ge 6, 3)]
set_option maxRecDepth 20000 in
theorem k_X12_findTypes_127 {sc : xm_Sc} : xm_bok (xe_cy (XE sc) 224) b_X12_findTypes_127 := by show xm_bok cX12_findTypes _; unfold xm_bok; decide +kernel
def b_X12_findTypes_134 : List (Nat × Jvm.ClassFile.Instr × Nat) := [(134, .bipush 8, 2), (136, .ireturn, 1)]
set_option maxRecDepth 20000 in
theorem k_X12_findTypes_134 {sc : xm_Sc} : xm_bok (xe_cy (XE sc) 224) b_X12_findTypes_134 := by show xm_bok cX12_findTypes _; unfold xm_bok; decide +kernel
def b_X12_findTypes_137 : List (Nat × Jvm.ClassFile.Instr × Nat) := [(137, .aload_n 0, 1), (138, .getfield 34, 3), (141, .iload_n 3, 1), (142, .iload 4, 2), (144, .iastore, 1), (145, .aload_n 0, 1), (146, .getfield 37, 3), (149, .iload_n 3, 1), (150, .iload 5, 2), (152, .iastore, 1), (153, .iload_n 1, 1), (154, .ifCond .ne 29, 3)]
set_option maxRecDepth 20000 in
theorem k_X12_findTypes_137 {sc : xm_Sc} : xm_bok (xe_cy (XE sc) 224) b_X12_findTypes_137 := by show xm_bok cX12_findTypes _; unfold xm_bok; decide +kernel
def b_X12_findTypes_157 : List (Nat × Jvm.ClassFile.Instr × Nat) := [(157, .aload_n 0, 1), (158, .getfield 100, 3), (161, .iload 4, 2), (163, .iaload, 1), (164, .sipush 2048, 3), (167, .if_icmp .gt 16, 3)]
set_option maxRecDepth 20000 in
theorem k_X12_findTypes_157 {sc : xm_Sc} : xm_bok (xe_cy (XE sc) 224) b_X12_findTypes_157 := by show xm_bok cX12_findTypes _; unfold xm_bok; decide +kernel
def b_X12_findTypes_170 : List (Nat × Jvm.ClassFile.Instr × Nat) := [(170, .aload_n 0, 1), (171, .getfield 100, 3), (174, .iload 5, 2), (176, .iaload, 1), (177, .sipush 2048, 3), (180, .if_icmp .le 7, 3)]
set_option maxRecDepth 20000 in
theorem k_X12_findTypes_170 {sc : xm_Sc} : xm_bok (xe_cy (XE sc) 224) b_X12_findTypes_170 := by show xm_bok cX12_findTypes _; unfold xm_bok; decide +kernel
def b_X12_findTypes_183 : List (Nat × Jvm.ClassFile.Instr × Nat) := [(183, .iconst 1, 1), (184, .goto 4, 3)]
set_option maxRecDepth 20000 in
theorem k_X12_findTypes_183 {sc : xm_Sc} : xm_bok (xe_cy (XE sc) 224) b_X12_findTypes_183 := by show xm_bok cX12_findTypes _; unfold xm_bok; decide +kernel
def b_X12_findTypes_187 : List (Nat × Jvm.ClassFile.Instr × Nat) := [(187, .iconst 0, 1)]
set_option maxRecDepth 20000 in
theorem k_X12_findTypes_187 {sc : xm_Sc} : xm_bok (xe_cy (XE sc) 224) b_X12_findTypes_187 := by show xm_bok cX12_findTypes _; unfold xm_bok; decide +kernel
def b_X12_findTypes_188 : List (Nat × Jvm.ClassFile.Instr × Nat) := [(188, .istore_n 1, 1)]
set_option maxRecDepth 20000 in
theorem k_X12_findTypes_188 {sc : xm_Sc} : xm_bok (xe_cy (XE sc) 224) b_X12_findTypes_188 := by show xm_bok cX12_findTypes _; unfold xm_bok; decide +kernel
def b_X12_findTypes_189 : List (Nat × Jvm.ClassFile.Instr × Nat) := [(189, .iinc 2 1, 3), (192, .goto (-125), 3)]
set_option maxRecDepth 20000 in
theorem k_X12_findTypes_189 {sc : xm_Sc} : xm_bok (xe_cy (XE sc) 224) b_X12_findTypes_189 := by show xm_bok cX12_findTypes _; unfold xm_bok; decide +kernel
def b_X12_findTypes_195 : List (Nat × Jvm.ClassFile.Instr × Nat) := [(195, .iload_n 1, 1), (196, .ifCond .eq 8, 3)]
set_option maxRecDepth 20000 in
theorem k_X12_findTypes_195 {sc : xm_Sc} : xm_bok (xe_cy (XE sc) 224) b_X12_findTypes_195 := by show xm_bok cX12_findTypes _; unfold xm_bok; decide +kernel
def b_X12_findTypes_199 : List (Nat × Jvm.ClassFile.Instr × Nat) := [(199, .bipush 9, 2), (201, .goto 4, 3)]
set_option maxRecDepth 20000 in
theorem k_X12_findTypes_199 {sc : xm_Sc} : xm_bok (xe_cy (XE sc) 224) b_X12_findTypes_199 := by show xm_bok cX12_findTypes _; unfold xm_bok; decide +kernel
def b_X12_findTypes_204 : List (Nat × Jvm.ClassFile.Instr × Nat) := [(204, .iconst 0, 1)]
set_option maxRecDepth 20000 in
theorem k_X12_findTypes_204 {sc : xm_Sc} : xm_bok (xe_cy (XE sc) 224) b_X12_findTypes_204 := by show xm_bok cX12_findTypes _; unfold xm_bok; decide +kernel
def b_X12_findTypes_205 : List (Nat × Jvm.ClassFile.Instr × Nat) := [(205, .ireturn, 1)]
set_option maxRecDepth 20000 in
theorem k_X12_findTypes_205 {sc : xm_Sc} : xm_bok (xe_cy (XE sc) 224) b_X12_findTypes_205 := by show xm_bok cX12_findTypes _; unfold xm_bok; decide +kernel
set_option maxRecDepth 20000 in
theorem cn_224 {sc : xm_Sc} : xe_cn (XE sc) 224 = 12 := rfl
set_option maxRecDepth 20000 in
theorem ml_224 {sc : xm_Sc} : xe_ml (XE sc) 224 = 6 := rfl
set_option maxRecDepth 20000 in
theorem ry_224 {sc : xm_Sc} : xe_ry (XE sc) 224 = (some .int) := rfl
set_option maxRecDepth 20000 in
theorem is_224 {sc : xm_Sc} : xe_is (XE sc) 224 = false := rfl
set_option maxRecDepth 20000 in
theorem np_224 {sc : xm_Sc} : xe_np (XE sc) 224 = 0 := rfl
/- method 225: X12_goFrom -/
def b_X12_goFrom_0 : List (Nat × Jvm.ClassFile.Instr × Nat) := [(0, .iconst 0, 1), (1, .istore_n 2, 1)]
set_option maxRecDepth 20000 in
theorem k_X12_goFrom_0 {sc : xm_Sc} : xm_bok (xe_cy (XE sc) 225) b_X12_goFrom_0 := by show xm_bok cX12_goFrom _; unfold xm_bok; decide +kernel
def b_X12_goFrom_2 : List (Nat × Jvm.ClassFile.Instr × Nat) := [(2, .iload_n 2, 1), (3, .aload_n 0, 1), (4, .getfield 223, 3), (7, .if_icmp .ge 16, 3)]
set_option maxRecDepth 20000 in
theorem k_X12_goFrom_2 {sc : xm_Sc} : xm_bok (xe_cy (XE sc) 225) b_X12_goFrom_2 := by show xm_bok cX12_goFrom _; unfold xm_bok; decide +kernel
def b_X12_goFrom_10 : List (Nat × Jvm.ClassFile.Instr × Nat) := [(10, .aload_n 0, 1), (11, .getfield 43, 3), (14, .iload_n 2, 1), (15, .iconst 0, 1), (16, .bastore, 1), (17, .iinc 2 1, 3), (20, .goto (-18), 3)]
set_option maxRecDepth 20000 in
theorem k_X12_goFrom_10 {sc : xm_Sc} : xm_bok (xe_cy (XE sc) 225) b_X12_goFrom_10 := by show xm_bok cX12_goFrom _; unfold xm_bok; decide +kernel
def b_X12_goFrom_23 : List (Nat × Jvm.ClassFile.Instr × Nat) := [(23, .aload_n 0, 1), (24, .iconst 0, 1), (25, .putfield 226, 3), (28, .aload_n 0, 1), (29, .getfield 48, 3), (32, .iconst 0, 1), (33, .iload_n 1, 1), (34, .iastore, 1), (35, .aload_n 0, 1), (36, .getfield 51, 3), (39, .iconst 0, 1), (40, .iconst 0, 1), (41, .iastore, 1), (42, .aload_n 0, 1), (43, .getfield 43, 3), (46, .iload_n 1, 1), (47, .iconst 1, 1), (48, .bastore, 1), (49, .iconst 1, 1), (50, .istore_n 2, 1)]
set_option maxRecDepth 20000 in
theorem k_X12_goFrom_23 {sc : xm_Sc} : xm_bok (xe_cy (XE sc) 225) b_X12_goFrom_23 := by show xm_bok cX12_goFrom _; unfold xm_bok; decide +kernel
def b_X12_goFrom_51 : List (Nat × Jvm.ClassFile.Instr × Nat) := [(51, .iload_n 2, 1), (52, .ifCond .le 121, 3)]
set_option maxRecDepth 20000 in
theorem k_X12_goFrom_51 {sc : xm_Sc} : xm_bok (xe_cy (XE sc) 225) b_X12_goFrom_51 := by show xm_bok cX12_goFrom _; unfold xm_bok; decide +kernel
def b_X12_goFrom_55 : List (Nat × Jvm.ClassFile.Instr × Nat) := [(55, .aload_n 0, 1), (56, .getfield 48, 3), (59, .iload_n 2, 1), (60, .iconst 1, 1), (61, .isub, 1), (62, .iaload, 1), (63, .istore_n 3, 1), (64, .aload_n 0, 1), (65, .iload_n 3, 1), (66, .aload_n 0, 1), (67, .getfield 51, 3), (70, .iload_n 2, 1), (71, .iconst 1, 1), (72, .isub, 1), (73, .iaload, 1), (74, .invokevirtual 229, 3)]
set_option maxRecDepth 20000 in
theorem k_X12_goFrom_55 {sc : xm_Sc} : xm_bok (xe_cy (XE sc) 225) b_X12_goFrom_55 := by show xm_bok cX12_goFrom _; unfold xm_bok; decide +kernel
def b_X12_goFrom_77 : List (Nat × Jvm.ClassFile.Instr × Nat) := [(77, .istore 4, 2), (79, .aload_n 0, 1), (80, .getfield 51, 3), (83, .iload_n 2, 1), (84, .iconst 1, 1), (85, .isub, 1), (86, .dup2, 1), (87, .iaload, 1), (88, .iconst 1, 1), (89, .iadd, 1), (90, .iastore, 1), (91, .iload 4, 2), (93, .ifCond .lt 42, 3)]
set_option maxRecDepth 20000 in
theorem k_X12_goFrom_77 {sc : xm_Sc} : xm_bok (xe_cy (XE sc) 225) b_X12_goFrom_77 := by show xm_bok cX12_goFrom _; unfold xm_bok; decide +kernel
def b_X12_goFrom_96 : List (Nat × Jvm.ClassFile.Instr × Nat) := [(96, .aload_n 0, 1), (97, .getfield 43, 3), (100, .iload 4, 2), (102, .baload, 1), (103, .ifCond .ne 32, 3)]
set_option maxRecDepth 20000 in
theorem k_X12_goFrom_96 {sc : xm_Sc} : xm_bok (xe_cy (XE sc) 225) b_X12_goFrom_96 := by show xm_bok cX12_goFrom _; unfold xm_bok; decide +kernel
def b_X12_goFrom_106 : List (Nat × Jvm.ClassFile.Instr × Nat) := [(106, .aload_n 0, 1), (107, .getfield 43, 3), (110, .iload 4, 2), (112, .iconst 1, 1), (113, .bastore, 1), (114, .aload_n 0, 1), (115, .getfield 48, 3), (118, .iload_n 2, 1), (119, .iload 4, 2), (121, .iastore, 1), (122, .aload_n 0, 1), (123, .getfield 51, 3), (126, .iload_n 2, 1), (127, .iconst 0, 1), (128, .iastore, 1), (129, .iinc 2 1, 3), (132, .goto 38, 3)]
set_option maxRecDepth 20000 in
theorem k_X12_goFrom_106 {sc : xm_Sc} : xm_bok (xe_cy (XE sc) 225) b_X12_goFrom_106 := by show xm_bok cX12_goFrom _; unfold xm_bok; decide +kernel
def b_X12_goFrom_135 : List (Nat × Jvm.ClassFile.Instr × Nat) := [(135, .aload_n 0, 1), (136, .getfield 51, 3), (139, .iload_n 2, 1), (140, .iconst 1, 1), (141, .isub, 1), (142, .iaload, 1), (143, .iconst 2, 1), (144, .if_icmp .le 26, 3)]
set_option maxRecDepth 20000 in
theorem k_X12_goFrom_135 {sc : xm_Sc} : xm_bok (xe_cy (XE sc) 225) b_X12_goFrom_135 := by show xm_bok cX12_goFrom _; unfold xm_bok; decide +kernel
def b_X12_goFrom_147 : List (Nat × Jvm.ClassFile.Instr × Nat) := [(147, .aload_n 0, 1), (148, .getfield 40, 3), (151, .aload_n 0, 1), (152, .getfield 226, 3), (155, .iload_n 3, 1), (156, .iastore, 1), (157, .aload_n 0, 1), (158, .dup, 1), (159, .getfield 226, 3), (162, .iconst 1, 1), (163, .iadd, 1), (164, .putfield 226, 3), (167, .iinc 2 (-1), 3)]
set_option maxRecDepth 20000 in
theorem k_X12_goFrom_147 {sc : xm_Sc} : xm_bok (xe_cy (XE sc) 225) b_X12_goFrom_147 := by show xm_bok cX12_goFrom _; unfold xm_bok; decide +kernel
def b_X12_goFrom_170 : List (Nat × Jvm.ClassFile.Instr × Nat) := [(170, .goto (-119), 3)]
set_option maxRecDepth 20000 in
theorem k_X12_goFrom_170 {sc : xm_Sc} : xm_bok (xe_cy (XE sc) 225) b_X12_goFrom_170 := by show xm_bok cX12_goFrom _; unfold xm_bok; decide +kernel
def b_X12_goFrom_173 : List (Nat × Jvm.ClassFile.Instr × Nat) := [(173, .return_, 1)]
set_option maxRecDepth 20000 in
theorem k_X12_goFrom_173 {sc : xm_Sc} : xm_bok (xe_cy (XE sc) 225) b_X12_goFrom_173 := by show xm_bok cX12_goFrom _; unfold xm_bok; decide +kernel
set_option maxRecDepth 20000 in
theorem cn_225 {sc : xm_Sc} : xe_cn (XE sc) 225 = 12 := rfl
set_option maxRecDepth 20000 in
theorem ml_225 {sc : xm_Sc} : xe_ml (XE sc) 225 = 5 := rfl
set_option maxRecDepth 20000 in
theorem ry_225 {sc : xm_Sc} : xe_ry (XE sc) 225 = none := rfl
set_option maxRecDepth 20000 in
theorem is_225 {sc : xm_Sc} : xe_is (XE sc) 225 = false := rfl
set_option maxRecDepth 20000 in
theorem np_225 {sc : xm_Sc} : xe_np (XE sc) 225 = 1 := rfl
/- method 226: X12_goesOn -/
def b_X12_goesOn_0 : List (Nat × Jvm.ClassFile.Instr × Nat) := [(0, .aload_n 0, 1), (1, .getfield 494, 3), (4, .iconst 1, 1), (5, .isub, 1), (6, .istore_n 1, 1), (7, .aload_n 0, 1), (8, .getfield 166, 3), (11, .iload_n 1, 1), (12, .iaload, 1), (13, .istore_n 2, 1), (14, .aload_n 0, 1), (15, .getfield 169, 3), (18, .iload_n 1, 1), (19, .iaload, 1), (20, .istore_n 3, 1), (21, .aload_n 0, 1), (22, .getfield 172, 3), (25, .iload_n 1, 1), (26, .iaload, 1), (27, .istore 4, 2), (29, .aload_n 0, 1), (30, .getfield 175, 3), (33, .iload_n 1, 1), (34, .iaload, 1), (35, .istore 5, 2), (37, .aload_n 0, 1), (38, .getfield 169, 3), (41, .iload_n 1, 1), (42, .dup2, 1), (43, .iaload, 1), (44, .iconst 1, 1), (45, .iadd, 1), (46, .iastore, 1), (47, .aload_n 0, 1), (48, .getfield 54, 3), (51, .iload_n 2, 1), (52, .iaload, 1), (53, .tableswitch 280 0 6 #[43, 121, 55, 203, 203, 215, 215], 43)]
set_option maxRecDepth 20000 in
theorem k_X12_goesOn_0 {sc : xm_Sc} : xm_bok (xe_cy (XE sc) 226) b_X12_goesOn_0 := by show xm_bok cX12_goesOn _; unfold xm_bok; decide +kernel
def b_X12_goesOn_96 : List (Nat × Jvm.ClassFile.Instr × Nat) := [(96, .aload_n 0, 1), (97, .iload_n 2, 1), (98, .iload_n 3, 1), (99, .iload 4, 2), (101, .iload 5, 2), (103, .invokevirtual 520, 3)]
set_option maxRecDepth 20000 in
theorem k_X12_goesOn_96 {sc : xm_Sc} : xm_bok (xe_cy (XE sc) 226) b_X12_goesOn_96 := by show xm_bok cX12_goesOn _; unfold xm_bok; decide +kernel
def b_X12_goesOn_106 : List (Nat × Jvm.ClassFile.Instr × Nat) := [(106, .iconst 1, 1), (107, .ireturn, 1)]
set_option maxRecDepth 20000 in
theorem k_X12_goesOn_106 {sc : xm_Sc} : xm_bok (xe_cy (XE sc) 226) b_X12_goesOn_106 := by show xm_bok cX12_goesOn _; unfold xm_bok; decide +kernel
def b_X12_goesOn_108 : List (Nat × Jvm.ClassFile.Instr × Nat) := [(108, .iload_n 3, 1), (109, .ifCond .ne 20, 3)]
set_option maxRecDepth 20000 in
theorem k_X12_goesOn_108 {sc : xm_Sc} : xm_bok (xe_cy (XE sc) 226) b_X12_goesOn_108 := by show xm_bok cX12_goesOn _; unfold xm_bok; decide +kernel
def b_X12_goesOn_112 : List (Nat × Jvm.ClassFile.Instr × Nat) := [(112, .aload_n 0, 1), (113, .aload_n 0, 1), (114, .getfield 57, 3), (117, .iload_n 2, 1), (118, .iaload, 1), (119, .iload 4, 2), (121, .iload 5, 2), (123, .invokevirtual 516, 3)]
set_option maxRecDepth 20000 in
theorem k_X12_goesOn_112 {sc : xm_Sc} : xm_bok (xe_cy (XE sc) 226) b_X12_goesOn_112 := by show xm_bok cX12_goesOn _; unfold xm_bok; decide +kernel
def b_X12_goesOn_126 : List (Nat × Jvm.ClassFile.Instr × Nat) := [(126, .goto 46, 3)]
set_option maxRecDepth 20000 in
theorem k_X12_goesOn_126 {sc : xm_Sc} : xm_bok (xe_cy (XE sc) 226) b_X12_goesOn_126 := by show xm_bok cX12_goesOn _; unfold xm_bok; decide +kernel
def b_X12_goesOn_129 : List (Nat × Jvm.ClassFile.Instr × Nat) := [(129, .iload_n 3, 1), (130, .iconst 1, 1), (131, .if_icmp .ne 31, 3)]
set_option maxRecDepth 20000 in
theorem k_X12_goesOn_129 {sc : xm_Sc} : xm_bok (xe_cy (XE sc) 226) b_X12_goesOn_129 := by show xm_bok cX12_goesOn _; unfold xm_bok; decide +kernel
def b_X12_goesOn_134 : List (Nat × Jvm.ClassFile.Instr × Nat) := [(134, .aload_n 0, 1), (135, .aload_n 0, 1), (136, .getfield 60, 3), (139, .iload_n 2, 1), (140, .iaload, 1), (141, .iload 4, 2), (143, .iload 5, 2), (145, .aload_n 0, 1), (146, .aload_n 0, 1), (147, .getfield 57, 3), (150, .iload_n 2, 1), (151, .iaload, 1), (152, .invokevirtual 400, 3)]
set_option maxRecDepth 20000 in
theorem k_X12_goesOn_134 {sc : xm_Sc} : xm_bok (xe_cy (XE sc) 226) b_X12_goesOn_134 := by show xm_bok cX12_goesOn _; unfold xm_bok; decide +kernel
def b_X12_goesOn_155 : List (Nat × Jvm.ClassFile.Instr × Nat) := [(155, .iadd, 1), (156, .invokevirtual 516, 3)]
set_option maxRecDepth 20000 in
theorem k_X12_goesOn_155 {sc : xm_Sc} : xm_bok (xe_cy (XE sc) 226) b_X12_goesOn_155 := by show xm_bok cX12_goesOn _; unfold xm_bok; decide +kernel
def b_X12_goesOn_159 : List (Nat × Jvm.ClassFile.Instr × Nat) := [(159, .goto 13, 3)]
set_option maxRecDepth 20000 in
theorem k_X12_goesOn_159 {sc : xm_Sc} : xm_bok (xe_cy (XE sc) 226) b_X12_goesOn_159 := by show xm_bok cX12_goesOn _; unfold xm_bok; decide +kernel
def b_X12_goesOn_162 : List (Nat × Jvm.ClassFile.Instr × Nat) := [(162, .aload_n 0, 1), (163, .dup, 1), (164, .getfield 494, 3), (167, .iconst 1, 1), (168, .isub, 1), (169, .putfield 494, 3)]
set_option maxRecDepth 20000 in
theorem k_X12_goesOn_162 {sc : xm_Sc} : xm_bok (xe_cy (XE sc) 226) b_X12_goesOn_162 := by show xm_bok cX12_goesOn _; unfold xm_bok; decide +kernel
def b_X12_goesOn_172 : List (Nat × Jvm.ClassFile.Instr × Nat) := [(172, .iconst 1, 1), (173, .ireturn, 1)]
set_option maxRecDepth 20000 in
theorem k_X12_goesOn_172 {sc : xm_Sc} : xm_bok (xe_cy (XE sc) 226) b_X12_goesOn_172 := by show xm_bok cX12_goesOn _; unfold xm_bok; decide +kernel
def b_X12_goesOn_174 : List (Nat × Jvm.ClassFile.Instr × Nat) := [(174, .aload_n 0, 1), (175, .getfield 141, 3), (178, .iload 4, 2), (180, .baload, 1), (181, .ifCond .ne 12, 3)]
set_option maxRecDepth 20000 in
theorem k_X12_goesOn_174 {sc : xm_Sc} : xm_bok (xe_cy (XE sc) 226) b_X12_goesOn_174 := by show xm_bok cX12_goesOn _; unfold xm_bok; decide +kernel
def b_X12_goesOn_184 : List (Nat × Jvm.ClassFile.Instr × Nat) := [(184, .aload_n 0, 1), (185, .getfield 57, 3), (188, .iload_n 2, 1), (189, .iaload, 1), (190, .goto 9, 3)]
set_option maxRecDepth 20000 in
theorem k_X12_goesOn_184 {sc : xm_Sc} : xm_bok (xe_cy (XE sc) 226) b_X12_goesOn_184 := by show xm_bok cX12_goesOn _; unfold xm_bok; decide +kernel
def b_X12_goesOn_193 : List (Nat × Jvm.ClassFile.Instr × Nat) := [(193, .aload_n 0, 1), (194, .getfield 60, 3), (197, .iload_n 2, 1), (198, .iaload, 1)]
set_option maxRecDepth 20000 in
theorem k_X12_goesOn_193 {sc : xm_Sc} : xm_bok (xe_cy (XE sc) 226) b_X12_goesOn_193 := by show xm_bok cX12_goesOn _; unfold xm_bok; decide +kernel
def b_X12_goesOn_199 : List (Nat × Jvm.ClassFile.Instr × Nat) := [(199, .istore 6, 2), (201, .iload_n 3, 1), (202, .ifCond .le 15, 3)]
set_option maxRecDepth 20000 in
theorem k_X12_goesOn_199 {sc : xm_Sc} : xm_bok (xe_cy (XE sc) 226) b_X12_goesOn_199 := by show xm_bok cX12_goesOn _; unfold xm_bok; decide +kernel
def b_X12_goesOn_205 : List (Nat × Jvm.ClassFile.Instr × Nat) := [(205, .aload_n 0, 1), (206, .dup, 1), (207, .getfield 494, 3), (210, .iconst 1, 1), (211, .isub, 1), (212, .putfield 494, 3), (215, .iconst 1, 1), (216, .ireturn, 1)]
set_option maxRecDepth 20000 in
theorem k_X12_goesOn_205 {sc : xm_Sc} : xm_bok (xe_cy (XE sc) 226) b_X12_goesOn_205 := by show xm_bok cX12_goesOn _; unfold xm_bok; decide +kernel
def b_X12_goesOn_217 : List (Nat × Jvm.ClassFile.Instr × Nat) := [(217, .aload_n 0, 1), (218, .getfield 54, 3), (221, .iload 6, 2), (223, .iaload, 1), (224, .bipush 11, 2), (226, .if_icmp .ne 5, 3)]
set_option maxRecDepth 20000 in
theorem k_X12_goesOn_217 {sc : xm_Sc} : xm_bok (xe_cy (XE sc) 226) b_X12_goesOn_217 := by show xm_bok cX12_goesOn _; unfold xm_bok; decide +kernel
def b_X12_goesOn_229 : List (Nat × Jvm.ClassFile.Instr × Nat) := [(229, .iconst 0, 1), (230, .ireturn, 1)]
set_option maxRecDepth 20000 in
theorem k_X12_goesOn_229 {sc : xm_Sc} : xm_bok (xe_cy (XE sc) 226) b_X12_goesOn_229 := by show xm_bok cX12_goesOn _; unfold xm_bok; decide +kernel
def b_X12_goesOn_231 : List (Nat × Jvm.ClassFile.Instr × Nat) := [(231, .aload_n 0, 1), (232, .iload 6, 2), (234, .iload 4, 2), (236, .aload_n 0, 1), (237, .iload_n 2, 1), (238, .invokevirtual 403, 3)]
set_option maxRecDepth 20000 in
theorem k_X12_goesOn_231 {sc : xm_Sc} : xm_bok (xe_cy (XE sc) 226) b_X12_goesOn_231 := by show xm_bok cX12_goesOn _; unfold xm_bok; decide +kernel
def b_X12_goesOn_241 : List (Nat × Jvm.ClassFile.Instr × Nat) := [(241, .iadd, 1), (242, .aload_n 0, 1), (243, .iload 6, 2), (245, .invokevirtual 403, 3)]
set_option maxRecDepth 20000 in
theorem k_X12_goesOn_241 {sc : xm_Sc} : xm_bok (xe_cy (XE sc) 226) b_X12_goesOn_241 := by show xm_bok cX12_goesOn _; unfold xm_bok; decide +kernel
def b_X12_goesOn_248 : List (Nat × Jvm.ClassFile.Instr × Nat) := [(248, .isub, 1), (249, .iload 5, 2), (251, .invokevirtual 516, 3)]
set_option maxRecDepth 20000 in
theorem k_X12_goesOn_248 {sc : xm_Sc} : xm_bok (xe_cy (XE sc) 226) b_X12_goesOn_248 := by show xm_bok cX12_goesOn _; unfold xm_bok; decide +kernel
def b_X12_goesOn_254 : List (Nat × Jvm.ClassFile.Instr × Nat) := [(254, .iconst 1, 1), (255, .ireturn, 1)]
set_option maxRecDepth 20000 in
theorem k_X12_goesOn_254 {sc : xm_Sc} : xm_bok (xe_cy (XE sc) 226) b_X12_goesOn_254 := by show xm_bok cX12_goesOn _; unfold xm_bok; decide +kernel
def b_X12_goesOn_256 : List (Nat × Jvm.ClassFile.Instr × Nat) := [(256, .aload_n 0, 1), (257, .iload_n 2, 1), (258, .iload_n 3, 1), (259, .iload 4, 2), (261, .iload 5, 2), (263, .invokevirtual 523, 3)]
set_option maxRecDepth 20000 in
theorem k_X12_goesOn_256 {sc : xm_Sc} : xm_bok (xe_cy (XE sc) 226) b_X12_goesOn_256 := by show xm_bok cX12_goesOn _; unfold xm_bok; decide +kernel
def b_X12_goesOn_266 : List (Nat × Jvm.ClassFile.Instr × Nat) := [(266, .iconst 1, 1), (267, .ireturn, 1)]
set_option maxRecDepth 20000 in
theorem k_X12_goesOn_266 {sc : xm_Sc} : xm_bok (xe_cy (XE sc) 226) b_X12_goesOn_266 := by show xm_bok cX12_goesOn _; unfold xm_bok; decide +kernel
def b_X12_goesOn_268 : List (Nat × Jvm.ClassFile.Instr × Nat) := [(268, .iload_n 3, 1), (269, .ifCond .ne 52, 3)]
set_option maxRecDepth 20000 in
theorem k_X12_goesOn_268 {sc : xm_Sc} : xm_bok (xe_cy (XE sc) 226) b_X12_goesOn_268 := by show xm_bok cX12_goesOn _; unfold xm_bok; decide +kernel
def b_X12_goesOn_272 : List (Nat × Jvm.ClassFile.Instr × Nat) := [(272, .aload_n 0, 1), (273, .aload_n 0, 1), (274, .getfield 57, 3), (277, .iload_n 2, 1), (278, .iaload, 1), (279, .aload_n 0, 1), (280, .getfield 54, 3), (283, .iload_n 2, 1), (284, .iaload, 1), (285, .iconst 5, 1), (286, .if_icmp .ne 8, 3)]
set_option maxRecDepth 20000 in
theorem k_X12_goesOn_272 {sc : xm_Sc} : xm_bok (xe_cy (XE sc) 226) b_X12_goesOn_272 := by show xm_bok cX12_goesOn _; unfold xm_bok; decide +kernel
def b_X12_goesOn_289 : List (Nat × Jvm.ClassFile.Instr × Nat) := [(289, .iload 4, 2), (291, .goto 22, 3)]
set_option maxRecDepth 20000 in
theorem k_X12_goesOn_289 {sc : xm_Sc} : xm_bok (xe_cy (XE sc) 226) b_X12_goesOn_289 := by show xm_bok cX12_goesOn _; unfold xm_bok; decide +kernel
def b_X12_goesOn_294 : List (Nat × Jvm.ClassFile.Instr × Nat) := [(294, .iload 4, 2), (296, .aload_n 0, 1), (297, .iload_n 2, 1), (298, .invokevirtual 403, 3)]
set_option maxRecDepth 20000 in
theorem k_X12_goesOn_294 {sc : xm_Sc} : xm_bok (xe_cy (XE sc) 226) b_X12_goesOn_294 := by show xm_bok cX12_goesOn _; unfold xm_bok; decide +kernel
def b_X12_goesOn_301 : List (Nat × Jvm.ClassFile.Instr × Nat) := [(301, .iadd, 1), (302, .aload_n 0, 1), (303, .aload_n 0, 1), (304, .getfield 57, 3), (307, .iload_n 2, 1), (308, .iaload, 1), (309, .invokevirtual 403, 3)]
set_option maxRecDepth 20000 in
theorem k_X12_goesOn_301 {sc : xm_Sc} : xm_bok (xe_cy (XE sc) 226) b_X12_goesOn_301 := by show xm_bok cX12_goesOn _; unfold xm_bok; decide +kernel
def b_X12_goesOn_312 : List (Nat × Jvm.ClassFile.Instr × Nat) := [(312, .isub, 1)]
set_option maxRecDepth 20000 in
theorem k_X12_goesOn_312 {sc : xm_Sc} : xm_bok (xe_cy (XE sc) 226) b_X12_goesOn_312 := by show xm_bok cX12_goesOn _; unfold xm_bok; decide +kernel
def b_X12_goesOn_313 : List (Nat × Jvm.ClassFile.Instr × Nat) := [(313, .iload 5, 2), (315, .invokevirtual 516, 3)]
set_option maxRecDepth 20000 in
theorem k_X12_goesOn_313 {sc : xm_Sc} : xm_bok (xe_cy (XE sc) 226) b_X12_goesOn_313 := by show xm_bok cX12_goesOn _; unfold xm_bok; decide +kernel
def b_X12_goesOn_318 : List (Nat × Jvm.ClassFile.Instr × Nat) := [(318, .goto 13, 3)]
set_option maxRecDepth 20000 in
theorem k_X12_goesOn_318 {sc : xm_Sc} : xm_bok (xe_cy (XE sc) 226) b_X12_goesOn_318 := by show xm_bok cX12_goesOn _; unfold xm_bok; decide +kernel
def b_X12_goesOn_321 : List (Nat × Jvm.ClassFile.Instr × Nat) := [(321, .aload_n 0, 1), (322, .dup, 1), (323, .getfield 494, 3), (326, .iconst 1, 1), (327, .isub, 1), (328, .putfield 494, 3)]
set_option maxRecDepth 20000 in
theorem k_X12_goesOn_321 {sc : xm_Sc} : xm_bok (xe_cy (XE sc) 226) b_X12_goesOn_321 := by show xm_bok cX12_goesOn _; unfold xm_bok; decide +kernel
def b_X12_goesOn_331 : List (Nat × Jvm.ClassFile.Instr × Nat) := [(331, .iconst 1, 1), (332, .ireturn, 1)]
set_option maxRecDepth 20000 in
theorem k_X12_goesOn_331 {sc : xm_Sc} : xm_bok (xe_cy (XE sc) 226) b_X12_goesOn_331 := by show xm_bok cX12_goesOn _; unfold xm_bok; decide +kernel
def b_X12_goesOn_333 : List (Nat × Jvm.ClassFile.Instr × Nat) := [(333, .aload_n 0, 1), (334, .dup, 1), (335, .getfield 494, 3), (338, .iconst 1, 1), (339, .isub, 1), (340, .putfield 494, 3), (343, .aload_n 0, 1), (344, .iload_n 2, 1), (345, .iload 4, 2), (347, .iload 5, 2), (349, .invokevirtual 526, 3)]
set_option maxRecDepth 20000 in
theorem k_X12_goesOn_333 {sc : xm_Sc} : xm_bok (xe_cy (XE sc) 226) b_X12_goesOn_333 := by show xm_bok cX12_goesOn _; unfold xm_bok; decide +kernel
def b_X12_goesOn_352 : List (Nat × Jvm.ClassFile.Instr × Nat) := [(352, .ireturn, 1)]
set_option maxRecDepth 20000 in
theorem k_X12_goesOn_352 {sc : xm_Sc} : xm_bok (xe_cy (XE sc) 226) b_X12_goesOn_352 := by show xm_bok cX12_goesOn _; unfold xm_bok; decide +kernel
set_option maxRecDepth 20000 in
theorem cn_226 {sc : xm_Sc} : xe_cn (XE sc) 226 = 12 := rfl
set_option maxRecDepth 20000 in
theorem ml_226 {sc : xm_Sc} : xe_ml (XE sc) 226 = 7 := rfl
set_option maxRecDepth 20000 in
theorem ry_226 {sc : xm_Sc} : xe_ry (XE sc) 226 = (some .boolean) := rfl
set_option maxRecDepth 20000 in
theorem is_226 {sc : xm_Sc} : xe_is (XE sc) 226 = false := rfl
set_option maxRecDepth 20000 in
theorem np_226 {sc : xm_Sc} : xe_np (XE sc) 226 = 0 := rfl
/- method 227: X12_greater -/
def b_X12_greater_0 : List (Nat × Jvm.ClassFile.Instr × Nat) := [(0, .iload_n 0, 1), (1, .iload_n 1, 1), (2, .if_icmp .le 7, 3)]
set_option maxRecDepth 20000 in
theorem k_X12_greater_0 {sc : xm_Sc} : xm_bok (xe_cy (XE sc) 227) b_X12_greater_0 := by show xm_bok cX12_greater _; unfold xm_bok; decide +kernel
def b_X12_greater_5 : List (Nat × Jvm.ClassFile.Instr × Nat) := [(5, .iload_n 0, 1), (6, .goto 4, 3)]
set_option maxRecDepth 20000 in
theorem k_X12_greater_5 {sc : xm_Sc} : xm_bok (xe_cy (XE sc) 227) b_X12_greater_5 := by show xm_bok cX12_greater _; unfold xm_bok; decide +kernel
def b_X12_greater_9 : List (Nat × Jvm.ClassFile.Instr × Nat) := [(9, .iload_n 1, 1)]
set_option maxRecDepth 20000 in
theorem k_X12_greater_9 {sc : xm_Sc} : xm_bok (xe_cy (XE sc) 227) b_X12_greater_9 := by show xm_bok cX12_greater _; unfold xm_bok; decide +kernel
def b_X12_greater_10 : List (Nat × Jvm.ClassFile.Instr × Nat) := [(10, .ireturn, 1)]
set_option maxRecDepth 20000 in
theorem k_X12_greater_10 {sc : xm_Sc} : xm_bok (xe_cy (XE sc) 227) b_X12_greater_10 := by show xm_bok cX12_greater _; unfold xm_bok; decide +kernel
set_option maxRecDepth 20000 in
theorem cn_227 {sc : xm_Sc} : xe_cn (XE sc) 227 = 12 := rfl
set_option maxRecDepth 20000 in
theorem ml_227 {sc : xm_Sc} : xe_ml (XE sc) 227 = 2 := rfl
set_option maxRecDepth 20000 in
theorem ry_227 {sc : xm_Sc} : xe_ry (XE sc) 227 = (some .int) := rfl
set_option maxRecDepth 20000 in
theorem is_227 {sc : xm_Sc} : xe_is (XE sc) 227 = true := rfl
set_option maxRecDepth 20000 in
theorem np_227 {sc : xm_Sc} : xe_np (XE sc) 227 = 2 := rfl
/- method 228: X12_hasSame -/
def b_X12_hasSame_0 : List (Nat × Jvm.ClassFile.Instr × Nat) := [(0, .iconst 0, 1), (1, .istore_n 1, 1)]
set_option maxRecDepth 20000 in
theorem k_X12_hasSame_0 {sc : xm_Sc} : xm_bok (xe_cy (XE sc) 228) b_X12_hasSame_0 := by show xm_bok cX12_hasSame _; unfold xm_bok; decide +kernel
def b_X12_hasSame_2 : List (Nat × Jvm.ClassFile.Instr × Nat) := [(2, .iload_n 1, 1), (3, .aload_n 0, 1), (4, .getfield 223, 3), (7, .if_icmp .ge 33, 3)]
set_option maxRecDepth 20000 in
theorem k_X12_hasSame_2 {sc : xm_Sc} : xm_bok (xe_cy (XE sc) 228) b_X12_hasSame_2 := by show xm_bok cX12_hasSame _; unfold xm_bok; decide +kernel
def b_X12_hasSame_10 : List (Nat × Jvm.ClassFile.Instr × Nat) := [(10, .iconst 0, 1), (11, .istore_n 2, 1)]
set_option maxRecDepth 20000 in
theorem k_X12_hasSame_10 {sc : xm_Sc} : xm_bok (xe_cy (XE sc) 228) b_X12_hasSame_10 := by show xm_bok cX12_hasSame _; unfold xm_bok; decide +kernel
def b_X12_hasSame_12 : List (Nat × Jvm.ClassFile.Instr × Nat) := [(12, .iload_n 2, 1), (13, .iload_n 1, 1), (14, .if_icmp .ge 20, 3)]
set_option maxRecDepth 20000 in
theorem k_X12_hasSame_12 {sc : xm_Sc} : xm_bok (xe_cy (XE sc) 228) b_X12_hasSame_12 := by show xm_bok cX12_hasSame _; unfold xm_bok; decide +kernel
def b_X12_hasSame_17 : List (Nat × Jvm.ClassFile.Instr × Nat) := [(17, .aload_n 0, 1), (18, .iload_n 1, 1), (19, .iload_n 2, 1), (20, .invokevirtual 354, 3)]
set_option maxRecDepth 20000 in
theorem k_X12_hasSame_17 {sc : xm_Sc} : xm_bok (xe_cy (XE sc) 228) b_X12_hasSame_17 := by show xm_bok cX12_hasSame _; unfold xm_bok; decide +kernel
def b_X12_hasSame_23 : List (Nat × Jvm.ClassFile.Instr × Nat) := [(23, .ifCond .eq 5, 3)]
set_option maxRecDepth 20000 in
theorem k_X12_hasSame_23 {sc : xm_Sc} : xm_bok (xe_cy (XE sc) 228) b_X12_hasSame_23 := by show xm_bok cX12_hasSame _; unfold xm_bok; decide +kernel
def b_X12_hasSame_26 : List (Nat × Jvm.ClassFile.Instr × Nat) := [(26, .iconst 1, 1), (27, .ireturn, 1)]
set_option maxRecDepth 20000 in
theorem k_X12_hasSame_26 {sc : xm_Sc} : xm_bok (xe_cy (XE sc) 228) b_X12_hasSame_26 := by show xm_bok cX12_hasSame _; unfold xm_bok; decide +kernel
def b_X12_hasSame_28 : List (Nat × Jvm.ClassFile.Instr × Nat) := [(28, .iinc 2 1, 3), (31, .goto (-19), 3)]
set_option maxRecDepth 20000 in
theorem k_X12_hasSame_28 {sc : xm_Sc} : xm_bok (xe_cy (XE sc) 228) b_X12_hasSame_28 := by show xm_bok cX12_hasSame _; unfold xm_bok; decide +kernel
def b_X12_hasSame_34 : List (Nat × Jvm.ClassFile.Instr × Nat) := [(34, .iinc 1 1, 3), (37, .goto (-35), 3)]
set_option maxRecDepth 20000 in
theorem k_X12_hasSame_34 {sc : xm_Sc} : xm_bok (xe_cy (XE sc) 228) b_X12_hasSame_34 := by show xm_bok cX12_hasSame _; unfold xm_bok; decide +kernel
def b_X12_hasSame_40 : List (Nat × Jvm.ClassFile.Instr × Nat) := [(40, .iconst 0, 1), (41, .ireturn, 1)]
set_option maxRecDepth 20000 in
theorem k_X12_hasSame_40 {sc : xm_Sc} : xm_bok (xe_cy (XE sc) 228) b_X12_hasSame_40 := by show xm_bok cX12_hasSame _; unfold xm_bok; decide +kernel
set_option maxRecDepth 20000 in
theorem cn_228 {sc : xm_Sc} : xe_cn (XE sc) 228 = 12 := rfl
set_option maxRecDepth 20000 in
theorem ml_228 {sc : xm_Sc} : xe_ml (XE sc) 228 = 3 := rfl
set_option maxRecDepth 20000 in
theorem ry_228 {sc : xm_Sc} : xe_ry (XE sc) 228 = (some .boolean) := rfl
set_option maxRecDepth 20000 in
theorem is_228 {sc : xm_Sc} : xe_is (XE sc) 228 = false := rfl
set_option maxRecDepth 20000 in
theorem np_228 {sc : xm_Sc} : xe_np (XE sc) 228 = 0 := rfl
/- method 229: X12_higher -/
def b_X12_higher_0 : List (Nat × Jvm.ClassFile.Instr × Nat) := [(0, .ldc2_w 430, 3), (3, .lstore 4, 2), (5, .lload_n 0, 1), (6, .bipush 32, 2), (8, .lushr, 1), (9, .lstore 6, 2), (11, .lload_n 0, 1), (12, .lload 4, 2), (14, .land, 1), (15, .lstore 8, 2), (17, .lload_n 2, 1), (18, .bipush 32, 2), (20, .lushr, 1), (21, .lstore 10, 2), (23, .lload_n 2, 1), (24, .lload 4, 2), (26, .land, 1), (27, .lstore 12, 2), (29, .lload 8, 2), (31, .lload 12, 2), (33, .lmul, 1), (34, .lstore 14, 2), (36, .lload 6, 2), (38, .lload 12, 2), (40, .lmul, 1), (41, .lload 14, 2), (43, .bipush 32, 2), (45, .lushr, 1), (46, .ladd, 1), (47, .lstore 16, 2), (49, .lload 8, 2), (51, .lload 10, 2), (53, .lmul, 1), (54, .lload 16, 2), (56, .lload 4, 2), (58, .land, 1), (59, .ladd, 1), (60, .lstore 18, 2), (62, .lload 6, 2), (64, .lload 10, 2), (66, .lmul, 1), (67, .lload 16, 2), (69, .bipush 32, 2), (71, .lushr, 1), (72, .ladd, 1), (73, .lload 18, 2), (75, .bipush 32, 2), (77, .lushr, 1), (78, .ladd, 1), (79, .lreturn, 1)]
set_option maxRecDepth 20000 in
theorem k_X12_higher_0 {sc : xm_Sc} : xm_bok (xe_cy (XE sc) 229) b_X12_higher_0 := by show xm_bok cX12_higher _; unfold xm_bok; decide +kernel
set_option maxRecDepth 20000 in
theorem cn_229 {sc : xm_Sc} : xe_cn (XE sc) 229 = 12 := rfl
set_option maxRecDepth 20000 in
theorem ml_229 {sc : xm_Sc} : xe_ml (XE sc) 229 = 20 := rfl
set_option maxRecDepth 20000 in
theorem ry_229 {sc : xm_Sc} : xe_ry (XE sc) 229 = (some .long) := rfl
set_option maxRecDepth 20000 in
theorem is_229 {sc : xm_Sc} : xe_is (XE sc) 229 = true := rfl
set_option maxRecDepth 20000 in
theorem np_229 {sc : xm_Sc} : xe_np (XE sc) 229 = 2 := rfl
/- method 230: X12_inject -/
def b_X12_inject_0 : List (Nat × Jvm.ClassFile.Instr × Nat) := [(0, .iload_n 2, 1), (1, .ifCond .le 14, 3)]
set_option maxRecDepth 20000 in
theorem k_X12_inject_0 {sc : xm_Sc} : xm_bok (xe_cy (XE sc) 230) b_X12_inject_0 := by show xm_bok cX12_inject _; unfold xm_bok; decide +kernel
def b_X12_inject_4 : List (Nat × Jvm.ClassFile.Instr × Nat) := [(4, .aload_n 0, 1), (5, .dup, 1), (6, .getfield 494, 3), (9, .iconst 1, 1), (10, .isub, 1), (11, .putfield 494, 3), (14, .return_, 1)]
set_option maxRecDepth 20000 in
theorem k_X12_inject_4 {sc : xm_Sc} : xm_bok (xe_cy (XE sc) 230) b_X12_inject_4 := by show xm_bok cX12_inject _; unfold xm_bok; decide +kernel
def b_X12_inject_15 : List (Nat × Jvm.ClassFile.Instr × Nat) := [(15, .iload 4, 2), (17, .aload_n 0, 1), (18, .iload_n 1, 1), (19, .invokevirtual 400, 3)]
set_option maxRecDepth 20000 in
theorem k_X12_inject_15 {sc : xm_Sc} : xm_bok (xe_cy (XE sc) 230) b_X12_inject_15 := by show xm_bok cX12_inject _; unfold xm_bok; decide +kernel
def b_X12_inject_22 : List (Nat × Jvm.ClassFile.Instr × Nat) := [(22, .iadd, 1), (23, .aload_n 0, 1), (24, .aload_n 0, 1), (25, .getfield 57, 3), (28, .iload_n 1, 1), (29, .iaload, 1), (30, .invokevirtual 400, 3)]
set_option maxRecDepth 20000 in
theorem k_X12_inject_22 {sc : xm_Sc} : xm_bok (xe_cy (XE sc) 230) b_X12_inject_22 := by show xm_bok cX12_inject _; unfold xm_bok; decide +kernel
def b_X12_inject_33 : List (Nat × Jvm.ClassFile.Instr × Nat) := [(33, .isub, 1), (34, .istore 5, 2), (36, .iload 4, 2), (38, .istore 6, 2)]
set_option maxRecDepth 20000 in
theorem k_X12_inject_33 {sc : xm_Sc} : xm_bok (xe_cy (XE sc) 230) b_X12_inject_33 := by show xm_bok cX12_inject _; unfold xm_bok; decide +kernel
def b_X12_inject_40 : List (Nat × Jvm.ClassFile.Instr × Nat) := [(40, .iload 6, 2), (42, .iload 5, 2), (44, .if_icmp .ge 17, 3)]
set_option maxRecDepth 20000 in
theorem k_X12_inject_40 {sc : xm_Sc} : xm_bok (xe_cy (XE sc) 230) b_X12_inject_40 := by show xm_bok cX12_inject _; unfold xm_bok; decide +kernel
def b_X12_inject_47 : List (Nat × Jvm.ClassFile.Instr × Nat) := [(47, .aload_n 0, 1), (48, .getfield 141, 3), (51, .iload 6, 2), (53, .iconst 0, 1), (54, .bastore, 1), (55, .iinc 6 1, 3), (58, .goto (-18), 3)]
set_option maxRecDepth 20000 in
theorem k_X12_inject_47 {sc : xm_Sc} : xm_bok (xe_cy (XE sc) 230) b_X12_inject_47 := by show xm_bok cX12_inject _; unfold xm_bok; decide +kernel
def b_X12_inject_61 : List (Nat × Jvm.ClassFile.Instr × Nat) := [(61, .aload_n 0, 1), (62, .getfield 141, 3), (65, .iload 4, 2), (67, .aload_n 0, 1), (68, .getfield 54, 3), (71, .iload_n 1, 1), (72, .iaload, 1), (73, .iconst 3, 1), (74, .if_icmp .ne 7, 3)]
set_option maxRecDepth 20000 in
theorem k_X12_inject_61 {sc : xm_Sc} : xm_bok (xe_cy (XE sc) 230) b_X12_inject_61 := by show xm_bok cX12_inject _; unfold xm_bok; decide +kernel
def b_X12_inject_77 : List (Nat × Jvm.ClassFile.Instr × Nat) := [(77, .iconst 0, 1), (78, .goto 4, 3)]
set_option maxRecDepth 20000 in
theorem k_X12_inject_77 {sc : xm_Sc} : xm_bok (xe_cy (XE sc) 230) b_X12_inject_77 := by show xm_bok cX12_inject _; unfold xm_bok; decide +kernel
def b_X12_inject_81 : List (Nat × Jvm.ClassFile.Instr × Nat) := [(81, .iconst 1, 1)]
set_option maxRecDepth 20000 in
theorem k_X12_inject_81 {sc : xm_Sc} : xm_bok (xe_cy (XE sc) 230) b_X12_inject_81 := by show xm_bok cX12_inject _; unfold xm_bok; decide +kernel
def b_X12_inject_82 : List (Nat × Jvm.ClassFile.Instr × Nat) := [(82, .i2b, 1), (83, .bastore, 1), (84, .aload_n 0, 1), (85, .aload_n 0, 1), (86, .getfield 57, 3), (89, .iload_n 1, 1), (90, .iaload, 1), (91, .iload_n 3, 1), (92, .iload 5, 2), (94, .invokevirtual 516, 3)]
set_option maxRecDepth 20000 in
theorem k_X12_inject_82 {sc : xm_Sc} : xm_bok (xe_cy (XE sc) 230) b_X12_inject_82 := by show xm_bok cX12_inject _; unfold xm_bok; decide +kernel
def b_X12_inject_97 : List (Nat × Jvm.ClassFile.Instr × Nat) := [(97, .return_, 1)]
set_option maxRecDepth 20000 in
theorem k_X12_inject_97 {sc : xm_Sc} : xm_bok (xe_cy (XE sc) 230) b_X12_inject_97 := by show xm_bok cX12_inject _; unfold xm_bok; decide +kernel
set_option maxRecDepth 20000 in
theorem cn_230 {sc : xm_Sc} : xe_cn (XE sc) 230 = 12 := rfl
set_option maxRecDepth 20000 in
theorem ml_230 {sc : xm_Sc} : xe_ml (XE sc) 230 = 7 := rfl
set_option maxRecDepth 20000 in
theorem ry_230 {sc : xm_Sc} : xe_ry (XE sc) 230 = none := rfl
set_option maxRecDepth 20000 in
theorem is_230 {sc : xm_Sc} : xe_is (XE sc) 230 = false := rfl
set_option maxRecDepth 20000 in
theorem np_230 {sc : xm_Sc} : xe_np (XE sc) 230 = 4 := rfl
/- method 231: X12_isInOrder -/
def b_X12_isInOrder_0 : List (Nat × Jvm.ClassFile.Instr × Nat) := [(0, .aload_n 0, 1), (1, .aload_n 0, 1), (2, .getfield 223, 3), (5, .iconst 1, 1), (6, .isub, 1), (7, .invokevirtual 351, 3)]
set_option maxRecDepth 20000 in
theorem k_X12_isInOrder_0 {sc : xm_Sc} : xm_bok (xe_cy (XE sc) 231) b_X12_isInOrder_0 := by show xm_bok cX12_isInOrder _; unfold xm_bok; decide +kernel
def b_X12_isInOrder_10 : List (Nat × Jvm.ClassFile.Instr × Nat) := [(10, .aload_n 0, 1), (11, .getfield 226, 3), (14, .aload_n 0, 1), (15, .getfield 223, 3), (18, .if_icmp .ne 7, 3)]
set_option maxRecDepth 20000 in
theorem k_X12_isInOrder_10 {sc : xm_Sc} : xm_bok (xe_cy (XE sc) 231) b_X12_isInOrder_10 := by show xm_bok cX12_isInOrder _; unfold xm_bok; decide +kernel
def b_X12_isInOrder_21 : List (Nat × Jvm.ClassFile.Instr × Nat) := [(21, .iconst 1, 1), (22, .goto 4, 3)]
set_option maxRecDepth 20000 in
theorem k_X12_isInOrder_21 {sc : xm_Sc} : xm_bok (xe_cy (XE sc) 231) b_X12_isInOrder_21 := by show xm_bok cX12_isInOrder _; unfold xm_bok; decide +kernel
def b_X12_isInOrder_25 : List (Nat × Jvm.ClassFile.Instr × Nat) := [(25, .iconst 0, 1)]
set_option maxRecDepth 20000 in
theorem k_X12_isInOrder_25 {sc : xm_Sc} : xm_bok (xe_cy (XE sc) 231) b_X12_isInOrder_25 := by show xm_bok cX12_isInOrder _; unfold xm_bok; decide +kernel
def b_X12_isInOrder_26 : List (Nat × Jvm.ClassFile.Instr × Nat) := [(26, .istore_n 1, 1), (27, .iconst 0, 1), (28, .istore_n 2, 1)]
set_option maxRecDepth 20000 in
theorem k_X12_isInOrder_26 {sc : xm_Sc} : xm_bok (xe_cy (XE sc) 231) b_X12_isInOrder_26 := by show xm_bok cX12_isInOrder _; unfold xm_bok; decide +kernel
def b_X12_isInOrder_29 : List (Nat × Jvm.ClassFile.Instr × Nat) := [(29, .iload_n 2, 1), (30, .aload_n 0, 1), (31, .getfield 226, 3), (34, .if_icmp .ge 29, 3)]
set_option maxRecDepth 20000 in
theorem k_X12_isInOrder_29 {sc : xm_Sc} : xm_bok (xe_cy (XE sc) 231) b_X12_isInOrder_29 := by show xm_bok cX12_isInOrder _; unfold xm_bok; decide +kernel
def b_X12_isInOrder_37 : List (Nat × Jvm.ClassFile.Instr × Nat) := [(37, .iload_n 1, 1), (38, .ifCond .eq 17, 3)]
set_option maxRecDepth 20000 in
theorem k_X12_isInOrder_37 {sc : xm_Sc} : xm_bok (xe_cy (XE sc) 231) b_X12_isInOrder_37 := by show xm_bok cX12_isInOrder _; unfold xm_bok; decide +kernel
def b_X12_isInOrder_41 : List (Nat × Jvm.ClassFile.Instr × Nat) := [(41, .aload_n 0, 1), (42, .getfield 40, 3), (45, .iload_n 2, 1), (46, .iaload, 1), (47, .iload_n 2, 1), (48, .if_icmp .ne 7, 3)]
set_option maxRecDepth 20000 in
theorem k_X12_isInOrder_41 {sc : xm_Sc} : xm_bok (xe_cy (XE sc) 231) b_X12_isInOrder_41 := by show xm_bok cX12_isInOrder _; unfold xm_bok; decide +kernel
def b_X12_isInOrder_51 : List (Nat × Jvm.ClassFile.Instr × Nat) := [(51, .iconst 1, 1), (52, .goto 4, 3)]
set_option maxRecDepth 20000 in
theorem k_X12_isInOrder_51 {sc : xm_Sc} : xm_bok (xe_cy (XE sc) 231) b_X12_isInOrder_51 := by show xm_bok cX12_isInOrder _; unfold xm_bok; decide +kernel
def b_X12_isInOrder_55 : List (Nat × Jvm.ClassFile.Instr × Nat) := [(55, .iconst 0, 1)]
set_option maxRecDepth 20000 in
theorem k_X12_isInOrder_55 {sc : xm_Sc} : xm_bok (xe_cy (XE sc) 231) b_X12_isInOrder_55 := by show xm_bok cX12_isInOrder _; unfold xm_bok; decide +kernel
def b_X12_isInOrder_56 : List (Nat × Jvm.ClassFile.Instr × Nat) := [(56, .istore_n 1, 1), (57, .iinc 2 1, 3), (60, .goto (-31), 3)]
set_option maxRecDepth 20000 in
theorem k_X12_isInOrder_56 {sc : xm_Sc} : xm_bok (xe_cy (XE sc) 231) b_X12_isInOrder_56 := by show xm_bok cX12_isInOrder _; unfold xm_bok; decide +kernel
def b_X12_isInOrder_63 : List (Nat × Jvm.ClassFile.Instr × Nat) := [(63, .iload_n 1, 1), (64, .ireturn, 1)]
set_option maxRecDepth 20000 in
theorem k_X12_isInOrder_63 {sc : xm_Sc} : xm_bok (xe_cy (XE sc) 231) b_X12_isInOrder_63 := by show xm_bok cX12_isInOrder _; unfold xm_bok; decide +kernel
set_option maxRecDepth 20000 in
theorem cn_231 {sc : xm_Sc} : xe_cn (XE sc) 231 = 12 := rfl
set_option maxRecDepth 20000 in
theorem ml_231 {sc : xm_Sc} : xe_ml (XE sc) 231 = 3 := rfl
set_option maxRecDepth 20000 in
theorem ry_231 {sc : xm_Sc} : xe_ry (XE sc) 231 = (some .boolean) := rfl
set_option maxRecDepth 20000 in
theorem is_231 {sc : xm_Sc} : xe_is (XE sc) 231 = false := rfl
set_option maxRecDepth 20000 in
theorem np_231 {sc : xm_Sc} : xe_np (XE sc) 231 = 0 := rfl
/- method 232: X12_isNode -/
def b_X12_isNode_0 : List (Nat × Jvm.ClassFile.Instr × Nat) := [(0, .iload_n 1, 1), (1, .ifCond .lt 15, 3)]
set_option maxRecDepth 20000 in
theorem k_X12_isNode_0 {sc : xm_Sc} : xm_bok (xe_cy (XE sc) 232) b_X12_isNode_0 := by show xm_bok cX12_isNode _; unfold xm_bok; decide +kernel
def b_X12_isNode_4 : List (Nat × Jvm.ClassFile.Instr × Nat) := [(4, .iload_n 1, 1), (5, .aload_n 0, 1), (6, .getfield 378, 3), (9, .if_icmp .ge 7, 3)]
set_option maxRecDepth 20000 in
theorem k_X12_isNode_4 {sc : xm_Sc} : xm_bok (xe_cy (XE sc) 232) b_X12_isNode_4 := by show xm_bok cX12_isNode _; unfold xm_bok; decide +kernel
def b_X12_isNode_12 : List (Nat × Jvm.ClassFile.Instr × Nat) := [(12, .iconst 1, 1), (13, .goto 4, 3)]
set_option maxRecDepth 20000 in
theorem k_X12_isNode_12 {sc : xm_Sc} : xm_bok (xe_cy (XE sc) 232) b_X12_isNode_12 := by show xm_bok cX12_isNode _; unfold xm_bok; decide +kernel
def b_X12_isNode_16 : List (Nat × Jvm.ClassFile.Instr × Nat) := [(16, .iconst 0, 1)]
set_option maxRecDepth 20000 in
theorem k_X12_isNode_16 {sc : xm_Sc} : xm_bok (xe_cy (XE sc) 232) b_X12_isNode_16 := by show xm_bok cX12_isNode _; unfold xm_bok; decide +kernel
def b_X12_isNode_17 : List (Nat × Jvm.ClassFile.Instr × Nat) := [(17, .ireturn, 1)]
set_option maxRecDepth 20000 in
theorem k_X12_isNode_17 {sc : xm_Sc} : xm_bok (xe_cy (XE sc) 232) b_X12_isNode_17 := by show xm_bok cX12_isNode _; unfold xm_bok; decide +kernel
set_option maxRecDepth 20000 in
theorem cn_232 {sc : xm_Sc} : xe_cn (XE sc) 232 = 12 := rfl
set_option maxRecDepth 20000 in
theorem ml_232 {sc : xm_Sc} : xe_ml (XE sc) 232 = 2 := rfl
set_option maxRecDepth 20000 in
theorem ry_232 {sc : xm_Sc} : xe_ry (XE sc) 232 = (some .boolean) := rfl
set_option maxRecDepth 20000 in
theorem is_232 {sc : xm_Sc} : xe_is (XE sc) 232 = false := rfl
set_option maxRecDepth 20000 in
theorem np_232 {sc : xm_Sc} : xe_np (XE sc) 232 = 1 := rfl
/- method 233: X12_isOfRow -/
def b_X12_isOfRow_0 : List (Nat × Jvm.ClassFile.Instr × Nat) := [(0, .iload_n 0, 1), (1, .bipush 33, 2), (3, .bipush 126, 2), (5, .invokestatic 211, 3)]
set_option maxRecDepth 20000 in
theorem k_X12_isOfRow_0 {sc : xm_Sc} : xm_bok (xe_cy (XE sc) 233) b_X12_isOfRow_0 := by show xm_bok cX12_isOfRow _; unfold xm_bok; decide +kernel
def b_X12_isOfRow_8 : List (Nat × Jvm.ClassFile.Instr × Nat) := [(8, .ifCond .eq 25, 3)]
set_option maxRecDepth 20000 in
theorem k_X12_isOfRow_8 {sc : xm_Sc} : xm_bok (xe_cy (XE sc) 233) b_X12_isOfRow_8 := by show xm_bok cX12_isOfRow _; unfold xm_bok; decide +kernel
def b_X12_isOfRow_11 : List (Nat × Jvm.ClassFile.Instr × Nat) := [(11, .iload_n 0, 1), (12, .bipush 61, 2), (14, .if_icmp .eq 19, 3)]
set_option maxRecDepth 20000 in
theorem k_X12_isOfRow_11 {sc : xm_Sc} : xm_bok (xe_cy (XE sc) 233) b_X12_isOfRow_11 := by show xm_bok cX12_isOfRow _; unfold xm_bok; decide +kernel
def b_X12_isOfRow_17 : List (Nat × Jvm.ClassFile.Instr × Nat) := [(17, .iload_n 0, 1), (18, .bipush 40, 2), (20, .if_icmp .eq 13, 3)]
set_option maxRecDepth 20000 in
theorem k_X12_isOfRow_17 {sc : xm_Sc} : xm_bok (xe_cy (XE sc) 233) b_X12_isOfRow_17 := by show xm_bok cX12_isOfRow _; unfold xm_bok; decide +kernel
def b_X12_isOfRow_23 : List (Nat × Jvm.ClassFile.Instr × Nat) := [(23, .iload_n 0, 1), (24, .bipush 41, 2), (26, .if_icmp .eq 7, 3)]
set_option maxRecDepth 20000 in
theorem k_X12_isOfRow_23 {sc : xm_Sc} : xm_bok (xe_cy (XE sc) 233) b_X12_isOfRow_23 := by show xm_bok cX12_isOfRow _; unfold xm_bok; decide +kernel
def b_X12_isOfRow_29 : List (Nat × Jvm.ClassFile.Instr × Nat) := [(29, .iconst 1, 1), (30, .goto 4, 3)]
set_option maxRecDepth 20000 in
theorem k_X12_isOfRow_29 {sc : xm_Sc} : xm_bok (xe_cy (XE sc) 233) b_X12_isOfRow_29 := by show xm_bok cX12_isOfRow _; unfold xm_bok; decide +kernel
def b_X12_isOfRow_33 : List (Nat × Jvm.ClassFile.Instr × Nat) := [(33, .iconst 0, 1)]
set_option maxRecDepth 20000 in
theorem k_X12_isOfRow_33 {sc : xm_Sc} : xm_bok (xe_cy (XE sc) 233) b_X12_isOfRow_33 := by show xm_bok cX12_isOfRow _; unfold xm_bok; decide +kernel
def b_X12_isOfRow_34 : List (Nat × Jvm.ClassFile.Instr × Nat) := [(34, .ireturn, 1)]
set_option maxRecDepth 20000 in
theorem k_X12_isOfRow_34 {sc : xm_Sc} : xm_bok (xe_cy (XE sc) 233) b_X12_isOfRow_34 := by show xm_bok cX12_isOfRow _; unfold xm_bok; decide +kernel
set_option maxRecDepth 20000 in
theorem cn_233 {sc : xm_Sc} : xe_cn (XE sc) 233 = 12 := rfl
set_option maxRecDepth 20000 in
theorem ml_233 {sc : xm_Sc} : xe_ml (XE sc) 233 = 1 := rfl
set_option maxRecDepth 20000 in
theorem ry_233 {sc : xm_Sc} : xe_ry (XE sc) 233 = (some .boolean) := rfl
set_option maxRecDepth 20000 in
theorem is_233 {sc : xm_Sc} : xe_is (XE sc) 233 = true := rfl
set_option maxRecDepth 20000 in
theorem np_233 {sc : xm_Sc} : xe_np (XE sc) 233 = 1 := rfl
/- method 234: X12_isSameNode -/
def b_X12_isSameNode_0 : List (Nat × Jvm.ClassFile.Instr × Nat) := [(0, .aload_n 0, 1), (1, .getfield 16, 3), (4, .iload_n 1, 1), (5, .iaload, 1), (6, .aload_n 0, 1), (7, .getfield 16, 3), (10, .iload_n 2, 1), (11, .iaload, 1), (12, .if_icmp .ne 14, 3)]
set_option maxRecDepth 20000 in
theorem k_X12_isSameNode_0 {sc : xm_Sc} : xm_bok (xe_cy (XE sc) 234) b_X12_isSameNode_0 := by show xm_bok cX12_isSameNode _; unfold xm_bok; decide +kernel
def b_X12_isSameNode_15 : List (Nat × Jvm.ClassFile.Instr × Nat) := [(15, .aload_n 0, 1), (16, .getfield 16, 3), (19, .iload_n 1, 1), (20, .iaload, 1), (21, .bipush 10, 2), (23, .if_icmp .ne 5, 3)]
set_option maxRecDepth 20000 in
theorem k_X12_isSameNode_15 {sc : xm_Sc} : xm_bok (xe_cy (XE sc) 234) b_X12_isSameNode_15 := by show xm_bok cX12_isSameNode _; unfold xm_bok; decide +kernel
def b_X12_isSameNode_26 : List (Nat × Jvm.ClassFile.Instr × Nat) := [(26, .iconst 0, 1), (27, .ireturn, 1)]
set_option maxRecDepth 20000 in
theorem k_X12_isSameNode_26 {sc : xm_Sc} : xm_bok (xe_cy (XE sc) 234) b_X12_isSameNode_26 := by show xm_bok cX12_isSameNode _; unfold xm_bok; decide +kernel
def b_X12_isSameNode_28 : List (Nat × Jvm.ClassFile.Instr × Nat) := [(28, .iconst 1, 1), (29, .istore_n 3, 1), (30, .aload_n 0, 1), (31, .getfield 16, 3), (34, .iload_n 1, 1), (35, .iaload, 1), (36, .bipush 11, 2), (38, .if_icmp .ne 58, 3)]
set_option maxRecDepth 20000 in
theorem k_X12_isSameNode_28 {sc : xm_Sc} : xm_bok (xe_cy (XE sc) 234) b_X12_isSameNode_28 := by show xm_bok cX12_isSameNode _; unfold xm_bok; decide +kernel
def b_X12_isSameNode_41 : List (Nat × Jvm.ClassFile.Instr × Nat) := [(41, .iconst 0, 1), (42, .istore 4, 2)]
set_option maxRecDepth 20000 in
theorem k_X12_isSameNode_41 {sc : xm_Sc} : xm_bok (xe_cy (XE sc) 234) b_X12_isSameNode_41 := by show xm_bok cX12_isSameNode _; unfold xm_bok; decide +kernel
def b_X12_isSameNode_44 : List (Nat × Jvm.ClassFile.Instr × Nat) := [(44, .iload 4, 2), (46, .bipush 8, 2), (48, .if_icmp .ge 46, 3)]
set_option maxRecDepth 20000 in
theorem k_X12_isSameNode_44 {sc : xm_Sc} : xm_bok (xe_cy (XE sc) 234) b_X12_isSameNode_44 := by show xm_bok cX12_isSameNode _; unfold xm_bok; decide +kernel
def b_X12_isSameNode_51 : List (Nat × Jvm.ClassFile.Instr × Nat) := [(51, .iload_n 3, 1), (52, .ifCond .eq 34, 3)]
set_option maxRecDepth 20000 in
theorem k_X12_isSameNode_51 {sc : xm_Sc} : xm_bok (xe_cy (XE sc) 234) b_X12_isSameNode_51 := by show xm_bok cX12_isSameNode _; unfold xm_bok; decide +kernel
def b_X12_isSameNode_55 : List (Nat × Jvm.ClassFile.Instr × Nat) := [(55, .aload_n 0, 1), (56, .getfield 31, 3), (59, .bipush 8, 2), (61, .iload_n 1, 1), (62, .imul, 1), (63, .iload 4, 2), (65, .iadd, 1), (66, .iaload, 1), (67, .aload_n 0, 1), (68, .getfield 31, 3), (71, .bipush 8, 2), (73, .iload_n 2, 1), (74, .imul, 1), (75, .iload 4, 2), (77, .iadd, 1), (78, .iaload, 1), (79, .if_icmp .ne 7, 3)]
set_option maxRecDepth 20000 in
theorem k_X12_isSameNode_55 {sc : xm_Sc} : xm_bok (xe_cy (XE sc) 234) b_X12_isSameNode_55 := by show xm_bok cX12_isSameNode _; unfold xm_bok; decide +kernel
def b_X12_isSameNode_82 : List (Nat × Jvm.ClassFile.Instr × Nat) := [(82, .iconst 1, 1), (83, .goto 4, 3)]
set_option maxRecDepth 20000 in
theorem k_X12_isSameNode_82 {sc : xm_Sc} : xm_bok (xe_cy (XE sc) 234) b_X12_isSameNode_82 := by show xm_bok cX12_isSameNode _; unfold xm_bok; decide +kernel
def b_X12_isSameNode_86 : List (Nat × Jvm.ClassFile.Instr × Nat) := [(86, .iconst 0, 1)]
set_option maxRecDepth 20000 in
theorem k_X12_isSameNode_86 {sc : xm_Sc} : xm_bok (xe_cy (XE sc) 234) b_X12_isSameNode_86 := by show xm_bok cX12_isSameNode _; unfold xm_bok; decide +kernel
def b_X12_isSameNode_87 : List (Nat × Jvm.ClassFile.Instr × Nat) := [(87, .istore_n 3, 1), (88, .iinc 4 1, 3), (91, .goto (-47), 3)]
set_option maxRecDepth 20000 in
theorem k_X12_isSameNode_87 {sc : xm_Sc} : xm_bok (xe_cy (XE sc) 234) b_X12_isSameNode_87 := by show xm_bok cX12_isSameNode _; unfold xm_bok; decide +kernel
def b_X12_isSameNode_94 : List (Nat × Jvm.ClassFile.Instr × Nat) := [(94, .iload_n 3, 1), (95, .ireturn, 1)]
set_option maxRecDepth 20000 in
theorem k_X12_isSameNode_94 {sc : xm_Sc} : xm_bok (xe_cy (XE sc) 234) b_X12_isSameNode_94 := by show xm_bok cX12_isSameNode _; unfold xm_bok; decide +kernel
def b_X12_isSameNode_96 : List (Nat × Jvm.ClassFile.Instr × Nat) := [(96, .aload_n 0, 1), (97, .iload_n 1, 1), (98, .iconst 0, 1), (99, .invokevirtual 229, 3)]
set_option maxRecDepth 20000 in
theorem k_X12_isSameNode_96 {sc : xm_Sc} : xm_bok (xe_cy (XE sc) 234) b_X12_isSameNode_96 := by show xm_bok cX12_isSameNode _; unfold xm_bok; decide +kernel
def b_X12_isSameNode_102 : List (Nat × Jvm.ClassFile.Instr × Nat) := [(102, .aload_n 0, 1), (103, .iload_n 2, 1), (104, .iconst 0, 1), (105, .invokevirtual 229, 3)]
set_option maxRecDepth 20000 in
theorem k_X12_isSameNode_102 {sc : xm_Sc} : xm_bok (xe_cy (XE sc) 234) b_X12_isSameNode_102 := by show xm_bok cX12_isSameNode _; unfold xm_bok; decide +kernel
def b_X12_isSameNode_108 : List (Nat × Jvm.ClassFile.Instr × Nat) := [(108, .if_icmp .ne 22, 3)]
set_option maxRecDepth 20000 in
theorem k_X12_isSameNode_108 {sc : xm_Sc} : xm_bok (xe_cy (XE sc) 234) b_X12_isSameNode_108 := by show xm_bok cX12_isSameNode _; unfold xm_bok; decide +kernel
def b_X12_isSameNode_111 : List (Nat × Jvm.ClassFile.Instr × Nat) := [(111, .aload_n 0, 1), (112, .iload_n 1, 1), (113, .iconst 1, 1), (114, .invokevirtual 229, 3)]
set_option maxRecDepth 20000 in
theorem k_X12_isSameNode_111 {sc : xm_Sc} : xm_bok (xe_cy (XE sc) 234) b_X12_isSameNode_111 := by show xm_bok cX12_isSameNode _; unfold xm_bok; decide +kernel
def b_X12_isSameNode_117 : List (Nat × Jvm.ClassFile.Instr × Nat) := [(117, .aload_n 0, 1), (118, .iload_n 2, 1), (119, .iconst 1, 1), (120, .invokevirtual 229, 3)]
set_option maxRecDepth 20000 in
theorem k_X12_isSameNode_117 {sc : xm_Sc} : xm_bok (xe_cy (XE sc) 234) b_X12_isSameNode_117 := by show xm_bok cX12_isSameNode _; unfold xm_bok; decide +kernel
def b_X12_isSameNode_123 : List (Nat × Jvm.ClassFile.Instr × Nat) := [(123, .if_icmp .ne 7, 3)]
set_option maxRecDepth 20000 in
theorem k_X12_isSameNode_123 {sc : xm_Sc} : xm_bok (xe_cy (XE sc) 234) b_X12_isSameNode_123 := by show xm_bok cX12_isSameNode _; unfold xm_bok; decide +kernel
def b_X12_isSameNode_126 : List (Nat × Jvm.ClassFile.Instr × Nat) := [(126, .iconst 1, 1), (127, .goto 4, 3)]
set_option maxRecDepth 20000 in
theorem k_X12_isSameNode_126 {sc : xm_Sc} : xm_bok (xe_cy (XE sc) 234) b_X12_isSameNode_126 := by show xm_bok cX12_isSameNode _; unfold xm_bok; decide +kernel
def b_X12_isSameNode_130 : List (Nat × Jvm.ClassFile.Instr × Nat) := [(130, .iconst 0, 1)]
set_option maxRecDepth 20000 in
theorem k_X12_isSameNode_130 {sc : xm_Sc} : xm_bok (xe_cy (XE sc) 234) b_X12_isSameNode_130 := by show xm_bok cX12_isSameNode _; unfold xm_bok; decide +kernel
def b_X12_isSameNode_131 : List (Nat × Jvm.ClassFile.Instr × Nat) := [(131, .istore_n 3, 1), (132, .iload_n 3, 1), (133, .ifCond .eq 63, 3)]
set_option maxRecDepth 20000 in
theorem k_X12_isSameNode_131 {sc : xm_Sc} : xm_bok (xe_cy (XE sc) 234) b_X12_isSameNode_131 := by show xm_bok cX12_isSameNode _; unfold xm_bok; decide +kernel
def b_X12_isSameNode_136 : List (Nat × Jvm.ClassFile.Instr × Nat) := [(136, .aload_n 0, 1), (137, .getfield 16, 3), (140, .iload_n 1, 1), (141, .iaload, 1), (142, .bipush 12, 2), (144, .if_icmp .ne 18, 3)]
set_option maxRecDepth 20000 in
theorem k_X12_isSameNode_136 {sc : xm_Sc} : xm_bok (xe_cy (XE sc) 234) b_X12_isSameNode_136 := by show xm_bok cX12_isSameNode _; unfold xm_bok; decide +kernel
def b_X12_isSameNode_147 : List (Nat × Jvm.ClassFile.Instr × Nat) := [(147, .aload_n 0, 1), (148, .getfield 25, 3), (151, .iload_n 1, 1), (152, .iaload, 1), (153, .aload_n 0, 1), (154, .getfield 25, 3), (157, .iload_n 2, 1), (158, .iaload, 1), (159, .if_icmp .ne 37, 3)]
set_option maxRecDepth 20000 in
theorem k_X12_isSameNode_147 {sc : xm_Sc} : xm_bok (xe_cy (XE sc) 234) b_X12_isSameNode_147 := by show xm_bok cX12_isSameNode _; unfold xm_bok; decide +kernel
def b_X12_isSameNode_162 : List (Nat × Jvm.ClassFile.Instr × Nat) := [(162, .aload_n 0, 1), (163, .getfield 34, 3), (166, .iload_n 1, 1), (167, .iaload, 1), (168, .aload_n 0, 1), (169, .getfield 34, 3), (172, .iload_n 2, 1), (173, .iaload, 1), (174, .if_icmp .ne 22, 3)]
set_option maxRecDepth 20000 in
theorem k_X12_isSameNode_162 {sc : xm_Sc} : xm_bok (xe_cy (XE sc) 234) b_X12_isSameNode_162 := by show xm_bok cX12_isSameNode _; unfold xm_bok; decide +kernel
def b_X12_isSameNode_177 : List (Nat × Jvm.ClassFile.Instr × Nat) := [(177, .aload_n 0, 1), (178, .getfield 37, 3), (181, .iload_n 1, 1), (182, .iaload, 1), (183, .aload_n 0, 1), (184, .getfield 37, 3), (187, .iload_n 2, 1), (188, .iaload, 1), (189, .if_icmp .ne 7, 3)]
set_option maxRecDepth 20000 in
theorem k_X12_isSameNode_177 {sc : xm_Sc} : xm_bok (xe_cy (XE sc) 234) b_X12_isSameNode_177 := by show xm_bok cX12_isSameNode _; unfold xm_bok; decide +kernel
def b_X12_isSameNode_192 : List (Nat × Jvm.ClassFile.Instr × Nat) := [(192, .iconst 1, 1), (193, .goto 4, 3)]
set_option maxRecDepth 20000 in
theorem k_X12_isSameNode_192 {sc : xm_Sc} : xm_bok (xe_cy (XE sc) 234) b_X12_isSameNode_192 := by show xm_bok cX12_isSameNode _; unfold xm_bok; decide +kernel
def b_X12_isSameNode_196 : List (Nat × Jvm.ClassFile.Instr × Nat) := [(196, .iconst 0, 1)]
set_option maxRecDepth 20000 in
theorem k_X12_isSameNode_196 {sc : xm_Sc} : xm_bok (xe_cy (XE sc) 234) b_X12_isSameNode_196 := by show xm_bok cX12_isSameNode _; unfold xm_bok; decide +kernel
def b_X12_isSameNode_197 : List (Nat × Jvm.ClassFile.Instr × Nat) := [(197, .ireturn, 1)]
set_option maxRecDepth 20000 in
theorem k_X12_isSameNode_197 {sc : xm_Sc} : xm_bok (xe_cy (XE sc) 234) b_X12_isSameNode_197 := by show xm_bok cX12_isSameNode _; unfold xm_bok; decide +kernel
set_option maxRecDepth 20000 in
theorem cn_234 {sc : xm_Sc} : xe_cn (XE sc) 234 = 12 := rfl
set_option maxRecDepth 20000 in
theorem ml_234 {sc : xm_Sc} : xe_ml (XE sc) 234 = 5 := rfl
set_option maxRecDepth 20000 in
theorem ry_234 {sc : xm_Sc} : xe_ry (XE sc) 234 = (some .boolean) := rfl
set_option maxRecDepth 20000 in
theorem is_234 {sc : xm_Sc} : xe_is (XE sc) 234 = false := rfl
set_option maxRecDepth 20000 in
theorem np_234 {sc : xm_Sc} : xe_np (XE sc) 234 = 2 := rfl
/- method 235: X12_isSo -/
def b_X12_isSo_0 : List (Nat × Jvm.ClassFile.Instr × Nat) := [(0, .iload_n 0, 1), (1, .tableswitch 189 11 21 #[59, 95, 107, 113, 127, 189, 189, 189, 149, 161, 173], 59)]
set_option maxRecDepth 20000 in
theorem k_X12_isSo_0 {sc : xm_Sc} : xm_bok (xe_cy (XE sc) 235) b_X12_isSo_0 := by show xm_bok cX12_isSo _; unfold xm_bok; decide +kernel
def b_X12_isSo_60 : List (Nat × Jvm.ClassFile.Instr × Nat) := [(60, .lload_n 1, 1), (61, .lconst 0, 1), (62, .lcmp, 1), (63, .ifCond .ne 17, 3)]
set_option maxRecDepth 20000 in
theorem k_X12_isSo_60 {sc : xm_Sc} : xm_bok (xe_cy (XE sc) 235) b_X12_isSo_60 := by show xm_bok cX12_isSo _; unfold xm_bok; decide +kernel
def b_X12_isSo_66 : List (Nat × Jvm.ClassFile.Instr × Nat) := [(66, .lload_n 3, 1), (67, .lconst 0, 1), (68, .lcmp, 1), (69, .ifCond .ne 7, 3)]
set_option maxRecDepth 20000 in
theorem k_X12_isSo_66 {sc : xm_Sc} : xm_bok (xe_cy (XE sc) 235) b_X12_isSo_66 := by show xm_bok cX12_isSo _; unfold xm_bok; decide +kernel
def b_X12_isSo_72 : List (Nat × Jvm.ClassFile.Instr × Nat) := [(72, .iconst 1, 1), (73, .goto 22, 3)]
set_option maxRecDepth 20000 in
theorem k_X12_isSo_72 {sc : xm_Sc} : xm_bok (xe_cy (XE sc) 235) b_X12_isSo_72 := by show xm_bok cX12_isSo _; unfold xm_bok; decide +kernel
def b_X12_isSo_76 : List (Nat × Jvm.ClassFile.Instr × Nat) := [(76, .iconst 0, 1), (77, .goto 18, 3)]
set_option maxRecDepth 20000 in
theorem k_X12_isSo_76 {sc : xm_Sc} : xm_bok (xe_cy (XE sc) 235) b_X12_isSo_76 := by show xm_bok cX12_isSo _; unfold xm_bok; decide +kernel
def b_X12_isSo_80 : List (Nat × Jvm.ClassFile.Instr × Nat) := [(80, .lload_n 3, 1), (81, .lload_n 1, 1), (82, .invokestatic 443, 3)]
set_option maxRecDepth 20000 in
theorem k_X12_isSo_80 {sc : xm_Sc} : xm_bok (xe_cy (XE sc) 235) b_X12_isSo_80 := by show xm_bok cX12_isSo _; unfold xm_bok; decide +kernel
def b_X12_isSo_85 : List (Nat × Jvm.ClassFile.Instr × Nat) := [(85, .lconst 0, 1), (86, .lcmp, 1), (87, .ifCond .ne 7, 3)]
set_option maxRecDepth 20000 in
theorem k_X12_isSo_85 {sc : xm_Sc} : xm_bok (xe_cy (XE sc) 235) b_X12_isSo_85 := by show xm_bok cX12_isSo _; unfold xm_bok; decide +kernel
def b_X12_isSo_90 : List (Nat × Jvm.ClassFile.Instr × Nat) := [(90, .iconst 1, 1), (91, .goto 4, 3)]
set_option maxRecDepth 20000 in
theorem k_X12_isSo_90 {sc : xm_Sc} : xm_bok (xe_cy (XE sc) 235) b_X12_isSo_90 := by show xm_bok cX12_isSo _; unfold xm_bok; decide +kernel
def b_X12_isSo_94 : List (Nat × Jvm.ClassFile.Instr × Nat) := [(94, .iconst 0, 1)]
set_option maxRecDepth 20000 in
theorem k_X12_isSo_94 {sc : xm_Sc} : xm_bok (xe_cy (XE sc) 235) b_X12_isSo_94 := by show xm_bok cX12_isSo _; unfold xm_bok; decide +kernel
def b_X12_isSo_95 : List (Nat × Jvm.ClassFile.Instr × Nat) := [(95, .ireturn, 1)]
set_option maxRecDepth 20000 in
theorem k_X12_isSo_95 {sc : xm_Sc} : xm_bok (xe_cy (XE sc) 235) b_X12_isSo_95 := by show xm_bok cX12_isSo _; unfold xm_bok; decide +kernel
def b_X12_isSo_96 : List (Nat × Jvm.ClassFile.Instr × Nat) := [(96, .lload_n 1, 1), (97, .lload_n 3, 1), (98, .lcmp, 1), (99, .ifCond .ne 7, 3)]
set_option maxRecDepth 20000 in
theorem k_X12_isSo_96 {sc : xm_Sc} : xm_bok (xe_cy (XE sc) 235) b_X12_isSo_96 := by show xm_bok cX12_isSo _; unfold xm_bok; decide +kernel
def b_X12_isSo_102 : List (Nat × Jvm.ClassFile.Instr × Nat) := [(102, .iconst 1, 1), (103, .goto 4, 3)]
set_option maxRecDepth 20000 in
theorem k_X12_isSo_102 {sc : xm_Sc} : xm_bok (xe_cy (XE sc) 235) b_X12_isSo_102 := by show xm_bok cX12_isSo _; unfold xm_bok; decide +kernel
def b_X12_isSo_106 : List (Nat × Jvm.ClassFile.Instr × Nat) := [(106, .iconst 0, 1)]
set_option maxRecDepth 20000 in
theorem k_X12_isSo_106 {sc : xm_Sc} : xm_bok (xe_cy (XE sc) 235) b_X12_isSo_106 := by show xm_bok cX12_isSo _; unfold xm_bok; decide +kernel
def b_X12_isSo_107 : List (Nat × Jvm.ClassFile.Instr × Nat) := [(107, .ireturn, 1)]
set_option maxRecDepth 20000 in
theorem k_X12_isSo_107 {sc : xm_Sc} : xm_bok (xe_cy (XE sc) 235) b_X12_isSo_107 := by show xm_bok cX12_isSo _; unfold xm_bok; decide +kernel
def b_X12_isSo_108 : List (Nat × Jvm.ClassFile.Instr × Nat) := [(108, .lload_n 1, 1), (109, .lload_n 3, 1), (110, .invokestatic 421, 3)]
set_option maxRecDepth 20000 in
theorem k_X12_isSo_108 {sc : xm_Sc} : xm_bok (xe_cy (XE sc) 235) b_X12_isSo_108 := by show xm_bok cX12_isSo _; unfold xm_bok; decide +kernel
def b_X12_isSo_113 : List (Nat × Jvm.ClassFile.Instr × Nat) := [(113, .ireturn, 1)]
set_option maxRecDepth 20000 in
theorem k_X12_isSo_113 {sc : xm_Sc} : xm_bok (xe_cy (XE sc) 235) b_X12_isSo_113 := by show xm_bok cX12_isSo _; unfold xm_bok; decide +kernel
def b_X12_isSo_114 : List (Nat × Jvm.ClassFile.Instr × Nat) := [(114, .lload_n 3, 1), (115, .lload_n 1, 1), (116, .invokestatic 421, 3)]
set_option maxRecDepth 20000 in
theorem k_X12_isSo_114 {sc : xm_Sc} : xm_bok (xe_cy (XE sc) 235) b_X12_isSo_114 := by show xm_bok cX12_isSo _; unfold xm_bok; decide +kernel
def b_X12_isSo_119 : List (Nat × Jvm.ClassFile.Instr × Nat) := [(119, .ifCond .ne 7, 3)]
set_option maxRecDepth 20000 in
theorem k_X12_isSo_119 {sc : xm_Sc} : xm_bok (xe_cy (XE sc) 235) b_X12_isSo_119 := by show xm_bok cX12_isSo _; unfold xm_bok; decide +kernel
def b_X12_isSo_122 : List (Nat × Jvm.ClassFile.Instr × Nat) := [(122, .iconst 1, 1), (123, .goto 4, 3)]
set_option maxRecDepth 20000 in
theorem k_X12_isSo_122 {sc : xm_Sc} : xm_bok (xe_cy (XE sc) 235) b_X12_isSo_122 := by show xm_bok cX12_isSo _; unfold xm_bok; decide +kernel
def b_X12_isSo_126 : List (Nat × Jvm.ClassFile.Instr × Nat) := [(126, .iconst 0, 1)]
set_option maxRecDepth 20000 in
theorem k_X12_isSo_126 {sc : xm_Sc} : xm_bok (xe_cy (XE sc) 235) b_X12_isSo_126 := by show xm_bok cX12_isSo _; unfold xm_bok; decide +kernel
def b_X12_isSo_127 : List (Nat × Jvm.ClassFile.Instr × Nat) := [(127, .ireturn, 1)]
set_option maxRecDepth 20000 in
theorem k_X12_isSo_127 {sc : xm_Sc} : xm_bok (xe_cy (XE sc) 235) b_X12_isSo_127 := by show xm_bok cX12_isSo _; unfold xm_bok; decide +kernel
def b_X12_isSo_128 : List (Nat × Jvm.ClassFile.Instr × Nat) := [(128, .lload_n 1, 1), (129, .iload 5, 2), (131, .invokestatic 446, 3)]
set_option maxRecDepth 20000 in
theorem k_X12_isSo_128 {sc : xm_Sc} : xm_bok (xe_cy (XE sc) 235) b_X12_isSo_128 := by show xm_bok cX12_isSo _; unfold xm_bok; decide +kernel
def b_X12_isSo_134 : List (Nat × Jvm.ClassFile.Instr × Nat) := [(134, .lload_n 3, 1), (135, .iload 5, 2), (137, .invokestatic 446, 3)]
set_option maxRecDepth 20000 in
theorem k_X12_isSo_134 {sc : xm_Sc} : xm_bok (xe_cy (XE sc) 235) b_X12_isSo_134 := by show xm_bok cX12_isSo _; unfold xm_bok; decide +kernel
def b_X12_isSo_140 : List (Nat × Jvm.ClassFile.Instr × Nat) := [(140, .lcmp, 1), (141, .ifCond .ge 7, 3)]
set_option maxRecDepth 20000 in
theorem k_X12_isSo_140 {sc : xm_Sc} : xm_bok (xe_cy (XE sc) 235) b_X12_isSo_140 := by show xm_bok cX12_isSo _; unfold xm_bok; decide +kernel
def b_X12_isSo_144 : List (Nat × Jvm.ClassFile.Instr × Nat) := [(144, .iconst 1, 1), (145, .goto 4, 3)]
set_option maxRecDepth 20000 in
theorem k_X12_isSo_144 {sc : xm_Sc} : xm_bok (xe_cy (XE sc) 235) b_X12_isSo_144 := by show xm_bok cX12_isSo _; unfold xm_bok; decide +kernel
def b_X12_isSo_148 : List (Nat × Jvm.ClassFile.Instr × Nat) := [(148, .iconst 0, 1)]
set_option maxRecDepth 20000 in
theorem k_X12_isSo_148 {sc : xm_Sc} : xm_bok (xe_cy (XE sc) 235) b_X12_isSo_148 := by show xm_bok cX12_isSo _; unfold xm_bok; decide +kernel
def b_X12_isSo_149 : List (Nat × Jvm.ClassFile.Instr × Nat) := [(149, .ireturn, 1)]
set_option maxRecDepth 20000 in
theorem k_X12_isSo_149 {sc : xm_Sc} : xm_bok (xe_cy (XE sc) 235) b_X12_isSo_149 := by show xm_bok cX12_isSo _; unfold xm_bok; decide +kernel
def b_X12_isSo_150 : List (Nat × Jvm.ClassFile.Instr × Nat) := [(150, .lload_n 1, 1), (151, .lconst 0, 1), (152, .lcmp, 1), (153, .ifCond .ne 7, 3)]
set_option maxRecDepth 20000 in
theorem k_X12_isSo_150 {sc : xm_Sc} : xm_bok (xe_cy (XE sc) 235) b_X12_isSo_150 := by show xm_bok cX12_isSo _; unfold xm_bok; decide +kernel
def b_X12_isSo_156 : List (Nat × Jvm.ClassFile.Instr × Nat) := [(156, .iconst 1, 1), (157, .goto 4, 3)]
set_option maxRecDepth 20000 in
theorem k_X12_isSo_156 {sc : xm_Sc} : xm_bok (xe_cy (XE sc) 235) b_X12_isSo_156 := by show xm_bok cX12_isSo _; unfold xm_bok; decide +kernel
def b_X12_isSo_160 : List (Nat × Jvm.ClassFile.Instr × Nat) := [(160, .iconst 0, 1)]
set_option maxRecDepth 20000 in
theorem k_X12_isSo_160 {sc : xm_Sc} : xm_bok (xe_cy (XE sc) 235) b_X12_isSo_160 := by show xm_bok cX12_isSo _; unfold xm_bok; decide +kernel
def b_X12_isSo_161 : List (Nat × Jvm.ClassFile.Instr × Nat) := [(161, .ireturn, 1)]
set_option maxRecDepth 20000 in
theorem k_X12_isSo_161 {sc : xm_Sc} : xm_bok (xe_cy (XE sc) 235) b_X12_isSo_161 := by show xm_bok cX12_isSo _; unfold xm_bok; decide +kernel
def b_X12_isSo_162 : List (Nat × Jvm.ClassFile.Instr × Nat) := [(162, .lload_n 1, 1), (163, .lconst 1, 1), (164, .lcmp, 1), (165, .ifCond .ne 7, 3)]
set_option maxRecDepth 20000 in
theorem k_X12_isSo_162 {sc : xm_Sc} : xm_bok (xe_cy (XE sc) 235) b_X12_isSo_162 := by show xm_bok cX12_isSo _; unfold xm_bok; decide +kernel
def b_X12_isSo_168 : List (Nat × Jvm.ClassFile.Instr × Nat) := [(168, .iconst 1, 1), (169, .goto 4, 3)]
set_option maxRecDepth 20000 in
theorem k_X12_isSo_168 {sc : xm_Sc} : xm_bok (xe_cy (XE sc) 235) b_X12_isSo_168 := by show xm_bok cX12_isSo _; unfold xm_bok; decide +kernel
def b_X12_isSo_172 : List (Nat × Jvm.ClassFile.Instr × Nat) := [(172, .iconst 0, 1)]
set_option maxRecDepth 20000 in
theorem k_X12_isSo_172 {sc : xm_Sc} : xm_bok (xe_cy (XE sc) 235) b_X12_isSo_172 := by show xm_bok cX12_isSo _; unfold xm_bok; decide +kernel
def b_X12_isSo_173 : List (Nat × Jvm.ClassFile.Instr × Nat) := [(173, .ireturn, 1)]
set_option maxRecDepth 20000 in
theorem k_X12_isSo_173 {sc : xm_Sc} : xm_bok (xe_cy (XE sc) 235) b_X12_isSo_173 := by show xm_bok cX12_isSo _; unfold xm_bok; decide +kernel
def b_X12_isSo_174 : List (Nat × Jvm.ClassFile.Instr × Nat) := [(174, .lload_n 1, 1), (175, .iload 5, 2), (177, .invokestatic 432, 3)]
set_option maxRecDepth 20000 in
theorem k_X12_isSo_174 {sc : xm_Sc} : xm_bok (xe_cy (XE sc) 235) b_X12_isSo_174 := by show xm_bok cX12_isSo _; unfold xm_bok; decide +kernel
def b_X12_isSo_180 : List (Nat × Jvm.ClassFile.Instr × Nat) := [(180, .lcmp, 1), (181, .ifCond .ne 7, 3)]
set_option maxRecDepth 20000 in
theorem k_X12_isSo_180 {sc : xm_Sc} : xm_bok (xe_cy (XE sc) 235) b_X12_isSo_180 := by show xm_bok cX12_isSo _; unfold xm_bok; decide +kernel
def b_X12_isSo_184 : List (Nat × Jvm.ClassFile.Instr × Nat) := [(184, .iconst 1, 1), (185, .goto 4, 3)]
set_option maxRecDepth 20000 in
theorem k_X12_isSo_184 {sc : xm_Sc} : xm_bok (xe_cy (XE sc) 235) b_X12_isSo_184 := by show xm_bok cX12_isSo _; unfold xm_bok; decide +kernel
def b_X12_isSo_188 : List (Nat × Jvm.ClassFile.Instr × Nat) := [(188, .iconst 0, 1)]
set_option maxRecDepth 20000 in
theorem k_X12_isSo_188 {sc : xm_Sc} : xm_bok (xe_cy (XE sc) 235) b_X12_isSo_188 := by show xm_bok cX12_isSo _; unfold xm_bok; decide +kernel
def b_X12_isSo_189 : List (Nat × Jvm.ClassFile.Instr × Nat) := [(189, .ireturn, 1)]
set_option maxRecDepth 20000 in
theorem k_X12_isSo_189 {sc : xm_Sc} : xm_bok (xe_cy (XE sc) 235) b_X12_isSo_189 := by show xm_bok cX12_isSo _; unfold xm_bok; decide +kernel
def b_X12_isSo_190 : List (Nat × Jvm.ClassFile.Instr × Nat) := [(190, .lload_n 1, 1), (191, .lconst 0, 1), (192, .lcmp, 1), (193, .ifCond .eq 7, 3)]
set_option maxRecDepth 20000 in
theorem k_X12_isSo_190 {sc : xm_Sc} : xm_bok (xe_cy (XE sc) 235) b_X12_isSo_190 := by show xm_bok cX12_isSo _; unfold xm_bok; decide +kernel
def b_X12_isSo_196 : List (Nat × Jvm.ClassFile.Instr × Nat) := [(196, .iconst 1, 1), (197, .goto 4, 3)]
set_option maxRecDepth 20000 in
theorem k_X12_isSo_196 {sc : xm_Sc} : xm_bok (xe_cy (XE sc) 235) b_X12_isSo_196 := by show xm_bok cX12_isSo _; unfold xm_bok; decide +kernel
def b_X12_isSo_200 : List (Nat × Jvm.ClassFile.Instr × Nat) := [(200, .iconst 0, 1)]
set_option maxRecDepth 20000 in
theorem k_X12_isSo_200 {sc : xm_Sc} : xm_bok (xe_cy (XE sc) 235) b_X12_isSo_200 := by show xm_bok cX12_isSo _; unfold xm_bok; decide +kernel
def b_X12_isSo_201 : List (Nat × Jvm.ClassFile.Instr × Nat) := [(201, .ireturn, 1)]
set_option maxRecDepth 20000 in
theorem k_X12_isSo_201 {sc : xm_Sc} : xm_bok (xe_cy (XE sc) 235) b_X12_isSo_201 := by show xm_bok cX12_isSo _; unfold xm_bok; decide +kernel
set_option maxRecDepth 20000 in
theorem cn_235 {sc : xm_Sc} : xe_cn (XE sc) 235 = 12 := rfl
set_option maxRecDepth 20000 in
theorem ml_235 {sc : xm_Sc} : xe_ml (XE sc) 235 = 6 := rfl
set_option maxRecDepth 20000 in
theorem ry_235 {sc : xm_Sc} : xe_ry (XE sc) 235 = (some .boolean) := rfl
set_option maxRecDepth 20000 in
theorem is_235 {sc : xm_Sc} : xe_is (XE sc) 235 = true := rfl
set_option maxRecDepth 20000 in
theorem np_235 {sc : xm_Sc} : xe_np (XE sc) 235 = 4 := rfl
/- method 236: X12_isTooLong -/
def b_X12_isTooLong_0 : List (Nat × Jvm.ClassFile.Instr × Nat) := [(0, .aload_n 0, 1), (1, .getfield 289, 3), (4, .sipush 8192, 3), (7, .if_icmp .le 7, 3)]
set_option maxRecDepth 20000 in
theorem k_X12_isTooLong_0 {sc : xm_Sc} : xm_bok (xe_cy (XE sc) 236) b_X12_isTooLong_0 := by show xm_bok cX12_isTooLong _; unfold xm_bok; decide +kernel
def b_X12_isTooLong_10 : List (Nat × Jvm.ClassFile.Instr × Nat) := [(10, .iconst 1, 1), (11, .goto 4, 3)]
set_option maxRecDepth 20000 in
theorem k_X12_isTooLong_10 {sc : xm_Sc} : xm_bok (xe_cy (XE sc) 236) b_X12_isTooLong_10 := by show xm_bok cX12_isTooLong _; unfold xm_bok; decide +kernel
def b_X12_isTooLong_14 : List (Nat × Jvm.ClassFile.Instr × Nat) := [(14, .iconst 0, 1)]
set_option maxRecDepth 20000 in
theorem k_X12_isTooLong_14 {sc : xm_Sc} : xm_bok (xe_cy (XE sc) 236) b_X12_isTooLong_14 := by show xm_bok cX12_isTooLong _; unfold xm_bok; decide +kernel
def b_X12_isTooLong_15 : List (Nat × Jvm.ClassFile.Instr × Nat) := [(15, .ireturn, 1)]
set_option maxRecDepth 20000 in
theorem k_X12_isTooLong_15 {sc : xm_Sc} : xm_bok (xe_cy (XE sc) 236) b_X12_isTooLong_15 := by show xm_bok cX12_isTooLong _; unfold xm_bok; decide +kernel
set_option maxRecDepth 20000 in
theorem cn_236 {sc : xm_Sc} : xe_cn (XE sc) 236 = 12 := rfl
set_option maxRecDepth 20000 in
theorem ml_236 {sc : xm_Sc} : xe_ml (XE sc) 236 = 1 := rfl
set_option maxRecDepth 20000 in
theorem ry_236 {sc : xm_Sc} : xe_ry (XE sc) 236 = (some .boolean) := rfl
set_option maxRecDepth 20000 in
theorem is_236 {sc : xm_Sc} : xe_is (XE sc) 236 = false := rfl
set_option maxRecDepth 20000 in
theorem np_236 {sc : xm_Sc} : xe_np (XE sc) 236 = 0 := rfl
/- method 237: X12_isValue -/
def b_X12_isValue_0 : List (Nat × Jvm.ClassFile.Instr × Nat) := [(0, .iconst 1, 1), (1, .istore_n 3, 1), (2, .aload_n 0, 1), (3, .getfield 48, 3), (6, .iconst 0, 1), (7, .iload_n 1, 1), (8, .iastore, 1), (9, .aload_n 0, 1), (10, .getfield 51, 3), (13, .iconst 0, 1), (14, .iload_n 2, 1), (15, .iastore, 1)]
set_option maxRecDepth 20000 in
theorem k_X12_isValue_0 {sc : xm_Sc} : xm_bok (xe_cy (XE sc) 237) b_X12_isValue_0 := by show xm_bok cX12_isValue _; unfold xm_bok; decide +kernel
def b_X12_isValue_16 : List (Nat × Jvm.ClassFile.Instr × Nat) := [(16, .iload_n 3, 1), (17, .ifCond .le 213, 3)]
set_option maxRecDepth 20000 in
theorem k_X12_isValue_16 {sc : xm_Sc} : xm_bok (xe_cy (XE sc) 237) b_X12_isValue_16 := by show xm_bok cX12_isValue _; unfold xm_bok; decide +kernel
def b_X12_isValue_20 : List (Nat × Jvm.ClassFile.Instr × Nat) := [(20, .iinc 3 (-1), 3), (23, .aload_n 0, 1), (24, .getfield 48, 3), (27, .iload_n 3, 1), (28, .iaload, 1), (29, .istore 4, 2), (31, .aload_n 0, 1), (32, .getfield 51, 3), (35, .iload_n 3, 1), (36, .iaload, 1), (37, .istore 5, 2), (39, .aload_n 0, 1), (40, .getfield 100, 3), (43, .iload 4, 2), (45, .iaload, 1), (46, .ifCond .ne 6, 3)]
set_option maxRecDepth 20000 in
theorem k_X12_isValue_20 {sc : xm_Sc} : xm_bok (xe_cy (XE sc) 237) b_X12_isValue_20 := by show xm_bok cX12_isValue _; unfold xm_bok; decide +kernel
def b_X12_isValue_49 : List (Nat × Jvm.ClassFile.Instr × Nat) := [(49, .goto (-33), 3)]
set_option maxRecDepth 20000 in
theorem k_X12_isValue_49 {sc : xm_Sc} : xm_bok (xe_cy (XE sc) 237) b_X12_isValue_49 := by show xm_bok cX12_isValue _; unfold xm_bok; decide +kernel
def b_X12_isValue_52 : List (Nat × Jvm.ClassFile.Instr × Nat) := [(52, .aload_n 0, 1), (53, .getfield 91, 3), (56, .iload 4, 2), (58, .iaload, 1), (59, .iconst 3, 1), (60, .if_icmp .ne 68, 3)]
set_option maxRecDepth 20000 in
theorem k_X12_isValue_52 {sc : xm_Sc} : xm_bok (xe_cy (XE sc) 237) b_X12_isValue_52 := by show xm_bok cX12_isValue _; unfold xm_bok; decide +kernel
def b_X12_isValue_63 : List (Nat × Jvm.ClassFile.Instr × Nat) := [(63, .aload_n 0, 1), (64, .getfield 48, 3), (67, .iload_n 3, 1), (68, .aload_n 0, 1), (69, .getfield 97, 3), (72, .iload 4, 2), (74, .iaload, 1), (75, .iastore, 1), (76, .aload_n 0, 1), (77, .getfield 51, 3), (80, .iload_n 3, 1), (81, .iload 5, 2), (83, .aload_n 0, 1), (84, .getfield 100, 3), (87, .aload_n 0, 1), (88, .getfield 94, 3), (91, .iload 4, 2), (93, .iaload, 1), (94, .iaload, 1), (95, .iadd, 1), (96, .iastore, 1), (97, .aload_n 0, 1), (98, .getfield 48, 3), (101, .iload_n 3, 1), (102, .iconst 1, 1), (103, .iadd, 1), (104, .aload_n 0, 1), (105, .getfield 94, 3), (108, .iload 4, 2), (110, .iaload, 1), (111, .iastore, 1), (112, .aload_n 0, 1), (113, .getfield 51, 3), (116, .iload_n 3, 1), (117, .iconst 1, 1), (118, .iadd, 1), (119, .iload 5, 2), (121, .iastore, 1), (122, .iinc 3 2, 3), (125, .goto 102, 3)]
set_option maxRecDepth 20000 in
theorem k_X12_isValue_63 {sc : xm_Sc} : xm_bok (xe_cy (XE sc) 237) b_X12_isValue_63 := by show xm_bok cX12_isValue _; unfold xm_bok; decide +kernel
def b_X12_isValue_128 : List (Nat × Jvm.ClassFile.Instr × Nat) := [(128, .aload_n 0, 1), (129, .getfield 141, 3), (132, .iload 5, 2), (134, .baload, 1), (135, .ifCond .ne 13, 3)]
set_option maxRecDepth 20000 in
theorem k_X12_isValue_128 {sc : xm_Sc} : xm_bok (xe_cy (XE sc) 237) b_X12_isValue_128 := by show xm_bok cX12_isValue _; unfold xm_bok; decide +kernel
def b_X12_isValue_138 : List (Nat × Jvm.ClassFile.Instr × Nat) := [(138, .aload_n 0, 1), (139, .getfield 94, 3), (142, .iload 4, 2), (144, .iaload, 1), (145, .goto 10, 3)]
set_option maxRecDepth 20000 in
theorem k_X12_isValue_138 {sc : xm_Sc} : xm_bok (xe_cy (XE sc) 237) b_X12_isValue_138 := by show xm_bok cX12_isValue _; unfold xm_bok; decide +kernel
def b_X12_isValue_148 : List (Nat × Jvm.ClassFile.Instr × Nat) := [(148, .aload_n 0, 1), (149, .getfield 97, 3), (152, .iload 4, 2), (154, .iaload, 1)]
set_option maxRecDepth 20000 in
theorem k_X12_isValue_148 {sc : xm_Sc} : xm_bok (xe_cy (XE sc) 237) b_X12_isValue_148 := by show xm_bok cX12_isValue _; unfold xm_bok; decide +kernel
def b_X12_isValue_155 : List (Nat × Jvm.ClassFile.Instr × Nat) := [(155, .istore 6, 2), (157, .iload 5, 2), (159, .aload_n 0, 1), (160, .getfield 100, 3), (163, .iload 4, 2), (165, .iaload, 1), (166, .iadd, 1), (167, .aload_n 0, 1), (168, .getfield 100, 3), (171, .iload 6, 2), (173, .iaload, 1), (174, .isub, 1), (175, .istore 7, 2), (177, .iload 5, 2), (179, .iconst 1, 1), (180, .iadd, 1), (181, .istore 8, 2)]
set_option maxRecDepth 20000 in
theorem k_X12_isValue_155 {sc : xm_Sc} : xm_bok (xe_cy (XE sc) 237) b_X12_isValue_155 := by show xm_bok cX12_isValue _; unfold xm_bok; decide +kernel
def b_X12_isValue_183 : List (Nat × Jvm.ClassFile.Instr × Nat) := [(183, .iload 8, 2), (185, .iload 7, 2), (187, .if_icmp .ge 21, 3)]
set_option maxRecDepth 20000 in
theorem k_X12_isValue_183 {sc : xm_Sc} : xm_bok (xe_cy (XE sc) 237) b_X12_isValue_183 := by show xm_bok cX12_isValue _; unfold xm_bok; decide +kernel
def b_X12_isValue_190 : List (Nat × Jvm.ClassFile.Instr × Nat) := [(190, .aload_n 0, 1), (191, .getfield 141, 3), (194, .iload 8, 2), (196, .baload, 1), (197, .ifCond .eq 5, 3)]
set_option maxRecDepth 20000 in
theorem k_X12_isValue_190 {sc : xm_Sc} : xm_bok (xe_cy (XE sc) 237) b_X12_isValue_190 := by show xm_bok cX12_isValue _; unfold xm_bok; decide +kernel
def b_X12_isValue_200 : List (Nat × Jvm.ClassFile.Instr × Nat) := [(200, .iconst 0, 1), (201, .ireturn, 1)]
set_option maxRecDepth 20000 in
theorem k_X12_isValue_200 {sc : xm_Sc} : xm_bok (xe_cy (XE sc) 237) b_X12_isValue_200 := by show xm_bok cX12_isValue _; unfold xm_bok; decide +kernel
def b_X12_isValue_202 : List (Nat × Jvm.ClassFile.Instr × Nat) := [(202, .iinc 8 1, 3), (205, .goto (-22), 3)]
set_option maxRecDepth 20000 in
theorem k_X12_isValue_202 {sc : xm_Sc} : xm_bok (xe_cy (XE sc) 237) b_X12_isValue_202 := by show xm_bok cX12_isValue _; unfold xm_bok; decide +kernel
def b_X12_isValue_208 : List (Nat × Jvm.ClassFile.Instr × Nat) := [(208, .aload_n 0, 1), (209, .getfield 48, 3), (212, .iload_n 3, 1), (213, .iload 6, 2), (215, .iastore, 1), (216, .aload_n 0, 1), (217, .getfield 51, 3), (220, .iload_n 3, 1), (221, .iload 7, 2), (223, .iastore, 1), (224, .iinc 3 1, 3)]
set_option maxRecDepth 20000 in
theorem k_X12_isValue_208 {sc : xm_Sc} : xm_bok (xe_cy (XE sc) 237) b_X12_isValue_208 := by show xm_bok cX12_isValue _; unfold xm_bok; decide +kernel
def b_X12_isValue_227 : List (Nat × Jvm.ClassFile.Instr × Nat) := [(227, .goto (-211), 3)]
set_option maxRecDepth 20000 in
theorem k_X12_isValue_227 {sc : xm_Sc} : xm_bok (xe_cy (XE sc) 237) b_X12_isValue_227 := by show xm_bok cX12_isValue _; unfold xm_bok; decide +kernel
def b_X12_isValue_230 : List (Nat × Jvm.ClassFile.Instr × Nat) := [(230, .iconst 1, 1), (231, .ireturn, 1)]
set_option maxRecDepth 20000 in
theorem k_X12_isValue_230 {sc : xm_Sc} : xm_bok (xe_cy (XE sc) 237) b_X12_isValue_230 := by show xm_bok cX12_isValue _; unfold xm_bok; decide +kernel
set_option maxRecDepth 20000 in
theorem cn_237 {sc : xm_Sc} : xe_cn (XE sc) 237 = 12 := rfl
set_option maxRecDepth 20000 in
theorem ml_237 {sc : xm_Sc} : xe_ml (XE sc) 237 = 9 := rfl
set_option maxRecDepth 20000 in
theorem ry_237 {sc : xm_Sc} : xe_ry (XE sc) 237 = (some .boolean) := rfl
set_option maxRecDepth 20000 in
theorem is_237 {sc : xm_Sc} : xe_is (XE sc) 237 = false := rfl
set_option maxRecDepth 20000 in
theorem np_237 {sc : xm_Sc} : xe_np (XE sc) 237 = 2 := rfl
/- method 238: X12_isWronglyHidden -/
def b_X12_isWronglyHidden_0 : List (Nat × Jvm.ClassFile.Instr × Nat) := [(0, .aload_n 0, 1), (1, .getfield 16, 3), (4, .iload_n 1, 1), (5, .iaload, 1), (6, .bipush 11, 2), (8, .if_icmp .ne 7, 3)]
set_option maxRecDepth 20000 in
theorem k_X12_isWronglyHidden_0 {sc : xm_Sc} : xm_bok (xe_cy (XE sc) 238) b_X12_isWronglyHidden_0 := by show xm_bok cX12_isWronglyHidden _; unfold xm_bok; decide +kernel
def b_X12_isWronglyHidden_11 : List (Nat × Jvm.ClassFile.Instr × Nat) := [(11, .iconst 1, 1), (12, .goto 4, 3)]
set_option maxRecDepth 20000 in
theorem k_X12_isWronglyHidden_11 {sc : xm_Sc} : xm_bok (xe_cy (XE sc) 238) b_X12_isWronglyHidden_11 := by show xm_bok cX12_isWronglyHidden _; unfold xm_bok; decide +kernel
def b_X12_isWronglyHidden_15 : List (Nat × Jvm.ClassFile.Instr × Nat) := [(15, .iconst 0, 1)]
set_option maxRecDepth 20000 in
theorem k_X12_isWronglyHidden_15 {sc : xm_Sc} : xm_bok (xe_cy (XE sc) 238) b_X12_isWronglyHidden_15 := by show xm_bok cX12_isWronglyHidden _; unfold xm_bok; decide +kernel
def b_X12_isWronglyHidden_16 : List (Nat × Jvm.ClassFile.Instr × Nat) := [(16, .istore_n 2, 1), (17, .iconst 0, 1), (18, .istore_n 3, 1)]
set_option maxRecDepth 20000 in
theorem k_X12_isWronglyHidden_16 {sc : xm_Sc} : xm_bok (xe_cy (XE sc) 238) b_X12_isWronglyHidden_16 := by show xm_bok cX12_isWronglyHidden _; unfold xm_bok; decide +kernel
def b_X12_isWronglyHidden_19 : List (Nat × Jvm.ClassFile.Instr × Nat) := [(19, .iload_n 3, 1), (20, .aload_n 0, 1), (21, .getfield 226, 3), (24, .if_icmp .ge 129, 3)]
set_option maxRecDepth 20000 in
theorem k_X12_isWronglyHidden_19 {sc : xm_Sc} : xm_bok (xe_cy (XE sc) 238) b_X12_isWronglyHidden_19 := by show xm_bok cX12_isWronglyHidden _; unfold xm_bok; decide +kernel
def b_X12_isWronglyHidden_27 : List (Nat × Jvm.ClassFile.Instr × Nat) := [(27, .aload_n 0, 1), (28, .getfield 40, 3), (31, .iload_n 3, 1), (32, .iaload, 1), (33, .istore 4, 2), (35, .aload_n 0, 1), (36, .iload 4, 2), (38, .iconst 0, 1), (39, .invokevirtual 229, 3)]
set_option maxRecDepth 20000 in
theorem k_X12_isWronglyHidden_27 {sc : xm_Sc} : xm_bok (xe_cy (XE sc) 238) b_X12_isWronglyHidden_27 := by show xm_bok cX12_isWronglyHidden _; unfold xm_bok; decide +kernel
def b_X12_isWronglyHidden_42 : List (Nat × Jvm.ClassFile.Instr × Nat) := [(42, .ifCond .lt 24, 3)]
set_option maxRecDepth 20000 in
theorem k_X12_isWronglyHidden_42 {sc : xm_Sc} : xm_bok (xe_cy (XE sc) 238) b_X12_isWronglyHidden_42 := by show xm_bok cX12_isWronglyHidden _; unfold xm_bok; decide +kernel
def b_X12_isWronglyHidden_45 : List (Nat × Jvm.ClassFile.Instr × Nat) := [(45, .aload_n 0, 1), (46, .getfield 16, 3), (49, .aload_n 0, 1), (50, .getfield 19, 3), (53, .iload 4, 2), (55, .iaload, 1), (56, .iaload, 1), (57, .bipush 11, 2), (59, .if_icmp .ne 7, 3)]
set_option maxRecDepth 20000 in
theorem k_X12_isWronglyHidden_45 {sc : xm_Sc} : xm_bok (xe_cy (XE sc) 238) b_X12_isWronglyHidden_45 := by show xm_bok cX12_isWronglyHidden _; unfold xm_bok; decide +kernel
def b_X12_isWronglyHidden_62 : List (Nat × Jvm.ClassFile.Instr × Nat) := [(62, .iconst 1, 1), (63, .goto 4, 3)]
set_option maxRecDepth 20000 in
theorem k_X12_isWronglyHidden_62 {sc : xm_Sc} : xm_bok (xe_cy (XE sc) 238) b_X12_isWronglyHidden_62 := by show xm_bok cX12_isWronglyHidden _; unfold xm_bok; decide +kernel
def b_X12_isWronglyHidden_66 : List (Nat × Jvm.ClassFile.Instr × Nat) := [(66, .iconst 0, 1)]
set_option maxRecDepth 20000 in
theorem k_X12_isWronglyHidden_66 {sc : xm_Sc} : xm_bok (xe_cy (XE sc) 238) b_X12_isWronglyHidden_66 := by show xm_bok cX12_isWronglyHidden _; unfold xm_bok; decide +kernel
def b_X12_isWronglyHidden_67 : List (Nat × Jvm.ClassFile.Instr × Nat) := [(67, .istore 5, 2), (69, .aload_n 0, 1), (70, .iload 4, 2), (72, .iconst 1, 1), (73, .invokevirtual 229, 3)]
set_option maxRecDepth 20000 in
theorem k_X12_isWronglyHidden_67 {sc : xm_Sc} : xm_bok (xe_cy (XE sc) 238) b_X12_isWronglyHidden_67 := by show xm_bok cX12_isWronglyHidden _; unfold xm_bok; decide +kernel
def b_X12_isWronglyHidden_76 : List (Nat × Jvm.ClassFile.Instr × Nat) := [(76, .ifCond .lt 24, 3)]
set_option maxRecDepth 20000 in
theorem k_X12_isWronglyHidden_76 {sc : xm_Sc} : xm_bok (xe_cy (XE sc) 238) b_X12_isWronglyHidden_76 := by show xm_bok cX12_isWronglyHidden _; unfold xm_bok; decide +kernel
def b_X12_isWronglyHidden_79 : List (Nat × Jvm.ClassFile.Instr × Nat) := [(79, .aload_n 0, 1), (80, .getfield 16, 3), (83, .aload_n 0, 1), (84, .getfield 22, 3), (87, .iload 4, 2), (89, .iaload, 1), (90, .iaload, 1), (91, .bipush 11, 2), (93, .if_icmp .ne 7, 3)]
set_option maxRecDepth 20000 in
theorem k_X12_isWronglyHidden_79 {sc : xm_Sc} : xm_bok (xe_cy (XE sc) 238) b_X12_isWronglyHidden_79 := by show xm_bok cX12_isWronglyHidden _; unfold xm_bok; decide +kernel
def b_X12_isWronglyHidden_96 : List (Nat × Jvm.ClassFile.Instr × Nat) := [(96, .iconst 1, 1), (97, .goto 4, 3)]
set_option maxRecDepth 20000 in
theorem k_X12_isWronglyHidden_96 {sc : xm_Sc} : xm_bok (xe_cy (XE sc) 238) b_X12_isWronglyHidden_96 := by show xm_bok cX12_isWronglyHidden _; unfold xm_bok; decide +kernel
def b_X12_isWronglyHidden_100 : List (Nat × Jvm.ClassFile.Instr × Nat) := [(100, .iconst 0, 1)]
set_option maxRecDepth 20000 in
theorem k_X12_isWronglyHidden_100 {sc : xm_Sc} : xm_bok (xe_cy (XE sc) 238) b_X12_isWronglyHidden_100 := by show xm_bok cX12_isWronglyHidden _; unfold xm_bok; decide +kernel
def b_X12_isWronglyHidden_101 : List (Nat × Jvm.ClassFile.Instr × Nat) := [(101, .istore 6, 2), (103, .iload_n 2, 1), (104, .ifCond .ne 37, 3)]
set_option maxRecDepth 20000 in
theorem k_X12_isWronglyHidden_101 {sc : xm_Sc} : xm_bok (xe_cy (XE sc) 238) b_X12_isWronglyHidden_101 := by show xm_bok cX12_isWronglyHidden _; unfold xm_bok; decide +kernel
def b_X12_isWronglyHidden_107 : List (Nat × Jvm.ClassFile.Instr × Nat) := [(107, .aload_n 0, 1), (108, .getfield 16, 3), (111, .iload 4, 2), (113, .iaload, 1), (114, .iconst 1, 1), (115, .if_icmp .ne 16, 3)]
set_option maxRecDepth 20000 in
theorem k_X12_isWronglyHidden_107 {sc : xm_Sc} : xm_bok (xe_cy (XE sc) 238) b_X12_isWronglyHidden_107 := by show xm_bok cX12_isWronglyHidden _; unfold xm_bok; decide +kernel
def b_X12_isWronglyHidden_118 : List (Nat × Jvm.ClassFile.Instr × Nat) := [(118, .iload 5, 2), (120, .ifCond .eq 25, 3)]
set_option maxRecDepth 20000 in
theorem k_X12_isWronglyHidden_118 {sc : xm_Sc} : xm_bok (xe_cy (XE sc) 238) b_X12_isWronglyHidden_118 := by show xm_bok cX12_isWronglyHidden _; unfold xm_bok; decide +kernel
def b_X12_isWronglyHidden_123 : List (Nat × Jvm.ClassFile.Instr × Nat) := [(123, .iload 6, 2), (125, .ifCond .eq 20, 3)]
set_option maxRecDepth 20000 in
theorem k_X12_isWronglyHidden_123 {sc : xm_Sc} : xm_bok (xe_cy (XE sc) 238) b_X12_isWronglyHidden_123 := by show xm_bok cX12_isWronglyHidden _; unfold xm_bok; decide +kernel
def b_X12_isWronglyHidden_128 : List (Nat × Jvm.ClassFile.Instr × Nat) := [(128, .goto 13, 3)]
set_option maxRecDepth 20000 in
theorem k_X12_isWronglyHidden_128 {sc : xm_Sc} : xm_bok (xe_cy (XE sc) 238) b_X12_isWronglyHidden_128 := by show xm_bok cX12_isWronglyHidden _; unfold xm_bok; decide +kernel
def b_X12_isWronglyHidden_131 : List (Nat × Jvm.ClassFile.Instr × Nat) := [(131, .iload 5, 2), (133, .ifCond .ne 8, 3)]
set_option maxRecDepth 20000 in
theorem k_X12_isWronglyHidden_131 {sc : xm_Sc} : xm_bok (xe_cy (XE sc) 238) b_X12_isWronglyHidden_131 := by show xm_bok cX12_isWronglyHidden _; unfold xm_bok; decide +kernel
def b_X12_isWronglyHidden_136 : List (Nat × Jvm.ClassFile.Instr × Nat) := [(136, .iload 6, 2), (138, .ifCond .eq 7, 3)]
set_option maxRecDepth 20000 in
theorem k_X12_isWronglyHidden_136 {sc : xm_Sc} : xm_bok (xe_cy (XE sc) 238) b_X12_isWronglyHidden_136 := by show xm_bok cX12_isWronglyHidden _; unfold xm_bok; decide +kernel
def b_X12_isWronglyHidden_141 : List (Nat × Jvm.ClassFile.Instr × Nat) := [(141, .iconst 1, 1), (142, .goto 4, 3)]
set_option maxRecDepth 20000 in
theorem k_X12_isWronglyHidden_141 {sc : xm_Sc} : xm_bok (xe_cy (XE sc) 238) b_X12_isWronglyHidden_141 := by show xm_bok cX12_isWronglyHidden _; unfold xm_bok; decide +kernel
def b_X12_isWronglyHidden_145 : List (Nat × Jvm.ClassFile.Instr × Nat) := [(145, .iconst 0, 1)]
set_option maxRecDepth 20000 in
theorem k_X12_isWronglyHidden_145 {sc : xm_Sc} : xm_bok (xe_cy (XE sc) 238) b_X12_isWronglyHidden_145 := by show xm_bok cX12_isWronglyHidden _; unfold xm_bok; decide +kernel
def b_X12_isWronglyHidden_146 : List (Nat × Jvm.ClassFile.Instr × Nat) := [(146, .istore_n 2, 1), (147, .iinc 3 1, 3), (150, .goto (-131), 3)]
set_option maxRecDepth 20000 in
theorem k_X12_isWronglyHidden_146 {sc : xm_Sc} : xm_bok (xe_cy (XE sc) 238) b_X12_isWronglyHidden_146 := by show xm_bok cX12_isWronglyHidden _; unfold xm_bok; decide +kernel
def b_X12_isWronglyHidden_153 : List (Nat × Jvm.ClassFile.Instr × Nat) := [(153, .iload_n 2, 1), (154, .ireturn, 1)]
set_option maxRecDepth 20000 in
theorem k_X12_isWronglyHidden_153 {sc : xm_Sc} : xm_bok (xe_cy (XE sc) 238) b_X12_isWronglyHidden_153 := by show xm_bok cX12_isWronglyHidden _; unfold xm_bok; decide +kernel
set_option maxRecDepth 20000 in
theorem cn_238 {sc : xm_Sc} : xe_cn (XE sc) 238 = 12 := rfl
set_option maxRecDepth 20000 in
theorem ml_238 {sc : xm_Sc} : xe_ml (XE sc) 238 = 7 := rfl
set_option maxRecDepth 20000 in
theorem ry_238 {sc : xm_Sc} : xe_ry (XE sc) 238 = (some .boolean) := rfl
set_option maxRecDepth 20000 in
theorem is_238 {sc : xm_Sc} : xe_is (XE sc) 238 = false := rfl
set_option maxRecDepth 20000 in
theorem np_238 {sc : xm_Sc} : xe_np (XE sc) 238 = 1 := rfl
/- method 239: X12_jet -/
def b_X12_jet_0 : List (Nat × Jvm.ClassFile.Instr × Nat) := [(0, .aload_n 0, 1), (1, .iload_n 1, 1), (2, .invokevirtual 468, 3)]
set_option maxRecDepth 20000 in
theorem k_X12_jet_0 {sc : xm_Sc} : xm_bok (xe_cy (XE sc) 239) b_X12_jet_0 := by show xm_bok cX12_jet _; unfold xm_bok; decide +kernel
def b_X12_jet_5 : List (Nat × Jvm.ClassFile.Instr × Nat) := [(5, .iconst 4, 1), (6, .idiv, 1), (7, .istore 4, 2), (9, .bipush 8, 2), (11, .aload_n 0, 1), (12, .iload_n 1, 1), (13, .invokevirtual 468, 3)]
set_option maxRecDepth 20000 in
theorem k_X12_jet_5 {sc : xm_Sc} : xm_bok (xe_cy (XE sc) 239) b_X12_jet_5 := by show xm_bok cX12_jet _; unfold xm_bok; decide +kernel
def b_X12_jet_16 : List (Nat × Jvm.ClassFile.Instr × Nat) := [(16, .iconst 4, 1), (17, .irem, 1), (18, .ishl, 1), (19, .istore 5, 2), (21, .iload 4, 2), (23, .iconst 1, 1), (24, .if_icmp .eq 9, 3)]
set_option maxRecDepth 20000 in
theorem k_X12_jet_16 {sc : xm_Sc} : xm_bok (xe_cy (XE sc) 239) b_X12_jet_16 := by show xm_bok cX12_jet _; unfold xm_bok; decide +kernel
def b_X12_jet_27 : List (Nat × Jvm.ClassFile.Instr × Nat) := [(27, .iload 4, 2), (29, .iconst 3, 1), (30, .if_icmp .ne 9, 3)]
set_option maxRecDepth 20000 in
theorem k_X12_jet_27 {sc : xm_Sc} : xm_bok (xe_cy (XE sc) 239) b_X12_jet_27 := by show xm_bok cX12_jet _; unfold xm_bok; decide +kernel
def b_X12_jet_33 : List (Nat × Jvm.ClassFile.Instr × Nat) := [(33, .iload_n 2, 1), (34, .iconst 1, 1), (35, .iadd, 1), (36, .goto 4, 3)]
set_option maxRecDepth 20000 in
theorem k_X12_jet_33 {sc : xm_Sc} : xm_bok (xe_cy (XE sc) 239) b_X12_jet_33 := by show xm_bok cX12_jet _; unfold xm_bok; decide +kernel
def b_X12_jet_39 : List (Nat × Jvm.ClassFile.Instr × Nat) := [(39, .iload_n 2, 1)]
set_option maxRecDepth 20000 in
theorem k_X12_jet_39 {sc : xm_Sc} : xm_bok (xe_cy (XE sc) 239) b_X12_jet_39 := by show xm_bok cX12_jet _; unfold xm_bok; decide +kernel
def b_X12_jet_40 : List (Nat × Jvm.ClassFile.Instr × Nat) := [(40, .istore 6, 2), (42, .iload 4, 2), (44, .iconst 4, 1), (45, .if_icmp .ge 60, 3)]
set_option maxRecDepth 20000 in
theorem k_X12_jet_40 {sc : xm_Sc} : xm_bok (xe_cy (XE sc) 239) b_X12_jet_40 := by show xm_bok cX12_jet _; unfold xm_bok; decide +kernel
def b_X12_jet_48 : List (Nat × Jvm.ClassFile.Instr × Nat) := [(48, .aload_n 0, 1), (49, .iload_n 3, 1), (50, .iload 5, 2), (52, .aload_n 0, 1), (53, .iload 6, 2), (55, .iload 5, 2), (57, .invokevirtual 450, 3)]
set_option maxRecDepth 20000 in
theorem k_X12_jet_48 {sc : xm_Sc} : xm_bok (xe_cy (XE sc) 239) b_X12_jet_48 := by show xm_bok cX12_jet _; unfold xm_bok; decide +kernel
def b_X12_jet_60 : List (Nat × Jvm.ClassFile.Instr × Nat) := [(60, .aload_n 0, 1), (61, .iload 6, 2), (63, .iload 5, 2), (65, .iadd, 1), (66, .iload 5, 2), (68, .invokevirtual 450, 3)]
set_option maxRecDepth 20000 in
theorem k_X12_jet_60 {sc : xm_Sc} : xm_bok (xe_cy (XE sc) 239) b_X12_jet_60 := by show xm_bok cX12_jet _; unfold xm_bok; decide +kernel
def b_X12_jet_71 : List (Nat × Jvm.ClassFile.Instr × Nat) := [(71, .iload 6, 2), (73, .iload_n 2, 1), (74, .if_icmp .le 13, 3)]
set_option maxRecDepth 20000 in
theorem k_X12_jet_71 {sc : xm_Sc} : xm_bok (xe_cy (XE sc) 239) b_X12_jet_71 := by show xm_bok cX12_jet _; unfold xm_bok; decide +kernel
def b_X12_jet_77 : List (Nat × Jvm.ClassFile.Instr × Nat) := [(77, .aload_n 0, 1), (78, .getfield 141, 3), (81, .iload_n 2, 1), (82, .baload, 1), (83, .i2l, 1), (84, .goto 4, 3)]
set_option maxRecDepth 20000 in
theorem k_X12_jet_77 {sc : xm_Sc} : xm_bok (xe_cy (XE sc) 239) b_X12_jet_77 := by show xm_bok cX12_jet _; unfold xm_bok; decide +kernel
def b_X12_jet_87 : List (Nat × Jvm.ClassFile.Instr × Nat) := [(87, .lconst 0, 1)]
set_option maxRecDepth 20000 in
theorem k_X12_jet_87 {sc : xm_Sc} : xm_bok (xe_cy (XE sc) 239) b_X12_jet_87 := by show xm_bok cX12_jet _; unfold xm_bok; decide +kernel
def b_X12_jet_88 : List (Nat × Jvm.ClassFile.Instr × Nat) := [(88, .iload 4, 2), (90, .iconst 1, 1), (91, .if_icmp .le 7, 3)]
set_option maxRecDepth 20000 in
theorem k_X12_jet_88 {sc : xm_Sc} : xm_bok (xe_cy (XE sc) 239) b_X12_jet_88 := by show xm_bok cX12_jet _; unfold xm_bok; decide +kernel
def b_X12_jet_94 : List (Nat × Jvm.ClassFile.Instr × Nat) := [(94, .iconst 1, 1), (95, .goto 4, 3)]
set_option maxRecDepth 20000 in
theorem k_X12_jet_94 {sc : xm_Sc} : xm_bok (xe_cy (XE sc) 239) b_X12_jet_94 := by show xm_bok cX12_jet _; unfold xm_bok; decide +kernel
def b_X12_jet_98 : List (Nat × Jvm.ClassFile.Instr × Nat) := [(98, .iconst 0, 1)]
set_option maxRecDepth 20000 in
theorem k_X12_jet_98 {sc : xm_Sc} : xm_bok (xe_cy (XE sc) 239) b_X12_jet_98 := by show xm_bok cX12_jet _; unfold xm_bok; decide +kernel
def b_X12_jet_99 : List (Nat × Jvm.ClassFile.Instr × Nat) := [(99, .invokevirtual 471, 3)]
set_option maxRecDepth 20000 in
theorem k_X12_jet_99 {sc : xm_Sc} : xm_bok (xe_cy (XE sc) 239) b_X12_jet_99 := by show xm_bok cX12_jet _; unfold xm_bok; decide +kernel
def b_X12_jet_102 : List (Nat × Jvm.ClassFile.Instr × Nat) := [(102, .goto 358, 3)]
set_option maxRecDepth 20000 in
theorem k_X12_jet_102 {sc : xm_Sc} : xm_bok (xe_cy (XE sc) 239) b_X12_jet_102 := by show xm_bok cX12_jet _; unfold xm_bok; decide +kernel
def b_X12_jet_105 : List (Nat × Jvm.ClassFile.Instr × Nat) := [(105, .iload 4, 2), (107, .bipush 7, 2), (109, .if_icmp .ge 61, 3)]
set_option maxRecDepth 20000 in
theorem k_X12_jet_105 {sc : xm_Sc} : xm_bok (xe_cy (XE sc) 239) b_X12_jet_105 := by show xm_bok cX12_jet _; unfold xm_bok; decide +kernel
def b_X12_jet_112 : List (Nat × Jvm.ClassFile.Instr × Nat) := [(112, .aload_n 0, 1), (113, .iload_n 3, 1), (114, .iload 5, 2), (116, .iload 4, 2), (118, .bipush 6, 2), (120, .if_icmp .ne 7, 3)]
set_option maxRecDepth 20000 in
theorem k_X12_jet_112 {sc : xm_Sc} : xm_bok (xe_cy (XE sc) 239) b_X12_jet_112 := by show xm_bok cX12_jet _; unfold xm_bok; decide +kernel
def b_X12_jet_123 : List (Nat × Jvm.ClassFile.Instr × Nat) := [(123, .lconst 0, 1), (124, .goto 10, 3)]
set_option maxRecDepth 20000 in
theorem k_X12_jet_123 {sc : xm_Sc} : xm_bok (xe_cy (XE sc) 239) b_X12_jet_123 := by show xm_bok cX12_jet _; unfold xm_bok; decide +kernel
def b_X12_jet_127 : List (Nat × Jvm.ClassFile.Instr × Nat) := [(127, .aload_n 0, 1), (128, .iload_n 2, 1), (129, .iload 5, 2), (131, .invokevirtual 450, 3)]
set_option maxRecDepth 20000 in
theorem k_X12_jet_127 {sc : xm_Sc} : xm_bok (xe_cy (XE sc) 239) b_X12_jet_127 := by show xm_bok cX12_jet _; unfold xm_bok; decide +kernel
def b_X12_jet_134 : List (Nat × Jvm.ClassFile.Instr × Nat) := [(134, .iload 4, 2), (136, .bipush 6, 2), (138, .if_icmp .ne 13, 3)]
set_option maxRecDepth 20000 in
theorem k_X12_jet_134 {sc : xm_Sc} : xm_bok (xe_cy (XE sc) 239) b_X12_jet_134 := by show xm_bok cX12_jet _; unfold xm_bok; decide +kernel
def b_X12_jet_141 : List (Nat × Jvm.ClassFile.Instr × Nat) := [(141, .aload_n 0, 1), (142, .iload_n 2, 1), (143, .iload 5, 2), (145, .invokevirtual 450, 3)]
set_option maxRecDepth 20000 in
theorem k_X12_jet_141 {sc : xm_Sc} : xm_bok (xe_cy (XE sc) 239) b_X12_jet_141 := by show xm_bok cX12_jet _; unfold xm_bok; decide +kernel
def b_X12_jet_148 : List (Nat × Jvm.ClassFile.Instr × Nat) := [(148, .goto 4, 3)]
set_option maxRecDepth 20000 in
theorem k_X12_jet_148 {sc : xm_Sc} : xm_bok (xe_cy (XE sc) 239) b_X12_jet_148 := by show xm_bok cX12_jet _; unfold xm_bok; decide +kernel
def b_X12_jet_151 : List (Nat × Jvm.ClassFile.Instr × Nat) := [(151, .lconst 1, 1)]
set_option maxRecDepth 20000 in
theorem k_X12_jet_151 {sc : xm_Sc} : xm_bok (xe_cy (XE sc) 239) b_X12_jet_151 := by show xm_bok cX12_jet _; unfold xm_bok; decide +kernel
def b_X12_jet_152 : List (Nat × Jvm.ClassFile.Instr × Nat) := [(152, .lconst 0, 1), (153, .iload 4, 2), (155, .iconst 4, 1), (156, .if_icmp .le 7, 3)]
set_option maxRecDepth 20000 in
theorem k_X12_jet_152 {sc : xm_Sc} : xm_bok (xe_cy (XE sc) 239) b_X12_jet_152 := by show xm_bok cX12_jet _; unfold xm_bok; decide +kernel
def b_X12_jet_159 : List (Nat × Jvm.ClassFile.Instr × Nat) := [(159, .iconst 1, 1), (160, .goto 4, 3)]
set_option maxRecDepth 20000 in
theorem k_X12_jet_159 {sc : xm_Sc} : xm_bok (xe_cy (XE sc) 239) b_X12_jet_159 := by show xm_bok cX12_jet _; unfold xm_bok; decide +kernel
def b_X12_jet_163 : List (Nat × Jvm.ClassFile.Instr × Nat) := [(163, .iconst 0, 1)]
set_option maxRecDepth 20000 in
theorem k_X12_jet_163 {sc : xm_Sc} : xm_bok (xe_cy (XE sc) 239) b_X12_jet_163 := by show xm_bok cX12_jet _; unfold xm_bok; decide +kernel
def b_X12_jet_164 : List (Nat × Jvm.ClassFile.Instr × Nat) := [(164, .invokevirtual 471, 3)]
set_option maxRecDepth 20000 in
theorem k_X12_jet_164 {sc : xm_Sc} : xm_bok (xe_cy (XE sc) 239) b_X12_jet_164 := by show xm_bok cX12_jet _; unfold xm_bok; decide +kernel
def b_X12_jet_167 : List (Nat × Jvm.ClassFile.Instr × Nat) := [(167, .goto 293, 3)]
set_option maxRecDepth 20000 in
theorem k_X12_jet_167 {sc : xm_Sc} : xm_bok (xe_cy (XE sc) 239) b_X12_jet_167 := by show xm_bok cX12_jet _; unfold xm_bok; decide +kernel
def b_X12_jet_170 : List (Nat × Jvm.ClassFile.Instr × Nat) := [(170, .iload 4, 2), (172, .bipush 7, 2), (174, .if_icmp .ne 32, 3)]
set_option maxRecDepth 20000 in
theorem k_X12_jet_170 {sc : xm_Sc} : xm_bok (xe_cy (XE sc) 239) b_X12_jet_170 := by show xm_bok cX12_jet _; unfold xm_bok; decide +kernel
def b_X12_jet_177 : List (Nat × Jvm.ClassFile.Instr × Nat) := [(177, .aload_n 0, 1), (178, .iload_n 3, 1), (179, .iload 5, 2), (181, .aload_n 0, 1), (182, .iload_n 2, 1), (183, .iload 5, 2), (185, .invokevirtual 450, 3)]
set_option maxRecDepth 20000 in
theorem k_X12_jet_177 {sc : xm_Sc} : xm_bok (xe_cy (XE sc) 239) b_X12_jet_177 := by show xm_bok cX12_jet _; unfold xm_bok; decide +kernel
def b_X12_jet_188 : List (Nat × Jvm.ClassFile.Instr × Nat) := [(188, .aload_n 0, 1), (189, .iload_n 2, 1), (190, .iload 5, 2), (192, .iadd, 1), (193, .iload 5, 2), (195, .invokevirtual 450, 3)]
set_option maxRecDepth 20000 in
theorem k_X12_jet_188 {sc : xm_Sc} : xm_bok (xe_cy (XE sc) 239) b_X12_jet_188 := by show xm_bok cX12_jet _; unfold xm_bok; decide +kernel
def b_X12_jet_198 : List (Nat × Jvm.ClassFile.Instr × Nat) := [(198, .lconst 0, 1), (199, .lconst 0, 1), (200, .invokevirtual 475, 3)]
set_option maxRecDepth 20000 in
theorem k_X12_jet_198 {sc : xm_Sc} : xm_bok (xe_cy (XE sc) 239) b_X12_jet_198 := by show xm_bok cX12_jet _; unfold xm_bok; decide +kernel
def b_X12_jet_203 : List (Nat × Jvm.ClassFile.Instr × Nat) := [(203, .goto 257, 3)]
set_option maxRecDepth 20000 in
theorem k_X12_jet_203 {sc : xm_Sc} : xm_bok (xe_cy (XE sc) 239) b_X12_jet_203 := by show xm_bok cX12_jet _; unfold xm_bok; decide +kernel
def b_X12_jet_206 : List (Nat × Jvm.ClassFile.Instr × Nat) := [(206, .iload 4, 2), (208, .bipush 8, 2), (210, .if_icmp .ne 54, 3)]
set_option maxRecDepth 20000 in
theorem k_X12_jet_206 {sc : xm_Sc} : xm_bok (xe_cy (XE sc) 239) b_X12_jet_206 := by show xm_bok cX12_jet _; unfold xm_bok; decide +kernel
def b_X12_jet_213 : List (Nat × Jvm.ClassFile.Instr × Nat) := [(213, .aload_n 0, 1), (214, .iload_n 3, 1), (215, .iload 5, 2), (217, .aload_n 0, 1), (218, .iload_n 2, 1), (219, .iload 5, 2), (221, .invokevirtual 450, 3)]
set_option maxRecDepth 20000 in
theorem k_X12_jet_213 {sc : xm_Sc} : xm_bok (xe_cy (XE sc) 239) b_X12_jet_213 := by show xm_bok cX12_jet _; unfold xm_bok; decide +kernel
def b_X12_jet_224 : List (Nat × Jvm.ClassFile.Instr × Nat) := [(224, .aload_n 0, 1), (225, .iload_n 2, 1), (226, .iload 5, 2), (228, .iadd, 1), (229, .iload 5, 2), (231, .invokevirtual 450, 3)]
set_option maxRecDepth 20000 in
theorem k_X12_jet_224 {sc : xm_Sc} : xm_bok (xe_cy (XE sc) 239) b_X12_jet_224 := by show xm_bok cX12_jet _; unfold xm_bok; decide +kernel
def b_X12_jet_234 : List (Nat × Jvm.ClassFile.Instr × Nat) := [(234, .aload_n 0, 1), (235, .iload_n 2, 1), (236, .iconst 2, 1), (237, .iload 5, 2), (239, .imul, 1), (240, .iadd, 1), (241, .iload 5, 2), (243, .invokevirtual 450, 3)]
set_option maxRecDepth 20000 in
theorem k_X12_jet_234 {sc : xm_Sc} : xm_bok (xe_cy (XE sc) 239) b_X12_jet_234 := by show xm_bok cX12_jet _; unfold xm_bok; decide +kernel
def b_X12_jet_246 : List (Nat × Jvm.ClassFile.Instr × Nat) := [(246, .aload_n 0, 1), (247, .iload_n 2, 1), (248, .iconst 3, 1), (249, .iload 5, 2), (251, .imul, 1), (252, .iadd, 1), (253, .iload 5, 2), (255, .invokevirtual 450, 3)]
set_option maxRecDepth 20000 in
theorem k_X12_jet_246 {sc : xm_Sc} : xm_bok (xe_cy (XE sc) 239) b_X12_jet_246 := by show xm_bok cX12_jet _; unfold xm_bok; decide +kernel
def b_X12_jet_258 : List (Nat × Jvm.ClassFile.Instr × Nat) := [(258, .invokevirtual 475, 3)]
set_option maxRecDepth 20000 in
theorem k_X12_jet_258 {sc : xm_Sc} : xm_bok (xe_cy (XE sc) 239) b_X12_jet_258 := by show xm_bok cX12_jet _; unfold xm_bok; decide +kernel
def b_X12_jet_261 : List (Nat × Jvm.ClassFile.Instr × Nat) := [(261, .goto 199, 3)]
set_option maxRecDepth 20000 in
theorem k_X12_jet_261 {sc : xm_Sc} : xm_bok (xe_cy (XE sc) 239) b_X12_jet_261 := by show xm_bok cX12_jet _; unfold xm_bok; decide +kernel
def b_X12_jet_264 : List (Nat × Jvm.ClassFile.Instr × Nat) := [(264, .iload 4, 2), (266, .bipush 11, 2), (268, .if_icmp .lt 29, 3)]
set_option maxRecDepth 20000 in
theorem k_X12_jet_264 {sc : xm_Sc} : xm_bok (xe_cy (XE sc) 239) b_X12_jet_264 := by show xm_bok cX12_jet _; unfold xm_bok; decide +kernel
def b_X12_jet_271 : List (Nat × Jvm.ClassFile.Instr × Nat) := [(271, .iload 4, 2), (273, .bipush 16, 2), (275, .if_icmp .eq 22, 3)]
set_option maxRecDepth 20000 in
theorem k_X12_jet_271 {sc : xm_Sc} : xm_bok (xe_cy (XE sc) 239) b_X12_jet_271 := by show xm_bok cX12_jet _; unfold xm_bok; decide +kernel
def b_X12_jet_278 : List (Nat × Jvm.ClassFile.Instr × Nat) := [(278, .iload 4, 2), (280, .bipush 17, 2), (282, .if_icmp .eq 15, 3)]
set_option maxRecDepth 20000 in
theorem k_X12_jet_278 {sc : xm_Sc} : xm_bok (xe_cy (XE sc) 239) b_X12_jet_278 := by show xm_bok cX12_jet _; unfold xm_bok; decide +kernel
def b_X12_jet_285 : List (Nat × Jvm.ClassFile.Instr × Nat) := [(285, .iload 4, 2), (287, .bipush 24, 2), (289, .bipush 26, 2), (291, .invokestatic 211, 3)]
set_option maxRecDepth 20000 in
theorem k_X12_jet_285 {sc : xm_Sc} : xm_bok (xe_cy (XE sc) 239) b_X12_jet_285 := by show xm_bok cX12_jet _; unfold xm_bok; decide +kernel
def b_X12_jet_294 : List (Nat × Jvm.ClassFile.Instr × Nat) := [(294, .ifCond .eq 35, 3)]
set_option maxRecDepth 20000 in
theorem k_X12_jet_294 {sc : xm_Sc} : xm_bok (xe_cy (XE sc) 239) b_X12_jet_294 := by show xm_bok cX12_jet _; unfold xm_bok; decide +kernel
def b_X12_jet_297 : List (Nat × Jvm.ClassFile.Instr × Nat) := [(297, .aload_n 0, 1), (298, .iload_n 3, 1), (299, .iload 5, 2), (301, .iload 4, 2), (303, .aload_n 0, 1), (304, .iload_n 2, 1), (305, .iload 5, 2), (307, .invokevirtual 450, 3)]
set_option maxRecDepth 20000 in
theorem k_X12_jet_297 {sc : xm_Sc} : xm_bok (xe_cy (XE sc) 239) b_X12_jet_297 := by show xm_bok cX12_jet _; unfold xm_bok; decide +kernel
def b_X12_jet_310 : List (Nat × Jvm.ClassFile.Instr × Nat) := [(310, .aload_n 0, 1), (311, .iload_n 2, 1), (312, .iload 5, 2), (314, .iadd, 1), (315, .iload 5, 2), (317, .invokevirtual 450, 3)]
set_option maxRecDepth 20000 in
theorem k_X12_jet_310 {sc : xm_Sc} : xm_bok (xe_cy (XE sc) 239) b_X12_jet_310 := by show xm_bok cX12_jet _; unfold xm_bok; decide +kernel
def b_X12_jet_320 : List (Nat × Jvm.ClassFile.Instr × Nat) := [(320, .invokestatic 479, 3)]
set_option maxRecDepth 20000 in
theorem k_X12_jet_320 {sc : xm_Sc} : xm_bok (xe_cy (XE sc) 239) b_X12_jet_320 := by show xm_bok cX12_jet _; unfold xm_bok; decide +kernel
def b_X12_jet_323 : List (Nat × Jvm.ClassFile.Instr × Nat) := [(323, .invokevirtual 436, 3)]
set_option maxRecDepth 20000 in
theorem k_X12_jet_323 {sc : xm_Sc} : xm_bok (xe_cy (XE sc) 239) b_X12_jet_323 := by show xm_bok cX12_jet _; unfold xm_bok; decide +kernel
def b_X12_jet_326 : List (Nat × Jvm.ClassFile.Instr × Nat) := [(326, .goto 134, 3)]
set_option maxRecDepth 20000 in
theorem k_X12_jet_326 {sc : xm_Sc} : xm_bok (xe_cy (XE sc) 239) b_X12_jet_326 := by show xm_bok cX12_jet _; unfold xm_bok; decide +kernel
def b_X12_jet_329 : List (Nat × Jvm.ClassFile.Instr × Nat) := [(329, .iload 4, 2), (331, .bipush 16, 2), (333, .if_icmp .ge 45, 3)]
set_option maxRecDepth 20000 in
theorem k_X12_jet_329 {sc : xm_Sc} : xm_bok (xe_cy (XE sc) 239) b_X12_jet_329 := by show xm_bok cX12_jet _; unfold xm_bok; decide +kernel
def b_X12_jet_336 : List (Nat × Jvm.ClassFile.Instr × Nat) := [(336, .aload_n 0, 1), (337, .getfield 141, 3), (340, .iload_n 3, 1), (341, .iload 4, 2), (343, .aload_n 0, 1), (344, .iload_n 2, 1), (345, .iload 5, 2), (347, .invokevirtual 450, 3)]
set_option maxRecDepth 20000 in
theorem k_X12_jet_336 {sc : xm_Sc} : xm_bok (xe_cy (XE sc) 239) b_X12_jet_336 := by show xm_bok cX12_jet _; unfold xm_bok; decide +kernel
def b_X12_jet_350 : List (Nat × Jvm.ClassFile.Instr × Nat) := [(350, .aload_n 0, 1), (351, .iload_n 2, 1), (352, .iload 5, 2), (354, .iadd, 1), (355, .iload 5, 2), (357, .invokevirtual 450, 3)]
set_option maxRecDepth 20000 in
theorem k_X12_jet_350 {sc : xm_Sc} : xm_bok (xe_cy (XE sc) 239) b_X12_jet_350 := by show xm_bok cX12_jet _; unfold xm_bok; decide +kernel
def b_X12_jet_360 : List (Nat × Jvm.ClassFile.Instr × Nat) := [(360, .iload 5, 2), (362, .invokestatic 483, 3)]
set_option maxRecDepth 20000 in
theorem k_X12_jet_360 {sc : xm_Sc} : xm_bok (xe_cy (XE sc) 239) b_X12_jet_360 := by show xm_bok cX12_jet _; unfold xm_bok; decide +kernel
def b_X12_jet_365 : List (Nat × Jvm.ClassFile.Instr × Nat) := [(365, .ifCond .eq 7, 3)]
set_option maxRecDepth 20000 in
theorem k_X12_jet_365 {sc : xm_Sc} : xm_bok (xe_cy (XE sc) 239) b_X12_jet_365 := by show xm_bok cX12_jet _; unfold xm_bok; decide +kernel
def b_X12_jet_368 : List (Nat × Jvm.ClassFile.Instr × Nat) := [(368, .iconst 1, 1), (369, .goto 4, 3)]
set_option maxRecDepth 20000 in
theorem k_X12_jet_368 {sc : xm_Sc} : xm_bok (xe_cy (XE sc) 239) b_X12_jet_368 := by show xm_bok cX12_jet _; unfold xm_bok; decide +kernel
def b_X12_jet_372 : List (Nat × Jvm.ClassFile.Instr × Nat) := [(372, .iconst 0, 1)]
set_option maxRecDepth 20000 in
theorem k_X12_jet_372 {sc : xm_Sc} : xm_bok (xe_cy (XE sc) 239) b_X12_jet_372 := by show xm_bok cX12_jet _; unfold xm_bok; decide +kernel
def b_X12_jet_373 : List (Nat × Jvm.ClassFile.Instr × Nat) := [(373, .i2b, 1), (374, .bastore, 1), (375, .goto 85, 3)]
set_option maxRecDepth 20000 in
theorem k_X12_jet_373 {sc : xm_Sc} : xm_bok (xe_cy (XE sc) 239) b_X12_jet_373 := by show xm_bok cX12_jet _; unfold xm_bok; decide +kernel
def b_X12_jet_378 : List (Nat × Jvm.ClassFile.Instr × Nat) := [(378, .iload 4, 2), (380, .bipush 18, 2), (382, .if_icmp .eq 15, 3)]
set_option maxRecDepth 20000 in
theorem k_X12_jet_378 {sc : xm_Sc} : xm_bok (xe_cy (XE sc) 239) b_X12_jet_378 := by show xm_bok cX12_jet _; unfold xm_bok; decide +kernel
def b_X12_jet_385 : List (Nat × Jvm.ClassFile.Instr × Nat) := [(385, .iload 4, 2), (387, .bipush 27, 2), (389, .bipush 29, 2), (391, .invokestatic 211, 3)]
set_option maxRecDepth 20000 in
theorem k_X12_jet_385 {sc : xm_Sc} : xm_bok (xe_cy (XE sc) 239) b_X12_jet_385 := by show xm_bok cX12_jet _; unfold xm_bok; decide +kernel
def b_X12_jet_394 : List (Nat × Jvm.ClassFile.Instr × Nat) := [(394, .ifCond .eq 16, 3)]
set_option maxRecDepth 20000 in
theorem k_X12_jet_394 {sc : xm_Sc} : xm_bok (xe_cy (XE sc) 239) b_X12_jet_394 := by show xm_bok cX12_jet _; unfold xm_bok; decide +kernel
def b_X12_jet_397 : List (Nat × Jvm.ClassFile.Instr × Nat) := [(397, .aload_n 0, 1), (398, .iload 4, 2), (400, .iload_n 2, 1), (401, .iload_n 3, 1), (402, .iload 5, 2), (404, .invokevirtual 487, 3)]
set_option maxRecDepth 20000 in
theorem k_X12_jet_397 {sc : xm_Sc} : xm_bok (xe_cy (XE sc) 239) b_X12_jet_397 := by show xm_bok cX12_jet _; unfold xm_bok; decide +kernel
def b_X12_jet_407 : List (Nat × Jvm.ClassFile.Instr × Nat) := [(407, .goto 53, 3)]
set_option maxRecDepth 20000 in
theorem k_X12_jet_407 {sc : xm_Sc} : xm_bok (xe_cy (XE sc) 239) b_X12_jet_407 := by show xm_bok cX12_jet _; unfold xm_bok; decide +kernel
def b_X12_jet_410 : List (Nat × Jvm.ClassFile.Instr × Nat) := [(410, .iload 4, 2), (412, .bipush 23, 2), (414, .if_icmp .ge 36, 3)]
set_option maxRecDepth 20000 in
theorem k_X12_jet_410 {sc : xm_Sc} : xm_bok (xe_cy (XE sc) 239) b_X12_jet_410 := by show xm_bok cX12_jet _; unfold xm_bok; decide +kernel
def b_X12_jet_417 : List (Nat × Jvm.ClassFile.Instr × Nat) := [(417, .aload_n 0, 1), (418, .getfield 141, 3), (421, .iload_n 3, 1), (422, .iload 4, 2), (424, .aload_n 0, 1), (425, .iload_n 2, 1), (426, .iload 5, 2), (428, .invokevirtual 450, 3)]
set_option maxRecDepth 20000 in
theorem k_X12_jet_417 {sc : xm_Sc} : xm_bok (xe_cy (XE sc) 239) b_X12_jet_417 := by show xm_bok cX12_jet _; unfold xm_bok; decide +kernel
def b_X12_jet_431 : List (Nat × Jvm.ClassFile.Instr × Nat) := [(431, .lconst 0, 1), (432, .iload 5, 2), (434, .invokestatic 483, 3)]
set_option maxRecDepth 20000 in
theorem k_X12_jet_431 {sc : xm_Sc} : xm_bok (xe_cy (XE sc) 239) b_X12_jet_431 := by show xm_bok cX12_jet _; unfold xm_bok; decide +kernel
def b_X12_jet_437 : List (Nat × Jvm.ClassFile.Instr × Nat) := [(437, .ifCond .eq 7, 3)]
set_option maxRecDepth 20000 in
theorem k_X12_jet_437 {sc : xm_Sc} : xm_bok (xe_cy (XE sc) 239) b_X12_jet_437 := by show xm_bok cX12_jet _; unfold xm_bok; decide +kernel
def b_X12_jet_440 : List (Nat × Jvm.ClassFile.Instr × Nat) := [(440, .iconst 1, 1), (441, .goto 4, 3)]
set_option maxRecDepth 20000 in
theorem k_X12_jet_440 {sc : xm_Sc} : xm_bok (xe_cy (XE sc) 239) b_X12_jet_440 := by show xm_bok cX12_jet _; unfold xm_bok; decide +kernel
def b_X12_jet_444 : List (Nat × Jvm.ClassFile.Instr × Nat) := [(444, .iconst 0, 1)]
set_option maxRecDepth 20000 in
theorem k_X12_jet_444 {sc : xm_Sc} : xm_bok (xe_cy (XE sc) 239) b_X12_jet_444 := by show xm_bok cX12_jet _; unfold xm_bok; decide +kernel
def b_X12_jet_445 : List (Nat × Jvm.ClassFile.Instr × Nat) := [(445, .i2b, 1), (446, .bastore, 1), (447, .goto 13, 3)]
set_option maxRecDepth 20000 in
theorem k_X12_jet_445 {sc : xm_Sc} : xm_bok (xe_cy (XE sc) 239) b_X12_jet_445 := by show xm_bok cX12_jet _; unfold xm_bok; decide +kernel
def b_X12_jet_450 : List (Nat × Jvm.ClassFile.Instr × Nat) := [(450, .aload_n 0, 1), (451, .iload 4, 2), (453, .iload_n 2, 1), (454, .iload_n 3, 1), (455, .iload 5, 2), (457, .invokevirtual 491, 3)]
set_option maxRecDepth 20000 in
theorem k_X12_jet_450 {sc : xm_Sc} : xm_bok (xe_cy (XE sc) 239) b_X12_jet_450 := by show xm_bok cX12_jet _; unfold xm_bok; decide +kernel
def b_X12_jet_460 : List (Nat × Jvm.ClassFile.Instr × Nat) := [(460, .return_, 1)]
set_option maxRecDepth 20000 in
theorem k_X12_jet_460 {sc : xm_Sc} : xm_bok (xe_cy (XE sc) 239) b_X12_jet_460 := by show xm_bok cX12_jet _; unfold xm_bok; decide +kernel
set_option maxRecDepth 20000 in
theorem cn_239 {sc : xm_Sc} : xe_cn (XE sc) 239 = 12 := rfl
set_option maxRecDepth 20000 in
theorem ml_239 {sc : xm_Sc} : xe_ml (XE sc) 239 = 7 := rfl
set_option maxRecDepth 20000 in
theorem ry_239 {sc : xm_Sc} : xe_ry (XE sc) 239 = none := rfl
set_option maxRecDepth 20000 in
theorem is_239 {sc : xm_Sc} : xe_is (XE sc) 239 = false := rfl
set_option maxRecDepth 20000 in
theorem np_239 {sc : xm_Sc} : xe_np (XE sc) 239 = 3 := rfl
/- method 240: X12_jetNumber -/
def b_X12_jetNumber_0 : List (Nat × Jvm.ClassFile.Instr × Nat) := [(0, .aload_n 0, 1), (1, .getfield 601, 3), (4, .iconst 4, 1), (5, .if_icmp .ne 16, 3)]
set_option maxRecDepth 20000 in
theorem k_X12_jetNumber_0 {sc : xm_Sc} : xm_bok (xe_cy (XE sc) 240) b_X12_jetNumber_0 := by show xm_bok cX12_jetNumber _; unfold xm_bok; decide +kernel
def b_X12_jetNumber_8 : List (Nat × Jvm.ClassFile.Instr × Nat) := [(8, .aload_n 0, 1), (9, .getfield 595, 3), (12, .aload_n 0, 1), (13, .getfield 598, 3), (16, .isub, 1), (17, .iconst 3, 1), (18, .if_icmp .le 5, 3)]
set_option maxRecDepth 20000 in
theorem k_X12_jetNumber_8 {sc : xm_Sc} : xm_bok (xe_cy (XE sc) 240) b_X12_jetNumber_8 := by show xm_bok cX12_jetNumber _; unfold xm_bok; decide +kernel
def b_X12_jetNumber_21 : List (Nat × Jvm.ClassFile.Instr × Nat) := [(21, .iconst (-1), 1), (22, .ireturn, 1)]
set_option maxRecDepth 20000 in
theorem k_X12_jetNumber_21 {sc : xm_Sc} : xm_bok (xe_cy (XE sc) 240) b_X12_jetNumber_21 := by show xm_bok cX12_jetNumber _; unfold xm_bok; decide +kernel
def b_X12_jetNumber_23 : List (Nat × Jvm.ClassFile.Instr × Nat) := [(23, .iconst 0, 1), (24, .istore_n 1, 1), (25, .aload_n 0, 1), (26, .getfield 598, 3), (29, .istore_n 2, 1)]
set_option maxRecDepth 20000 in
theorem k_X12_jetNumber_23 {sc : xm_Sc} : xm_bok (xe_cy (XE sc) 240) b_X12_jetNumber_23 := by show xm_bok cX12_jetNumber _; unfold xm_bok; decide +kernel
def b_X12_jetNumber_30 : List (Nat × Jvm.ClassFile.Instr × Nat) := [(30, .iload_n 2, 1), (31, .aload_n 0, 1), (32, .getfield 595, 3), (35, .if_icmp .ge 42, 3)]
set_option maxRecDepth 20000 in
theorem k_X12_jetNumber_30 {sc : xm_Sc} : xm_bok (xe_cy (XE sc) 240) b_X12_jetNumber_30 := by show xm_bok cX12_jetNumber _; unfold xm_bok; decide +kernel
def b_X12_jetNumber_38 : List (Nat × Jvm.ClassFile.Instr × Nat) := [(38, .aload_n 0, 1), (39, .getfield 7, 3), (42, .iload_n 2, 1), (43, .iaload, 1), (44, .bipush 48, 2), (46, .bipush 57, 2), (48, .invokestatic 211, 3)]
set_option maxRecDepth 20000 in
theorem k_X12_jetNumber_38 {sc : xm_Sc} : xm_bok (xe_cy (XE sc) 240) b_X12_jetNumber_38 := by show xm_bok cX12_jetNumber _; unfold xm_bok; decide +kernel
def b_X12_jetNumber_51 : List (Nat × Jvm.ClassFile.Instr × Nat) := [(51, .ifCond .ne 5, 3)]
set_option maxRecDepth 20000 in
theorem k_X12_jetNumber_51 {sc : xm_Sc} : xm_bok (xe_cy (XE sc) 240) b_X12_jetNumber_51 := by show xm_bok cX12_jetNumber _; unfold xm_bok; decide +kernel
def b_X12_jetNumber_54 : List (Nat × Jvm.ClassFile.Instr × Nat) := [(54, .iconst (-1), 1), (55, .ireturn, 1)]
set_option maxRecDepth 20000 in
theorem k_X12_jetNumber_54 {sc : xm_Sc} : xm_bok (xe_cy (XE sc) 240) b_X12_jetNumber_54 := by show xm_bok cX12_jetNumber _; unfold xm_bok; decide +kernel
def b_X12_jetNumber_56 : List (Nat × Jvm.ClassFile.Instr × Nat) := [(56, .bipush 10, 2), (58, .iload_n 1, 1), (59, .imul, 1), (60, .aload_n 0, 1), (61, .getfield 7, 3), (64, .iload_n 2, 1), (65, .iaload, 1), (66, .iadd, 1), (67, .bipush 48, 2), (69, .isub, 1), (70, .istore_n 1, 1), (71, .iinc 2 1, 3), (74, .goto (-44), 3)]
set_option maxRecDepth 20000 in
theorem k_X12_jetNumber_56 {sc : xm_Sc} : xm_bok (xe_cy (XE sc) 240) b_X12_jetNumber_56 := by show xm_bok cX12_jetNumber _; unfold xm_bok; decide +kernel
def b_X12_jetNumber_77 : List (Nat × Jvm.ClassFile.Instr × Nat) := [(77, .iload_n 1, 1), (78, .sipush 167, 3), (81, .if_icmp .le 7, 3)]
set_option maxRecDepth 20000 in
theorem k_X12_jetNumber_77 {sc : xm_Sc} : xm_bok (xe_cy (XE sc) 240) b_X12_jetNumber_77 := by show xm_bok cX12_jetNumber _; unfold xm_bok; decide +kernel
def b_X12_jetNumber_84 : List (Nat × Jvm.ClassFile.Instr × Nat) := [(84, .iconst (-1), 1), (85, .goto 4, 3)]
set_option maxRecDepth 20000 in
theorem k_X12_jetNumber_84 {sc : xm_Sc} : xm_bok (xe_cy (XE sc) 240) b_X12_jetNumber_84 := by show xm_bok cX12_jetNumber _; unfold xm_bok; decide +kernel
def b_X12_jetNumber_88 : List (Nat × Jvm.ClassFile.Instr × Nat) := [(88, .iload_n 1, 1)]
set_option maxRecDepth 20000 in
theorem k_X12_jetNumber_88 {sc : xm_Sc} : xm_bok (xe_cy (XE sc) 240) b_X12_jetNumber_88 := by show xm_bok cX12_jetNumber _; unfold xm_bok; decide +kernel
def b_X12_jetNumber_89 : List (Nat × Jvm.ClassFile.Instr × Nat) := [(89, .ireturn, 1)]
set_option maxRecDepth 20000 in
theorem k_X12_jetNumber_89 {sc : xm_Sc} : xm_bok (xe_cy (XE sc) 240) b_X12_jetNumber_89 := by show xm_bok cX12_jetNumber _; unfold xm_bok; decide +kernel
set_option maxRecDepth 20000 in
theorem cn_240 {sc : xm_Sc} : xe_cn (XE sc) 240 = 12 := rfl
set_option maxRecDepth 20000 in
theorem ml_240 {sc : xm_Sc} : xe_ml (XE sc) 240 = 3 := rfl
set_option maxRecDepth 20000 in
theorem ry_240 {sc : xm_Sc} : xe_ry (XE sc) 240 = (some .int) := rfl
set_option maxRecDepth 20000 in
theorem is_240 {sc : xm_Sc} : xe_is (XE sc) 240 = false := rfl
set_option maxRecDepth 20000 in
theorem np_240 {sc : xm_Sc} : xe_np (XE sc) 240 = 0 := rfl
/- method 241: X12_jetTypes -/
def b_X12_jetTypes_0 : List (Nat × Jvm.ClassFile.Instr × Nat) := [(0, .aload_n 0, 1), (1, .getfield 25, 3), (4, .iload_n 1, 1), (5, .iaload, 1), (6, .iconst 4, 1), (7, .idiv, 1), (8, .istore_n 2, 1), (9, .iconst 3, 1), (10, .aload_n 0, 1), (11, .getfield 25, 3), (14, .iload_n 1, 1), (15, .iaload, 1), (16, .iconst 4, 1), (17, .irem, 1), (18, .iadd, 1), (19, .istore_n 3, 1), (20, .aload_n 0, 1), (21, .getfield 137, 3), (24, .iload_n 3, 1), (25, .iaload, 1), (26, .istore 4, 2), (28, .aload_n 0, 1), (29, .getfield 137, 3), (32, .iload_n 3, 1), (33, .iconst 1, 1), (34, .iadd, 1), (35, .iaload, 1), (36, .istore 5, 2), (38, .iload 4, 2), (40, .istore 6, 2), (42, .iload 4, 2), (44, .istore 7, 2), (46, .iload_n 2, 1), (47, .iconst 4, 1), (48, .if_icmp .ge 33, 3)]
set_option maxRecDepth 20000 in
theorem k_X12_jetTypes_0 {sc : xm_Sc} : xm_bok (xe_cy (XE sc) 241) b_X12_jetTypes_0 := by show xm_bok cX12_jetTypes _; unfold xm_bok; decide +kernel
def b_X12_jetTypes_51 : List (Nat × Jvm.ClassFile.Instr × Nat) := [(51, .iload_n 2, 1), (52, .iconst 2, 1), (53, .irem, 1), (54, .ifCond .ne 8, 3)]
set_option maxRecDepth 20000 in
theorem k_X12_jetTypes_51 {sc : xm_Sc} : xm_bok (xe_cy (XE sc) 241) b_X12_jetTypes_51 := by show xm_bok cX12_jetTypes _; unfold xm_bok; decide +kernel
def b_X12_jetTypes_57 : List (Nat × Jvm.ClassFile.Instr × Nat) := [(57, .iload 5, 2), (59, .goto 9, 3)]
set_option maxRecDepth 20000 in
theorem k_X12_jetTypes_57 {sc : xm_Sc} : xm_bok (xe_cy (XE sc) 241) b_X12_jetTypes_57 := by show xm_bok cX12_jetTypes _; unfold xm_bok; decide +kernel
def b_X12_jetTypes_62 : List (Nat × Jvm.ClassFile.Instr × Nat) := [(62, .aload_n 0, 1), (63, .iload 5, 2), (65, .invokevirtual 243, 3)]
set_option maxRecDepth 20000 in
theorem k_X12_jetTypes_62 {sc : xm_Sc} : xm_bok (xe_cy (XE sc) 241) b_X12_jetTypes_62 := by show xm_bok cX12_jetTypes _; unfold xm_bok; decide +kernel
def b_X12_jetTypes_68 : List (Nat × Jvm.ClassFile.Instr × Nat) := [(68, .istore 6, 2), (70, .aload_n 0, 1), (71, .iload 4, 2), (73, .invokevirtual 243, 3)]
set_option maxRecDepth 20000 in
theorem k_X12_jetTypes_68 {sc : xm_Sc} : xm_bok (xe_cy (XE sc) 241) b_X12_jetTypes_68 := by show xm_bok cX12_jetTypes _; unfold xm_bok; decide +kernel
def b_X12_jetTypes_76 : List (Nat × Jvm.ClassFile.Instr × Nat) := [(76, .istore 7, 2), (78, .goto 270, 3)]
set_option maxRecDepth 20000 in
theorem k_X12_jetTypes_76 {sc : xm_Sc} : xm_bok (xe_cy (XE sc) 241) b_X12_jetTypes_76 := by show xm_bok cX12_jetTypes _; unfold xm_bok; decide +kernel
def b_X12_jetTypes_81 : List (Nat × Jvm.ClassFile.Instr × Nat) := [(81, .iload_n 2, 1), (82, .bipush 7, 2), (84, .if_icmp .ge 14, 3)]
set_option maxRecDepth 20000 in
theorem k_X12_jetTypes_81 {sc : xm_Sc} : xm_bok (xe_cy (XE sc) 241) b_X12_jetTypes_81 := by show xm_bok cX12_jetTypes _; unfold xm_bok; decide +kernel
def b_X12_jetTypes_87 : List (Nat × Jvm.ClassFile.Instr × Nat) := [(87, .aload_n 0, 1), (88, .iload 4, 2), (90, .invokevirtual 243, 3)]
set_option maxRecDepth 20000 in
theorem k_X12_jetTypes_87 {sc : xm_Sc} : xm_bok (xe_cy (XE sc) 241) b_X12_jetTypes_87 := by show xm_bok cX12_jetTypes _; unfold xm_bok; decide +kernel
def b_X12_jetTypes_93 : List (Nat × Jvm.ClassFile.Instr × Nat) := [(93, .istore 7, 2), (95, .goto 253, 3)]
set_option maxRecDepth 20000 in
theorem k_X12_jetTypes_93 {sc : xm_Sc} : xm_bok (xe_cy (XE sc) 241) b_X12_jetTypes_93 := by show xm_bok cX12_jetTypes _; unfold xm_bok; decide +kernel
def b_X12_jetTypes_98 : List (Nat × Jvm.ClassFile.Instr × Nat) := [(98, .iload_n 2, 1), (99, .bipush 9, 2), (101, .if_icmp .ge 31, 3)]
set_option maxRecDepth 20000 in
theorem k_X12_jetTypes_98 {sc : xm_Sc} : xm_bok (xe_cy (XE sc) 241) b_X12_jetTypes_98 := by show xm_bok cX12_jetTypes _; unfold xm_bok; decide +kernel
def b_X12_jetTypes_104 : List (Nat × Jvm.ClassFile.Instr × Nat) := [(104, .iload_n 2, 1), (105, .bipush 7, 2), (107, .if_icmp .ne 8, 3)]
set_option maxRecDepth 20000 in
theorem k_X12_jetTypes_104 {sc : xm_Sc} : xm_bok (xe_cy (XE sc) 241) b_X12_jetTypes_104 := by show xm_bok cX12_jetTypes _; unfold xm_bok; decide +kernel
def b_X12_jetTypes_110 : List (Nat × Jvm.ClassFile.Instr × Nat) := [(110, .iload 5, 2), (112, .goto 11, 3)]
set_option maxRecDepth 20000 in
theorem k_X12_jetTypes_110 {sc : xm_Sc} : xm_bok (xe_cy (XE sc) 241) b_X12_jetTypes_110 := by show xm_bok cX12_jetTypes _; unfold xm_bok; decide +kernel
def b_X12_jetTypes_115 : List (Nat × Jvm.ClassFile.Instr × Nat) := [(115, .aload_n 0, 1), (116, .getfield 137, 3), (119, .iload_n 3, 1), (120, .iconst 2, 1), (121, .iadd, 1), (122, .iaload, 1)]
set_option maxRecDepth 20000 in
theorem k_X12_jetTypes_115 {sc : xm_Sc} : xm_bok (xe_cy (XE sc) 241) b_X12_jetTypes_115 := by show xm_bok cX12_jetTypes _; unfold xm_bok; decide +kernel
def b_X12_jetTypes_123 : List (Nat × Jvm.ClassFile.Instr × Nat) := [(123, .istore 6, 2), (125, .iload 5, 2), (127, .istore 7, 2), (129, .goto 219, 3)]
set_option maxRecDepth 20000 in
theorem k_X12_jetTypes_123 {sc : xm_Sc} : xm_bok (xe_cy (XE sc) 241) b_X12_jetTypes_123 := by show xm_bok cX12_jetTypes _; unfold xm_bok; decide +kernel
def b_X12_jetTypes_132 : List (Nat × Jvm.ClassFile.Instr × Nat) := [(132, .iload_n 2, 1), (133, .bipush 11, 2), (135, .if_icmp .lt 26, 3)]
set_option maxRecDepth 20000 in
theorem k_X12_jetTypes_132 {sc : xm_Sc} : xm_bok (xe_cy (XE sc) 241) b_X12_jetTypes_132 := by show xm_bok cX12_jetTypes _; unfold xm_bok; decide +kernel
def b_X12_jetTypes_138 : List (Nat × Jvm.ClassFile.Instr × Nat) := [(138, .iload_n 2, 1), (139, .bipush 16, 2), (141, .if_icmp .eq 20, 3)]
set_option maxRecDepth 20000 in
theorem k_X12_jetTypes_138 {sc : xm_Sc} : xm_bok (xe_cy (XE sc) 241) b_X12_jetTypes_138 := by show xm_bok cX12_jetTypes _; unfold xm_bok; decide +kernel
def b_X12_jetTypes_144 : List (Nat × Jvm.ClassFile.Instr × Nat) := [(144, .iload_n 2, 1), (145, .bipush 17, 2), (147, .if_icmp .eq 14, 3)]
set_option maxRecDepth 20000 in
theorem k_X12_jetTypes_144 {sc : xm_Sc} : xm_bok (xe_cy (XE sc) 241) b_X12_jetTypes_144 := by show xm_bok cX12_jetTypes _; unfold xm_bok; decide +kernel
def b_X12_jetTypes_150 : List (Nat × Jvm.ClassFile.Instr × Nat) := [(150, .iload_n 2, 1), (151, .bipush 24, 2), (153, .bipush 26, 2), (155, .invokestatic 211, 3)]
set_option maxRecDepth 20000 in
theorem k_X12_jetTypes_150 {sc : xm_Sc} : xm_bok (xe_cy (XE sc) 241) b_X12_jetTypes_150 := by show xm_bok cX12_jetTypes _; unfold xm_bok; decide +kernel
def b_X12_jetTypes_158 : List (Nat × Jvm.ClassFile.Instr × Nat) := [(158, .ifCond .eq 10, 3)]
set_option maxRecDepth 20000 in
theorem k_X12_jetTypes_158 {sc : xm_Sc} : xm_bok (xe_cy (XE sc) 241) b_X12_jetTypes_158 := by show xm_bok cX12_jetTypes _; unfold xm_bok; decide +kernel
def b_X12_jetTypes_161 : List (Nat × Jvm.ClassFile.Instr × Nat) := [(161, .iload 5, 2), (163, .istore 6, 2), (165, .goto 183, 3)]
set_option maxRecDepth 20000 in
theorem k_X12_jetTypes_161 {sc : xm_Sc} : xm_bok (xe_cy (XE sc) 241) b_X12_jetTypes_161 := by show xm_bok cX12_jetTypes _; unfold xm_bok; decide +kernel
def b_X12_jetTypes_168 : List (Nat × Jvm.ClassFile.Instr × Nat) := [(168, .iload_n 2, 1), (169, .bipush 16, 2), (171, .if_icmp .ge 18, 3)]
set_option maxRecDepth 20000 in
theorem k_X12_jetTypes_168 {sc : xm_Sc} : xm_bok (xe_cy (XE sc) 241) b_X12_jetTypes_168 := by show xm_bok cX12_jetTypes _; unfold xm_bok; decide +kernel
def b_X12_jetTypes_174 : List (Nat × Jvm.ClassFile.Instr × Nat) := [(174, .iload 5, 2), (176, .istore 6, 2), (178, .aload_n 0, 1), (179, .getfield 137, 3), (182, .iconst 0, 1), (183, .iaload, 1), (184, .istore 7, 2), (186, .goto 162, 3)]
set_option maxRecDepth 20000 in
theorem k_X12_jetTypes_174 {sc : xm_Sc} : xm_bok (xe_cy (XE sc) 241) b_X12_jetTypes_174 := by show xm_bok cX12_jetTypes _; unfold xm_bok; decide +kernel
def b_X12_jetTypes_189 : List (Nat × Jvm.ClassFile.Instr × Nat) := [(189, .iload_n 2, 1), (190, .bipush 18, 2), (192, .if_icmp .eq 14, 3)]
set_option maxRecDepth 20000 in
theorem k_X12_jetTypes_189 {sc : xm_Sc} : xm_bok (xe_cy (XE sc) 241) b_X12_jetTypes_189 := by show xm_bok cX12_jetTypes _; unfold xm_bok; decide +kernel
def b_X12_jetTypes_195 : List (Nat × Jvm.ClassFile.Instr × Nat) := [(195, .iload_n 2, 1), (196, .bipush 27, 2), (198, .bipush 29, 2), (200, .invokestatic 211, 3)]
set_option maxRecDepth 20000 in
theorem k_X12_jetTypes_195 {sc : xm_Sc} : xm_bok (xe_cy (XE sc) 241) b_X12_jetTypes_195 := by show xm_bok cX12_jetTypes _; unfold xm_bok; decide +kernel
def b_X12_jetTypes_203 : List (Nat × Jvm.ClassFile.Instr × Nat) := [(203, .ifCond .eq 17, 3)]
set_option maxRecDepth 20000 in
theorem k_X12_jetTypes_203 {sc : xm_Sc} : xm_bok (xe_cy (XE sc) 241) b_X12_jetTypes_203 := by show xm_bok cX12_jetTypes _; unfold xm_bok; decide +kernel
def b_X12_jetTypes_206 : List (Nat × Jvm.ClassFile.Instr × Nat) := [(206, .aload_n 0, 1), (207, .iconst 3, 1), (208, .iload 4, 2), (210, .iload 5, 2), (212, .invokevirtual 236, 3)]
set_option maxRecDepth 20000 in
theorem k_X12_jetTypes_206 {sc : xm_Sc} : xm_bok (xe_cy (XE sc) 241) b_X12_jetTypes_206 := by show xm_bok cX12_jetTypes _; unfold xm_bok; decide +kernel
def b_X12_jetTypes_215 : List (Nat × Jvm.ClassFile.Instr × Nat) := [(215, .istore 6, 2), (217, .goto 131, 3)]
set_option maxRecDepth 20000 in
theorem k_X12_jetTypes_215 {sc : xm_Sc} : xm_bok (xe_cy (XE sc) 241) b_X12_jetTypes_215 := by show xm_bok cX12_jetTypes _; unfold xm_bok; decide +kernel
def b_X12_jetTypes_220 : List (Nat × Jvm.ClassFile.Instr × Nat) := [(220, .iload_n 2, 1), (221, .bipush 23, 2), (223, .if_icmp .ge 14, 3)]
set_option maxRecDepth 20000 in
theorem k_X12_jetTypes_220 {sc : xm_Sc} : xm_bok (xe_cy (XE sc) 241) b_X12_jetTypes_220 := by show xm_bok cX12_jetTypes _; unfold xm_bok; decide +kernel
def b_X12_jetTypes_226 : List (Nat × Jvm.ClassFile.Instr × Nat) := [(226, .aload_n 0, 1), (227, .getfield 137, 3), (230, .iconst 0, 1), (231, .iaload, 1), (232, .istore 7, 2), (234, .goto 114, 3)]
set_option maxRecDepth 20000 in
theorem k_X12_jetTypes_226 {sc : xm_Sc} : xm_bok (xe_cy (XE sc) 241) b_X12_jetTypes_226 := by show xm_bok cX12_jetTypes _; unfold xm_bok; decide +kernel
def b_X12_jetTypes_237 : List (Nat × Jvm.ClassFile.Instr × Nat) := [(237, .iload_n 2, 1), (238, .bipush 30, 2), (240, .if_icmp .eq 9, 3)]
set_option maxRecDepth 20000 in
theorem k_X12_jetTypes_237 {sc : xm_Sc} : xm_bok (xe_cy (XE sc) 241) b_X12_jetTypes_237 := by show xm_bok cX12_jetTypes _; unfold xm_bok; decide +kernel
def b_X12_jetTypes_243 : List (Nat × Jvm.ClassFile.Instr × Nat) := [(243, .iload_n 2, 1), (244, .bipush 31, 2), (246, .if_icmp .ne 9, 3)]
set_option maxRecDepth 20000 in
theorem k_X12_jetTypes_243 {sc : xm_Sc} : xm_bok (xe_cy (XE sc) 241) b_X12_jetTypes_243 := by show xm_bok cX12_jetTypes _; unfold xm_bok; decide +kernel
def b_X12_jetTypes_249 : List (Nat × Jvm.ClassFile.Instr × Nat) := [(249, .iconst 0, 1), (250, .istore 6, 2), (252, .goto 96, 3)]
set_option maxRecDepth 20000 in
theorem k_X12_jetTypes_249 {sc : xm_Sc} : xm_bok (xe_cy (XE sc) 241) b_X12_jetTypes_249 := by show xm_bok cX12_jetTypes _; unfold xm_bok; decide +kernel
def b_X12_jetTypes_255 : List (Nat × Jvm.ClassFile.Instr × Nat) := [(255, .iload_n 2, 1), (256, .bipush 32, 2), (258, .bipush 35, 2), (260, .invokestatic 211, 3)]
set_option maxRecDepth 20000 in
theorem k_X12_jetTypes_255 {sc : xm_Sc} : xm_bok (xe_cy (XE sc) 241) b_X12_jetTypes_255 := by show xm_bok cX12_jetTypes _; unfold xm_bok; decide +kernel
def b_X12_jetTypes_263 : List (Nat × Jvm.ClassFile.Instr × Nat) := [(263, .ifCond .eq 21, 3)]
set_option maxRecDepth 20000 in
theorem k_X12_jetTypes_263 {sc : xm_Sc} : xm_bok (xe_cy (XE sc) 241) b_X12_jetTypes_263 := by show xm_bok cX12_jetTypes _; unfold xm_bok; decide +kernel
def b_X12_jetTypes_266 : List (Nat × Jvm.ClassFile.Instr × Nat) := [(266, .aload_n 0, 1), (267, .iconst 3, 1), (268, .aload_n 0, 1), (269, .getfield 137, 3), (272, .iconst 3, 1), (273, .iaload, 1), (274, .iload 4, 2), (276, .invokevirtual 236, 3)]
set_option maxRecDepth 20000 in
theorem k_X12_jetTypes_266 {sc : xm_Sc} : xm_bok (xe_cy (XE sc) 241) b_X12_jetTypes_266 := by show xm_bok cX12_jetTypes _; unfold xm_bok; decide +kernel
def b_X12_jetTypes_279 : List (Nat × Jvm.ClassFile.Instr × Nat) := [(279, .istore 6, 2), (281, .goto 67, 3)]
set_option maxRecDepth 20000 in
theorem k_X12_jetTypes_279 {sc : xm_Sc} : xm_bok (xe_cy (XE sc) 241) b_X12_jetTypes_279 := by show xm_bok cX12_jetTypes _; unfold xm_bok; decide +kernel
def b_X12_jetTypes_284 : List (Nat × Jvm.ClassFile.Instr × Nat) := [(284, .iload_n 2, 1), (285, .bipush 36, 2), (287, .if_icmp .eq 9, 3)]
set_option maxRecDepth 20000 in
theorem k_X12_jetTypes_284 {sc : xm_Sc} : xm_bok (xe_cy (XE sc) 241) b_X12_jetTypes_284 := by show xm_bok cX12_jetTypes _; unfold xm_bok; decide +kernel
def b_X12_jetTypes_290 : List (Nat × Jvm.ClassFile.Instr × Nat) := [(290, .iload_n 2, 1), (291, .bipush 37, 2), (293, .if_icmp .ne 14, 3)]
set_option maxRecDepth 20000 in
theorem k_X12_jetTypes_290 {sc : xm_Sc} : xm_bok (xe_cy (XE sc) 241) b_X12_jetTypes_290 := by show xm_bok cX12_jetTypes _; unfold xm_bok; decide +kernel
def b_X12_jetTypes_296 : List (Nat × Jvm.ClassFile.Instr × Nat) := [(296, .aload_n 0, 1), (297, .getfield 137, 3), (300, .iconst 3, 1), (301, .iaload, 1), (302, .istore 7, 2), (304, .goto 44, 3)]
set_option maxRecDepth 20000 in
theorem k_X12_jetTypes_296 {sc : xm_Sc} : xm_bok (xe_cy (XE sc) 241) b_X12_jetTypes_296 := by show xm_bok cX12_jetTypes _; unfold xm_bok; decide +kernel
def b_X12_jetTypes_307 : List (Nat × Jvm.ClassFile.Instr × Nat) := [(307, .iload_n 2, 1), (308, .bipush 38, 2), (310, .if_icmp .eq 9, 3)]
set_option maxRecDepth 20000 in
theorem k_X12_jetTypes_307 {sc : xm_Sc} : xm_bok (xe_cy (XE sc) 241) b_X12_jetTypes_307 := by show xm_bok cX12_jetTypes _; unfold xm_bok; decide +kernel
def b_X12_jetTypes_313 : List (Nat × Jvm.ClassFile.Instr × Nat) := [(313, .iload_n 2, 1), (314, .bipush 39, 2), (316, .if_icmp .ne 16, 3)]
set_option maxRecDepth 20000 in
theorem k_X12_jetTypes_313 {sc : xm_Sc} : xm_bok (xe_cy (XE sc) 241) b_X12_jetTypes_313 := by show xm_bok cX12_jetTypes _; unfold xm_bok; decide +kernel
def b_X12_jetTypes_319 : List (Nat × Jvm.ClassFile.Instr × Nat) := [(319, .aload_n 0, 1), (320, .getfield 137, 3), (323, .iload_n 3, 1), (324, .iconst 1, 1), (325, .isub, 1), (326, .iaload, 1), (327, .istore 7, 2), (329, .goto 19, 3)]
set_option maxRecDepth 20000 in
theorem k_X12_jetTypes_319 {sc : xm_Sc} : xm_bok (xe_cy (XE sc) 241) b_X12_jetTypes_319 := by show xm_bok cX12_jetTypes _; unfold xm_bok; decide +kernel
def b_X12_jetTypes_332 : List (Nat × Jvm.ClassFile.Instr × Nat) := [(332, .iload_n 2, 1), (333, .bipush 39, 2), (335, .if_icmp .le 13, 3)]
set_option maxRecDepth 20000 in
theorem k_X12_jetTypes_332 {sc : xm_Sc} : xm_bok (xe_cy (XE sc) 241) b_X12_jetTypes_332 := by show xm_bok cX12_jetTypes _; unfold xm_bok; decide +kernel
def b_X12_jetTypes_338 : List (Nat × Jvm.ClassFile.Instr × Nat) := [(338, .aload_n 0, 1), (339, .getfield 137, 3), (342, .iload_n 3, 1), (343, .iconst 1, 1), (344, .isub, 1), (345, .iaload, 1), (346, .istore 6, 2)]
set_option maxRecDepth 20000 in
theorem k_X12_jetTypes_338 {sc : xm_Sc} : xm_bok (xe_cy (XE sc) 241) b_X12_jetTypes_338 := by show xm_bok cX12_jetTypes _; unfold xm_bok; decide +kernel
def b_X12_jetTypes_348 : List (Nat × Jvm.ClassFile.Instr × Nat) := [(348, .aload_n 0, 1), (349, .getfield 34, 3), (352, .iload_n 1, 1), (353, .iload 6, 2), (355, .iastore, 1), (356, .aload_n 0, 1), (357, .getfield 37, 3), (360, .iload_n 1, 1), (361, .iload 7, 2), (363, .iastore, 1), (364, .return_, 1)]
set_option maxRecDepth 20000 in
theorem k_X12_jetTypes_348 {sc : xm_Sc} : xm_bok (xe_cy (XE sc) 241) b_X12_jetTypes_348 := by show xm_bok cX12_jetTypes _; unfold xm_bok; decide +kernel
set_option maxRecDepth 20000 in
theorem cn_241 {sc : xm_Sc} : xe_cn (XE sc) 241 = 12 := rfl
set_option maxRecDepth 20000 in
theorem ml_241 {sc : xm_Sc} : xe_ml (XE sc) 241 = 8 := rfl
set_option maxRecDepth 20000 in
theorem ry_241 {sc : xm_Sc} : xe_ry (XE sc) 241 = none := rfl
set_option maxRecDepth 20000 in
theorem is_241 {sc : xm_Sc} : xe_is (XE sc) 241 = false := rfl
set_option maxRecDepth 20000 in
theorem np_241 {sc : xm_Sc} : xe_np (XE sc) 241 = 1 := rfl
/- method 242: X12_join -/
def b_X12_join_0 : List (Nat × Jvm.ClassFile.Instr × Nat) := [(0, .iconst 2, 1), (1, .istore_n 3, 1), (2, .aload_n 0, 1), (3, .getfield 134, 3), (6, .iconst 0, 1), (7, .iload_n 1, 1), (8, .iastore, 1), (9, .aload_n 0, 1), (10, .getfield 134, 3), (13, .iconst 1, 1), (14, .iload_n 2, 1), (15, .iastore, 1)]
set_option maxRecDepth 20000 in
theorem k_X12_join_0 {sc : xm_Sc} : xm_bok (xe_cy (XE sc) 242) b_X12_join_0 := by show xm_bok cX12_join _; unfold xm_bok; decide +kernel
def b_X12_join_16 : List (Nat × Jvm.ClassFile.Instr × Nat) := [(16, .iload_n 3, 1), (17, .ifCond .le 217, 3)]
set_option maxRecDepth 20000 in
theorem k_X12_join_16 {sc : xm_Sc} : xm_bok (xe_cy (XE sc) 242) b_X12_join_16 := by show xm_bok cX12_join _; unfold xm_bok; decide +kernel
def b_X12_join_20 : List (Nat × Jvm.ClassFile.Instr × Nat) := [(20, .aload_n 0, 1), (21, .aload_n 0, 1), (22, .getfield 134, 3), (25, .iload_n 3, 1), (26, .iconst 2, 1), (27, .isub, 1), (28, .iaload, 1), (29, .invokevirtual 240, 3)]
set_option maxRecDepth 20000 in
theorem k_X12_join_20 {sc : xm_Sc} : xm_bok (xe_cy (XE sc) 242) b_X12_join_20 := by show xm_bok cX12_join _; unfold xm_bok; decide +kernel
def b_X12_join_32 : List (Nat × Jvm.ClassFile.Instr × Nat) := [(32, .istore 4, 2), (34, .aload_n 0, 1), (35, .aload_n 0, 1), (36, .getfield 134, 3), (39, .iload_n 3, 1), (40, .iconst 1, 1), (41, .isub, 1), (42, .iaload, 1), (43, .invokevirtual 240, 3)]
set_option maxRecDepth 20000 in
theorem k_X12_join_32 {sc : xm_Sc} : xm_bok (xe_cy (XE sc) 242) b_X12_join_32 := by show xm_bok cX12_join _; unfold xm_bok; decide +kernel
def b_X12_join_46 : List (Nat × Jvm.ClassFile.Instr × Nat) := [(46, .istore 5, 2), (48, .iinc 3 (-2), 3), (51, .iload 4, 2), (53, .iload 5, 2), (55, .if_icmp .ne 6, 3)]
set_option maxRecDepth 20000 in
theorem k_X12_join_46 {sc : xm_Sc} : xm_bok (xe_cy (XE sc) 242) b_X12_join_46 := by show xm_bok cX12_join _; unfold xm_bok; decide +kernel
def b_X12_join_58 : List (Nat × Jvm.ClassFile.Instr × Nat) := [(58, .goto (-42), 3)]
set_option maxRecDepth 20000 in
theorem k_X12_join_58 {sc : xm_Sc} : xm_bok (xe_cy (XE sc) 242) b_X12_join_58 := by show xm_bok cX12_join _; unfold xm_bok; decide +kernel
def b_X12_join_61 : List (Nat × Jvm.ClassFile.Instr × Nat) := [(61, .aload_n 0, 1), (62, .getfield 118, 3), (65, .iload 4, 2), (67, .iaload, 1), (68, .ifCond .eq 17, 3)]
set_option maxRecDepth 20000 in
theorem k_X12_join_61 {sc : xm_Sc} : xm_bok (xe_cy (XE sc) 242) b_X12_join_61 := by show xm_bok cX12_join _; unfold xm_bok; decide +kernel
def b_X12_join_71 : List (Nat × Jvm.ClassFile.Instr × Nat) := [(71, .aload_n 0, 1), (72, .getfield 118, 3), (75, .iload 5, 2), (77, .iaload, 1), (78, .ifCond .ne 7, 3)]
set_option maxRecDepth 20000 in
theorem k_X12_join_71 {sc : xm_Sc} : xm_bok (xe_cy (XE sc) 242) b_X12_join_71 := by show xm_bok cX12_join _; unfold xm_bok; decide +kernel
def b_X12_join_81 : List (Nat × Jvm.ClassFile.Instr × Nat) := [(81, .iconst 1, 1), (82, .goto 4, 3)]
set_option maxRecDepth 20000 in
theorem k_X12_join_81 {sc : xm_Sc} : xm_bok (xe_cy (XE sc) 242) b_X12_join_81 := by show xm_bok cX12_join _; unfold xm_bok; decide +kernel
def b_X12_join_85 : List (Nat × Jvm.ClassFile.Instr × Nat) := [(85, .iconst 0, 1)]
set_option maxRecDepth 20000 in
theorem k_X12_join_85 {sc : xm_Sc} : xm_bok (xe_cy (XE sc) 242) b_X12_join_85 := by show xm_bok cX12_join _; unfold xm_bok; decide +kernel
def b_X12_join_86 : List (Nat × Jvm.ClassFile.Instr × Nat) := [(86, .istore 6, 2), (88, .iload 6, 2), (90, .ifCond .eq 15, 3)]
set_option maxRecDepth 20000 in
theorem k_X12_join_86 {sc : xm_Sc} : xm_bok (xe_cy (XE sc) 242) b_X12_join_86 := by show xm_bok cX12_join _; unfold xm_bok; decide +kernel
def b_X12_join_93 : List (Nat × Jvm.ClassFile.Instr × Nat) := [(93, .aload_n 0, 1), (94, .getfield 127, 3), (97, .iload 5, 2), (99, .iload 4, 2), (101, .iastore, 1), (102, .goto 12, 3)]
set_option maxRecDepth 20000 in
theorem k_X12_join_93 {sc : xm_Sc} : xm_bok (xe_cy (XE sc) 242) b_X12_join_93 := by show xm_bok cX12_join _; unfold xm_bok; decide +kernel
def b_X12_join_105 : List (Nat × Jvm.ClassFile.Instr × Nat) := [(105, .aload_n 0, 1), (106, .getfield 127, 3), (109, .iload 4, 2), (111, .iload 5, 2), (113, .iastore, 1)]
set_option maxRecDepth 20000 in
theorem k_X12_join_105 {sc : xm_Sc} : xm_bok (xe_cy (XE sc) 242) b_X12_join_105 := by show xm_bok cX12_join _; unfold xm_bok; decide +kernel
def b_X12_join_114 : List (Nat × Jvm.ClassFile.Instr × Nat) := [(114, .aload_n 0, 1), (115, .getfield 118, 3), (118, .iload 4, 2), (120, .iaload, 1), (121, .ifCond .eq (-105), 3)]
set_option maxRecDepth 20000 in
theorem k_X12_join_114 {sc : xm_Sc} : xm_bok (xe_cy (XE sc) 242) b_X12_join_114 := by show xm_bok cX12_join _; unfold xm_bok; decide +kernel
def b_X12_join_124 : List (Nat × Jvm.ClassFile.Instr × Nat) := [(124, .aload_n 0, 1), (125, .getfield 118, 3), (128, .iload 5, 2), (130, .iaload, 1), (131, .ifCond .ne 6, 3)]
set_option maxRecDepth 20000 in
theorem k_X12_join_124 {sc : xm_Sc} : xm_bok (xe_cy (XE sc) 242) b_X12_join_124 := by show xm_bok cX12_join _; unfold xm_bok; decide +kernel
def b_X12_join_134 : List (Nat × Jvm.ClassFile.Instr × Nat) := [(134, .goto (-118), 3)]
set_option maxRecDepth 20000 in
theorem k_X12_join_134 {sc : xm_Sc} : xm_bok (xe_cy (XE sc) 242) b_X12_join_134 := by show xm_bok cX12_join _; unfold xm_bok; decide +kernel
def b_X12_join_137 : List (Nat × Jvm.ClassFile.Instr × Nat) := [(137, .aload_n 0, 1), (138, .getfield 118, 3), (141, .iload 4, 2), (143, .iaload, 1), (144, .aload_n 0, 1), (145, .getfield 118, 3), (148, .iload 5, 2), (150, .iaload, 1), (151, .if_icmp .eq 5, 3)]
set_option maxRecDepth 20000 in
theorem k_X12_join_137 {sc : xm_Sc} : xm_bok (xe_cy (XE sc) 242) b_X12_join_137 := by show xm_bok cX12_join _; unfold xm_bok; decide +kernel
def b_X12_join_154 : List (Nat × Jvm.ClassFile.Instr × Nat) := [(154, .iconst 0, 1), (155, .ireturn, 1)]
set_option maxRecDepth 20000 in
theorem k_X12_join_154 {sc : xm_Sc} : xm_bok (xe_cy (XE sc) 242) b_X12_join_154 := by show xm_bok cX12_join _; unfold xm_bok; decide +kernel
def b_X12_join_156 : List (Nat × Jvm.ClassFile.Instr × Nat) := [(156, .aload_n 0, 1), (157, .getfield 118, 3), (160, .iload 4, 2), (162, .iaload, 1), (163, .iconst 1, 1), (164, .if_icmp .ne 6, 3)]
set_option maxRecDepth 20000 in
theorem k_X12_join_156 {sc : xm_Sc} : xm_bok (xe_cy (XE sc) 242) b_X12_join_156 := by show xm_bok cX12_join _; unfold xm_bok; decide +kernel
def b_X12_join_167 : List (Nat × Jvm.ClassFile.Instr × Nat) := [(167, .goto (-151), 3)]
set_option maxRecDepth 20000 in
theorem k_X12_join_167 {sc : xm_Sc} : xm_bok (xe_cy (XE sc) 242) b_X12_join_167 := by show xm_bok cX12_join _; unfold xm_bok; decide +kernel
def b_X12_join_170 : List (Nat × Jvm.ClassFile.Instr × Nat) := [(170, .aload_n 0, 1), (171, .getfield 134, 3), (174, .iload_n 3, 1), (175, .aload_n 0, 1), (176, .getfield 124, 3), (179, .iload 4, 2), (181, .iaload, 1), (182, .iastore, 1), (183, .aload_n 0, 1), (184, .getfield 134, 3), (187, .iload_n 3, 1), (188, .iconst 1, 1), (189, .iadd, 1), (190, .aload_n 0, 1), (191, .getfield 124, 3), (194, .iload 5, 2), (196, .iaload, 1), (197, .iastore, 1), (198, .aload_n 0, 1), (199, .getfield 134, 3), (202, .iload_n 3, 1), (203, .iconst 2, 1), (204, .iadd, 1), (205, .aload_n 0, 1), (206, .getfield 121, 3), (209, .iload 4, 2), (211, .iaload, 1), (212, .iastore, 1), (213, .aload_n 0, 1), (214, .getfield 134, 3), (217, .iload_n 3, 1), (218, .iconst 3, 1), (219, .iadd, 1), (220, .aload_n 0, 1), (221, .getfield 121, 3), (224, .iload 5, 2), (226, .iaload, 1), (227, .iastore, 1), (228, .iinc 3 4, 3), (231, .goto (-215), 3)]
set_option maxRecDepth 20000 in
theorem k_X12_join_170 {sc : xm_Sc} : xm_bok (xe_cy (XE sc) 242) b_X12_join_170 := by show xm_bok cX12_join _; unfold xm_bok; decide +kernel
def b_X12_join_234 : List (Nat × Jvm.ClassFile.Instr × Nat) := [(234, .iconst 1, 1), (235, .ireturn, 1)]
set_option maxRecDepth 20000 in
theorem k_X12_join_234 {sc : xm_Sc} : xm_bok (xe_cy (XE sc) 242) b_X12_join_234 := by show xm_bok cX12_join _; unfold xm_bok; decide +kernel
set_option maxRecDepth 20000 in
theorem cn_242 {sc : xm_Sc} : xe_cn (XE sc) 242 = 12 := rfl
set_option maxRecDepth 20000 in
theorem ml_242 {sc : xm_Sc} : xe_ml (XE sc) 242 = 7 := rfl
set_option maxRecDepth 20000 in
theorem ry_242 {sc : xm_Sc} : xe_ry (XE sc) 242 = (some .boolean) := rfl
set_option maxRecDepth 20000 in
theorem is_242 {sc : xm_Sc} : xe_is (XE sc) 242 = false := rfl
set_option maxRecDepth 20000 in
theorem np_242 {sc : xm_Sc} : xe_np (XE sc) 242 = 2 := rfl
/- method 243: X12_joined -/
def b_X12_joined_0 : List (Nat × Jvm.ClassFile.Instr × Nat) := [(0, .aload_n 0, 1), (1, .getfield 629, 3), (4, .iconst 1, 1), (5, .isub, 1), (6, .istore_n 2, 1), (7, .aload_n 0, 1), (8, .getfield 184, 3), (11, .iload_n 2, 1), (12, .iaload, 1), (13, .istore_n 3, 1), (14, .iload_n 3, 1), (15, .ifCond .ge 44, 3)]
set_option maxRecDepth 20000 in
theorem k_X12_joined_0 {sc : xm_Sc} : xm_bok (xe_cy (XE sc) 243) b_X12_joined_0 := by show xm_bok cX12_joined _; unfold xm_bok; decide +kernel
def b_X12_joined_18 : List (Nat × Jvm.ClassFile.Instr × Nat) := [(18, .aload_n 0, 1), (19, .invokevirtual 613, 3)]
set_option maxRecDepth 20000 in
theorem k_X12_joined_18 {sc : xm_Sc} : xm_bok (xe_cy (XE sc) 243) b_X12_joined_18 := by show xm_bok cX12_joined _; unfold xm_bok; decide +kernel
def b_X12_joined_22 : List (Nat × Jvm.ClassFile.Instr × Nat) := [(22, .aload_n 0, 1), (23, .getfield 592, 3), (26, .ifCond .ne 21, 3)]
set_option maxRecDepth 20000 in
theorem k_X12_joined_22 {sc : xm_Sc} : xm_bok (xe_cy (XE sc) 243) b_X12_joined_22 := by show xm_bok cX12_joined _; unfold xm_bok; decide +kernel
def b_X12_joined_29 : List (Nat × Jvm.ClassFile.Instr × Nat) := [(29, .aload_n 0, 1), (30, .getfield 601, 3), (33, .iconst 3, 1), (34, .if_icmp .eq 13, 3)]
set_option maxRecDepth 20000 in
theorem k_X12_joined_29 {sc : xm_Sc} : xm_bok (xe_cy (XE sc) 243) b_X12_joined_29 := by show xm_bok cX12_joined _; unfold xm_bok; decide +kernel
def b_X12_joined_37 : List (Nat × Jvm.ClassFile.Instr × Nat) := [(37, .aload_n 0, 1), (38, .iconst 1, 1), (39, .aload_n 0, 1), (40, .getfield 598, 3), (43, .invokevirtual 604, 3)]
set_option maxRecDepth 20000 in
theorem k_X12_joined_37 {sc : xm_Sc} : xm_bok (xe_cy (XE sc) 243) b_X12_joined_37 := by show xm_bok cX12_joined _; unfold xm_bok; decide +kernel
def b_X12_joined_46 : List (Nat × Jvm.ClassFile.Instr × Nat) := [(46, .ireturn, 1)]
set_option maxRecDepth 20000 in
theorem k_X12_joined_46 {sc : xm_Sc} : xm_bok (xe_cy (XE sc) 243) b_X12_joined_46 := by show xm_bok cX12_joined _; unfold xm_bok; decide +kernel
def b_X12_joined_47 : List (Nat × Jvm.ClassFile.Instr × Nat) := [(47, .aload_n 0, 1), (48, .dup, 1), (49, .getfield 629, 3), (52, .iconst 1, 1), (53, .isub, 1), (54, .putfield 629, 3), (57, .iload_n 1, 1), (58, .ireturn, 1)]
set_option maxRecDepth 20000 in
theorem k_X12_joined_47 {sc : xm_Sc} : xm_bok (xe_cy (XE sc) 243) b_X12_joined_47 := by show xm_bok cX12_joined _; unfold xm_bok; decide +kernel
def b_X12_joined_59 : List (Nat × Jvm.ClassFile.Instr × Nat) := [(59, .aload_n 0, 1), (60, .getfield 187, 3), (63, .iload_n 2, 1), (64, .iaload, 1), (65, .iconst 2, 1), (66, .if_icmp .ne 19, 3)]
set_option maxRecDepth 20000 in
theorem k_X12_joined_59 {sc : xm_Sc} : xm_bok (xe_cy (XE sc) 243) b_X12_joined_59 := by show xm_bok cX12_joined _; unfold xm_bok; decide +kernel
def b_X12_joined_69 : List (Nat × Jvm.ClassFile.Instr × Nat) := [(69, .aload_n 0, 1), (70, .getfield 19, 3), (73, .iload_n 3, 1), (74, .iload_n 1, 1), (75, .iastore, 1), (76, .aload_n 0, 1), (77, .getfield 187, 3), (80, .iload_n 2, 1), (81, .iconst 1, 1), (82, .iastore, 1), (83, .iconst (-1), 1), (84, .ireturn, 1)]
set_option maxRecDepth 20000 in
theorem k_X12_joined_69 {sc : xm_Sc} : xm_bok (xe_cy (XE sc) 243) b_X12_joined_69 := by show xm_bok cX12_joined _; unfold xm_bok; decide +kernel
def b_X12_joined_85 : List (Nat × Jvm.ClassFile.Instr × Nat) := [(85, .aload_n 0, 1), (86, .getfield 16, 3), (89, .iload_n 3, 1), (90, .iaload, 1), (91, .iconst 2, 1), (92, .if_icmp .gt 13, 3)]
set_option maxRecDepth 20000 in
theorem k_X12_joined_85 {sc : xm_Sc} : xm_bok (xe_cy (XE sc) 243) b_X12_joined_85 := by show xm_bok cX12_joined _; unfold xm_bok; decide +kernel
def b_X12_joined_95 : List (Nat × Jvm.ClassFile.Instr × Nat) := [(95, .aload_n 0, 1), (96, .getfield 22, 3), (99, .iload_n 3, 1), (100, .iload_n 1, 1), (101, .iastore, 1), (102, .goto 10, 3)]
set_option maxRecDepth 20000 in
theorem k_X12_joined_95 {sc : xm_Sc} : xm_bok (xe_cy (XE sc) 243) b_X12_joined_95 := by show xm_bok cX12_joined _; unfold xm_bok; decide +kernel
def b_X12_joined_105 : List (Nat × Jvm.ClassFile.Instr × Nat) := [(105, .aload_n 0, 1), (106, .getfield 19, 3), (109, .iload_n 3, 1), (110, .iload_n 1, 1), (111, .iastore, 1)]
set_option maxRecDepth 20000 in
theorem k_X12_joined_105 {sc : xm_Sc} : xm_bok (xe_cy (XE sc) 243) b_X12_joined_105 := by show xm_bok cX12_joined _; unfold xm_bok; decide +kernel
def b_X12_joined_112 : List (Nat × Jvm.ClassFile.Instr × Nat) := [(112, .aload_n 0, 1), (113, .dup, 1), (114, .getfield 629, 3), (117, .iconst 1, 1), (118, .isub, 1), (119, .putfield 629, 3), (122, .iload_n 3, 1), (123, .ireturn, 1)]
set_option maxRecDepth 20000 in
theorem k_X12_joined_112 {sc : xm_Sc} : xm_bok (xe_cy (XE sc) 243) b_X12_joined_112 := by show xm_bok cX12_joined _; unfold xm_bok; decide +kernel
set_option maxRecDepth 20000 in
theorem cn_243 {sc : xm_Sc} : xe_cn (XE sc) 243 = 12 := rfl
set_option maxRecDepth 20000 in
theorem ml_243 {sc : xm_Sc} : xe_ml (XE sc) 243 = 4 := rfl
set_option maxRecDepth 20000 in
theorem ry_243 {sc : xm_Sc} : xe_ry (XE sc) 243 = (some .int) := rfl
set_option maxRecDepth 20000 in
theorem is_243 {sc : xm_Sc} : xe_is (XE sc) 243 = false := rfl
set_option maxRecDepth 20000 in
theorem np_243 {sc : xm_Sc} : xe_np (XE sc) 243 = 1 := rfl
/- method 244: X12_keepProgram -/
def b_X12_keepProgram_0 : List (Nat × Jvm.ClassFile.Instr × Nat) := [(0, .aload_n 0, 1), (1, .aload_n 0, 1), (2, .getfield 223, 3), (5, .putfield 378, 3), (8, .aload_n 0, 1), (9, .aload_n 0, 1), (10, .getfield 215, 3), (13, .putfield 381, 3), (16, .iconst 0, 1), (17, .istore_n 1, 1)]
set_option maxRecDepth 20000 in
theorem k_X12_keepProgram_0 {sc : xm_Sc} : xm_bok (xe_cy (XE sc) 244) b_X12_keepProgram_0 := by show xm_bok cX12_keepProgram _; unfold xm_bok; decide +kernel
def b_X12_keepProgram_18 : List (Nat × Jvm.ClassFile.Instr × Nat) := [(18, .iload_n 1, 1), (19, .aload_n 0, 1), (20, .getfield 215, 3), (23, .if_icmp .ge 21, 3)]
set_option maxRecDepth 20000 in
theorem k_X12_keepProgram_18 {sc : xm_Sc} : xm_bok (xe_cy (XE sc) 244) b_X12_keepProgram_18 := by show xm_bok cX12_keepProgram _; unfold xm_bok; decide +kernel
def b_X12_keepProgram_26 : List (Nat × Jvm.ClassFile.Instr × Nat) := [(26, .aload_n 0, 1), (27, .getfield 88, 3), (30, .iload_n 1, 1), (31, .aload_n 0, 1), (32, .getfield 7, 3), (35, .iload_n 1, 1), (36, .iaload, 1), (37, .iastore, 1), (38, .iinc 1 1, 3), (41, .goto (-23), 3)]
set_option maxRecDepth 20000 in
theorem k_X12_keepProgram_26 {sc : xm_Sc} : xm_bok (xe_cy (XE sc) 244) b_X12_keepProgram_26 := by show xm_bok cX12_keepProgram _; unfold xm_bok; decide +kernel
def b_X12_keepProgram_44 : List (Nat × Jvm.ClassFile.Instr × Nat) := [(44, .sipush 3200, 3), (47, .istore_n 1, 1)]
set_option maxRecDepth 20000 in
theorem k_X12_keepProgram_44 {sc : xm_Sc} : xm_bok (xe_cy (XE sc) 244) b_X12_keepProgram_44 := by show xm_bok cX12_keepProgram _; unfold xm_bok; decide +kernel
def b_X12_keepProgram_48 : List (Nat × Jvm.ClassFile.Instr × Nat) := [(48, .iload_n 1, 1), (49, .aload_n 0, 1), (50, .getfield 262, 3), (53, .if_icmp .ge 132, 3)]
set_option maxRecDepth 20000 in
theorem k_X12_keepProgram_48 {sc : xm_Sc} : xm_bok (xe_cy (XE sc) 244) b_X12_keepProgram_48 := by show xm_bok cX12_keepProgram _; unfold xm_bok; decide +kernel
def b_X12_keepProgram_56 : List (Nat × Jvm.ClassFile.Instr × Nat) := [(56, .aload_n 0, 1), (57, .iload_n 1, 1), (58, .invokevirtual 384, 3)]
set_option maxRecDepth 20000 in
theorem k_X12_keepProgram_56 {sc : xm_Sc} : xm_bok (xe_cy (XE sc) 244) b_X12_keepProgram_56 := by show xm_bok cX12_keepProgram _; unfold xm_bok; decide +kernel
def b_X12_keepProgram_61 : List (Nat × Jvm.ClassFile.Instr × Nat) := [(61, .istore_n 2, 1), (62, .aload_n 0, 1), (63, .getfield 91, 3), (66, .iload_n 1, 1), (67, .iaload, 1), (68, .iconst 1, 1), (69, .if_icmp .eq 7, 3)]
set_option maxRecDepth 20000 in
theorem k_X12_keepProgram_61 {sc : xm_Sc} : xm_bok (xe_cy (XE sc) 244) b_X12_keepProgram_61 := by show xm_bok cX12_keepProgram _; unfold xm_bok; decide +kernel
def b_X12_keepProgram_72 : List (Nat × Jvm.ClassFile.Instr × Nat) := [(72, .iconst 1, 1), (73, .goto 4, 3)]
set_option maxRecDepth 20000 in
theorem k_X12_keepProgram_72 {sc : xm_Sc} : xm_bok (xe_cy (XE sc) 244) b_X12_keepProgram_72 := by show xm_bok cX12_keepProgram _; unfold xm_bok; decide +kernel
def b_X12_keepProgram_76 : List (Nat × Jvm.ClassFile.Instr × Nat) := [(76, .iconst 0, 1)]
set_option maxRecDepth 20000 in
theorem k_X12_keepProgram_76 {sc : xm_Sc} : xm_bok (xe_cy (XE sc) 244) b_X12_keepProgram_76 := by show xm_bok cX12_keepProgram _; unfold xm_bok; decide +kernel
def b_X12_keepProgram_77 : List (Nat × Jvm.ClassFile.Instr × Nat) := [(77, .istore_n 3, 1), (78, .aload_n 0, 1), (79, .getfield 91, 3), (82, .iload_n 2, 1), (83, .aload_n 0, 1), (84, .getfield 91, 3), (87, .iload_n 1, 1), (88, .iaload, 1), (89, .iastore, 1), (90, .aload_n 0, 1), (91, .getfield 94, 3), (94, .iload_n 2, 1), (95, .iload_n 3, 1), (96, .ifCond .eq 16, 3)]
set_option maxRecDepth 20000 in
theorem k_X12_keepProgram_77 {sc : xm_Sc} : xm_bok (xe_cy (XE sc) 244) b_X12_keepProgram_77 := by show xm_bok cX12_keepProgram _; unfold xm_bok; decide +kernel
def b_X12_keepProgram_99 : List (Nat × Jvm.ClassFile.Instr × Nat) := [(99, .aload_n 0, 1), (100, .aload_n 0, 1), (101, .getfield 94, 3), (104, .iload_n 1, 1), (105, .iaload, 1), (106, .invokevirtual 384, 3)]
set_option maxRecDepth 20000 in
theorem k_X12_keepProgram_99 {sc : xm_Sc} : xm_bok (xe_cy (XE sc) 244) b_X12_keepProgram_99 := by show xm_bok cX12_keepProgram _; unfold xm_bok; decide +kernel
def b_X12_keepProgram_109 : List (Nat × Jvm.ClassFile.Instr × Nat) := [(109, .goto 4, 3)]
set_option maxRecDepth 20000 in
theorem k_X12_keepProgram_109 {sc : xm_Sc} : xm_bok (xe_cy (XE sc) 244) b_X12_keepProgram_109 := by show xm_bok cX12_keepProgram _; unfold xm_bok; decide +kernel
def b_X12_keepProgram_112 : List (Nat × Jvm.ClassFile.Instr × Nat) := [(112, .iconst (-1), 1)]
set_option maxRecDepth 20000 in
theorem k_X12_keepProgram_112 {sc : xm_Sc} : xm_bok (xe_cy (XE sc) 244) b_X12_keepProgram_112 := by show xm_bok cX12_keepProgram _; unfold xm_bok; decide +kernel
def b_X12_keepProgram_113 : List (Nat × Jvm.ClassFile.Instr × Nat) := [(113, .iastore, 1), (114, .aload_n 0, 1), (115, .getfield 97, 3), (118, .iload_n 2, 1), (119, .iload_n 3, 1), (120, .ifCond .eq 16, 3)]
set_option maxRecDepth 20000 in
theorem k_X12_keepProgram_113 {sc : xm_Sc} : xm_bok (xe_cy (XE sc) 244) b_X12_keepProgram_113 := by show xm_bok cX12_keepProgram _; unfold xm_bok; decide +kernel
def b_X12_keepProgram_123 : List (Nat × Jvm.ClassFile.Instr × Nat) := [(123, .aload_n 0, 1), (124, .aload_n 0, 1), (125, .getfield 97, 3), (128, .iload_n 1, 1), (129, .iaload, 1), (130, .invokevirtual 384, 3)]
set_option maxRecDepth 20000 in
theorem k_X12_keepProgram_123 {sc : xm_Sc} : xm_bok (xe_cy (XE sc) 244) b_X12_keepProgram_123 := by show xm_bok cX12_keepProgram _; unfold xm_bok; decide +kernel
def b_X12_keepProgram_133 : List (Nat × Jvm.ClassFile.Instr × Nat) := [(133, .goto 4, 3)]
set_option maxRecDepth 20000 in
theorem k_X12_keepProgram_133 {sc : xm_Sc} : xm_bok (xe_cy (XE sc) 244) b_X12_keepProgram_133 := by show xm_bok cX12_keepProgram _; unfold xm_bok; decide +kernel
def b_X12_keepProgram_136 : List (Nat × Jvm.ClassFile.Instr × Nat) := [(136, .iconst (-1), 1)]
set_option maxRecDepth 20000 in
theorem k_X12_keepProgram_136 {sc : xm_Sc} : xm_bok (xe_cy (XE sc) 244) b_X12_keepProgram_136 := by show xm_bok cX12_keepProgram _; unfold xm_bok; decide +kernel
def b_X12_keepProgram_137 : List (Nat × Jvm.ClassFile.Instr × Nat) := [(137, .iastore, 1), (138, .aload_n 0, 1), (139, .getfield 100, 3), (142, .iload_n 2, 1), (143, .aload_n 0, 1), (144, .getfield 100, 3), (147, .iload_n 1, 1), (148, .iaload, 1), (149, .iastore, 1), (150, .aload_n 0, 1), (151, .getfield 103, 3), (154, .iload_n 2, 1), (155, .aload_n 0, 1), (156, .getfield 103, 3), (159, .iload_n 1, 1), (160, .iaload, 1), (161, .iastore, 1), (162, .aload_n 0, 1), (163, .getfield 106, 3), (166, .iload_n 2, 1), (167, .aload_n 0, 1), (168, .getfield 106, 3), (171, .iload_n 1, 1), (172, .iaload, 1), (173, .iastore, 1), (174, .aload_n 0, 1), (175, .iload_n 2, 1), (176, .invokevirtual 387, 3)]
set_option maxRecDepth 20000 in
theorem k_X12_keepProgram_137 {sc : xm_Sc} : xm_bok (xe_cy (XE sc) 244) b_X12_keepProgram_137 := by show xm_bok cX12_keepProgram _; unfold xm_bok; decide +kernel
def b_X12_keepProgram_179 : List (Nat × Jvm.ClassFile.Instr × Nat) := [(179, .iinc 1 1, 3), (182, .goto (-134), 3)]
set_option maxRecDepth 20000 in
theorem k_X12_keepProgram_179 {sc : xm_Sc} : xm_bok (xe_cy (XE sc) 244) b_X12_keepProgram_179 := by show xm_bok cX12_keepProgram _; unfold xm_bok; decide +kernel
def b_X12_keepProgram_185 : List (Nat × Jvm.ClassFile.Instr × Nat) := [(185, .iconst 0, 1), (186, .istore_n 1, 1)]
set_option maxRecDepth 20000 in
theorem k_X12_keepProgram_185 {sc : xm_Sc} : xm_bok (xe_cy (XE sc) 244) b_X12_keepProgram_185 := by show xm_bok cX12_keepProgram _; unfold xm_bok; decide +kernel
def b_X12_keepProgram_187 : List (Nat × Jvm.ClassFile.Instr × Nat) := [(187, .iload_n 1, 1), (188, .aload_n 0, 1), (189, .getfield 223, 3), (192, .if_icmp .ge 192, 3)]
set_option maxRecDepth 20000 in
theorem k_X12_keepProgram_187 {sc : xm_Sc} : xm_bok (xe_cy (XE sc) 244) b_X12_keepProgram_187 := by show xm_bok cX12_keepProgram _; unfold xm_bok; decide +kernel
def b_X12_keepProgram_195 : List (Nat × Jvm.ClassFile.Instr × Nat) := [(195, .aload_n 0, 1), (196, .getfield 54, 3), (199, .iload_n 1, 1), (200, .aload_n 0, 1), (201, .getfield 16, 3), (204, .iload_n 1, 1), (205, .iaload, 1), (206, .iastore, 1), (207, .aload_n 0, 1), (208, .getfield 57, 3), (211, .iload_n 1, 1), (212, .aload_n 0, 1), (213, .getfield 19, 3), (216, .iload_n 1, 1), (217, .iaload, 1), (218, .iastore, 1), (219, .aload_n 0, 1), (220, .getfield 60, 3), (223, .iload_n 1, 1), (224, .aload_n 0, 1), (225, .getfield 22, 3), (228, .iload_n 1, 1), (229, .iaload, 1), (230, .iastore, 1), (231, .aload_n 0, 1), (232, .getfield 63, 3), (235, .iload_n 1, 1), (236, .aload_n 0, 1), (237, .getfield 25, 3), (240, .iload_n 1, 1), (241, .iaload, 1), (242, .iastore, 1), (243, .aload_n 0, 1), (244, .getfield 163, 3), (247, .iload_n 1, 1), (248, .aload_n 0, 1), (249, .getfield 160, 3), (252, .iload_n 1, 1), (253, .iaload, 1), (254, .iastore, 1), (255, .iconst 0, 1), (256, .istore_n 2, 1)]
set_option maxRecDepth 20000 in
theorem k_X12_keepProgram_195 {sc : xm_Sc} : xm_bok (xe_cy (XE sc) 244) b_X12_keepProgram_195 := by show xm_bok cX12_keepProgram _; unfold xm_bok; decide +kernel
def b_X12_keepProgram_257 : List (Nat × Jvm.ClassFile.Instr × Nat) := [(257, .iload_n 2, 1), (258, .bipush 8, 2), (260, .if_icmp .ge 46, 3)]
set_option maxRecDepth 20000 in
theorem k_X12_keepProgram_257 {sc : xm_Sc} : xm_bok (xe_cy (XE sc) 244) b_X12_keepProgram_257 := by show xm_bok cX12_keepProgram _; unfold xm_bok; decide +kernel
def b_X12_keepProgram_263 : List (Nat × Jvm.ClassFile.Instr × Nat) := [(263, .aload_n 0, 1), (264, .getfield 66, 3), (267, .bipush 8, 2), (269, .iload_n 1, 1), (270, .imul, 1), (271, .iload_n 2, 1), (272, .iadd, 1), (273, .aload_n 0, 1), (274, .getfield 16, 3), (277, .iload_n 1, 1), (278, .iaload, 1), (279, .bipush 11, 2), (281, .if_icmp .ne 17, 3)]
set_option maxRecDepth 20000 in
theorem k_X12_keepProgram_263 {sc : xm_Sc} : xm_bok (xe_cy (XE sc) 244) b_X12_keepProgram_263 := by show xm_bok cX12_keepProgram _; unfold xm_bok; decide +kernel
def b_X12_keepProgram_284 : List (Nat × Jvm.ClassFile.Instr × Nat) := [(284, .aload_n 0, 1), (285, .getfield 31, 3), (288, .bipush 8, 2), (290, .iload_n 1, 1), (291, .imul, 1), (292, .iload_n 2, 1), (293, .iadd, 1), (294, .iaload, 1), (295, .goto 4, 3)]
set_option maxRecDepth 20000 in
theorem k_X12_keepProgram_284 {sc : xm_Sc} : xm_bok (xe_cy (XE sc) 244) b_X12_keepProgram_284 := by show xm_bok cX12_keepProgram _; unfold xm_bok; decide +kernel
def b_X12_keepProgram_298 : List (Nat × Jvm.ClassFile.Instr × Nat) := [(298, .iconst 0, 1)]
set_option maxRecDepth 20000 in
theorem k_X12_keepProgram_298 {sc : xm_Sc} : xm_bok (xe_cy (XE sc) 244) b_X12_keepProgram_298 := by show xm_bok cX12_keepProgram _; unfold xm_bok; decide +kernel
def b_X12_keepProgram_299 : List (Nat × Jvm.ClassFile.Instr × Nat) := [(299, .iastore, 1), (300, .iinc 2 1, 3), (303, .goto (-46), 3)]
set_option maxRecDepth 20000 in
theorem k_X12_keepProgram_299 {sc : xm_Sc} : xm_bok (xe_cy (XE sc) 244) b_X12_keepProgram_299 := by show xm_bok cX12_keepProgram _; unfold xm_bok; decide +kernel
def b_X12_keepProgram_306 : List (Nat × Jvm.ClassFile.Instr × Nat) := [(306, .aload_n 0, 1), (307, .getfield 69, 3), (310, .iload_n 1, 1), (311, .aload_n 0, 1), (312, .getfield 16, 3), (315, .iload_n 1, 1), (316, .iaload, 1), (317, .bipush 11, 2), (319, .if_icmp .ne 7, 3)]
set_option maxRecDepth 20000 in
theorem k_X12_keepProgram_306 {sc : xm_Sc} : xm_bok (xe_cy (XE sc) 244) b_X12_keepProgram_306 := by show xm_bok cX12_keepProgram _; unfold xm_bok; decide +kernel
def b_X12_keepProgram_322 : List (Nat × Jvm.ClassFile.Instr × Nat) := [(322, .iconst (-1), 1), (323, .goto 13, 3)]
set_option maxRecDepth 20000 in
theorem k_X12_keepProgram_322 {sc : xm_Sc} : xm_bok (xe_cy (XE sc) 244) b_X12_keepProgram_322 := by show xm_bok cX12_keepProgram _; unfold xm_bok; decide +kernel
def b_X12_keepProgram_326 : List (Nat × Jvm.ClassFile.Instr × Nat) := [(326, .aload_n 0, 1), (327, .aload_n 0, 1), (328, .getfield 34, 3), (331, .iload_n 1, 1), (332, .iaload, 1), (333, .invokevirtual 384, 3)]
set_option maxRecDepth 20000 in
theorem k_X12_keepProgram_326 {sc : xm_Sc} : xm_bok (xe_cy (XE sc) 244) b_X12_keepProgram_326 := by show xm_bok cX12_keepProgram _; unfold xm_bok; decide +kernel
def b_X12_keepProgram_336 : List (Nat × Jvm.ClassFile.Instr × Nat) := [(336, .iastore, 1), (337, .aload_n 0, 1), (338, .getfield 72, 3), (341, .iload_n 1, 1), (342, .aload_n 0, 1), (343, .getfield 16, 3), (346, .iload_n 1, 1), (347, .iaload, 1), (348, .bipush 11, 2), (350, .if_icmp .ne 7, 3)]
set_option maxRecDepth 20000 in
theorem k_X12_keepProgram_336 {sc : xm_Sc} : xm_bok (xe_cy (XE sc) 244) b_X12_keepProgram_336 := by show xm_bok cX12_keepProgram _; unfold xm_bok; decide +kernel
def b_X12_keepProgram_353 : List (Nat × Jvm.ClassFile.Instr × Nat) := [(353, .iconst (-1), 1), (354, .goto 13, 3)]
set_option maxRecDepth 20000 in
theorem k_X12_keepProgram_353 {sc : xm_Sc} : xm_bok (xe_cy (XE sc) 244) b_X12_keepProgram_353 := by show xm_bok cX12_keepProgram _; unfold xm_bok; decide +kernel
def b_X12_keepProgram_357 : List (Nat × Jvm.ClassFile.Instr × Nat) := [(357, .aload_n 0, 1), (358, .aload_n 0, 1), (359, .getfield 37, 3), (362, .iload_n 1, 1), (363, .iaload, 1), (364, .invokevirtual 384, 3)]
set_option maxRecDepth 20000 in
theorem k_X12_keepProgram_357 {sc : xm_Sc} : xm_bok (xe_cy (XE sc) 244) b_X12_keepProgram_357 := by show xm_bok cX12_keepProgram _; unfold xm_bok; decide +kernel
def b_X12_keepProgram_367 : List (Nat × Jvm.ClassFile.Instr × Nat) := [(367, .iastore, 1), (368, .aload_n 0, 1), (369, .iload_n 1, 1), (370, .invokevirtual 390, 3)]
set_option maxRecDepth 20000 in
theorem k_X12_keepProgram_367 {sc : xm_Sc} : xm_bok (xe_cy (XE sc) 244) b_X12_keepProgram_367 := by show xm_bok cX12_keepProgram _; unfold xm_bok; decide +kernel
def b_X12_keepProgram_373 : List (Nat × Jvm.ClassFile.Instr × Nat) := [(373, .aload_n 0, 1), (374, .iload_n 1, 1), (375, .invokevirtual 393, 3)]
set_option maxRecDepth 20000 in
theorem k_X12_keepProgram_373 {sc : xm_Sc} : xm_bok (xe_cy (XE sc) 244) b_X12_keepProgram_373 := by show xm_bok cX12_keepProgram _; unfold xm_bok; decide +kernel
def b_X12_keepProgram_378 : List (Nat × Jvm.ClassFile.Instr × Nat) := [(378, .iinc 1 1, 3), (381, .goto (-194), 3)]
set_option maxRecDepth 20000 in
theorem k_X12_keepProgram_378 {sc : xm_Sc} : xm_bok (xe_cy (XE sc) 244) b_X12_keepProgram_378 := by show xm_bok cX12_keepProgram _; unfold xm_bok; decide +kernel
def b_X12_keepProgram_384 : List (Nat × Jvm.ClassFile.Instr × Nat) := [(384, .return_, 1)]
set_option maxRecDepth 20000 in
theorem k_X12_keepProgram_384 {sc : xm_Sc} : xm_bok (xe_cy (XE sc) 244) b_X12_keepProgram_384 := by show xm_bok cX12_keepProgram _; unfold xm_bok; decide +kernel
set_option maxRecDepth 20000 in
theorem cn_244 {sc : xm_Sc} : xe_cn (XE sc) 244 = 12 := rfl
set_option maxRecDepth 20000 in
theorem ml_244 {sc : xm_Sc} : xe_ml (XE sc) 244 = 4 := rfl
set_option maxRecDepth 20000 in
theorem ry_244 {sc : xm_Sc} : xe_ry (XE sc) 244 = none := rfl
set_option maxRecDepth 20000 in
theorem is_244 {sc : xm_Sc} : xe_is (XE sc) 244 = false := rfl
set_option maxRecDepth 20000 in
theorem np_244 {sc : xm_Sc} : xe_np (XE sc) 244 = 0 := rfl
/- method 245: X12_keptType -/
def b_X12_keptType_0 : List (Nat × Jvm.ClassFile.Instr × Nat) := [(0, .iload_n 1, 1), (1, .sipush 3200, 3), (4, .isub, 1), (5, .ireturn, 1)]
set_option maxRecDepth 20000 in
theorem k_X12_keptType_0 {sc : xm_Sc} : xm_bok (xe_cy (XE sc) 245) b_X12_keptType_0 := by show xm_bok cX12_keptType _; unfold xm_bok; decide +kernel
set_option maxRecDepth 20000 in
theorem cn_245 {sc : xm_Sc} : xe_cn (XE sc) 245 = 12 := rfl
set_option maxRecDepth 20000 in
theorem ml_245 {sc : xm_Sc} : xe_ml (XE sc) 245 = 2 := rfl
set_option maxRecDepth 20000 in
theorem ry_245 {sc : xm_Sc} : xe_ry (XE sc) 245 = (some .int) := rfl
set_option maxRecDepth 20000 in
theorem is_245 {sc : xm_Sc} : xe_is (XE sc) 245 = false := rfl
set_option maxRecDepth 20000 in
theorem np_245 {sc : xm_Sc} : xe_np (XE sc) 245 = 1 := rfl
/- method 246: X12_kindMade -/
def b_X12_kindMade_0 : List (Nat × Jvm.ClassFile.Instr × Nat) := [(0, .aload_n 0, 1), (1, .iload_n 1, 1), (2, .invokevirtual 626, 3)]
set_option maxRecDepth 20000 in
theorem k_X12_kindMade_0 {sc : xm_Sc} : xm_bok (xe_cy (XE sc) 246) b_X12_kindMade_0 := by show xm_bok cX12_kindMade _; unfold xm_bok; decide +kernel
def b_X12_kindMade_5 : List (Nat × Jvm.ClassFile.Instr × Nat) := [(5, .istore_n 2, 1), (6, .iload_n 2, 1), (7, .ifCond .ge 5, 3)]
set_option maxRecDepth 20000 in
theorem k_X12_kindMade_5 {sc : xm_Sc} : xm_bok (xe_cy (XE sc) 246) b_X12_kindMade_5 := by show xm_bok cX12_kindMade _; unfold xm_bok; decide +kernel
def b_X12_kindMade_10 : List (Nat × Jvm.ClassFile.Instr × Nat) := [(10, .iconst (-1), 1), (11, .ireturn, 1)]
set_option maxRecDepth 20000 in
theorem k_X12_kindMade_10 {sc : xm_Sc} : xm_bok (xe_cy (XE sc) 246) b_X12_kindMade_10 := by show xm_bok cX12_kindMade _; unfold xm_bok; decide +kernel
def b_X12_kindMade_12 : List (Nat × Jvm.ClassFile.Instr × Nat) := [(12, .iload_n 1, 1), (13, .bipush 6, 2), (15, .if_icmp .gt 44, 3)]
set_option maxRecDepth 20000 in
theorem k_X12_kindMade_12 {sc : xm_Sc} : xm_bok (xe_cy (XE sc) 246) b_X12_kindMade_12 := by show xm_bok cX12_kindMade _; unfold xm_bok; decide +kernel
def b_X12_kindMade_18 : List (Nat × Jvm.ClassFile.Instr × Nat) := [(18, .aload_n 0, 1), (19, .getfield 184, 3), (22, .aload_n 0, 1), (23, .getfield 629, 3), (26, .iload_n 2, 1), (27, .iastore, 1), (28, .aload_n 0, 1), (29, .getfield 187, 3), (32, .aload_n 0, 1), (33, .getfield 629, 3), (36, .iload_n 1, 1), (37, .iconst 2, 1), (38, .if_icmp .gt 7, 3)]
set_option maxRecDepth 20000 in
theorem k_X12_kindMade_18 {sc : xm_Sc} : xm_bok (xe_cy (XE sc) 246) b_X12_kindMade_18 := by show xm_bok cX12_kindMade _; unfold xm_bok; decide +kernel
def b_X12_kindMade_41 : List (Nat × Jvm.ClassFile.Instr × Nat) := [(41, .iconst 2, 1), (42, .goto 4, 3)]
set_option maxRecDepth 20000 in
theorem k_X12_kindMade_41 {sc : xm_Sc} : xm_bok (xe_cy (XE sc) 246) b_X12_kindMade_41 := by show xm_bok cX12_kindMade _; unfold xm_bok; decide +kernel
def b_X12_kindMade_45 : List (Nat × Jvm.ClassFile.Instr × Nat) := [(45, .iconst 1, 1)]
set_option maxRecDepth 20000 in
theorem k_X12_kindMade_45 {sc : xm_Sc} : xm_bok (xe_cy (XE sc) 246) b_X12_kindMade_45 := by show xm_bok cX12_kindMade _; unfold xm_bok; decide +kernel
def b_X12_kindMade_46 : List (Nat × Jvm.ClassFile.Instr × Nat) := [(46, .iastore, 1), (47, .aload_n 0, 1), (48, .dup, 1), (49, .getfield 629, 3), (52, .iconst 1, 1), (53, .iadd, 1), (54, .putfield 629, 3), (57, .iconst (-1), 1), (58, .ireturn, 1)]
set_option maxRecDepth 20000 in
theorem k_X12_kindMade_46 {sc : xm_Sc} : xm_bok (xe_cy (XE sc) 246) b_X12_kindMade_46 := by show xm_bok cX12_kindMade _; unfold xm_bok; decide +kernel
def b_X12_kindMade_59 : List (Nat × Jvm.ClassFile.Instr × Nat) := [(59, .iload_n 1, 1), (60, .bipush 10, 2), (62, .if_icmp .ge 5, 3)]
set_option maxRecDepth 20000 in
theorem k_X12_kindMade_59 {sc : xm_Sc} : xm_bok (xe_cy (XE sc) 246) b_X12_kindMade_59 := by show xm_bok cX12_kindMade _; unfold xm_bok; decide +kernel
def b_X12_kindMade_65 : List (Nat × Jvm.ClassFile.Instr × Nat) := [(65, .iload_n 2, 1), (66, .ireturn, 1)]
set_option maxRecDepth 20000 in
theorem k_X12_kindMade_65 {sc : xm_Sc} : xm_bok (xe_cy (XE sc) 246) b_X12_kindMade_65 := by show xm_bok cX12_kindMade _; unfold xm_bok; decide +kernel
def b_X12_kindMade_67 : List (Nat × Jvm.ClassFile.Instr × Nat) := [(67, .aload_n 0, 1), (68, .invokevirtual 613, 3)]
set_option maxRecDepth 20000 in
theorem k_X12_kindMade_67 {sc : xm_Sc} : xm_bok (xe_cy (XE sc) 246) b_X12_kindMade_67 := by show xm_bok cX12_kindMade _; unfold xm_bok; decide +kernel
def b_X12_kindMade_71 : List (Nat × Jvm.ClassFile.Instr × Nat) := [(71, .aload_n 0, 1), (72, .getfield 592, 3), (75, .ifCond .le 5, 3)]
set_option maxRecDepth 20000 in
theorem k_X12_kindMade_71 {sc : xm_Sc} : xm_bok (xe_cy (XE sc) 246) b_X12_kindMade_71 := by show xm_bok cX12_kindMade _; unfold xm_bok; decide +kernel
def b_X12_kindMade_78 : List (Nat × Jvm.ClassFile.Instr × Nat) := [(78, .iconst (-1), 1), (79, .ireturn, 1)]
set_option maxRecDepth 20000 in
theorem k_X12_kindMade_78 {sc : xm_Sc} : xm_bok (xe_cy (XE sc) 246) b_X12_kindMade_78 := by show xm_bok cX12_kindMade _; unfold xm_bok; decide +kernel
def b_X12_kindMade_80 : List (Nat × Jvm.ClassFile.Instr × Nat) := [(80, .iload_n 1, 1), (81, .bipush 12, 2), (83, .if_icmp .ne 31, 3)]
set_option maxRecDepth 20000 in
theorem k_X12_kindMade_80 {sc : xm_Sc} : xm_bok (xe_cy (XE sc) 246) b_X12_kindMade_80 := by show xm_bok cX12_kindMade _; unfold xm_bok; decide +kernel
def b_X12_kindMade_86 : List (Nat × Jvm.ClassFile.Instr × Nat) := [(86, .aload_n 0, 1), (87, .getfield 25, 3), (90, .iload_n 2, 1), (91, .aload_n 0, 1), (92, .invokevirtual 632, 3)]
set_option maxRecDepth 20000 in
theorem k_X12_kindMade_86 {sc : xm_Sc} : xm_bok (xe_cy (XE sc) 246) b_X12_kindMade_86 := by show xm_bok cX12_kindMade _; unfold xm_bok; decide +kernel
def b_X12_kindMade_95 : List (Nat × Jvm.ClassFile.Instr × Nat) := [(95, .iastore, 1), (96, .aload_n 0, 1), (97, .getfield 25, 3), (100, .iload_n 2, 1), (101, .iaload, 1), (102, .ifCond .lt 7, 3)]
set_option maxRecDepth 20000 in
theorem k_X12_kindMade_95 {sc : xm_Sc} : xm_bok (xe_cy (XE sc) 246) b_X12_kindMade_95 := by show xm_bok cX12_kindMade _; unfold xm_bok; decide +kernel
def b_X12_kindMade_105 : List (Nat × Jvm.ClassFile.Instr × Nat) := [(105, .iconst 1, 1), (106, .goto 4, 3)]
set_option maxRecDepth 20000 in
theorem k_X12_kindMade_105 {sc : xm_Sc} : xm_bok (xe_cy (XE sc) 246) b_X12_kindMade_105 := by show xm_bok cX12_kindMade _; unfold xm_bok; decide +kernel
def b_X12_kindMade_109 : List (Nat × Jvm.ClassFile.Instr × Nat) := [(109, .iconst 0, 1)]
set_option maxRecDepth 20000 in
theorem k_X12_kindMade_109 {sc : xm_Sc} : xm_bok (xe_cy (XE sc) 246) b_X12_kindMade_109 := by show xm_bok cX12_kindMade _; unfold xm_bok; decide +kernel
def b_X12_kindMade_110 : List (Nat × Jvm.ClassFile.Instr × Nat) := [(110, .istore_n 3, 1), (111, .goto 23, 3)]
set_option maxRecDepth 20000 in
theorem k_X12_kindMade_110 {sc : xm_Sc} : xm_bok (xe_cy (XE sc) 246) b_X12_kindMade_110 := by show xm_bok cX12_kindMade _; unfold xm_bok; decide +kernel
def b_X12_kindMade_114 : List (Nat × Jvm.ClassFile.Instr × Nat) := [(114, .iload_n 1, 1), (115, .bipush 10, 2), (117, .if_icmp .ne 11, 3)]
set_option maxRecDepth 20000 in
theorem k_X12_kindMade_114 {sc : xm_Sc} : xm_bok (xe_cy (XE sc) 246) b_X12_kindMade_114 := by show xm_bok cX12_kindMade _; unfold xm_bok; decide +kernel
def b_X12_kindMade_120 : List (Nat × Jvm.ClassFile.Instr × Nat) := [(120, .aload_n 0, 1), (121, .iload_n 2, 1), (122, .invokevirtual 635, 3)]
set_option maxRecDepth 20000 in
theorem k_X12_kindMade_120 {sc : xm_Sc} : xm_bok (xe_cy (XE sc) 246) b_X12_kindMade_120 := by show xm_bok cX12_kindMade _; unfold xm_bok; decide +kernel
def b_X12_kindMade_125 : List (Nat × Jvm.ClassFile.Instr × Nat) := [(125, .goto 8, 3)]
set_option maxRecDepth 20000 in
theorem k_X12_kindMade_125 {sc : xm_Sc} : xm_bok (xe_cy (XE sc) 246) b_X12_kindMade_125 := by show xm_bok cX12_kindMade _; unfold xm_bok; decide +kernel
def b_X12_kindMade_128 : List (Nat × Jvm.ClassFile.Instr × Nat) := [(128, .aload_n 0, 1), (129, .iload_n 2, 1), (130, .invokevirtual 638, 3)]
set_option maxRecDepth 20000 in
theorem k_X12_kindMade_128 {sc : xm_Sc} : xm_bok (xe_cy (XE sc) 246) b_X12_kindMade_128 := by show xm_bok cX12_kindMade _; unfold xm_bok; decide +kernel
def b_X12_kindMade_133 : List (Nat × Jvm.ClassFile.Instr × Nat) := [(133, .istore_n 3, 1)]
set_option maxRecDepth 20000 in
theorem k_X12_kindMade_133 {sc : xm_Sc} : xm_bok (xe_cy (XE sc) 246) b_X12_kindMade_133 := by show xm_bok cX12_kindMade _; unfold xm_bok; decide +kernel
def b_X12_kindMade_134 : List (Nat × Jvm.ClassFile.Instr × Nat) := [(134, .iload_n 3, 1), (135, .ifCond .eq 7, 3)]
set_option maxRecDepth 20000 in
theorem k_X12_kindMade_134 {sc : xm_Sc} : xm_bok (xe_cy (XE sc) 246) b_X12_kindMade_134 := by show xm_bok cX12_kindMade _; unfold xm_bok; decide +kernel
def b_X12_kindMade_138 : List (Nat × Jvm.ClassFile.Instr × Nat) := [(138, .iload_n 2, 1), (139, .goto 12, 3)]
set_option maxRecDepth 20000 in
theorem k_X12_kindMade_138 {sc : xm_Sc} : xm_bok (xe_cy (XE sc) 246) b_X12_kindMade_138 := by show xm_bok cX12_kindMade _; unfold xm_bok; decide +kernel
def b_X12_kindMade_142 : List (Nat × Jvm.ClassFile.Instr × Nat) := [(142, .aload_n 0, 1), (143, .iconst 1, 1), (144, .aload_n 0, 1), (145, .getfield 598, 3), (148, .invokevirtual 604, 3)]
set_option maxRecDepth 20000 in
theorem k_X12_kindMade_142 {sc : xm_Sc} : xm_bok (xe_cy (XE sc) 246) b_X12_kindMade_142 := by show xm_bok cX12_kindMade _; unfold xm_bok; decide +kernel
def b_X12_kindMade_151 : List (Nat × Jvm.ClassFile.Instr × Nat) := [(151, .ireturn, 1)]
set_option maxRecDepth 20000 in
theorem k_X12_kindMade_151 {sc : xm_Sc} : xm_bok (xe_cy (XE sc) 246) b_X12_kindMade_151 := by show xm_bok cX12_kindMade _; unfold xm_bok; decide +kernel
set_option maxRecDepth 20000 in
theorem cn_246 {sc : xm_Sc} : xe_cn (XE sc) 246 = 12 := rfl
set_option maxRecDepth 20000 in
theorem ml_246 {sc : xm_Sc} : xe_ml (XE sc) 246 = 4 := rfl
set_option maxRecDepth 20000 in
theorem ry_246 {sc : xm_Sc} : xe_ry (XE sc) 246 = (some .int) := rfl
set_option maxRecDepth 20000 in
theorem is_246 {sc : xm_Sc} : xe_is (XE sc) 246 = false := rfl
set_option maxRecDepth 20000 in
theorem np_246 {sc : xm_Sc} : xe_np (XE sc) 246 = 1 := rfl
/- method 247: X12_larger -/
def b_X12_larger_0 : List (Nat × Jvm.ClassFile.Instr × Nat) := [(0, .lload_n 0, 1), (1, .lload_n 2, 1), (2, .lcmp, 1), (3, .ifCond .le 7, 3)]
set_option maxRecDepth 20000 in
theorem k_X12_larger_0 {sc : xm_Sc} : xm_bok (xe_cy (XE sc) 247) b_X12_larger_0 := by show xm_bok cX12_larger _; unfold xm_bok; decide +kernel
def b_X12_larger_6 : List (Nat × Jvm.ClassFile.Instr × Nat) := [(6, .lload_n 0, 1), (7, .goto 4, 3)]
set_option maxRecDepth 20000 in
theorem k_X12_larger_6 {sc : xm_Sc} : xm_bok (xe_cy (XE sc) 247) b_X12_larger_6 := by show xm_bok cX12_larger _; unfold xm_bok; decide +kernel
def b_X12_larger_10 : List (Nat × Jvm.ClassFile.Instr × Nat) := [(10, .lload_n 2, 1)]
set_option maxRecDepth 20000 in
theorem k_X12_larger_10 {sc : xm_Sc} : xm_bok (xe_cy (XE sc) 247) b_X12_larger_10 := by show xm_bok cX12_larger _; unfold xm_bok; decide +kernel
def b_X12_larger_11 : List (Nat × Jvm.ClassFile.Instr × Nat) := [(11, .lreturn, 1)]
set_option maxRecDepth 20000 in
theorem k_X12_larger_11 {sc : xm_Sc} : xm_bok (xe_cy (XE sc) 247) b_X12_larger_11 := by show xm_bok cX12_larger _; unfold xm_bok; decide +kernel
set_option maxRecDepth 20000 in
theorem cn_247 {sc : xm_Sc} : xe_cn (XE sc) 247 = 12 := rfl
set_option maxRecDepth 20000 in
theorem ml_247 {sc : xm_Sc} : xe_ml (XE sc) 247 = 4 := rfl
set_option maxRecDepth 20000 in
theorem ry_247 {sc : xm_Sc} : xe_ry (XE sc) 247 = (some .long) := rfl
set_option maxRecDepth 20000 in
theorem is_247 {sc : xm_Sc} : xe_is (XE sc) 247 = true := rfl
set_option maxRecDepth 20000 in
theorem np_247 {sc : xm_Sc} : xe_np (XE sc) 247 = 2 := rfl
/- method 248: X12_leaf -/
def b_X12_leaf_0 : List (Nat × Jvm.ClassFile.Instr × Nat) := [(0, .iconst 0, 1), (1, .istore_n 2, 1)]
set_option maxRecDepth 20000 in
theorem k_X12_leaf_0 {sc : xm_Sc} : xm_bok (xe_cy (XE sc) 248) b_X12_leaf_0 := by show xm_bok cX12_leaf _; unfold xm_bok; decide +kernel
def b_X12_leaf_2 : List (Nat × Jvm.ClassFile.Instr × Nat) := [(2, .iload_n 2, 1), (3, .bipush 8, 2), (5, .if_icmp .ge 20, 3)]
set_option maxRecDepth 20000 in
theorem k_X12_leaf_2 {sc : xm_Sc} : xm_bok (xe_cy (XE sc) 248) b_X12_leaf_2 := by show xm_bok cX12_leaf _; unfold xm_bok; decide +kernel
def b_X12_leaf_8 : List (Nat × Jvm.ClassFile.Instr × Nat) := [(8, .aload_n 0, 1), (9, .getfield 151, 3), (12, .iload_n 2, 1), (13, .getstatic 317, 3), (16, .iload_n 2, 1), (17, .iaload, 1), (18, .iastore, 1), (19, .iinc 2 1, 3), (22, .goto (-20), 3)]
set_option maxRecDepth 20000 in
theorem k_X12_leaf_8 {sc : xm_Sc} : xm_bok (xe_cy (XE sc) 248) b_X12_leaf_8 := by show xm_bok cX12_leaf _; unfold xm_bok; decide +kernel
def b_X12_leaf_25 : List (Nat × Jvm.ClassFile.Instr × Nat) := [(25, .aload_n 0, 1), (26, .getfield 154, 3), (29, .iconst 0, 1), (30, .iload_n 1, 1), (31, .iastore, 1), (32, .iconst 1, 1), (33, .istore_n 2, 1)]
set_option maxRecDepth 20000 in
theorem k_X12_leaf_25 {sc : xm_Sc} : xm_bok (xe_cy (XE sc) 248) b_X12_leaf_25 := by show xm_bok cX12_leaf _; unfold xm_bok; decide +kernel
def b_X12_leaf_34 : List (Nat × Jvm.ClassFile.Instr × Nat) := [(34, .iload_n 2, 1), (35, .bipush 16, 2), (37, .if_icmp .ge 16, 3)]
set_option maxRecDepth 20000 in
theorem k_X12_leaf_34 {sc : xm_Sc} : xm_bok (xe_cy (XE sc) 248) b_X12_leaf_34 := by show xm_bok cX12_leaf _; unfold xm_bok; decide +kernel
def b_X12_leaf_40 : List (Nat × Jvm.ClassFile.Instr × Nat) := [(40, .aload_n 0, 1), (41, .getfield 154, 3), (44, .iload_n 2, 1), (45, .iconst 0, 1), (46, .iastore, 1), (47, .iinc 2 1, 3), (50, .goto (-16), 3)]
set_option maxRecDepth 20000 in
theorem k_X12_leaf_40 {sc : xm_Sc} : xm_bok (xe_cy (XE sc) 248) b_X12_leaf_40 := by show xm_bok cX12_leaf _; unfold xm_bok; decide +kernel
def b_X12_leaf_53 : List (Nat × Jvm.ClassFile.Instr × Nat) := [(53, .aload_n 0, 1), (54, .invokevirtual 320, 3)]
set_option maxRecDepth 20000 in
theorem k_X12_leaf_53 {sc : xm_Sc} : xm_bok (xe_cy (XE sc) 248) b_X12_leaf_53 := by show xm_bok cX12_leaf _; unfold xm_bok; decide +kernel
def b_X12_leaf_57 : List (Nat × Jvm.ClassFile.Instr × Nat) := [(57, .return_, 1)]
set_option maxRecDepth 20000 in
theorem k_X12_leaf_57 {sc : xm_Sc} : xm_bok (xe_cy (XE sc) 248) b_X12_leaf_57 := by show xm_bok cX12_leaf _; unfold xm_bok; decide +kernel
set_option maxRecDepth 20000 in
theorem cn_248 {sc : xm_Sc} : xe_cn (XE sc) 248 = 12 := rfl
set_option maxRecDepth 20000 in
theorem ml_248 {sc : xm_Sc} : xe_ml (XE sc) 248 = 3 := rfl
set_option maxRecDepth 20000 in
theorem ry_248 {sc : xm_Sc} : xe_ry (XE sc) 248 = none := rfl
set_option maxRecDepth 20000 in
theorem is_248 {sc : xm_Sc} : xe_is (XE sc) 248 = false := rfl
set_option maxRecDepth 20000 in
theorem np_248 {sc : xm_Sc} : xe_np (XE sc) 248 = 1 := rfl
/- method 249: X12_leafOf -/
def b_X12_leafOf_0 : List (Nat × Jvm.ClassFile.Instr × Nat) := [(0, .aload_n 0, 1), (1, .getfield 54, 3), (4, .iload_n 1, 1), (5, .iaload, 1), (6, .lookupswitch 148 #[(7, 34), (10, 73), (12, 139)], 34)]
set_option maxRecDepth 20000 in
theorem k_X12_leafOf_0 {sc : xm_Sc} : xm_bok (xe_cy (XE sc) 249) b_X12_leafOf_0 := by show xm_bok cX12_leafOf _; unfold xm_bok; decide +kernel
def b_X12_leafOf_40 : List (Nat × Jvm.ClassFile.Instr × Nat) := [(40, .iconst 0, 1), (41, .istore 4, 2)]
set_option maxRecDepth 20000 in
theorem k_X12_leafOf_40 {sc : xm_Sc} : xm_bok (xe_cy (XE sc) 249) b_X12_leafOf_40 := by show xm_bok cX12_leafOf _; unfold xm_bok; decide +kernel
def b_X12_leafOf_43 : List (Nat × Jvm.ClassFile.Instr × Nat) := [(43, .iload 4, 2), (45, .aload_n 0, 1), (46, .iload_n 1, 1), (47, .invokevirtual 403, 3)]
set_option maxRecDepth 20000 in
theorem k_X12_leafOf_43 {sc : xm_Sc} : xm_bok (xe_cy (XE sc) 249) b_X12_leafOf_43 := by show xm_bok cX12_leafOf _; unfold xm_bok; decide +kernel
def b_X12_leafOf_50 : List (Nat × Jvm.ClassFile.Instr × Nat) := [(50, .if_icmp .ge 27, 3)]
set_option maxRecDepth 20000 in
theorem k_X12_leafOf_50 {sc : xm_Sc} : xm_bok (xe_cy (XE sc) 249) b_X12_leafOf_50 := by show xm_bok cX12_leafOf _; unfold xm_bok; decide +kernel
def b_X12_leafOf_53 : List (Nat × Jvm.ClassFile.Instr × Nat) := [(53, .aload_n 0, 1), (54, .getfield 141, 3), (57, .iload_n 3, 1), (58, .iload 4, 2), (60, .iadd, 1), (61, .aload_n 0, 1), (62, .getfield 141, 3), (65, .iload_n 2, 1), (66, .iload 4, 2), (68, .iadd, 1), (69, .baload, 1), (70, .bastore, 1), (71, .iinc 4 1, 3), (74, .goto (-31), 3)]
set_option maxRecDepth 20000 in
theorem k_X12_leafOf_53 {sc : xm_Sc} : xm_bok (xe_cy (XE sc) 249) b_X12_leafOf_53 := by show xm_bok cX12_leafOf _; unfold xm_bok; decide +kernel
def b_X12_leafOf_77 : List (Nat × Jvm.ClassFile.Instr × Nat) := [(77, .iconst 1, 1), (78, .ireturn, 1)]
set_option maxRecDepth 20000 in
theorem k_X12_leafOf_77 {sc : xm_Sc} : xm_bok (xe_cy (XE sc) 249) b_X12_leafOf_77 := by show xm_bok cX12_leafOf _; unfold xm_bok; decide +kernel
def b_X12_leafOf_79 : List (Nat × Jvm.ClassFile.Instr × Nat) := [(79, .iconst 0, 1), (80, .istore 4, 2)]
set_option maxRecDepth 20000 in
theorem k_X12_leafOf_79 {sc : xm_Sc} : xm_bok (xe_cy (XE sc) 249) b_X12_leafOf_79 := by show xm_bok cX12_leafOf _; unfold xm_bok; decide +kernel
def b_X12_leafOf_82 : List (Nat × Jvm.ClassFile.Instr × Nat) := [(82, .iload 4, 2), (84, .aload_n 0, 1), (85, .iload_n 1, 1), (86, .invokevirtual 400, 3)]
set_option maxRecDepth 20000 in
theorem k_X12_leafOf_82 {sc : xm_Sc} : xm_bok (xe_cy (XE sc) 249) b_X12_leafOf_82 := by show xm_bok cX12_leafOf _; unfold xm_bok; decide +kernel
def b_X12_leafOf_89 : List (Nat × Jvm.ClassFile.Instr × Nat) := [(89, .if_icmp .ge 54, 3)]
set_option maxRecDepth 20000 in
theorem k_X12_leafOf_89 {sc : xm_Sc} : xm_bok (xe_cy (XE sc) 249) b_X12_leafOf_89 := by show xm_bok cX12_leafOf _; unfold xm_bok; decide +kernel
def b_X12_leafOf_92 : List (Nat × Jvm.ClassFile.Instr × Nat) := [(92, .aload_n 0, 1), (93, .getfield 141, 3), (96, .iload_n 3, 1), (97, .iload 4, 2), (99, .iadd, 1), (100, .aload_n 0, 1), (101, .getfield 88, 3), (104, .aload_n 0, 1), (105, .getfield 163, 3), (108, .iload_n 1, 1), (109, .iaload, 1), (110, .iload 4, 2), (112, .iadd, 1), (113, .bipush 8, 2), (115, .idiv, 1), (116, .iaload, 1), (117, .bipush 7, 2), (119, .aload_n 0, 1), (120, .getfield 163, 3), (123, .iload_n 1, 1), (124, .iaload, 1), (125, .iload 4, 2), (127, .iadd, 1), (128, .bipush 8, 2), (130, .irem, 1), (131, .isub, 1), (132, .ishr, 1), (133, .iconst 1, 1), (134, .iand, 1), (135, .i2b, 1), (136, .bastore, 1), (137, .iinc 4 1, 3), (140, .goto (-58), 3)]
set_option maxRecDepth 20000 in
theorem k_X12_leafOf_92 {sc : xm_Sc} : xm_bok (xe_cy (XE sc) 249) b_X12_leafOf_92 := by show xm_bok cX12_leafOf _; unfold xm_bok; decide +kernel
def b_X12_leafOf_143 : List (Nat × Jvm.ClassFile.Instr × Nat) := [(143, .iconst 1, 1), (144, .ireturn, 1)]
set_option maxRecDepth 20000 in
theorem k_X12_leafOf_143 {sc : xm_Sc} : xm_bok (xe_cy (XE sc) 249) b_X12_leafOf_143 := by show xm_bok cX12_leafOf _; unfold xm_bok; decide +kernel
def b_X12_leafOf_145 : List (Nat × Jvm.ClassFile.Instr × Nat) := [(145, .aload_n 0, 1), (146, .iload_n 1, 1), (147, .iload_n 2, 1), (148, .iload_n 3, 1), (149, .invokevirtual 529, 3)]
set_option maxRecDepth 20000 in
theorem k_X12_leafOf_145 {sc : xm_Sc} : xm_bok (xe_cy (XE sc) 249) b_X12_leafOf_145 := by show xm_bok cX12_leafOf _; unfold xm_bok; decide +kernel
def b_X12_leafOf_152 : List (Nat × Jvm.ClassFile.Instr × Nat) := [(152, .iconst 1, 1), (153, .ireturn, 1)]
set_option maxRecDepth 20000 in
theorem k_X12_leafOf_152 {sc : xm_Sc} : xm_bok (xe_cy (XE sc) 249) b_X12_leafOf_152 := by show xm_bok cX12_leafOf _; unfold xm_bok; decide +kernel
def b_X12_leafOf_154 : List (Nat × Jvm.ClassFile.Instr × Nat) := [(154, .aload_n 0, 1), (155, .getfield 54, 3), (158, .iload_n 1, 1), (159, .iaload, 1), (160, .bipush 8, 2), (162, .if_icmp .ne 7, 3)]
set_option maxRecDepth 20000 in
theorem k_X12_leafOf_154 {sc : xm_Sc} : xm_bok (xe_cy (XE sc) 249) b_X12_leafOf_154 := by show xm_bok cX12_leafOf _; unfold xm_bok; decide +kernel
def b_X12_leafOf_165 : List (Nat × Jvm.ClassFile.Instr × Nat) := [(165, .iconst 1, 1), (166, .goto 4, 3)]
set_option maxRecDepth 20000 in
theorem k_X12_leafOf_165 {sc : xm_Sc} : xm_bok (xe_cy (XE sc) 249) b_X12_leafOf_165 := by show xm_bok cX12_leafOf _; unfold xm_bok; decide +kernel
def b_X12_leafOf_169 : List (Nat × Jvm.ClassFile.Instr × Nat) := [(169, .iconst 0, 1)]
set_option maxRecDepth 20000 in
theorem k_X12_leafOf_169 {sc : xm_Sc} : xm_bok (xe_cy (XE sc) 249) b_X12_leafOf_169 := by show xm_bok cX12_leafOf _; unfold xm_bok; decide +kernel
def b_X12_leafOf_170 : List (Nat × Jvm.ClassFile.Instr × Nat) := [(170, .ireturn, 1)]
set_option maxRecDepth 20000 in
theorem k_X12_leafOf_170 {sc : xm_Sc} : xm_bok (xe_cy (XE sc) 249) b_X12_leafOf_170 := by show xm_bok cX12_leafOf _; unfold xm_bok; decide +kernel
set_option maxRecDepth 20000 in
theorem cn_249 {sc : xm_Sc} : xe_cn (XE sc) 249 = 12 := rfl
set_option maxRecDepth 20000 in
theorem ml_249 {sc : xm_Sc} : xe_ml (XE sc) 249 = 5 := rfl
set_option maxRecDepth 20000 in
theorem ry_249 {sc : xm_Sc} : xe_ry (XE sc) 249 = (some .boolean) := rfl
set_option maxRecDepth 20000 in
theorem is_249 {sc : xm_Sc} : xe_is (XE sc) 249 = false := rfl
set_option maxRecDepth 20000 in
theorem np_249 {sc : xm_Sc} : xe_np (XE sc) 249 = 3 := rfl
/- method 250: X12_letterOf -/
def b_X12_letterOf_0 : List (Nat × Jvm.ClassFile.Instr × Nat) := [(0, .iload_n 0, 1), (1, .bipush 97, 2), (3, .bipush 122, 2), (5, .invokestatic 211, 3)]
set_option maxRecDepth 20000 in
theorem k_X12_letterOf_0 {sc : xm_Sc} : xm_bok (xe_cy (XE sc) 250) b_X12_letterOf_0 := by show xm_bok cX12_letterOf _; unfold xm_bok; decide +kernel
def b_X12_letterOf_8 : List (Nat × Jvm.ClassFile.Instr × Nat) := [(8, .ifCond .eq 10, 3)]
set_option maxRecDepth 20000 in
theorem k_X12_letterOf_8 {sc : xm_Sc} : xm_bok (xe_cy (XE sc) 250) b_X12_letterOf_8 := by show xm_bok cX12_letterOf _; unfold xm_bok; decide +kernel
def b_X12_letterOf_11 : List (Nat × Jvm.ClassFile.Instr × Nat) := [(11, .iload_n 0, 1), (12, .bipush 96, 2), (14, .isub, 1), (15, .goto 22, 3)]
set_option maxRecDepth 20000 in
theorem k_X12_letterOf_11 {sc : xm_Sc} : xm_bok (xe_cy (XE sc) 250) b_X12_letterOf_11 := by show xm_bok cX12_letterOf _; unfold xm_bok; decide +kernel
def b_X12_letterOf_18 : List (Nat × Jvm.ClassFile.Instr × Nat) := [(18, .iload_n 0, 1), (19, .bipush 48, 2), (21, .bipush 57, 2), (23, .invokestatic 211, 3)]
set_option maxRecDepth 20000 in
theorem k_X12_letterOf_18 {sc : xm_Sc} : xm_bok (xe_cy (XE sc) 250) b_X12_letterOf_18 := by show xm_bok cX12_letterOf _; unfold xm_bok; decide +kernel
def b_X12_letterOf_26 : List (Nat × Jvm.ClassFile.Instr × Nat) := [(26, .ifCond .eq 10, 3)]
set_option maxRecDepth 20000 in
theorem k_X12_letterOf_26 {sc : xm_Sc} : xm_bok (xe_cy (XE sc) 250) b_X12_letterOf_26 := by show xm_bok cX12_letterOf _; unfold xm_bok; decide +kernel
def b_X12_letterOf_29 : List (Nat × Jvm.ClassFile.Instr × Nat) := [(29, .iload_n 0, 1), (30, .bipush 21, 2), (32, .isub, 1), (33, .goto 4, 3)]
set_option maxRecDepth 20000 in
theorem k_X12_letterOf_29 {sc : xm_Sc} : xm_bok (xe_cy (XE sc) 250) b_X12_letterOf_29 := by show xm_bok cX12_letterOf _; unfold xm_bok; decide +kernel
def b_X12_letterOf_36 : List (Nat × Jvm.ClassFile.Instr × Nat) := [(36, .iconst 0, 1)]
set_option maxRecDepth 20000 in
theorem k_X12_letterOf_36 {sc : xm_Sc} : xm_bok (xe_cy (XE sc) 250) b_X12_letterOf_36 := by show xm_bok cX12_letterOf _; unfold xm_bok; decide +kernel
def b_X12_letterOf_37 : List (Nat × Jvm.ClassFile.Instr × Nat) := [(37, .ireturn, 1)]
set_option maxRecDepth 20000 in
theorem k_X12_letterOf_37 {sc : xm_Sc} : xm_bok (xe_cy (XE sc) 250) b_X12_letterOf_37 := by show xm_bok cX12_letterOf _; unfold xm_bok; decide +kernel
set_option maxRecDepth 20000 in
theorem cn_250 {sc : xm_Sc} : xe_cn (XE sc) 250 = 12 := rfl
set_option maxRecDepth 20000 in
theorem ml_250 {sc : xm_Sc} : xe_ml (XE sc) 250 = 1 := rfl
set_option maxRecDepth 20000 in
theorem ry_250 {sc : xm_Sc} : xe_ry (XE sc) 250 = (some .int) := rfl
set_option maxRecDepth 20000 in
theorem is_250 {sc : xm_Sc} : xe_is (XE sc) 250 = true := rfl
set_option maxRecDepth 20000 in
theorem np_250 {sc : xm_Sc} : xe_np (XE sc) 250 = 1 := rfl
/- method 251: X12_load -/
def b_X12_load_0 : List (Nat × Jvm.ClassFile.Instr × Nat) := [(0, .aload_n 0, 1), (1, .iconst 0, 1), (2, .putfield 205, 3), (5, .aload_n 0, 1), (6, .aload_n 0, 1), (7, .invokevirtual 410, 3)]
set_option maxRecDepth 20000 in
theorem k_X12_load_0 {sc : xm_Sc} : xm_bok (xe_cy (XE sc) 251) b_X12_load_0 := by show xm_bok cX12_load _; unfold xm_bok; decide +kernel
def b_X12_load_10 : List (Nat × Jvm.ClassFile.Instr × Nat) := [(10, .putfield 413, 3), (13, .aload_n 0, 1), (14, .getfield 413, 3), (17, .ifCond .ne 7, 3)]
set_option maxRecDepth 20000 in
theorem k_X12_load_10 {sc : xm_Sc} : xm_bok (xe_cy (XE sc) 251) b_X12_load_10 := by show xm_bok cX12_load _; unfold xm_bok; decide +kernel
def b_X12_load_20 : List (Nat × Jvm.ClassFile.Instr × Nat) := [(20, .aload_n 0, 1), (21, .invokevirtual 416, 3)]
set_option maxRecDepth 20000 in
theorem k_X12_load_20 {sc : xm_Sc} : xm_bok (xe_cy (XE sc) 251) b_X12_load_20 := by show xm_bok cX12_load _; unfold xm_bok; decide +kernel
def b_X12_load_24 : List (Nat × Jvm.ClassFile.Instr × Nat) := [(24, .aload_n 0, 1), (25, .iconst 0, 1), (26, .putfield 215, 3), (29, .aload_n 0, 1), (30, .getfield 413, 3), (33, .ireturn, 1)]
set_option maxRecDepth 20000 in
theorem k_X12_load_24 {sc : xm_Sc} : xm_bok (xe_cy (XE sc) 251) b_X12_load_24 := by show xm_bok cX12_load _; unfold xm_bok; decide +kernel
set_option maxRecDepth 20000 in
theorem cn_251 {sc : xm_Sc} : xe_cn (XE sc) 251 = 12 := rfl
set_option maxRecDepth 20000 in
theorem ml_251 {sc : xm_Sc} : xe_ml (XE sc) 251 = 1 := rfl
set_option maxRecDepth 20000 in
theorem ry_251 {sc : xm_Sc} : xe_ry (XE sc) 251 = (some .int) := rfl
set_option maxRecDepth 20000 in
theorem is_251 {sc : xm_Sc} : xe_is (XE sc) 251 = false := rfl
set_option maxRecDepth 20000 in
theorem np_251 {sc : xm_Sc} : xe_np (XE sc) 251 = 0 := rfl
/- method 252: X12_look -/
def b_X12_look_0 : List (Nat × Jvm.ClassFile.Instr × Nat) := [(0, .aload_n 0, 1), (1, .iload_n 1, 1), (2, .iconst 0, 1), (3, .bipush 14, 2), (5, .invokestatic 211, 3)]
set_option maxRecDepth 20000 in
theorem k_X12_look_0 {sc : xm_Sc} : xm_bok (xe_cy (XE sc) 252) b_X12_look_0 := by show xm_bok cX12_look _; unfold xm_bok; decide +kernel
def b_X12_look_8 : List (Nat × Jvm.ClassFile.Instr × Nat) := [(8, .ifCond .eq 7, 3)]
set_option maxRecDepth 20000 in
theorem k_X12_look_8 {sc : xm_Sc} : xm_bok (xe_cy (XE sc) 252) b_X12_look_8 := by show xm_bok cX12_look _; unfold xm_bok; decide +kernel
def b_X12_look_11 : List (Nat × Jvm.ClassFile.Instr × Nat) := [(11, .iconst 0, 1), (12, .goto 4, 3)]
set_option maxRecDepth 20000 in
theorem k_X12_look_11 {sc : xm_Sc} : xm_bok (xe_cy (XE sc) 252) b_X12_look_11 := by show xm_bok cX12_look _; unfold xm_bok; decide +kernel
def b_X12_look_15 : List (Nat × Jvm.ClassFile.Instr × Nat) := [(15, .iconst 1, 1)]
set_option maxRecDepth 20000 in
theorem k_X12_look_15 {sc : xm_Sc} : xm_bok (xe_cy (XE sc) 252) b_X12_look_15 := by show xm_bok cX12_look _; unfold xm_bok; decide +kernel
def b_X12_look_16 : List (Nat × Jvm.ClassFile.Instr × Nat) := [(16, .putfield 205, 3), (19, .aload_n 0, 1), (20, .getfield 205, 3), (23, .ifCond .le 5, 3)]
set_option maxRecDepth 20000 in
theorem k_X12_look_16 {sc : xm_Sc} : xm_bok (xe_cy (XE sc) 252) b_X12_look_16 := by show xm_bok cX12_look _; unfold xm_bok; decide +kernel
def b_X12_look_26 : List (Nat × Jvm.ClassFile.Instr × Nat) := [(26, .iconst 0, 1), (27, .ireturn, 1)]
set_option maxRecDepth 20000 in
theorem k_X12_look_26 {sc : xm_Sc} : xm_bok (xe_cy (XE sc) 252) b_X12_look_26 := by show xm_bok cX12_look _; unfold xm_bok; decide +kernel
def b_X12_look_28 : List (Nat × Jvm.ClassFile.Instr × Nat) := [(28, .aload_n 0, 1), (29, .getfield 378, 3), (32, .iconst 1, 1), (33, .isub, 1), (34, .istore_n 2, 1), (35, .iload_n 1, 1), (36, .tableswitch 216 0 13 #[72, 77, 94, 111, 128, 154, 173, 178, 183, 188, 193, 198, 204, 210], 72)]
set_option maxRecDepth 20000 in
theorem k_X12_look_28 {sc : xm_Sc} : xm_bok (xe_cy (XE sc) 252) b_X12_look_28 := by show xm_bok cX12_look _; unfold xm_bok; decide +kernel
def b_X12_look_108 : List (Nat × Jvm.ClassFile.Instr × Nat) := [(108, .aload_n 0, 1), (109, .getfield 378, 3), (112, .ireturn, 1)]
set_option maxRecDepth 20000 in
theorem k_X12_look_108 {sc : xm_Sc} : xm_bok (xe_cy (XE sc) 252) b_X12_look_108 := by show xm_bok cX12_look _; unfold xm_bok; decide +kernel
def b_X12_look_113 : List (Nat × Jvm.ClassFile.Instr × Nat) := [(113, .aload_n 0, 1), (114, .getfield 378, 3), (117, .ifCond .le 11, 3)]
set_option maxRecDepth 20000 in
theorem k_X12_look_113 {sc : xm_Sc} : xm_bok (xe_cy (XE sc) 252) b_X12_look_113 := by show xm_bok cX12_look _; unfold xm_bok; decide +kernel
def b_X12_look_120 : List (Nat × Jvm.ClassFile.Instr × Nat) := [(120, .aload_n 0, 1), (121, .iload_n 2, 1), (122, .invokevirtual 403, 3)]
set_option maxRecDepth 20000 in
theorem k_X12_look_120 {sc : xm_Sc} : xm_bok (xe_cy (XE sc) 252) b_X12_look_120 := by show xm_bok cX12_look _; unfold xm_bok; decide +kernel
def b_X12_look_125 : List (Nat × Jvm.ClassFile.Instr × Nat) := [(125, .goto 4, 3)]
set_option maxRecDepth 20000 in
theorem k_X12_look_125 {sc : xm_Sc} : xm_bok (xe_cy (XE sc) 252) b_X12_look_125 := by show xm_bok cX12_look _; unfold xm_bok; decide +kernel
def b_X12_look_128 : List (Nat × Jvm.ClassFile.Instr × Nat) := [(128, .iconst 0, 1)]
set_option maxRecDepth 20000 in
theorem k_X12_look_128 {sc : xm_Sc} : xm_bok (xe_cy (XE sc) 252) b_X12_look_128 := by show xm_bok cX12_look _; unfold xm_bok; decide +kernel
def b_X12_look_129 : List (Nat × Jvm.ClassFile.Instr × Nat) := [(129, .ireturn, 1)]
set_option maxRecDepth 20000 in
theorem k_X12_look_129 {sc : xm_Sc} : xm_bok (xe_cy (XE sc) 252) b_X12_look_129 := by show xm_bok cX12_look _; unfold xm_bok; decide +kernel
def b_X12_look_130 : List (Nat × Jvm.ClassFile.Instr × Nat) := [(130, .aload_n 0, 1), (131, .getfield 378, 3), (134, .ifCond .le 11, 3)]
set_option maxRecDepth 20000 in
theorem k_X12_look_130 {sc : xm_Sc} : xm_bok (xe_cy (XE sc) 252) b_X12_look_130 := by show xm_bok cX12_look _; unfold xm_bok; decide +kernel
def b_X12_look_137 : List (Nat × Jvm.ClassFile.Instr × Nat) := [(137, .aload_n 0, 1), (138, .iload_n 2, 1), (139, .invokevirtual 400, 3)]
set_option maxRecDepth 20000 in
theorem k_X12_look_137 {sc : xm_Sc} : xm_bok (xe_cy (XE sc) 252) b_X12_look_137 := by show xm_bok cX12_look _; unfold xm_bok; decide +kernel
def b_X12_look_142 : List (Nat × Jvm.ClassFile.Instr × Nat) := [(142, .goto 4, 3)]
set_option maxRecDepth 20000 in
theorem k_X12_look_142 {sc : xm_Sc} : xm_bok (xe_cy (XE sc) 252) b_X12_look_142 := by show xm_bok cX12_look _; unfold xm_bok; decide +kernel
def b_X12_look_145 : List (Nat × Jvm.ClassFile.Instr × Nat) := [(145, .iconst 0, 1)]
set_option maxRecDepth 20000 in
theorem k_X12_look_145 {sc : xm_Sc} : xm_bok (xe_cy (XE sc) 252) b_X12_look_145 := by show xm_bok cX12_look _; unfold xm_bok; decide +kernel
def b_X12_look_146 : List (Nat × Jvm.ClassFile.Instr × Nat) := [(146, .ireturn, 1)]
set_option maxRecDepth 20000 in
theorem k_X12_look_146 {sc : xm_Sc} : xm_bok (xe_cy (XE sc) 252) b_X12_look_146 := by show xm_bok cX12_look _; unfold xm_bok; decide +kernel
def b_X12_look_147 : List (Nat × Jvm.ClassFile.Instr × Nat) := [(147, .aload_n 0, 1), (148, .getfield 378, 3), (151, .ifCond .le 11, 3)]
set_option maxRecDepth 20000 in
theorem k_X12_look_147 {sc : xm_Sc} : xm_bok (xe_cy (XE sc) 252) b_X12_look_147 := by show xm_bok cX12_look _; unfold xm_bok; decide +kernel
def b_X12_look_154 : List (Nat × Jvm.ClassFile.Instr × Nat) := [(154, .aload_n 0, 1), (155, .invokevirtual 537, 3)]
set_option maxRecDepth 20000 in
theorem k_X12_look_154 {sc : xm_Sc} : xm_bok (xe_cy (XE sc) 252) b_X12_look_154 := by show xm_bok cX12_look _; unfold xm_bok; decide +kernel
def b_X12_look_158 : List (Nat × Jvm.ClassFile.Instr × Nat) := [(158, .l2i, 1), (159, .goto 4, 3)]
set_option maxRecDepth 20000 in
theorem k_X12_look_158 {sc : xm_Sc} : xm_bok (xe_cy (XE sc) 252) b_X12_look_158 := by show xm_bok cX12_look _; unfold xm_bok; decide +kernel
def b_X12_look_162 : List (Nat × Jvm.ClassFile.Instr × Nat) := [(162, .iconst 0, 1)]
set_option maxRecDepth 20000 in
theorem k_X12_look_162 {sc : xm_Sc} : xm_bok (xe_cy (XE sc) 252) b_X12_look_162 := by show xm_bok cX12_look _; unfold xm_bok; decide +kernel
def b_X12_look_163 : List (Nat × Jvm.ClassFile.Instr × Nat) := [(163, .ireturn, 1)]
set_option maxRecDepth 20000 in
theorem k_X12_look_163 {sc : xm_Sc} : xm_bok (xe_cy (XE sc) 252) b_X12_look_163 := by show xm_bok cX12_look _; unfold xm_bok; decide +kernel
def b_X12_look_164 : List (Nat × Jvm.ClassFile.Instr × Nat) := [(164, .aload_n 0, 1), (165, .getfield 378, 3), (168, .ifCond .le 20, 3)]
set_option maxRecDepth 20000 in
theorem k_X12_look_164 {sc : xm_Sc} : xm_bok (xe_cy (XE sc) 252) b_X12_look_164 := by show xm_bok cX12_look _; unfold xm_bok; decide +kernel
def b_X12_look_171 : List (Nat × Jvm.ClassFile.Instr × Nat) := [(171, .aload_n 0, 1), (172, .getfield 82, 3), (175, .iload_n 2, 1), (176, .laload, 1), (177, .ldc2_w 550, 3), (180, .ladd, 1), (181, .invokestatic 406, 3)]
set_option maxRecDepth 20000 in
theorem k_X12_look_171 {sc : xm_Sc} : xm_bok (xe_cy (XE sc) 252) b_X12_look_171 := by show xm_bok cX12_look _; unfold xm_bok; decide +kernel
def b_X12_look_184 : List (Nat × Jvm.ClassFile.Instr × Nat) := [(184, .l2i, 1), (185, .goto 4, 3)]
set_option maxRecDepth 20000 in
theorem k_X12_look_184 {sc : xm_Sc} : xm_bok (xe_cy (XE sc) 252) b_X12_look_184 := by show xm_bok cX12_look _; unfold xm_bok; decide +kernel
def b_X12_look_188 : List (Nat × Jvm.ClassFile.Instr × Nat) := [(188, .iconst 0, 1)]
set_option maxRecDepth 20000 in
theorem k_X12_look_188 {sc : xm_Sc} : xm_bok (xe_cy (XE sc) 252) b_X12_look_188 := by show xm_bok cX12_look _; unfold xm_bok; decide +kernel
def b_X12_look_189 : List (Nat × Jvm.ClassFile.Instr × Nat) := [(189, .ireturn, 1)]
set_option maxRecDepth 20000 in
theorem k_X12_look_189 {sc : xm_Sc} : xm_bok (xe_cy (XE sc) 252) b_X12_look_189 := by show xm_bok cX12_look _; unfold xm_bok; decide +kernel
def b_X12_look_190 : List (Nat × Jvm.ClassFile.Instr × Nat) := [(190, .aload_n 0, 1), (191, .getfield 378, 3), (194, .ifCond .le 13, 3)]
set_option maxRecDepth 20000 in
theorem k_X12_look_190 {sc : xm_Sc} : xm_bok (xe_cy (XE sc) 252) b_X12_look_190 := by show xm_bok cX12_look _; unfold xm_bok; decide +kernel
def b_X12_look_197 : List (Nat × Jvm.ClassFile.Instr × Nat) := [(197, .aload_n 0, 1), (198, .getfield 85, 3), (201, .iload_n 2, 1), (202, .laload, 1), (203, .l2i, 1), (204, .goto 4, 3)]
set_option maxRecDepth 20000 in
theorem k_X12_look_197 {sc : xm_Sc} : xm_bok (xe_cy (XE sc) 252) b_X12_look_197 := by show xm_bok cX12_look _; unfold xm_bok; decide +kernel
def b_X12_look_207 : List (Nat × Jvm.ClassFile.Instr × Nat) := [(207, .iconst 0, 1)]
set_option maxRecDepth 20000 in
theorem k_X12_look_207 {sc : xm_Sc} : xm_bok (xe_cy (XE sc) 252) b_X12_look_207 := by show xm_bok cX12_look _; unfold xm_bok; decide +kernel
def b_X12_look_208 : List (Nat × Jvm.ClassFile.Instr × Nat) := [(208, .ireturn, 1)]
set_option maxRecDepth 20000 in
theorem k_X12_look_208 {sc : xm_Sc} : xm_bok (xe_cy (XE sc) 252) b_X12_look_208 := by show xm_bok cX12_look _; unfold xm_bok; decide +kernel
def b_X12_look_209 : List (Nat × Jvm.ClassFile.Instr × Nat) := [(209, .aload_n 0, 1), (210, .getfield 357, 3), (213, .ireturn, 1)]
set_option maxRecDepth 20000 in
theorem k_X12_look_209 {sc : xm_Sc} : xm_bok (xe_cy (XE sc) 252) b_X12_look_209 := by show xm_bok cX12_look _; unfold xm_bok; decide +kernel
def b_X12_look_214 : List (Nat × Jvm.ClassFile.Instr × Nat) := [(214, .aload_n 0, 1), (215, .getfield 215, 3), (218, .ireturn, 1)]
set_option maxRecDepth 20000 in
theorem k_X12_look_214 {sc : xm_Sc} : xm_bok (xe_cy (XE sc) 252) b_X12_look_214 := by show xm_bok cX12_look _; unfold xm_bok; decide +kernel
def b_X12_look_219 : List (Nat × Jvm.ClassFile.Instr × Nat) := [(219, .aload_n 0, 1), (220, .getfield 220, 3), (223, .ireturn, 1)]
set_option maxRecDepth 20000 in
theorem k_X12_look_219 {sc : xm_Sc} : xm_bok (xe_cy (XE sc) 252) b_X12_look_219 := by show xm_bok cX12_look _; unfold xm_bok; decide +kernel
def b_X12_look_224 : List (Nat × Jvm.ClassFile.Instr × Nat) := [(224, .aload_n 0, 1), (225, .getfield 413, 3), (228, .ireturn, 1)]
set_option maxRecDepth 20000 in
theorem k_X12_look_224 {sc : xm_Sc} : xm_bok (xe_cy (XE sc) 252) b_X12_look_224 := by show xm_bok cX12_look _; unfold xm_bok; decide +kernel
def b_X12_look_229 : List (Nat × Jvm.ClassFile.Instr × Nat) := [(229, .aload_n 0, 1), (230, .getfield 544, 3), (233, .ireturn, 1)]
set_option maxRecDepth 20000 in
theorem k_X12_look_229 {sc : xm_Sc} : xm_bok (xe_cy (XE sc) 252) b_X12_look_229 := by show xm_bok cX12_look _; unfold xm_bok; decide +kernel
def b_X12_look_234 : List (Nat × Jvm.ClassFile.Instr × Nat) := [(234, .aload_n 0, 1), (235, .getfield 547, 3), (238, .l2i, 1), (239, .ireturn, 1)]
set_option maxRecDepth 20000 in
theorem k_X12_look_234 {sc : xm_Sc} : xm_bok (xe_cy (XE sc) 252) b_X12_look_234 := by show xm_bok cX12_look _; unfold xm_bok; decide +kernel
def b_X12_look_240 : List (Nat × Jvm.ClassFile.Instr × Nat) := [(240, .aload_n 0, 1), (241, .getfield 552, 3), (244, .l2i, 1), (245, .ireturn, 1)]
set_option maxRecDepth 20000 in
theorem k_X12_look_240 {sc : xm_Sc} : xm_bok (xe_cy (XE sc) 252) b_X12_look_240 := by show xm_bok cX12_look _; unfold xm_bok; decide +kernel
def b_X12_look_246 : List (Nat × Jvm.ClassFile.Instr × Nat) := [(246, .aload_n 0, 1), (247, .getfield 555, 3), (250, .l2i, 1), (251, .ireturn, 1)]
set_option maxRecDepth 20000 in
theorem k_X12_look_246 {sc : xm_Sc} : xm_bok (xe_cy (XE sc) 252) b_X12_look_246 := by show xm_bok cX12_look _; unfold xm_bok; decide +kernel
def b_X12_look_252 : List (Nat × Jvm.ClassFile.Instr × Nat) := [(252, .aload_n 0, 1), (253, .getfield 577, 3), (256, .ireturn, 1)]
set_option maxRecDepth 20000 in
theorem k_X12_look_252 {sc : xm_Sc} : xm_bok (xe_cy (XE sc) 252) b_X12_look_252 := by show xm_bok cX12_look _; unfold xm_bok; decide +kernel
set_option maxRecDepth 20000 in
theorem cn_252 {sc : xm_Sc} : xe_cn (XE sc) 252 = 12 := rfl
set_option maxRecDepth 20000 in
theorem ml_252 {sc : xm_Sc} : xe_ml (XE sc) 252 = 3 := rfl
set_option maxRecDepth 20000 in
theorem ry_252 {sc : xm_Sc} : xe_ry (XE sc) 252 = (some .int) := rfl
set_option maxRecDepth 20000 in
theorem is_252 {sc : xm_Sc} : xe_is (XE sc) 252 = false := rfl
set_option maxRecDepth 20000 in
theorem np_252 {sc : xm_Sc} : xe_np (XE sc) 252 = 1 := rfl
/- method 253: X12_madeNode -/
def b_X12_madeNode_0 : List (Nat × Jvm.ClassFile.Instr × Nat) := [(0, .aload_n 0, 1), (1, .getfield 223, 3), (4, .sipush 2000, 3), (7, .if_icmp .ne 13, 3)]
set_option maxRecDepth 20000 in
theorem k_X12_madeNode_0 {sc : xm_Sc} : xm_bok (xe_cy (XE sc) 253) b_X12_madeNode_0 := by show xm_bok cX12_madeNode _; unfold xm_bok; decide +kernel
def b_X12_madeNode_10 : List (Nat × Jvm.ClassFile.Instr × Nat) := [(10, .aload_n 0, 1), (11, .iconst 3, 1), (12, .aload_n 0, 1), (13, .getfield 598, 3), (16, .invokevirtual 604, 3)]
set_option maxRecDepth 20000 in
theorem k_X12_madeNode_10 {sc : xm_Sc} : xm_bok (xe_cy (XE sc) 253) b_X12_madeNode_10 := by show xm_bok cX12_madeNode _; unfold xm_bok; decide +kernel
def b_X12_madeNode_19 : List (Nat × Jvm.ClassFile.Instr × Nat) := [(19, .ireturn, 1)]
set_option maxRecDepth 20000 in
theorem k_X12_madeNode_19 {sc : xm_Sc} : xm_bok (xe_cy (XE sc) 253) b_X12_madeNode_19 := by show xm_bok cX12_madeNode _; unfold xm_bok; decide +kernel
def b_X12_madeNode_20 : List (Nat × Jvm.ClassFile.Instr × Nat) := [(20, .aload_n 0, 1), (21, .getfield 223, 3), (24, .istore_n 2, 1), (25, .aload_n 0, 1), (26, .dup, 1), (27, .getfield 223, 3), (30, .iconst 1, 1), (31, .iadd, 1), (32, .putfield 223, 3), (35, .aload_n 0, 1), (36, .getfield 16, 3), (39, .iload_n 2, 1), (40, .iload_n 1, 1), (41, .iastore, 1), (42, .aload_n 0, 1), (43, .getfield 19, 3), (46, .iload_n 2, 1), (47, .iconst (-1), 1), (48, .iastore, 1), (49, .aload_n 0, 1), (50, .getfield 22, 3), (53, .iload_n 2, 1), (54, .iconst (-1), 1), (55, .iastore, 1), (56, .aload_n 0, 1), (57, .getfield 25, 3), (60, .iload_n 2, 1), (61, .iconst 0, 1), (62, .iastore, 1), (63, .aload_n 0, 1), (64, .getfield 28, 3), (67, .iload_n 2, 1), (68, .iconst 0, 1), (69, .iastore, 1), (70, .iload_n 2, 1), (71, .ireturn, 1)]
set_option maxRecDepth 20000 in
theorem k_X12_madeNode_20 {sc : xm_Sc} : xm_bok (xe_cy (XE sc) 253) b_X12_madeNode_20 := by show xm_bok cX12_madeNode _; unfold xm_bok; decide +kernel
set_option maxRecDepth 20000 in
theorem cn_253 {sc : xm_Sc} : xe_cn (XE sc) 253 = 12 := rfl
set_option maxRecDepth 20000 in
theorem ml_253 {sc : xm_Sc} : xe_ml (XE sc) 253 = 3 := rfl
set_option maxRecDepth 20000 in
theorem ry_253 {sc : xm_Sc} : xe_ry (XE sc) 253 = (some .int) := rfl
set_option maxRecDepth 20000 in
theorem is_253 {sc : xm_Sc} : xe_is (XE sc) 253 = false := rfl
set_option maxRecDepth 20000 in
theorem np_253 {sc : xm_Sc} : xe_np (XE sc) 253 = 1 := rfl
/- method 254: X12_make -/
def b_X12_make_0 : List (Nat × Jvm.ClassFile.Instr × Nat) := [(0, .aload_n 0, 1), (1, .getfield 289, 3), (4, .sipush 8193, 3), (7, .if_icmp .ge 23, 3)]
set_option maxRecDepth 20000 in
theorem k_X12_make_0 {sc : xm_Sc} : xm_bok (xe_cy (XE sc) 254) b_X12_make_0 := by show xm_bok cX12_make _; unfold xm_bok; decide +kernel
def b_X12_make_10 : List (Nat × Jvm.ClassFile.Instr × Nat) := [(10, .aload_n 0, 1), (11, .getfield 148, 3), (14, .aload_n 0, 1), (15, .getfield 289, 3), (18, .iload_n 1, 1), (19, .iastore, 1), (20, .aload_n 0, 1), (21, .dup, 1), (22, .getfield 289, 3), (25, .iconst 1, 1), (26, .iadd, 1), (27, .putfield 289, 3)]
set_option maxRecDepth 20000 in
theorem k_X12_make_10 {sc : xm_Sc} : xm_bok (xe_cy (XE sc) 254) b_X12_make_10 := by show xm_bok cX12_make _; unfold xm_bok; decide +kernel
def b_X12_make_30 : List (Nat × Jvm.ClassFile.Instr × Nat) := [(30, .return_, 1)]
set_option maxRecDepth 20000 in
theorem k_X12_make_30 {sc : xm_Sc} : xm_bok (xe_cy (XE sc) 254) b_X12_make_30 := by show xm_bok cX12_make _; unfold xm_bok; decide +kernel
set_option maxRecDepth 20000 in
theorem cn_254 {sc : xm_Sc} : xe_cn (XE sc) 254 = 12 := rfl
set_option maxRecDepth 20000 in
theorem ml_254 {sc : xm_Sc} : xe_ml (XE sc) 254 = 2 := rfl
set_option maxRecDepth 20000 in
theorem ry_254 {sc : xm_Sc} : xe_ry (XE sc) 254 = none := rfl
set_option maxRecDepth 20000 in
theorem is_254 {sc : xm_Sc} : xe_is (XE sc) 254 = false := rfl
set_option maxRecDepth 20000 in
theorem np_254 {sc : xm_Sc} : xe_np (XE sc) 254 = 1 := rfl
/- method 255: X12_makeLine -/
def b_X12_makeLine_0 : List (Nat × Jvm.ClassFile.Instr × Nat) := [(0, .aload_n 0, 1), (1, .getfield 54, 3), (4, .iload_n 1, 1), (5, .iaload, 1), (6, .istore_n 2, 1), (7, .aload_n 0, 1), (8, .iload_n 1, 1), (9, .invokevirtual 583, 3)]
set_option maxRecDepth 20000 in
theorem k_X12_makeLine_0 {sc : xm_Sc} : xm_bok (xe_cy (XE sc) 255) b_X12_makeLine_0 := by show xm_bok cX12_makeLine _; unfold xm_bok; decide +kernel
def b_X12_makeLine_12 : List (Nat × Jvm.ClassFile.Instr × Nat) := [(12, .aload_n 0, 1), (13, .bipush 32, 2), (15, .invokevirtual 296, 3)]
set_option maxRecDepth 20000 in
theorem k_X12_makeLine_12 {sc : xm_Sc} : xm_bok (xe_cy (XE sc) 255) b_X12_makeLine_12 := by show xm_bok cX12_makeLine _; unfold xm_bok; decide +kernel
def b_X12_makeLine_18 : List (Nat × Jvm.ClassFile.Instr × Nat) := [(18, .aload_n 0, 1), (19, .bipush 61, 2), (21, .invokevirtual 296, 3)]
set_option maxRecDepth 20000 in
theorem k_X12_makeLine_18 {sc : xm_Sc} : xm_bok (xe_cy (XE sc) 255) b_X12_makeLine_18 := by show xm_bok cX12_makeLine _; unfold xm_bok; decide +kernel
def b_X12_makeLine_24 : List (Nat × Jvm.ClassFile.Instr × Nat) := [(24, .aload_n 0, 1), (25, .bipush 32, 2), (27, .invokevirtual 296, 3)]
set_option maxRecDepth 20000 in
theorem k_X12_makeLine_24 {sc : xm_Sc} : xm_bok (xe_cy (XE sc) 255) b_X12_makeLine_24 := by show xm_bok cX12_makeLine _; unfold xm_bok; decide +kernel
def b_X12_makeLine_30 : List (Nat × Jvm.ClassFile.Instr × Nat) := [(30, .aload_n 0, 1), (31, .iload_n 2, 1), (32, .invokevirtual 586, 3)]
set_option maxRecDepth 20000 in
theorem k_X12_makeLine_30 {sc : xm_Sc} : xm_bok (xe_cy (XE sc) 255) b_X12_makeLine_30 := by show xm_bok cX12_makeLine _; unfold xm_bok; decide +kernel
def b_X12_makeLine_35 : List (Nat × Jvm.ClassFile.Instr × Nat) := [(35, .iload_n 2, 1), (36, .bipush 6, 2), (38, .if_icmp .gt 19, 3)]
set_option maxRecDepth 20000 in
theorem k_X12_makeLine_35 {sc : xm_Sc} : xm_bok (xe_cy (XE sc) 255) b_X12_makeLine_35 := by show xm_bok cX12_makeLine _; unfold xm_bok; decide +kernel
def b_X12_makeLine_41 : List (Nat × Jvm.ClassFile.Instr × Nat) := [(41, .aload_n 0, 1), (42, .bipush 32, 2), (44, .invokevirtual 296, 3)]
set_option maxRecDepth 20000 in
theorem k_X12_makeLine_41 {sc : xm_Sc} : xm_bok (xe_cy (XE sc) 255) b_X12_makeLine_41 := by show xm_bok cX12_makeLine _; unfold xm_bok; decide +kernel
def b_X12_makeLine_47 : List (Nat × Jvm.ClassFile.Instr × Nat) := [(47, .aload_n 0, 1), (48, .aload_n 0, 1), (49, .getfield 57, 3), (52, .iload_n 1, 1), (53, .iaload, 1), (54, .invokevirtual 583, 3)]
set_option maxRecDepth 20000 in
theorem k_X12_makeLine_47 {sc : xm_Sc} : xm_bok (xe_cy (XE sc) 255) b_X12_makeLine_47 := by show xm_bok cX12_makeLine _; unfold xm_bok; decide +kernel
def b_X12_makeLine_57 : List (Nat × Jvm.ClassFile.Instr × Nat) := [(57, .iload_n 2, 1), (58, .iconst 2, 1), (59, .if_icmp .le 9, 3)]
set_option maxRecDepth 20000 in
theorem k_X12_makeLine_57 {sc : xm_Sc} : xm_bok (xe_cy (XE sc) 255) b_X12_makeLine_57 := by show xm_bok cX12_makeLine _; unfold xm_bok; decide +kernel
def b_X12_makeLine_62 : List (Nat × Jvm.ClassFile.Instr × Nat) := [(62, .iload_n 2, 1), (63, .bipush 10, 2), (65, .if_icmp .lt 9, 3)]
set_option maxRecDepth 20000 in
theorem k_X12_makeLine_62 {sc : xm_Sc} : xm_bok (xe_cy (XE sc) 255) b_X12_makeLine_62 := by show xm_bok cX12_makeLine _; unfold xm_bok; decide +kernel
def b_X12_makeLine_68 : List (Nat × Jvm.ClassFile.Instr × Nat) := [(68, .aload_n 0, 1), (69, .bipush 32, 2), (71, .invokevirtual 296, 3)]
set_option maxRecDepth 20000 in
theorem k_X12_makeLine_68 {sc : xm_Sc} : xm_bok (xe_cy (XE sc) 255) b_X12_makeLine_68 := by show xm_bok cX12_makeLine _; unfold xm_bok; decide +kernel
def b_X12_makeLine_74 : List (Nat × Jvm.ClassFile.Instr × Nat) := [(74, .iload_n 2, 1), (75, .iconst 2, 1), (76, .if_icmp .gt 13, 3)]
set_option maxRecDepth 20000 in
theorem k_X12_makeLine_74 {sc : xm_Sc} : xm_bok (xe_cy (XE sc) 255) b_X12_makeLine_74 := by show xm_bok cX12_makeLine _; unfold xm_bok; decide +kernel
def b_X12_makeLine_79 : List (Nat × Jvm.ClassFile.Instr × Nat) := [(79, .aload_n 0, 1), (80, .aload_n 0, 1), (81, .getfield 60, 3), (84, .iload_n 1, 1), (85, .iaload, 1), (86, .invokevirtual 583, 3)]
set_option maxRecDepth 20000 in
theorem k_X12_makeLine_79 {sc : xm_Sc} : xm_bok (xe_cy (XE sc) 255) b_X12_makeLine_79 := by show xm_bok cX12_makeLine _; unfold xm_bok; decide +kernel
def b_X12_makeLine_89 : List (Nat × Jvm.ClassFile.Instr × Nat) := [(89, .iload_n 2, 1), (90, .bipush 12, 2), (92, .if_icmp .ne 13, 3)]
set_option maxRecDepth 20000 in
theorem k_X12_makeLine_89 {sc : xm_Sc} : xm_bok (xe_cy (XE sc) 255) b_X12_makeLine_89 := by show xm_bok cX12_makeLine _; unfold xm_bok; decide +kernel
def b_X12_makeLine_95 : List (Nat × Jvm.ClassFile.Instr × Nat) := [(95, .aload_n 0, 1), (96, .aload_n 0, 1), (97, .getfield 63, 3), (100, .iload_n 1, 1), (101, .iaload, 1), (102, .invokevirtual 580, 3)]
set_option maxRecDepth 20000 in
theorem k_X12_makeLine_95 {sc : xm_Sc} : xm_bok (xe_cy (XE sc) 255) b_X12_makeLine_95 := by show xm_bok cX12_makeLine _; unfold xm_bok; decide +kernel
def b_X12_makeLine_105 : List (Nat × Jvm.ClassFile.Instr × Nat) := [(105, .iconst 0, 1), (106, .istore_n 3, 1)]
set_option maxRecDepth 20000 in
theorem k_X12_makeLine_105 {sc : xm_Sc} : xm_bok (xe_cy (XE sc) 255) b_X12_makeLine_105 := by show xm_bok cX12_makeLine _; unfold xm_bok; decide +kernel
def b_X12_makeLine_107 : List (Nat × Jvm.ClassFile.Instr × Nat) := [(107, .iload_n 2, 1), (108, .bipush 11, 2), (110, .if_icmp .ne 49, 3)]
set_option maxRecDepth 20000 in
theorem k_X12_makeLine_107 {sc : xm_Sc} : xm_bok (xe_cy (XE sc) 255) b_X12_makeLine_107 := by show xm_bok cX12_makeLine _; unfold xm_bok; decide +kernel
def b_X12_makeLine_113 : List (Nat × Jvm.ClassFile.Instr × Nat) := [(113, .iload_n 3, 1), (114, .bipush 64, 2), (116, .if_icmp .ge 43, 3)]
set_option maxRecDepth 20000 in
theorem k_X12_makeLine_113 {sc : xm_Sc} : xm_bok (xe_cy (XE sc) 255) b_X12_makeLine_113 := by show xm_bok cX12_makeLine _; unfold xm_bok; decide +kernel
def b_X12_makeLine_119 : List (Nat × Jvm.ClassFile.Instr × Nat) := [(119, .aload_n 0, 1), (120, .aload_n 0, 1), (121, .getfield 66, 3), (124, .bipush 8, 2), (126, .iload_n 1, 1), (127, .imul, 1), (128, .iload_n 3, 1), (129, .bipush 8, 2), (131, .idiv, 1), (132, .iadd, 1), (133, .iaload, 1), (134, .bipush 28, 2), (136, .iconst 4, 1), (137, .iload_n 3, 1), (138, .bipush 8, 2), (140, .irem, 1), (141, .imul, 1), (142, .isub, 1), (143, .ishr, 1), (144, .bipush 15, 2), (146, .iand, 1), (147, .invokestatic 299, 3)]
set_option maxRecDepth 20000 in
theorem k_X12_makeLine_119 {sc : xm_Sc} : xm_bok (xe_cy (XE sc) 255) b_X12_makeLine_119 := by show xm_bok cX12_makeLine _; unfold xm_bok; decide +kernel
def b_X12_makeLine_150 : List (Nat × Jvm.ClassFile.Instr × Nat) := [(150, .invokevirtual 296, 3)]
set_option maxRecDepth 20000 in
theorem k_X12_makeLine_150 {sc : xm_Sc} : xm_bok (xe_cy (XE sc) 255) b_X12_makeLine_150 := by show xm_bok cX12_makeLine _; unfold xm_bok; decide +kernel
def b_X12_makeLine_153 : List (Nat × Jvm.ClassFile.Instr × Nat) := [(153, .iinc 3 1, 3), (156, .goto (-49), 3)]
set_option maxRecDepth 20000 in
theorem k_X12_makeLine_153 {sc : xm_Sc} : xm_bok (xe_cy (XE sc) 255) b_X12_makeLine_153 := by show xm_bok cX12_makeLine _; unfold xm_bok; decide +kernel
def b_X12_makeLine_159 : List (Nat × Jvm.ClassFile.Instr × Nat) := [(159, .iload_n 2, 1), (160, .bipush 10, 2), (162, .if_icmp .ne 11, 3)]
set_option maxRecDepth 20000 in
theorem k_X12_makeLine_159 {sc : xm_Sc} : xm_bok (xe_cy (XE sc) 255) b_X12_makeLine_159 := by show xm_bok cX12_makeLine _; unfold xm_bok; decide +kernel
def b_X12_makeLine_165 : List (Nat × Jvm.ClassFile.Instr × Nat) := [(165, .aload_n 0, 1), (166, .iload_n 1, 1), (167, .invokevirtual 400, 3)]
set_option maxRecDepth 20000 in
theorem k_X12_makeLine_165 {sc : xm_Sc} : xm_bok (xe_cy (XE sc) 255) b_X12_makeLine_165 := by show xm_bok cX12_makeLine _; unfold xm_bok; decide +kernel
def b_X12_makeLine_170 : List (Nat × Jvm.ClassFile.Instr × Nat) := [(170, .goto 4, 3)]
set_option maxRecDepth 20000 in
theorem k_X12_makeLine_170 {sc : xm_Sc} : xm_bok (xe_cy (XE sc) 255) b_X12_makeLine_170 := by show xm_bok cX12_makeLine _; unfold xm_bok; decide +kernel
def b_X12_makeLine_173 : List (Nat × Jvm.ClassFile.Instr × Nat) := [(173, .iconst 0, 1)]
set_option maxRecDepth 20000 in
theorem k_X12_makeLine_173 {sc : xm_Sc} : xm_bok (xe_cy (XE sc) 255) b_X12_makeLine_173 := by show xm_bok cX12_makeLine _; unfold xm_bok; decide +kernel
def b_X12_makeLine_174 : List (Nat × Jvm.ClassFile.Instr × Nat) := [(174, .istore_n 3, 1), (175, .iload_n 2, 1), (176, .bipush 10, 2), (178, .if_icmp .ne 13, 3)]
set_option maxRecDepth 20000 in
theorem k_X12_makeLine_174 {sc : xm_Sc} : xm_bok (xe_cy (XE sc) 255) b_X12_makeLine_174 := by show xm_bok cX12_makeLine _; unfold xm_bok; decide +kernel
def b_X12_makeLine_181 : List (Nat × Jvm.ClassFile.Instr × Nat) := [(181, .iload_n 3, 1), (182, .ifCond .ne 9, 3)]
set_option maxRecDepth 20000 in
theorem k_X12_makeLine_181 {sc : xm_Sc} : xm_bok (xe_cy (XE sc) 255) b_X12_makeLine_181 := by show xm_bok cX12_makeLine _; unfold xm_bok; decide +kernel
def b_X12_makeLine_185 : List (Nat × Jvm.ClassFile.Instr × Nat) := [(185, .aload_n 0, 1), (186, .bipush 45, 2), (188, .invokevirtual 296, 3)]
set_option maxRecDepth 20000 in
theorem k_X12_makeLine_185 {sc : xm_Sc} : xm_bok (xe_cy (XE sc) 255) b_X12_makeLine_185 := by show xm_bok cX12_makeLine _; unfold xm_bok; decide +kernel
def b_X12_makeLine_191 : List (Nat × Jvm.ClassFile.Instr × Nat) := [(191, .aload_n 0, 1), (192, .getfield 163, 3), (195, .iload_n 1, 1), (196, .iaload, 1), (197, .istore 4, 2)]
set_option maxRecDepth 20000 in
theorem k_X12_makeLine_191 {sc : xm_Sc} : xm_bok (xe_cy (XE sc) 255) b_X12_makeLine_191 := by show xm_bok cX12_makeLine _; unfold xm_bok; decide +kernel
def b_X12_makeLine_199 : List (Nat × Jvm.ClassFile.Instr × Nat) := [(199, .iload 4, 2), (201, .aload_n 0, 1), (202, .getfield 163, 3), (205, .iload_n 1, 1), (206, .iaload, 1), (207, .iload_n 3, 1), (208, .iadd, 1), (209, .if_icmp .ge 37, 3)]
set_option maxRecDepth 20000 in
theorem k_X12_makeLine_199 {sc : xm_Sc} : xm_bok (xe_cy (XE sc) 255) b_X12_makeLine_199 := by show xm_bok cX12_makeLine _; unfold xm_bok; decide +kernel
def b_X12_makeLine_212 : List (Nat × Jvm.ClassFile.Instr × Nat) := [(212, .aload_n 0, 1), (213, .bipush 48, 2), (215, .aload_n 0, 1), (216, .getfield 88, 3), (219, .iload 4, 2), (221, .bipush 8, 2), (223, .idiv, 1), (224, .iaload, 1), (225, .bipush 7, 2), (227, .iload 4, 2), (229, .bipush 8, 2), (231, .irem, 1), (232, .isub, 1), (233, .ishr, 1), (234, .iconst 1, 1), (235, .iand, 1), (236, .iadd, 1), (237, .invokevirtual 296, 3)]
set_option maxRecDepth 20000 in
theorem k_X12_makeLine_212 {sc : xm_Sc} : xm_bok (xe_cy (XE sc) 255) b_X12_makeLine_212 := by show xm_bok cX12_makeLine _; unfold xm_bok; decide +kernel
def b_X12_makeLine_240 : List (Nat × Jvm.ClassFile.Instr × Nat) := [(240, .iinc 4 1, 3), (243, .goto (-44), 3)]
set_option maxRecDepth 20000 in
theorem k_X12_makeLine_240 {sc : xm_Sc} : xm_bok (xe_cy (XE sc) 255) b_X12_makeLine_240 := by show xm_bok cX12_makeLine _; unfold xm_bok; decide +kernel
def b_X12_makeLine_246 : List (Nat × Jvm.ClassFile.Instr × Nat) := [(246, .aload_n 0, 1), (247, .bipush 10, 2), (249, .invokevirtual 296, 3)]
set_option maxRecDepth 20000 in
theorem k_X12_makeLine_246 {sc : xm_Sc} : xm_bok (xe_cy (XE sc) 255) b_X12_makeLine_246 := by show xm_bok cX12_makeLine _; unfold xm_bok; decide +kernel
def b_X12_makeLine_252 : List (Nat × Jvm.ClassFile.Instr × Nat) := [(252, .return_, 1)]
set_option maxRecDepth 20000 in
theorem k_X12_makeLine_252 {sc : xm_Sc} : xm_bok (xe_cy (XE sc) 255) b_X12_makeLine_252 := by show xm_bok cX12_makeLine _; unfold xm_bok; decide +kernel
set_option maxRecDepth 20000 in
theorem cn_255 {sc : xm_Sc} : xe_cn (XE sc) 255 = 12 := rfl
set_option maxRecDepth 20000 in
theorem ml_255 {sc : xm_Sc} : xe_ml (XE sc) 255 = 5 := rfl
set_option maxRecDepth 20000 in
theorem ry_255 {sc : xm_Sc} : xe_ry (XE sc) 255 = none := rfl
set_option maxRecDepth 20000 in
theorem is_255 {sc : xm_Sc} : xe_is (XE sc) 255 = false := rfl
set_option maxRecDepth 20000 in
theorem np_255 {sc : xm_Sc} : xe_np (XE sc) 255 = 1 := rfl
/- method 256: X12_makeName -/
def b_X12_makeName_0 : List (Nat × Jvm.ClassFile.Instr × Nat) := [(0, .aload_n 0, 1), (1, .bipush 110, 2), (3, .invokevirtual 296, 3)]
set_option maxRecDepth 20000 in
theorem k_X12_makeName_0 {sc : xm_Sc} : xm_bok (xe_cy (XE sc) 256) b_X12_makeName_0 := by show xm_bok cX12_makeName _; unfold xm_bok; decide +kernel
def b_X12_makeName_6 : List (Nat × Jvm.ClassFile.Instr × Nat) := [(6, .aload_n 0, 1), (7, .iload_n 1, 1), (8, .invokevirtual 580, 3)]
set_option maxRecDepth 20000 in
theorem k_X12_makeName_6 {sc : xm_Sc} : xm_bok (xe_cy (XE sc) 256) b_X12_makeName_6 := by show xm_bok cX12_makeName _; unfold xm_bok; decide +kernel
def b_X12_makeName_11 : List (Nat × Jvm.ClassFile.Instr × Nat) := [(11, .return_, 1)]
set_option maxRecDepth 20000 in
theorem k_X12_makeName_11 {sc : xm_Sc} : xm_bok (xe_cy (XE sc) 256) b_X12_makeName_11 := by show xm_bok cX12_makeName _; unfold xm_bok; decide +kernel
set_option maxRecDepth 20000 in
theorem cn_256 {sc : xm_Sc} : xe_cn (XE sc) 256 = 12 := rfl
set_option maxRecDepth 20000 in
theorem ml_256 {sc : xm_Sc} : xe_ml (XE sc) 256 = 2 := rfl
set_option maxRecDepth 20000 in
theorem ry_256 {sc : xm_Sc} : xe_ry (XE sc) 256 = none := rfl
set_option maxRecDepth 20000 in
theorem is_256 {sc : xm_Sc} : xe_is (XE sc) 256 = false := rfl
set_option maxRecDepth 20000 in
theorem np_256 {sc : xm_Sc} : xe_np (XE sc) 256 = 1 := rfl
/- method 257: X12_makeNumber -/
def b_X12_makeNumber_0 : List (Nat × Jvm.ClassFile.Instr × Nat) := [(0, .iload_n 1, 1), (1, .bipush 99, 2), (3, .if_icmp .le 14, 3)]
set_option maxRecDepth 20000 in
theorem k_X12_makeNumber_0 {sc : xm_Sc} : xm_bok (xe_cy (XE sc) 257) b_X12_makeNumber_0 := by show xm_bok cX12_makeNumber _; unfold xm_bok; decide +kernel
def b_X12_makeNumber_6 : List (Nat × Jvm.ClassFile.Instr × Nat) := [(6, .aload_n 0, 1), (7, .bipush 48, 2), (9, .iload_n 1, 1), (10, .bipush 100, 2), (12, .idiv, 1), (13, .iadd, 1), (14, .invokevirtual 296, 3)]
set_option maxRecDepth 20000 in
theorem k_X12_makeNumber_6 {sc : xm_Sc} : xm_bok (xe_cy (XE sc) 257) b_X12_makeNumber_6 := by show xm_bok cX12_makeNumber _; unfold xm_bok; decide +kernel
def b_X12_makeNumber_17 : List (Nat × Jvm.ClassFile.Instr × Nat) := [(17, .iload_n 1, 1), (18, .bipush 9, 2), (20, .if_icmp .le 17, 3)]
set_option maxRecDepth 20000 in
theorem k_X12_makeNumber_17 {sc : xm_Sc} : xm_bok (xe_cy (XE sc) 257) b_X12_makeNumber_17 := by show xm_bok cX12_makeNumber _; unfold xm_bok; decide +kernel
def b_X12_makeNumber_23 : List (Nat × Jvm.ClassFile.Instr × Nat) := [(23, .aload_n 0, 1), (24, .bipush 48, 2), (26, .iload_n 1, 1), (27, .bipush 10, 2), (29, .idiv, 1), (30, .bipush 10, 2), (32, .irem, 1), (33, .iadd, 1), (34, .invokevirtual 296, 3)]
set_option maxRecDepth 20000 in
theorem k_X12_makeNumber_23 {sc : xm_Sc} : xm_bok (xe_cy (XE sc) 257) b_X12_makeNumber_23 := by show xm_bok cX12_makeNumber _; unfold xm_bok; decide +kernel
def b_X12_makeNumber_37 : List (Nat × Jvm.ClassFile.Instr × Nat) := [(37, .aload_n 0, 1), (38, .bipush 48, 2), (40, .iload_n 1, 1), (41, .bipush 10, 2), (43, .irem, 1), (44, .iadd, 1), (45, .invokevirtual 296, 3)]
set_option maxRecDepth 20000 in
theorem k_X12_makeNumber_37 {sc : xm_Sc} : xm_bok (xe_cy (XE sc) 257) b_X12_makeNumber_37 := by show xm_bok cX12_makeNumber _; unfold xm_bok; decide +kernel
def b_X12_makeNumber_48 : List (Nat × Jvm.ClassFile.Instr × Nat) := [(48, .return_, 1)]
set_option maxRecDepth 20000 in
theorem k_X12_makeNumber_48 {sc : xm_Sc} : xm_bok (xe_cy (XE sc) 257) b_X12_makeNumber_48 := by show xm_bok cX12_makeNumber _; unfold xm_bok; decide +kernel
set_option maxRecDepth 20000 in
theorem cn_257 {sc : xm_Sc} : xe_cn (XE sc) 257 = 12 := rfl
set_option maxRecDepth 20000 in
theorem ml_257 {sc : xm_Sc} : xe_ml (XE sc) 257 = 2 := rfl
set_option maxRecDepth 20000 in
theorem ry_257 {sc : xm_Sc} : xe_ry (XE sc) 257 = none := rfl
set_option maxRecDepth 20000 in
theorem is_257 {sc : xm_Sc} : xe_is (XE sc) 257 = false := rfl
set_option maxRecDepth 20000 in
theorem np_257 {sc : xm_Sc} : xe_np (XE sc) 257 = 1 := rfl
/- method 258: X12_makeValue -/
def b_X12_makeValue_0 : List (Nat × Jvm.ClassFile.Instr × Nat) := [(0, .aload_n 0, 1), (1, .iconst 0, 1), (2, .putfield 289, 3), (5, .iconst 1, 1), (6, .istore_n 2, 1), (7, .aload_n 0, 1), (8, .getfield 48, 3), (11, .iconst 0, 1), (12, .iload_n 1, 1), (13, .iastore, 1), (14, .aload_n 0, 1), (15, .getfield 51, 3), (18, .iconst 0, 1), (19, .iconst 0, 1), (20, .iastore, 1)]
set_option maxRecDepth 20000 in
theorem k_X12_makeValue_0 {sc : xm_Sc} : xm_bok (xe_cy (XE sc) 258) b_X12_makeValue_0 := by show xm_bok cX12_makeValue _; unfold xm_bok; decide +kernel
def b_X12_makeValue_21 : List (Nat × Jvm.ClassFile.Instr × Nat) := [(21, .iload_n 2, 1), (22, .ifCond .le 305, 3)]
set_option maxRecDepth 20000 in
theorem k_X12_makeValue_21 {sc : xm_Sc} : xm_bok (xe_cy (XE sc) 258) b_X12_makeValue_21 := by show xm_bok cX12_makeValue _; unfold xm_bok; decide +kernel
def b_X12_makeValue_25 : List (Nat × Jvm.ClassFile.Instr × Nat) := [(25, .aload_n 0, 1), (26, .invokevirtual 292, 3)]
set_option maxRecDepth 20000 in
theorem k_X12_makeValue_25 {sc : xm_Sc} : xm_bok (xe_cy (XE sc) 258) b_X12_makeValue_25 := by show xm_bok cX12_makeValue _; unfold xm_bok; decide +kernel
def b_X12_makeValue_29 : List (Nat × Jvm.ClassFile.Instr × Nat) := [(29, .ifCond .ne 298, 3)]
set_option maxRecDepth 20000 in
theorem k_X12_makeValue_29 {sc : xm_Sc} : xm_bok (xe_cy (XE sc) 258) b_X12_makeValue_29 := by show xm_bok cX12_makeValue _; unfold xm_bok; decide +kernel
def b_X12_makeValue_32 : List (Nat × Jvm.ClassFile.Instr × Nat) := [(32, .iinc 2 (-1), 3), (35, .aload_n 0, 1), (36, .getfield 48, 3), (39, .iload_n 2, 1), (40, .iaload, 1), (41, .istore_n 3, 1), (42, .aload_n 0, 1), (43, .getfield 51, 3), (46, .iload_n 2, 1), (47, .iaload, 1), (48, .istore 4, 2), (50, .iload_n 3, 1), (51, .ifCond .ge 23, 3)]
set_option maxRecDepth 20000 in
theorem k_X12_makeValue_32 {sc : xm_Sc} : xm_bok (xe_cy (XE sc) 258) b_X12_makeValue_32 := by show xm_bok cX12_makeValue _; unfold xm_bok; decide +kernel
def b_X12_makeValue_54 : List (Nat × Jvm.ClassFile.Instr × Nat) := [(54, .aload_n 0, 1), (55, .iload_n 3, 1), (56, .bipush (-2), 2), (58, .if_icmp .ne 8, 3)]
set_option maxRecDepth 20000 in
theorem k_X12_makeValue_54 {sc : xm_Sc} : xm_bok (xe_cy (XE sc) 258) b_X12_makeValue_54 := by show xm_bok cX12_makeValue _; unfold xm_bok; decide +kernel
def b_X12_makeValue_61 : List (Nat × Jvm.ClassFile.Instr × Nat) := [(61, .bipush 44, 2), (63, .goto 5, 3)]
set_option maxRecDepth 20000 in
theorem k_X12_makeValue_61 {sc : xm_Sc} : xm_bok (xe_cy (XE sc) 258) b_X12_makeValue_61 := by show xm_bok cX12_makeValue _; unfold xm_bok; decide +kernel
def b_X12_makeValue_66 : List (Nat × Jvm.ClassFile.Instr × Nat) := [(66, .bipush 41, 2)]
set_option maxRecDepth 20000 in
theorem k_X12_makeValue_66 {sc : xm_Sc} : xm_bok (xe_cy (XE sc) 258) b_X12_makeValue_66 := by show xm_bok cX12_makeValue _; unfold xm_bok; decide +kernel
def b_X12_makeValue_68 : List (Nat × Jvm.ClassFile.Instr × Nat) := [(68, .invokevirtual 296, 3)]
set_option maxRecDepth 20000 in
theorem k_X12_makeValue_68 {sc : xm_Sc} : xm_bok (xe_cy (XE sc) 258) b_X12_makeValue_68 := by show xm_bok cX12_makeValue _; unfold xm_bok; decide +kernel
def b_X12_makeValue_71 : List (Nat × Jvm.ClassFile.Instr × Nat) := [(71, .goto 253, 3)]
set_option maxRecDepth 20000 in
theorem k_X12_makeValue_71 {sc : xm_Sc} : xm_bok (xe_cy (XE sc) 258) b_X12_makeValue_71 := by show xm_bok cX12_makeValue _; unfold xm_bok; decide +kernel
def b_X12_makeValue_74 : List (Nat × Jvm.ClassFile.Instr × Nat) := [(74, .aload_n 0, 1), (75, .getfield 91, 3), (78, .iload_n 3, 1), (79, .iaload, 1), (80, .iconst 1, 1), (81, .if_icmp .ne 12, 3)]
set_option maxRecDepth 20000 in
theorem k_X12_makeValue_74 {sc : xm_Sc} : xm_bok (xe_cy (XE sc) 258) b_X12_makeValue_74 := by show xm_bok cX12_makeValue _; unfold xm_bok; decide +kernel
def b_X12_makeValue_84 : List (Nat × Jvm.ClassFile.Instr × Nat) := [(84, .aload_n 0, 1), (85, .bipush 85, 2), (87, .invokevirtual 296, 3)]
set_option maxRecDepth 20000 in
theorem k_X12_makeValue_84 {sc : xm_Sc} : xm_bok (xe_cy (XE sc) 258) b_X12_makeValue_84 := by show xm_bok cX12_makeValue _; unfold xm_bok; decide +kernel
def b_X12_makeValue_90 : List (Nat × Jvm.ClassFile.Instr × Nat) := [(90, .goto 234, 3)]
set_option maxRecDepth 20000 in
theorem k_X12_makeValue_90 {sc : xm_Sc} : xm_bok (xe_cy (XE sc) 258) b_X12_makeValue_90 := by show xm_bok cX12_makeValue _; unfold xm_bok; decide +kernel
def b_X12_makeValue_93 : List (Nat × Jvm.ClassFile.Instr × Nat) := [(93, .aload_n 0, 1), (94, .getfield 103, 3), (97, .iload_n 3, 1), (98, .iaload, 1), (99, .iconst 1, 1), (100, .if_icmp .ne 20, 3)]
set_option maxRecDepth 20000 in
theorem k_X12_makeValue_93 {sc : xm_Sc} : xm_bok (xe_cy (XE sc) 258) b_X12_makeValue_93 := by show xm_bok cX12_makeValue _; unfold xm_bok; decide +kernel
def b_X12_makeValue_103 : List (Nat × Jvm.ClassFile.Instr × Nat) := [(103, .aload_n 0, 1), (104, .bipush 48, 2), (106, .aload_n 0, 1), (107, .getfield 141, 3), (110, .iload 4, 2), (112, .baload, 1), (113, .iadd, 1), (114, .invokevirtual 296, 3)]
set_option maxRecDepth 20000 in
theorem k_X12_makeValue_103 {sc : xm_Sc} : xm_bok (xe_cy (XE sc) 258) b_X12_makeValue_103 := by show xm_bok cX12_makeValue _; unfold xm_bok; decide +kernel
def b_X12_makeValue_117 : List (Nat × Jvm.ClassFile.Instr × Nat) := [(117, .goto 207, 3)]
set_option maxRecDepth 20000 in
theorem k_X12_makeValue_117 {sc : xm_Sc} : xm_bok (xe_cy (XE sc) 258) b_X12_makeValue_117 := by show xm_bok cX12_makeValue _; unfold xm_bok; decide +kernel
def b_X12_makeValue_120 : List (Nat × Jvm.ClassFile.Instr × Nat) := [(120, .aload_n 0, 1), (121, .getfield 103, 3), (124, .iload_n 3, 1), (125, .iaload, 1), (126, .iconst 2, 1), (127, .if_icmp .le 87, 3)]
set_option maxRecDepth 20000 in
theorem k_X12_makeValue_120 {sc : xm_Sc} : xm_bok (xe_cy (XE sc) 258) b_X12_makeValue_120 := by show xm_bok cX12_makeValue _; unfold xm_bok; decide +kernel
def b_X12_makeValue_130 : List (Nat × Jvm.ClassFile.Instr × Nat) := [(130, .aload_n 0, 1), (131, .bipush 35, 2), (133, .invokevirtual 296, 3)]
set_option maxRecDepth 20000 in
theorem k_X12_makeValue_130 {sc : xm_Sc} : xm_bok (xe_cy (XE sc) 258) b_X12_makeValue_130 := by show xm_bok cX12_makeValue _; unfold xm_bok; decide +kernel
def b_X12_makeValue_136 : List (Nat × Jvm.ClassFile.Instr × Nat) := [(136, .iload 4, 2), (138, .istore 5, 2)]
set_option maxRecDepth 20000 in
theorem k_X12_makeValue_136 {sc : xm_Sc} : xm_bok (xe_cy (XE sc) 258) b_X12_makeValue_136 := by show xm_bok cX12_makeValue _; unfold xm_bok; decide +kernel
def b_X12_makeValue_140 : List (Nat × Jvm.ClassFile.Instr × Nat) := [(140, .iload 5, 2), (142, .iload 4, 2), (144, .aload_n 0, 1), (145, .getfield 103, 3), (148, .iload_n 3, 1), (149, .iaload, 1), (150, .iadd, 1), (151, .if_icmp .ge 60, 3)]
set_option maxRecDepth 20000 in
theorem k_X12_makeValue_140 {sc : xm_Sc} : xm_bok (xe_cy (XE sc) 258) b_X12_makeValue_140 := by show xm_bok cX12_makeValue _; unfold xm_bok; decide +kernel
def b_X12_makeValue_154 : List (Nat × Jvm.ClassFile.Instr × Nat) := [(154, .aload_n 0, 1), (155, .bipush 8, 2), (157, .aload_n 0, 1), (158, .getfield 141, 3), (161, .iload 5, 2), (163, .baload, 1), (164, .imul, 1), (165, .iconst 4, 1), (166, .aload_n 0, 1), (167, .getfield 141, 3), (170, .iload 5, 2), (172, .iconst 1, 1), (173, .iadd, 1), (174, .baload, 1), (175, .imul, 1), (176, .iadd, 1), (177, .iconst 2, 1), (178, .aload_n 0, 1), (179, .getfield 141, 3), (182, .iload 5, 2), (184, .iconst 2, 1), (185, .iadd, 1), (186, .baload, 1), (187, .imul, 1), (188, .iadd, 1), (189, .aload_n 0, 1), (190, .getfield 141, 3), (193, .iload 5, 2), (195, .iconst 3, 1), (196, .iadd, 1), (197, .baload, 1), (198, .iadd, 1), (199, .invokestatic 299, 3)]
set_option maxRecDepth 20000 in
theorem k_X12_makeValue_154 {sc : xm_Sc} : xm_bok (xe_cy (XE sc) 258) b_X12_makeValue_154 := by show xm_bok cX12_makeValue _; unfold xm_bok; decide +kernel
def b_X12_makeValue_202 : List (Nat × Jvm.ClassFile.Instr × Nat) := [(202, .invokevirtual 296, 3)]
set_option maxRecDepth 20000 in
theorem k_X12_makeValue_202 {sc : xm_Sc} : xm_bok (xe_cy (XE sc) 258) b_X12_makeValue_202 := by show xm_bok cX12_makeValue _; unfold xm_bok; decide +kernel
def b_X12_makeValue_205 : List (Nat × Jvm.ClassFile.Instr × Nat) := [(205, .iinc 5 4, 3), (208, .goto (-68), 3)]
set_option maxRecDepth 20000 in
theorem k_X12_makeValue_205 {sc : xm_Sc} : xm_bok (xe_cy (XE sc) 258) b_X12_makeValue_205 := by show xm_bok cX12_makeValue _; unfold xm_bok; decide +kernel
def b_X12_makeValue_211 : List (Nat × Jvm.ClassFile.Instr × Nat) := [(211, .goto 113, 3)]
set_option maxRecDepth 20000 in
theorem k_X12_makeValue_211 {sc : xm_Sc} : xm_bok (xe_cy (XE sc) 258) b_X12_makeValue_211 := by show xm_bok cX12_makeValue _; unfold xm_bok; decide +kernel
def b_X12_makeValue_214 : List (Nat × Jvm.ClassFile.Instr × Nat) := [(214, .aload_n 0, 1), (215, .getfield 91, 3), (218, .iload_n 3, 1), (219, .iaload, 1), (220, .iconst 2, 1), (221, .if_icmp .ne 88, 3)]
set_option maxRecDepth 20000 in
theorem k_X12_makeValue_214 {sc : xm_Sc} : xm_bok (xe_cy (XE sc) 258) b_X12_makeValue_214 := by show xm_bok cX12_makeValue _; unfold xm_bok; decide +kernel
def b_X12_makeValue_224 : List (Nat × Jvm.ClassFile.Instr × Nat) := [(224, .aload_n 0, 1), (225, .getfield 141, 3), (228, .iload 4, 2), (230, .baload, 1), (231, .ifCond .ne 12, 3)]
set_option maxRecDepth 20000 in
theorem k_X12_makeValue_224 {sc : xm_Sc} : xm_bok (xe_cy (XE sc) 258) b_X12_makeValue_224 := by show xm_bok cX12_makeValue _; unfold xm_bok; decide +kernel
def b_X12_makeValue_234 : List (Nat × Jvm.ClassFile.Instr × Nat) := [(234, .aload_n 0, 1), (235, .getfield 94, 3), (238, .iload_n 3, 1), (239, .iaload, 1), (240, .goto 9, 3)]
set_option maxRecDepth 20000 in
theorem k_X12_makeValue_234 {sc : xm_Sc} : xm_bok (xe_cy (XE sc) 258) b_X12_makeValue_234 := by show xm_bok cX12_makeValue _; unfold xm_bok; decide +kernel
def b_X12_makeValue_243 : List (Nat × Jvm.ClassFile.Instr × Nat) := [(243, .aload_n 0, 1), (244, .getfield 97, 3), (247, .iload_n 3, 1), (248, .iaload, 1)]
set_option maxRecDepth 20000 in
theorem k_X12_makeValue_243 {sc : xm_Sc} : xm_bok (xe_cy (XE sc) 258) b_X12_makeValue_243 := by show xm_bok cX12_makeValue _; unfold xm_bok; decide +kernel
def b_X12_makeValue_249 : List (Nat × Jvm.ClassFile.Instr × Nat) := [(249, .istore 5, 2), (251, .aload_n 0, 1), (252, .aload_n 0, 1), (253, .getfield 141, 3), (256, .iload 4, 2), (258, .baload, 1), (259, .ifCond .ne 8, 3)]
set_option maxRecDepth 20000 in
theorem k_X12_makeValue_249 {sc : xm_Sc} : xm_bok (xe_cy (XE sc) 258) b_X12_makeValue_249 := by show xm_bok cX12_makeValue _; unfold xm_bok; decide +kernel
def b_X12_makeValue_262 : List (Nat × Jvm.ClassFile.Instr × Nat) := [(262, .bipush 76, 2), (264, .goto 5, 3)]
set_option maxRecDepth 20000 in
theorem k_X12_makeValue_262 {sc : xm_Sc} : xm_bok (xe_cy (XE sc) 258) b_X12_makeValue_262 := by show xm_bok cX12_makeValue _; unfold xm_bok; decide +kernel
def b_X12_makeValue_267 : List (Nat × Jvm.ClassFile.Instr × Nat) := [(267, .bipush 82, 2)]
set_option maxRecDepth 20000 in
theorem k_X12_makeValue_267 {sc : xm_Sc} : xm_bok (xe_cy (XE sc) 258) b_X12_makeValue_267 := by show xm_bok cX12_makeValue _; unfold xm_bok; decide +kernel
def b_X12_makeValue_269 : List (Nat × Jvm.ClassFile.Instr × Nat) := [(269, .invokevirtual 296, 3)]
set_option maxRecDepth 20000 in
theorem k_X12_makeValue_269 {sc : xm_Sc} : xm_bok (xe_cy (XE sc) 258) b_X12_makeValue_269 := by show xm_bok cX12_makeValue _; unfold xm_bok; decide +kernel
def b_X12_makeValue_272 : List (Nat × Jvm.ClassFile.Instr × Nat) := [(272, .aload_n 0, 1), (273, .getfield 48, 3), (276, .iload_n 2, 1), (277, .iload 5, 2), (279, .iastore, 1), (280, .aload_n 0, 1), (281, .getfield 51, 3), (284, .iload_n 2, 1), (285, .iload 4, 2), (287, .aload_n 0, 1), (288, .getfield 100, 3), (291, .iload_n 3, 1), (292, .iaload, 1), (293, .iadd, 1), (294, .aload_n 0, 1), (295, .getfield 100, 3), (298, .iload 5, 2), (300, .iaload, 1), (301, .isub, 1), (302, .iastore, 1), (303, .iinc 2 1, 3), (306, .goto 18, 3)]
set_option maxRecDepth 20000 in
theorem k_X12_makeValue_272 {sc : xm_Sc} : xm_bok (xe_cy (XE sc) 258) b_X12_makeValue_272 := by show xm_bok cX12_makeValue _; unfold xm_bok; decide +kernel
def b_X12_makeValue_309 : List (Nat × Jvm.ClassFile.Instr × Nat) := [(309, .aload_n 0, 1), (310, .bipush 40, 2), (312, .invokevirtual 296, 3)]
set_option maxRecDepth 20000 in
theorem k_X12_makeValue_309 {sc : xm_Sc} : xm_bok (xe_cy (XE sc) 258) b_X12_makeValue_309 := by show xm_bok cX12_makeValue _; unfold xm_bok; decide +kernel
def b_X12_makeValue_315 : List (Nat × Jvm.ClassFile.Instr × Nat) := [(315, .aload_n 0, 1), (316, .iload_n 2, 1), (317, .iload_n 3, 1), (318, .iload 4, 2), (320, .invokevirtual 302, 3)]
set_option maxRecDepth 20000 in
theorem k_X12_makeValue_315 {sc : xm_Sc} : xm_bok (xe_cy (XE sc) 258) b_X12_makeValue_315 := by show xm_bok cX12_makeValue _; unfold xm_bok; decide +kernel
def b_X12_makeValue_323 : List (Nat × Jvm.ClassFile.Instr × Nat) := [(323, .istore_n 2, 1)]
set_option maxRecDepth 20000 in
theorem k_X12_makeValue_323 {sc : xm_Sc} : xm_bok (xe_cy (XE sc) 258) b_X12_makeValue_323 := by show xm_bok cX12_makeValue _; unfold xm_bok; decide +kernel
def b_X12_makeValue_324 : List (Nat × Jvm.ClassFile.Instr × Nat) := [(324, .goto (-303), 3)]
set_option maxRecDepth 20000 in
theorem k_X12_makeValue_324 {sc : xm_Sc} : xm_bok (xe_cy (XE sc) 258) b_X12_makeValue_324 := by show xm_bok cX12_makeValue _; unfold xm_bok; decide +kernel
def b_X12_makeValue_327 : List (Nat × Jvm.ClassFile.Instr × Nat) := [(327, .return_, 1)]
set_option maxRecDepth 20000 in
theorem k_X12_makeValue_327 {sc : xm_Sc} : xm_bok (xe_cy (XE sc) 258) b_X12_makeValue_327 := by show xm_bok cX12_makeValue _; unfold xm_bok; decide +kernel
set_option maxRecDepth 20000 in
theorem cn_258 {sc : xm_Sc} : xe_cn (XE sc) 258 = 12 := rfl
set_option maxRecDepth 20000 in
theorem ml_258 {sc : xm_Sc} : xe_ml (XE sc) 258 = 6 := rfl
set_option maxRecDepth 20000 in
theorem ry_258 {sc : xm_Sc} : xe_ry (XE sc) 258 = none := rfl
set_option maxRecDepth 20000 in
theorem is_258 {sc : xm_Sc} : xe_is (XE sc) 258 = false := rfl
set_option maxRecDepth 20000 in
theorem np_258 {sc : xm_Sc} : xe_np (XE sc) 258 = 1 := rfl
/- method 259: X12_makeWord -/
def b_X12_makeWord_0 : List (Nat × Jvm.ClassFile.Instr × Nat) := [(0, .iconst 0, 1), (1, .istore_n 2, 1), (2, .iconst 0, 1), (3, .istore_n 3, 1)]
set_option maxRecDepth 20000 in
theorem k_X12_makeWord_0 {sc : xm_Sc} : xm_bok (xe_cy (XE sc) 259) b_X12_makeWord_0 := by show xm_bok cX12_makeWord _; unfold xm_bok; decide +kernel
def b_X12_makeWord_4 : List (Nat × Jvm.ClassFile.Instr × Nat) := [(4, .iload_n 3, 1), (5, .iload_n 1, 1), (6, .if_icmp .ge 25, 3)]
set_option maxRecDepth 20000 in
theorem k_X12_makeWord_4 {sc : xm_Sc} : xm_bok (xe_cy (XE sc) 259) b_X12_makeWord_4 := by show xm_bok cX12_makeWord _; unfold xm_bok; decide +kernel
def b_X12_makeWord_9 : List (Nat × Jvm.ClassFile.Instr × Nat) := [(9, .iload_n 3, 1), (10, .getstatic 196, 3), (13, .iload_n 2, 1), (14, .iaload, 1), (15, .ifCond .ne 7, 3)]
set_option maxRecDepth 20000 in
theorem k_X12_makeWord_9 {sc : xm_Sc} : xm_bok (xe_cy (XE sc) 259) b_X12_makeWord_9 := by show xm_bok cX12_makeWord _; unfold xm_bok; decide +kernel
def b_X12_makeWord_18 : List (Nat × Jvm.ClassFile.Instr × Nat) := [(18, .iconst 1, 1), (19, .goto 4, 3)]
set_option maxRecDepth 20000 in
theorem k_X12_makeWord_18 {sc : xm_Sc} : xm_bok (xe_cy (XE sc) 259) b_X12_makeWord_18 := by show xm_bok cX12_makeWord _; unfold xm_bok; decide +kernel
def b_X12_makeWord_22 : List (Nat × Jvm.ClassFile.Instr × Nat) := [(22, .iconst 0, 1)]
set_option maxRecDepth 20000 in
theorem k_X12_makeWord_22 {sc : xm_Sc} : xm_bok (xe_cy (XE sc) 259) b_X12_makeWord_22 := by show xm_bok cX12_makeWord _; unfold xm_bok; decide +kernel
def b_X12_makeWord_23 : List (Nat × Jvm.ClassFile.Instr × Nat) := [(23, .iadd, 1), (24, .istore_n 3, 1), (25, .iinc 2 1, 3), (28, .goto (-24), 3)]
set_option maxRecDepth 20000 in
theorem k_X12_makeWord_23 {sc : xm_Sc} : xm_bok (xe_cy (XE sc) 259) b_X12_makeWord_23 := by show xm_bok cX12_makeWord _; unfold xm_bok; decide +kernel
def b_X12_makeWord_31 : List (Nat × Jvm.ClassFile.Instr × Nat) := [(31, .iload_n 2, 1), (32, .istore_n 3, 1)]
set_option maxRecDepth 20000 in
theorem k_X12_makeWord_31 {sc : xm_Sc} : xm_bok (xe_cy (XE sc) 259) b_X12_makeWord_31 := by show xm_bok cX12_makeWord _; unfold xm_bok; decide +kernel
def b_X12_makeWord_33 : List (Nat × Jvm.ClassFile.Instr × Nat) := [(33, .getstatic 196, 3), (36, .iload_n 3, 1), (37, .iaload, 1), (38, .ifCond .eq 18, 3)]
set_option maxRecDepth 20000 in
theorem k_X12_makeWord_33 {sc : xm_Sc} : xm_bok (xe_cy (XE sc) 259) b_X12_makeWord_33 := by show xm_bok cX12_makeWord _; unfold xm_bok; decide +kernel
def b_X12_makeWord_41 : List (Nat × Jvm.ClassFile.Instr × Nat) := [(41, .aload_n 0, 1), (42, .getstatic 196, 3), (45, .iload_n 3, 1), (46, .iaload, 1), (47, .invokevirtual 296, 3)]
set_option maxRecDepth 20000 in
theorem k_X12_makeWord_41 {sc : xm_Sc} : xm_bok (xe_cy (XE sc) 259) b_X12_makeWord_41 := by show xm_bok cX12_makeWord _; unfold xm_bok; decide +kernel
def b_X12_makeWord_50 : List (Nat × Jvm.ClassFile.Instr × Nat) := [(50, .iinc 3 1, 3), (53, .goto (-20), 3)]
set_option maxRecDepth 20000 in
theorem k_X12_makeWord_50 {sc : xm_Sc} : xm_bok (xe_cy (XE sc) 259) b_X12_makeWord_50 := by show xm_bok cX12_makeWord _; unfold xm_bok; decide +kernel
def b_X12_makeWord_56 : List (Nat × Jvm.ClassFile.Instr × Nat) := [(56, .return_, 1)]
set_option maxRecDepth 20000 in
theorem k_X12_makeWord_56 {sc : xm_Sc} : xm_bok (xe_cy (XE sc) 259) b_X12_makeWord_56 := by show xm_bok cX12_makeWord _; unfold xm_bok; decide +kernel
set_option maxRecDepth 20000 in
theorem cn_259 {sc : xm_Sc} : xe_cn (XE sc) 259 = 12 := rfl
set_option maxRecDepth 20000 in
theorem ml_259 {sc : xm_Sc} : xe_ml (XE sc) 259 = 4 := rfl
set_option maxRecDepth 20000 in
theorem ry_259 {sc : xm_Sc} : xe_ry (XE sc) 259 = none := rfl
set_option maxRecDepth 20000 in
theorem is_259 {sc : xm_Sc} : xe_is (XE sc) 259 = false := rfl
set_option maxRecDepth 20000 in
theorem np_259 {sc : xm_Sc} : xe_np (XE sc) 259 = 1 := rfl
/- method 260: X12_maskOf -/
def b_X12_maskOf_0 : List (Nat × Jvm.ClassFile.Instr × Nat) := [(0, .iload_n 0, 1), (1, .bipush 64, 2), (3, .if_icmp .ne 9, 3)]
set_option maxRecDepth 20000 in
theorem k_X12_maskOf_0 {sc : xm_Sc} : xm_bok (xe_cy (XE sc) 260) b_X12_maskOf_0 := by show xm_bok cX12_maskOf _; unfold xm_bok; decide +kernel
def b_X12_maskOf_6 : List (Nat × Jvm.ClassFile.Instr × Nat) := [(6, .ldc2_w 428, 3), (9, .goto 8, 3)]
set_option maxRecDepth 20000 in
theorem k_X12_maskOf_6 {sc : xm_Sc} : xm_bok (xe_cy (XE sc) 260) b_X12_maskOf_6 := by show xm_bok cX12_maskOf _; unfold xm_bok; decide +kernel
def b_X12_maskOf_12 : List (Nat × Jvm.ClassFile.Instr × Nat) := [(12, .lconst 1, 1), (13, .iload_n 0, 1), (14, .lshl, 1), (15, .lconst 1, 1), (16, .lsub, 1)]
set_option maxRecDepth 20000 in
theorem k_X12_maskOf_12 {sc : xm_Sc} : xm_bok (xe_cy (XE sc) 260) b_X12_maskOf_12 := by show xm_bok cX12_maskOf _; unfold xm_bok; decide +kernel
def b_X12_maskOf_17 : List (Nat × Jvm.ClassFile.Instr × Nat) := [(17, .lreturn, 1)]
set_option maxRecDepth 20000 in
theorem k_X12_maskOf_17 {sc : xm_Sc} : xm_bok (xe_cy (XE sc) 260) b_X12_maskOf_17 := by show xm_bok cX12_maskOf _; unfold xm_bok; decide +kernel
set_option maxRecDepth 20000 in
theorem cn_260 {sc : xm_Sc} : xe_cn (XE sc) 260 = 12 := rfl
set_option maxRecDepth 20000 in
theorem ml_260 {sc : xm_Sc} : xe_ml (XE sc) 260 = 1 := rfl
set_option maxRecDepth 20000 in
theorem ry_260 {sc : xm_Sc} : xe_ry (XE sc) 260 = (some .long) := rfl
set_option maxRecDepth 20000 in
theorem is_260 {sc : xm_Sc} : xe_is (XE sc) 260 = true := rfl
set_option maxRecDepth 20000 in
theorem np_260 {sc : xm_Sc} : xe_np (XE sc) 260 = 1 := rfl
/- method 261: X12_merged -/
def b_X12_merged_0 : List (Nat × Jvm.ClassFile.Instr × Nat) := [(0, .iconst 0, 1), (1, .istore_n 2, 1)]
set_option maxRecDepth 20000 in
theorem k_X12_merged_0 {sc : xm_Sc} : xm_bok (xe_cy (XE sc) 261) b_X12_merged_0 := by show xm_bok cX12_merged _; unfold xm_bok; decide +kernel
def b_X12_merged_2 : List (Nat × Jvm.ClassFile.Instr × Nat) := [(2, .iload_n 2, 1), (3, .aload_n 0, 1), (4, .getfield 226, 3), (7, .if_icmp .ge 129, 3)]
set_option maxRecDepth 20000 in
theorem k_X12_merged_2 {sc : xm_Sc} : xm_bok (xe_cy (XE sc) 261) b_X12_merged_2 := by show xm_bok cX12_merged _; unfold xm_bok; decide +kernel
def b_X12_merged_10 : List (Nat × Jvm.ClassFile.Instr × Nat) := [(10, .aload_n 0, 1), (11, .getfield 40, 3), (14, .iload_n 2, 1), (15, .iaload, 1), (16, .istore_n 3, 1), (17, .aload_n 0, 1), (18, .iload_n 3, 1), (19, .iconst 0, 1), (20, .invokevirtual 229, 3)]
set_option maxRecDepth 20000 in
theorem k_X12_merged_10 {sc : xm_Sc} : xm_bok (xe_cy (XE sc) 261) b_X12_merged_10 := by show xm_bok cX12_merged _; unfold xm_bok; decide +kernel
def b_X12_merged_23 : List (Nat × Jvm.ClassFile.Instr × Nat) := [(23, .ifCond .lt 20, 3)]
set_option maxRecDepth 20000 in
theorem k_X12_merged_23 {sc : xm_Sc} : xm_bok (xe_cy (XE sc) 261) b_X12_merged_23 := by show xm_bok cX12_merged _; unfold xm_bok; decide +kernel
def b_X12_merged_26 : List (Nat × Jvm.ClassFile.Instr × Nat) := [(26, .aload_n 0, 1), (27, .getfield 19, 3), (30, .iload_n 3, 1), (31, .aload_n 0, 1), (32, .getfield 190, 3), (35, .aload_n 0, 1), (36, .getfield 19, 3), (39, .iload_n 3, 1), (40, .iaload, 1), (41, .iaload, 1), (42, .iastore, 1)]
set_option maxRecDepth 20000 in
theorem k_X12_merged_26 {sc : xm_Sc} : xm_bok (xe_cy (XE sc) 261) b_X12_merged_26 := by show xm_bok cX12_merged _; unfold xm_bok; decide +kernel
def b_X12_merged_43 : List (Nat × Jvm.ClassFile.Instr × Nat) := [(43, .aload_n 0, 1), (44, .iload_n 3, 1), (45, .iconst 1, 1), (46, .invokevirtual 229, 3)]
set_option maxRecDepth 20000 in
theorem k_X12_merged_43 {sc : xm_Sc} : xm_bok (xe_cy (XE sc) 261) b_X12_merged_43 := by show xm_bok cX12_merged _; unfold xm_bok; decide +kernel
def b_X12_merged_49 : List (Nat × Jvm.ClassFile.Instr × Nat) := [(49, .ifCond .lt 20, 3)]
set_option maxRecDepth 20000 in
theorem k_X12_merged_49 {sc : xm_Sc} : xm_bok (xe_cy (XE sc) 261) b_X12_merged_49 := by show xm_bok cX12_merged _; unfold xm_bok; decide +kernel
def b_X12_merged_52 : List (Nat × Jvm.ClassFile.Instr × Nat) := [(52, .aload_n 0, 1), (53, .getfield 22, 3), (56, .iload_n 3, 1), (57, .aload_n 0, 1), (58, .getfield 190, 3), (61, .aload_n 0, 1), (62, .getfield 22, 3), (65, .iload_n 3, 1), (66, .iaload, 1), (67, .iaload, 1), (68, .iastore, 1)]
set_option maxRecDepth 20000 in
theorem k_X12_merged_52 {sc : xm_Sc} : xm_bok (xe_cy (XE sc) 261) b_X12_merged_52 := by show xm_bok cX12_merged _; unfold xm_bok; decide +kernel
def b_X12_merged_69 : List (Nat × Jvm.ClassFile.Instr × Nat) := [(69, .aload_n 0, 1), (70, .getfield 190, 3), (73, .iload_n 3, 1), (74, .iload_n 3, 1), (75, .iastore, 1), (76, .iconst 0, 1), (77, .istore 4, 2)]
set_option maxRecDepth 20000 in
theorem k_X12_merged_69 {sc : xm_Sc} : xm_bok (xe_cy (XE sc) 261) b_X12_merged_69 := by show xm_bok cX12_merged _; unfold xm_bok; decide +kernel
def b_X12_merged_79 : List (Nat × Jvm.ClassFile.Instr × Nat) := [(79, .iload 4, 2), (81, .iload_n 2, 1), (82, .if_icmp .ge 48, 3)]
set_option maxRecDepth 20000 in
theorem k_X12_merged_79 {sc : xm_Sc} : xm_bok (xe_cy (XE sc) 261) b_X12_merged_79 := by show xm_bok cX12_merged _; unfold xm_bok; decide +kernel
def b_X12_merged_85 : List (Nat × Jvm.ClassFile.Instr × Nat) := [(85, .aload_n 0, 1), (86, .getfield 40, 3), (89, .iload 4, 2), (91, .iaload, 1), (92, .istore 5, 2), (94, .aload_n 0, 1), (95, .getfield 190, 3), (98, .iload 5, 2), (100, .iaload, 1), (101, .iload 5, 2), (103, .if_icmp .ne 21, 3)]
set_option maxRecDepth 20000 in
theorem k_X12_merged_85 {sc : xm_Sc} : xm_bok (xe_cy (XE sc) 261) b_X12_merged_85 := by show xm_bok cX12_merged _; unfold xm_bok; decide +kernel
def b_X12_merged_106 : List (Nat × Jvm.ClassFile.Instr × Nat) := [(106, .aload_n 0, 1), (107, .iload 5, 2), (109, .iload_n 3, 1), (110, .invokevirtual 354, 3)]
set_option maxRecDepth 20000 in
theorem k_X12_merged_106 {sc : xm_Sc} : xm_bok (xe_cy (XE sc) 261) b_X12_merged_106 := by show xm_bok cX12_merged _; unfold xm_bok; decide +kernel
def b_X12_merged_113 : List (Nat × Jvm.ClassFile.Instr × Nat) := [(113, .ifCond .eq 11, 3)]
set_option maxRecDepth 20000 in
theorem k_X12_merged_113 {sc : xm_Sc} : xm_bok (xe_cy (XE sc) 261) b_X12_merged_113 := by show xm_bok cX12_merged _; unfold xm_bok; decide +kernel
def b_X12_merged_116 : List (Nat × Jvm.ClassFile.Instr × Nat) := [(116, .aload_n 0, 1), (117, .getfield 190, 3), (120, .iload_n 3, 1), (121, .iload 5, 2), (123, .iastore, 1)]
set_option maxRecDepth 20000 in
theorem k_X12_merged_116 {sc : xm_Sc} : xm_bok (xe_cy (XE sc) 261) b_X12_merged_116 := by show xm_bok cX12_merged _; unfold xm_bok; decide +kernel
def b_X12_merged_124 : List (Nat × Jvm.ClassFile.Instr × Nat) := [(124, .iinc 4 1, 3), (127, .goto (-48), 3)]
set_option maxRecDepth 20000 in
theorem k_X12_merged_124 {sc : xm_Sc} : xm_bok (xe_cy (XE sc) 261) b_X12_merged_124 := by show xm_bok cX12_merged _; unfold xm_bok; decide +kernel
def b_X12_merged_130 : List (Nat × Jvm.ClassFile.Instr × Nat) := [(130, .iinc 2 1, 3), (133, .goto (-131), 3)]
set_option maxRecDepth 20000 in
theorem k_X12_merged_130 {sc : xm_Sc} : xm_bok (xe_cy (XE sc) 261) b_X12_merged_130 := by show xm_bok cX12_merged _; unfold xm_bok; decide +kernel
def b_X12_merged_136 : List (Nat × Jvm.ClassFile.Instr × Nat) := [(136, .aload_n 0, 1), (137, .getfield 190, 3), (140, .iload_n 1, 1), (141, .iaload, 1), (142, .ireturn, 1)]
set_option maxRecDepth 20000 in
theorem k_X12_merged_136 {sc : xm_Sc} : xm_bok (xe_cy (XE sc) 261) b_X12_merged_136 := by show xm_bok cX12_merged _; unfold xm_bok; decide +kernel
set_option maxRecDepth 20000 in
theorem cn_261 {sc : xm_Sc} : xe_cn (XE sc) 261 = 12 := rfl
set_option maxRecDepth 20000 in
theorem ml_261 {sc : xm_Sc} : xe_ml (XE sc) 261 = 6 := rfl
set_option maxRecDepth 20000 in
theorem ry_261 {sc : xm_Sc} : xe_ry (XE sc) 261 = (some .int) := rfl
set_option maxRecDepth 20000 in
theorem is_261 {sc : xm_Sc} : xe_is (XE sc) 261 = false := rfl
set_option maxRecDepth 20000 in
theorem np_261 {sc : xm_Sc} : xe_np (XE sc) 261 = 1 := rfl
/- method 262: X12_middle -/
def b_X12_middle_0 : List (Nat × Jvm.ClassFile.Instr × Nat) := [(0, .lload_n 0, 1), (1, .lload_n 2, 1), (2, .invokestatic 421, 3)]
set_option maxRecDepth 20000 in
theorem k_X12_middle_0 {sc : xm_Sc} : xm_bok (xe_cy (XE sc) 262) b_X12_middle_0 := by show xm_bok cX12_middle _; unfold xm_bok; decide +kernel
def b_X12_middle_5 : List (Nat × Jvm.ClassFile.Instr × Nat) := [(5, .ifCond .eq 7, 3)]
set_option maxRecDepth 20000 in
theorem k_X12_middle_5 {sc : xm_Sc} : xm_bok (xe_cy (XE sc) 262) b_X12_middle_5 := by show xm_bok cX12_middle _; unfold xm_bok; decide +kernel
def b_X12_middle_8 : List (Nat × Jvm.ClassFile.Instr × Nat) := [(8, .lload_n 0, 1), (9, .goto 4, 3)]
set_option maxRecDepth 20000 in
theorem k_X12_middle_8 {sc : xm_Sc} : xm_bok (xe_cy (XE sc) 262) b_X12_middle_8 := by show xm_bok cX12_middle _; unfold xm_bok; decide +kernel
def b_X12_middle_12 : List (Nat × Jvm.ClassFile.Instr × Nat) := [(12, .lload_n 2, 1)]
set_option maxRecDepth 20000 in
theorem k_X12_middle_12 {sc : xm_Sc} : xm_bok (xe_cy (XE sc) 262) b_X12_middle_12 := by show xm_bok cX12_middle _; unfold xm_bok; decide +kernel
def b_X12_middle_13 : List (Nat × Jvm.ClassFile.Instr × Nat) := [(13, .lstore 6, 2), (15, .lload_n 0, 1), (16, .lload_n 2, 1), (17, .invokestatic 421, 3)]
set_option maxRecDepth 20000 in
theorem k_X12_middle_13 {sc : xm_Sc} : xm_bok (xe_cy (XE sc) 262) b_X12_middle_13 := by show xm_bok cX12_middle _; unfold xm_bok; decide +kernel
def b_X12_middle_20 : List (Nat × Jvm.ClassFile.Instr × Nat) := [(20, .ifCond .eq 7, 3)]
set_option maxRecDepth 20000 in
theorem k_X12_middle_20 {sc : xm_Sc} : xm_bok (xe_cy (XE sc) 262) b_X12_middle_20 := by show xm_bok cX12_middle _; unfold xm_bok; decide +kernel
def b_X12_middle_23 : List (Nat × Jvm.ClassFile.Instr × Nat) := [(23, .lload_n 2, 1), (24, .goto 4, 3)]
set_option maxRecDepth 20000 in
theorem k_X12_middle_23 {sc : xm_Sc} : xm_bok (xe_cy (XE sc) 262) b_X12_middle_23 := by show xm_bok cX12_middle _; unfold xm_bok; decide +kernel
def b_X12_middle_27 : List (Nat × Jvm.ClassFile.Instr × Nat) := [(27, .lload_n 0, 1)]
set_option maxRecDepth 20000 in
theorem k_X12_middle_27 {sc : xm_Sc} : xm_bok (xe_cy (XE sc) 262) b_X12_middle_27 := by show xm_bok cX12_middle _; unfold xm_bok; decide +kernel
def b_X12_middle_28 : List (Nat × Jvm.ClassFile.Instr × Nat) := [(28, .lstore 8, 2), (30, .lload 4, 2), (32, .lload 6, 2), (34, .invokestatic 421, 3)]
set_option maxRecDepth 20000 in
theorem k_X12_middle_28 {sc : xm_Sc} : xm_bok (xe_cy (XE sc) 262) b_X12_middle_28 := by show xm_bok cX12_middle _; unfold xm_bok; decide +kernel
def b_X12_middle_37 : List (Nat × Jvm.ClassFile.Instr × Nat) := [(37, .ifCond .eq 8, 3)]
set_option maxRecDepth 20000 in
theorem k_X12_middle_37 {sc : xm_Sc} : xm_bok (xe_cy (XE sc) 262) b_X12_middle_37 := by show xm_bok cX12_middle _; unfold xm_bok; decide +kernel
def b_X12_middle_40 : List (Nat × Jvm.ClassFile.Instr × Nat) := [(40, .lload 6, 2), (42, .goto 20, 3)]
set_option maxRecDepth 20000 in
theorem k_X12_middle_40 {sc : xm_Sc} : xm_bok (xe_cy (XE sc) 262) b_X12_middle_40 := by show xm_bok cX12_middle _; unfold xm_bok; decide +kernel
def b_X12_middle_45 : List (Nat × Jvm.ClassFile.Instr × Nat) := [(45, .lload 8, 2), (47, .lload 4, 2), (49, .invokestatic 421, 3)]
set_option maxRecDepth 20000 in
theorem k_X12_middle_45 {sc : xm_Sc} : xm_bok (xe_cy (XE sc) 262) b_X12_middle_45 := by show xm_bok cX12_middle _; unfold xm_bok; decide +kernel
def b_X12_middle_52 : List (Nat × Jvm.ClassFile.Instr × Nat) := [(52, .ifCond .eq 8, 3)]
set_option maxRecDepth 20000 in
theorem k_X12_middle_52 {sc : xm_Sc} : xm_bok (xe_cy (XE sc) 262) b_X12_middle_52 := by show xm_bok cX12_middle _; unfold xm_bok; decide +kernel
def b_X12_middle_55 : List (Nat × Jvm.ClassFile.Instr × Nat) := [(55, .lload 8, 2), (57, .goto 5, 3)]
set_option maxRecDepth 20000 in
theorem k_X12_middle_55 {sc : xm_Sc} : xm_bok (xe_cy (XE sc) 262) b_X12_middle_55 := by show xm_bok cX12_middle _; unfold xm_bok; decide +kernel
def b_X12_middle_60 : List (Nat × Jvm.ClassFile.Instr × Nat) := [(60, .lload 4, 2)]
set_option maxRecDepth 20000 in
theorem k_X12_middle_60 {sc : xm_Sc} : xm_bok (xe_cy (XE sc) 262) b_X12_middle_60 := by show xm_bok cX12_middle _; unfold xm_bok; decide +kernel
def b_X12_middle_62 : List (Nat × Jvm.ClassFile.Instr × Nat) := [(62, .lreturn, 1)]
set_option maxRecDepth 20000 in
theorem k_X12_middle_62 {sc : xm_Sc} : xm_bok (xe_cy (XE sc) 262) b_X12_middle_62 := by show xm_bok cX12_middle _; unfold xm_bok; decide +kernel
set_option maxRecDepth 20000 in
theorem cn_262 {sc : xm_Sc} : xe_cn (XE sc) 262 = 12 := rfl
set_option maxRecDepth 20000 in
theorem ml_262 {sc : xm_Sc} : xe_ml (XE sc) 262 = 10 := rfl
set_option maxRecDepth 20000 in
theorem ry_262 {sc : xm_Sc} : xe_ry (XE sc) 262 = (some .long) := rfl
set_option maxRecDepth 20000 in
theorem is_262 {sc : xm_Sc} : xe_is (XE sc) 262 = true := rfl
set_option maxRecDepth 20000 in
theorem np_262 {sc : xm_Sc} : xe_np (XE sc) 262 = 3 := rfl
/- method 263: X12_mix -/
def b_X12_mix_0 : List (Nat × Jvm.ClassFile.Instr × Nat) := [(0, .bipush 16, 2), (2, .istore_n 1, 1)]
set_option maxRecDepth 20000 in
theorem k_X12_mix_0 {sc : xm_Sc} : xm_bok (xe_cy (XE sc) 263) b_X12_mix_0 := by show xm_bok cX12_mix _; unfold xm_bok; decide +kernel
def b_X12_mix_3 : List (Nat × Jvm.ClassFile.Instr × Nat) := [(3, .iload_n 1, 1), (4, .bipush 64, 2), (6, .if_icmp .ge 98, 3)]
set_option maxRecDepth 20000 in
theorem k_X12_mix_3 {sc : xm_Sc} : xm_bok (xe_cy (XE sc) 263) b_X12_mix_3 := by show xm_bok cX12_mix _; unfold xm_bok; decide +kernel
def b_X12_mix_9 : List (Nat × Jvm.ClassFile.Instr × Nat) := [(9, .aload_n 0, 1), (10, .getfield 154, 3), (13, .iload_n 1, 1), (14, .bipush 15, 2), (16, .isub, 1), (17, .iaload, 1), (18, .istore_n 2, 1), (19, .aload_n 0, 1), (20, .getfield 154, 3), (23, .iload_n 1, 1), (24, .iconst 2, 1), (25, .isub, 1), (26, .iaload, 1), (27, .istore_n 3, 1), (28, .iload_n 2, 1), (29, .bipush 7, 2), (31, .invokestatic 311, 3)]
set_option maxRecDepth 20000 in
theorem k_X12_mix_9 {sc : xm_Sc} : xm_bok (xe_cy (XE sc) 263) b_X12_mix_9 := by show xm_bok cX12_mix _; unfold xm_bok; decide +kernel
def b_X12_mix_34 : List (Nat × Jvm.ClassFile.Instr × Nat) := [(34, .iload_n 2, 1), (35, .bipush 18, 2), (37, .invokestatic 311, 3)]
set_option maxRecDepth 20000 in
theorem k_X12_mix_34 {sc : xm_Sc} : xm_bok (xe_cy (XE sc) 263) b_X12_mix_34 := by show xm_bok cX12_mix _; unfold xm_bok; decide +kernel
def b_X12_mix_40 : List (Nat × Jvm.ClassFile.Instr × Nat) := [(40, .ixor, 1), (41, .iload_n 2, 1), (42, .iconst 3, 1), (43, .iushr, 1), (44, .ixor, 1), (45, .istore 4, 2), (47, .iload_n 3, 1), (48, .bipush 17, 2), (50, .invokestatic 311, 3)]
set_option maxRecDepth 20000 in
theorem k_X12_mix_40 {sc : xm_Sc} : xm_bok (xe_cy (XE sc) 263) b_X12_mix_40 := by show xm_bok cX12_mix _; unfold xm_bok; decide +kernel
def b_X12_mix_53 : List (Nat × Jvm.ClassFile.Instr × Nat) := [(53, .iload_n 3, 1), (54, .bipush 19, 2), (56, .invokestatic 311, 3)]
set_option maxRecDepth 20000 in
theorem k_X12_mix_53 {sc : xm_Sc} : xm_bok (xe_cy (XE sc) 263) b_X12_mix_53 := by show xm_bok cX12_mix _; unfold xm_bok; decide +kernel
def b_X12_mix_59 : List (Nat × Jvm.ClassFile.Instr × Nat) := [(59, .ixor, 1), (60, .iload_n 3, 1), (61, .bipush 10, 2), (63, .iushr, 1), (64, .ixor, 1), (65, .istore 5, 2), (67, .aload_n 0, 1), (68, .getfield 154, 3), (71, .iload_n 1, 1), (72, .iload 5, 2), (74, .aload_n 0, 1), (75, .getfield 154, 3), (78, .iload_n 1, 1), (79, .bipush 7, 2), (81, .isub, 1), (82, .iaload, 1), (83, .iadd, 1), (84, .iload 4, 2), (86, .iadd, 1), (87, .aload_n 0, 1), (88, .getfield 154, 3), (91, .iload_n 1, 1), (92, .bipush 16, 2), (94, .isub, 1), (95, .iaload, 1), (96, .iadd, 1), (97, .iastore, 1), (98, .iinc 1 1, 3), (101, .goto (-98), 3)]
set_option maxRecDepth 20000 in
theorem k_X12_mix_59 {sc : xm_Sc} : xm_bok (xe_cy (XE sc) 263) b_X12_mix_59 := by show xm_bok cX12_mix _; unfold xm_bok; decide +kernel
def b_X12_mix_104 : List (Nat × Jvm.ClassFile.Instr × Nat) := [(104, .iconst 0, 1), (105, .istore_n 1, 1)]
set_option maxRecDepth 20000 in
theorem k_X12_mix_104 {sc : xm_Sc} : xm_bok (xe_cy (XE sc) 263) b_X12_mix_104 := by show xm_bok cX12_mix _; unfold xm_bok; decide +kernel
def b_X12_mix_106 : List (Nat × Jvm.ClassFile.Instr × Nat) := [(106, .iload_n 1, 1), (107, .bipush 8, 2), (109, .if_icmp .ge 21, 3)]
set_option maxRecDepth 20000 in
theorem k_X12_mix_106 {sc : xm_Sc} : xm_bok (xe_cy (XE sc) 263) b_X12_mix_106 := by show xm_bok cX12_mix _; unfold xm_bok; decide +kernel
def b_X12_mix_112 : List (Nat × Jvm.ClassFile.Instr × Nat) := [(112, .aload_n 0, 1), (113, .getfield 157, 3), (116, .iload_n 1, 1), (117, .aload_n 0, 1), (118, .getfield 151, 3), (121, .iload_n 1, 1), (122, .iaload, 1), (123, .iastore, 1), (124, .iinc 1 1, 3), (127, .goto (-21), 3)]
set_option maxRecDepth 20000 in
theorem k_X12_mix_112 {sc : xm_Sc} : xm_bok (xe_cy (XE sc) 263) b_X12_mix_112 := by show xm_bok cX12_mix _; unfold xm_bok; decide +kernel
def b_X12_mix_130 : List (Nat × Jvm.ClassFile.Instr × Nat) := [(130, .iconst 0, 1), (131, .istore_n 1, 1)]
set_option maxRecDepth 20000 in
theorem k_X12_mix_130 {sc : xm_Sc} : xm_bok (xe_cy (XE sc) 263) b_X12_mix_130 := by show xm_bok cX12_mix _; unfold xm_bok; decide +kernel
def b_X12_mix_132 : List (Nat × Jvm.ClassFile.Instr × Nat) := [(132, .iload_n 1, 1), (133, .bipush 64, 2), (135, .if_icmp .ge 193, 3)]
set_option maxRecDepth 20000 in
theorem k_X12_mix_132 {sc : xm_Sc} : xm_bok (xe_cy (XE sc) 263) b_X12_mix_132 := by show xm_bok cX12_mix _; unfold xm_bok; decide +kernel
def b_X12_mix_138 : List (Nat × Jvm.ClassFile.Instr × Nat) := [(138, .aload_n 0, 1), (139, .getfield 157, 3), (142, .iconst 0, 1), (143, .iaload, 1), (144, .istore_n 2, 1), (145, .aload_n 0, 1), (146, .getfield 157, 3), (149, .iconst 4, 1), (150, .iaload, 1), (151, .istore_n 3, 1), (152, .aload_n 0, 1), (153, .getfield 157, 3), (156, .bipush 7, 2), (158, .iaload, 1), (159, .iload_n 3, 1), (160, .bipush 6, 2), (162, .invokestatic 311, 3)]
set_option maxRecDepth 20000 in
theorem k_X12_mix_138 {sc : xm_Sc} : xm_bok (xe_cy (XE sc) 263) b_X12_mix_138 := by show xm_bok cX12_mix _; unfold xm_bok; decide +kernel
def b_X12_mix_165 : List (Nat × Jvm.ClassFile.Instr × Nat) := [(165, .iload_n 3, 1), (166, .bipush 11, 2), (168, .invokestatic 311, 3)]
set_option maxRecDepth 20000 in
theorem k_X12_mix_165 {sc : xm_Sc} : xm_bok (xe_cy (XE sc) 263) b_X12_mix_165 := by show xm_bok cX12_mix _; unfold xm_bok; decide +kernel
def b_X12_mix_171 : List (Nat × Jvm.ClassFile.Instr × Nat) := [(171, .ixor, 1), (172, .iload_n 3, 1), (173, .bipush 25, 2), (175, .invokestatic 311, 3)]
set_option maxRecDepth 20000 in
theorem k_X12_mix_171 {sc : xm_Sc} : xm_bok (xe_cy (XE sc) 263) b_X12_mix_171 := by show xm_bok cX12_mix _; unfold xm_bok; decide +kernel
def b_X12_mix_178 : List (Nat × Jvm.ClassFile.Instr × Nat) := [(178, .ixor, 1), (179, .iadd, 1), (180, .iload_n 3, 1), (181, .aload_n 0, 1), (182, .getfield 157, 3), (185, .iconst 5, 1), (186, .iaload, 1), (187, .iand, 1), (188, .iload_n 3, 1), (189, .iconst (-1), 1), (190, .ixor, 1), (191, .aload_n 0, 1), (192, .getfield 157, 3), (195, .bipush 6, 2), (197, .iaload, 1), (198, .iand, 1), (199, .ixor, 1), (200, .iadd, 1), (201, .getstatic 314, 3), (204, .iload_n 1, 1), (205, .iaload, 1), (206, .iadd, 1), (207, .aload_n 0, 1), (208, .getfield 154, 3), (211, .iload_n 1, 1), (212, .iaload, 1), (213, .iadd, 1), (214, .istore 4, 2), (216, .iload_n 2, 1), (217, .iconst 2, 1), (218, .invokestatic 311, 3)]
set_option maxRecDepth 20000 in
theorem k_X12_mix_178 {sc : xm_Sc} : xm_bok (xe_cy (XE sc) 263) b_X12_mix_178 := by show xm_bok cX12_mix _; unfold xm_bok; decide +kernel
def b_X12_mix_221 : List (Nat × Jvm.ClassFile.Instr × Nat) := [(221, .iload_n 2, 1), (222, .bipush 13, 2), (224, .invokestatic 311, 3)]
set_option maxRecDepth 20000 in
theorem k_X12_mix_221 {sc : xm_Sc} : xm_bok (xe_cy (XE sc) 263) b_X12_mix_221 := by show xm_bok cX12_mix _; unfold xm_bok; decide +kernel
def b_X12_mix_227 : List (Nat × Jvm.ClassFile.Instr × Nat) := [(227, .ixor, 1), (228, .iload_n 2, 1), (229, .bipush 22, 2), (231, .invokestatic 311, 3)]
set_option maxRecDepth 20000 in
theorem k_X12_mix_227 {sc : xm_Sc} : xm_bok (xe_cy (XE sc) 263) b_X12_mix_227 := by show xm_bok cX12_mix _; unfold xm_bok; decide +kernel
def b_X12_mix_234 : List (Nat × Jvm.ClassFile.Instr × Nat) := [(234, .ixor, 1), (235, .iload_n 2, 1), (236, .aload_n 0, 1), (237, .getfield 157, 3), (240, .iconst 1, 1), (241, .iaload, 1), (242, .iand, 1), (243, .iload_n 2, 1), (244, .aload_n 0, 1), (245, .getfield 157, 3), (248, .iconst 2, 1), (249, .iaload, 1), (250, .iand, 1), (251, .ixor, 1), (252, .aload_n 0, 1), (253, .getfield 157, 3), (256, .iconst 1, 1), (257, .iaload, 1), (258, .aload_n 0, 1), (259, .getfield 157, 3), (262, .iconst 2, 1), (263, .iaload, 1), (264, .iand, 1), (265, .ixor, 1), (266, .iadd, 1), (267, .istore 5, 2), (269, .bipush 7, 2), (271, .istore 6, 2)]
set_option maxRecDepth 20000 in
theorem k_X12_mix_234 {sc : xm_Sc} : xm_bok (xe_cy (XE sc) 263) b_X12_mix_234 := by show xm_bok cX12_mix _; unfold xm_bok; decide +kernel
def b_X12_mix_273 : List (Nat × Jvm.ClassFile.Instr × Nat) := [(273, .iload 6, 2), (275, .ifCond .le 25, 3)]
set_option maxRecDepth 20000 in
theorem k_X12_mix_273 {sc : xm_Sc} : xm_bok (xe_cy (XE sc) 263) b_X12_mix_273 := by show xm_bok cX12_mix _; unfold xm_bok; decide +kernel
def b_X12_mix_278 : List (Nat × Jvm.ClassFile.Instr × Nat) := [(278, .aload_n 0, 1), (279, .getfield 157, 3), (282, .iload 6, 2), (284, .aload_n 0, 1), (285, .getfield 157, 3), (288, .iload 6, 2), (290, .iconst 1, 1), (291, .isub, 1), (292, .iaload, 1), (293, .iastore, 1), (294, .iinc 6 (-1), 3), (297, .goto (-24), 3)]
set_option maxRecDepth 20000 in
theorem k_X12_mix_278 {sc : xm_Sc} : xm_bok (xe_cy (XE sc) 263) b_X12_mix_278 := by show xm_bok cX12_mix _; unfold xm_bok; decide +kernel
def b_X12_mix_300 : List (Nat × Jvm.ClassFile.Instr × Nat) := [(300, .aload_n 0, 1), (301, .getfield 157, 3), (304, .iconst 4, 1), (305, .dup2, 1), (306, .iaload, 1), (307, .iload 4, 2), (309, .iadd, 1), (310, .iastore, 1), (311, .aload_n 0, 1), (312, .getfield 157, 3), (315, .iconst 0, 1), (316, .iload 4, 2), (318, .iload 5, 2), (320, .iadd, 1), (321, .iastore, 1), (322, .iinc 1 1, 3), (325, .goto (-193), 3)]
set_option maxRecDepth 20000 in
theorem k_X12_mix_300 {sc : xm_Sc} : xm_bok (xe_cy (XE sc) 263) b_X12_mix_300 := by show xm_bok cX12_mix _; unfold xm_bok; decide +kernel
def b_X12_mix_328 : List (Nat × Jvm.ClassFile.Instr × Nat) := [(328, .iconst 0, 1), (329, .istore_n 1, 1)]
set_option maxRecDepth 20000 in
theorem k_X12_mix_328 {sc : xm_Sc} : xm_bok (xe_cy (XE sc) 263) b_X12_mix_328 := by show xm_bok cX12_mix _; unfold xm_bok; decide +kernel
def b_X12_mix_330 : List (Nat × Jvm.ClassFile.Instr × Nat) := [(330, .iload_n 1, 1), (331, .bipush 8, 2), (333, .if_icmp .ge 24, 3)]
set_option maxRecDepth 20000 in
theorem k_X12_mix_330 {sc : xm_Sc} : xm_bok (xe_cy (XE sc) 263) b_X12_mix_330 := by show xm_bok cX12_mix _; unfold xm_bok; decide +kernel
def b_X12_mix_336 : List (Nat × Jvm.ClassFile.Instr × Nat) := [(336, .aload_n 0, 1), (337, .getfield 151, 3), (340, .iload_n 1, 1), (341, .dup2, 1), (342, .iaload, 1), (343, .aload_n 0, 1), (344, .getfield 157, 3), (347, .iload_n 1, 1), (348, .iaload, 1), (349, .iadd, 1), (350, .iastore, 1), (351, .iinc 1 1, 3), (354, .goto (-24), 3)]
set_option maxRecDepth 20000 in
theorem k_X12_mix_336 {sc : xm_Sc} : xm_bok (xe_cy (XE sc) 263) b_X12_mix_336 := by show xm_bok cX12_mix _; unfold xm_bok; decide +kernel
def b_X12_mix_357 : List (Nat × Jvm.ClassFile.Instr × Nat) := [(357, .return_, 1)]
set_option maxRecDepth 20000 in
theorem k_X12_mix_357 {sc : xm_Sc} : xm_bok (xe_cy (XE sc) 263) b_X12_mix_357 := by show xm_bok cX12_mix _; unfold xm_bok; decide +kernel
set_option maxRecDepth 20000 in
theorem cn_263 {sc : xm_Sc} : xe_cn (XE sc) 263 = 12 := rfl
set_option maxRecDepth 20000 in
theorem ml_263 {sc : xm_Sc} : xe_ml (XE sc) 263 = 7 := rfl
set_option maxRecDepth 20000 in
theorem ry_263 {sc : xm_Sc} : xe_ry (XE sc) 263 = none := rfl
set_option maxRecDepth 20000 in
theorem is_263 {sc : xm_Sc} : xe_is (XE sc) 263 = false := rfl
set_option maxRecDepth 20000 in
theorem np_263 {sc : xm_Sc} : xe_np (XE sc) 263 = 0 := rfl
/- method 264: X12_moved -/
def b_X12_moved_0 : List (Nat × Jvm.ClassFile.Instr × Nat) := [(0, .iload_n 0, 1), (1, .bipush 32, 2), (3, .if_icmp .eq 9, 3)]
set_option maxRecDepth 20000 in
theorem k_X12_moved_0 {sc : xm_Sc} : xm_bok (xe_cy (XE sc) 264) b_X12_moved_0 := by show xm_bok cX12_moved _; unfold xm_bok; decide +kernel
def b_X12_moved_6 : List (Nat × Jvm.ClassFile.Instr × Nat) := [(6, .iload_n 0, 1), (7, .bipush 33, 2), (9, .if_icmp .ne 37, 3)]
set_option maxRecDepth 20000 in
theorem k_X12_moved_6 {sc : xm_Sc} : xm_bok (xe_cy (XE sc) 264) b_X12_moved_6 := by show xm_bok cX12_moved _; unfold xm_bok; decide +kernel
def b_X12_moved_12 : List (Nat × Jvm.ClassFile.Instr × Nat) := [(12, .lload_n 1, 1), (13, .iload 5, 2), (15, .i2l, 1), (16, .lcmp, 1), (17, .ifCond .lt 5, 3)]
set_option maxRecDepth 20000 in
theorem k_X12_moved_12 {sc : xm_Sc} : xm_bok (xe_cy (XE sc) 264) b_X12_moved_12 := by show xm_bok cX12_moved _; unfold xm_bok; decide +kernel
def b_X12_moved_20 : List (Nat × Jvm.ClassFile.Instr × Nat) := [(20, .lconst 0, 1), (21, .lreturn, 1)]
set_option maxRecDepth 20000 in
theorem k_X12_moved_20 {sc : xm_Sc} : xm_bok (xe_cy (XE sc) 264) b_X12_moved_20 := by show xm_bok cX12_moved _; unfold xm_bok; decide +kernel
def b_X12_moved_22 : List (Nat × Jvm.ClassFile.Instr × Nat) := [(22, .iload_n 0, 1), (23, .bipush 32, 2), (25, .if_icmp .ne 16, 3)]
set_option maxRecDepth 20000 in
theorem k_X12_moved_22 {sc : xm_Sc} : xm_bok (xe_cy (XE sc) 264) b_X12_moved_22 := by show xm_bok cX12_moved _; unfold xm_bok; decide +kernel
def b_X12_moved_28 : List (Nat × Jvm.ClassFile.Instr × Nat) := [(28, .lload_n 3, 1), (29, .lload_n 1, 1), (30, .l2i, 1), (31, .lshl, 1), (32, .iload 5, 2), (34, .invokestatic 432, 3)]
set_option maxRecDepth 20000 in
theorem k_X12_moved_28 {sc : xm_Sc} : xm_bok (xe_cy (XE sc) 264) b_X12_moved_28 := by show xm_bok cX12_moved _; unfold xm_bok; decide +kernel
def b_X12_moved_37 : List (Nat × Jvm.ClassFile.Instr × Nat) := [(37, .land, 1), (38, .goto 7, 3)]
set_option maxRecDepth 20000 in
theorem k_X12_moved_37 {sc : xm_Sc} : xm_bok (xe_cy (XE sc) 264) b_X12_moved_37 := by show xm_bok cX12_moved _; unfold xm_bok; decide +kernel
def b_X12_moved_41 : List (Nat × Jvm.ClassFile.Instr × Nat) := [(41, .lload_n 3, 1), (42, .lload_n 1, 1), (43, .l2i, 1), (44, .lushr, 1)]
set_option maxRecDepth 20000 in
theorem k_X12_moved_41 {sc : xm_Sc} : xm_bok (xe_cy (XE sc) 264) b_X12_moved_41 := by show xm_bok cX12_moved _; unfold xm_bok; decide +kernel
def b_X12_moved_45 : List (Nat × Jvm.ClassFile.Instr × Nat) := [(45, .lreturn, 1)]
set_option maxRecDepth 20000 in
theorem k_X12_moved_45 {sc : xm_Sc} : xm_bok (xe_cy (XE sc) 264) b_X12_moved_45 := by show xm_bok cX12_moved _; unfold xm_bok; decide +kernel
def b_X12_moved_46 : List (Nat × Jvm.ClassFile.Instr × Nat) := [(46, .lload_n 1, 1), (47, .iload 5, 2), (49, .i2l, 1), (50, .lrem, 1), (51, .l2i, 1), (52, .istore 6, 2), (54, .iload 6, 2), (56, .ifCond .ne 5, 3)]
set_option maxRecDepth 20000 in
theorem k_X12_moved_46 {sc : xm_Sc} : xm_bok (xe_cy (XE sc) 264) b_X12_moved_46 := by show xm_bok cX12_moved _; unfold xm_bok; decide +kernel
def b_X12_moved_59 : List (Nat × Jvm.ClassFile.Instr × Nat) := [(59, .lload_n 3, 1), (60, .lreturn, 1)]
set_option maxRecDepth 20000 in
theorem k_X12_moved_59 {sc : xm_Sc} : xm_bok (xe_cy (XE sc) 264) b_X12_moved_59 := by show xm_bok cX12_moved _; unfold xm_bok; decide +kernel
def b_X12_moved_61 : List (Nat × Jvm.ClassFile.Instr × Nat) := [(61, .iload_n 0, 1), (62, .bipush 34, 2), (64, .if_icmp .ne 24, 3)]
set_option maxRecDepth 20000 in
theorem k_X12_moved_61 {sc : xm_Sc} : xm_bok (xe_cy (XE sc) 264) b_X12_moved_61 := by show xm_bok cX12_moved _; unfold xm_bok; decide +kernel
def b_X12_moved_67 : List (Nat × Jvm.ClassFile.Instr × Nat) := [(67, .lload_n 3, 1), (68, .iload 6, 2), (70, .lshl, 1), (71, .lload_n 3, 1), (72, .iload 5, 2), (74, .iload 6, 2), (76, .isub, 1), (77, .lushr, 1), (78, .lor, 1), (79, .iload 5, 2), (81, .invokestatic 432, 3)]
set_option maxRecDepth 20000 in
theorem k_X12_moved_67 {sc : xm_Sc} : xm_bok (xe_cy (XE sc) 264) b_X12_moved_67 := by show xm_bok cX12_moved _; unfold xm_bok; decide +kernel
def b_X12_moved_84 : List (Nat × Jvm.ClassFile.Instr × Nat) := [(84, .land, 1), (85, .goto 21, 3)]
set_option maxRecDepth 20000 in
theorem k_X12_moved_84 {sc : xm_Sc} : xm_bok (xe_cy (XE sc) 264) b_X12_moved_84 := by show xm_bok cX12_moved _; unfold xm_bok; decide +kernel
def b_X12_moved_88 : List (Nat × Jvm.ClassFile.Instr × Nat) := [(88, .lload_n 3, 1), (89, .iload 6, 2), (91, .lushr, 1), (92, .lload_n 3, 1), (93, .iload 5, 2), (95, .iload 6, 2), (97, .isub, 1), (98, .lshl, 1), (99, .lor, 1), (100, .iload 5, 2), (102, .invokestatic 432, 3)]
set_option maxRecDepth 20000 in
theorem k_X12_moved_88 {sc : xm_Sc} : xm_bok (xe_cy (XE sc) 264) b_X12_moved_88 := by show xm_bok cX12_moved _; unfold xm_bok; decide +kernel
def b_X12_moved_105 : List (Nat × Jvm.ClassFile.Instr × Nat) := [(105, .land, 1)]
set_option maxRecDepth 20000 in
theorem k_X12_moved_105 {sc : xm_Sc} : xm_bok (xe_cy (XE sc) 264) b_X12_moved_105 := by show xm_bok cX12_moved _; unfold xm_bok; decide +kernel
def b_X12_moved_106 : List (Nat × Jvm.ClassFile.Instr × Nat) := [(106, .lreturn, 1)]
set_option maxRecDepth 20000 in
theorem k_X12_moved_106 {sc : xm_Sc} : xm_bok (xe_cy (XE sc) 264) b_X12_moved_106 := by show xm_bok cX12_moved _; unfold xm_bok; decide +kernel
set_option maxRecDepth 20000 in
theorem cn_264 {sc : xm_Sc} : xe_cn (XE sc) 264 = 12 := rfl
set_option maxRecDepth 20000 in
theorem ml_264 {sc : xm_Sc} : xe_ml (XE sc) 264 = 7 := rfl
set_option maxRecDepth 20000 in
theorem ry_264 {sc : xm_Sc} : xe_ry (XE sc) 264 = (some .long) := rfl
set_option maxRecDepth 20000 in
theorem is_264 {sc : xm_Sc} : xe_is (XE sc) 264 = true := rfl
set_option maxRecDepth 20000 in
theorem np_264 {sc : xm_Sc} : xe_np (XE sc) 264 = 4 := rfl
/- method 265: X12_named -/
def b_X12_named_0 : List (Nat × Jvm.ClassFile.Instr × Nat) := [(0, .iconst 0, 1), (1, .istore_n 3, 1)]
set_option maxRecDepth 20000 in
theorem k_X12_named_0 {sc : xm_Sc} : xm_bok (xe_cy (XE sc) 265) b_X12_named_0 := by show xm_bok cX12_named _; unfold xm_bok; decide +kernel
def b_X12_named_2 : List (Nat × Jvm.ClassFile.Instr × Nat) := [(2, .iload_n 3, 1), (3, .aload_n 0, 1), (4, .getfield 610, 3), (7, .if_icmp .ge 27, 3)]
set_option maxRecDepth 20000 in
theorem k_X12_named_2 {sc : xm_Sc} : xm_bok (xe_cy (XE sc) 265) b_X12_named_2 := by show xm_bok cX12_named _; unfold xm_bok; decide +kernel
def b_X12_named_10 : List (Nat × Jvm.ClassFile.Instr × Nat) := [(10, .aload_n 0, 1), (11, .getfield 178, 3), (14, .iload_n 3, 1), (15, .laload, 1), (16, .lload_n 1, 1), (17, .lcmp, 1), (18, .ifCond .ne 10, 3)]
set_option maxRecDepth 20000 in
theorem k_X12_named_10 {sc : xm_Sc} : xm_bok (xe_cy (XE sc) 265) b_X12_named_10 := by show xm_bok cX12_named _; unfold xm_bok; decide +kernel
def b_X12_named_21 : List (Nat × Jvm.ClassFile.Instr × Nat) := [(21, .aload_n 0, 1), (22, .getfield 181, 3), (25, .iload_n 3, 1), (26, .iaload, 1), (27, .ireturn, 1)]
set_option maxRecDepth 20000 in
theorem k_X12_named_21 {sc : xm_Sc} : xm_bok (xe_cy (XE sc) 265) b_X12_named_21 := by show xm_bok cX12_named _; unfold xm_bok; decide +kernel
def b_X12_named_28 : List (Nat × Jvm.ClassFile.Instr × Nat) := [(28, .iinc 3 1, 3), (31, .goto (-29), 3)]
set_option maxRecDepth 20000 in
theorem k_X12_named_28 {sc : xm_Sc} : xm_bok (xe_cy (XE sc) 265) b_X12_named_28 := by show xm_bok cX12_named _; unfold xm_bok; decide +kernel
def b_X12_named_34 : List (Nat × Jvm.ClassFile.Instr × Nat) := [(34, .iconst (-1), 1), (35, .ireturn, 1)]
set_option maxRecDepth 20000 in
theorem k_X12_named_34 {sc : xm_Sc} : xm_bok (xe_cy (XE sc) 265) b_X12_named_34 := by show xm_bok cX12_named _; unfold xm_bok; decide +kernel
set_option maxRecDepth 20000 in
theorem cn_265 {sc : xm_Sc} : xe_cn (XE sc) 265 = 12 := rfl
set_option maxRecDepth 20000 in
theorem ml_265 {sc : xm_Sc} : xe_ml (XE sc) 265 = 4 := rfl
set_option maxRecDepth 20000 in
theorem ry_265 {sc : xm_Sc} : xe_ry (XE sc) 265 = (some .int) := rfl
set_option maxRecDepth 20000 in
theorem is_265 {sc : xm_Sc} : xe_is (XE sc) 265 = false := rfl
set_option maxRecDepth 20000 in
theorem np_265 {sc : xm_Sc} : xe_np (XE sc) 265 = 1 := rfl
/- method 266: X12_natural -/
def b_X12_natural_0 : List (Nat × Jvm.ClassFile.Instr × Nat) := [(0, .iconst 0, 1), (1, .istore_n 1, 1)]
set_option maxRecDepth 20000 in
theorem k_X12_natural_0 {sc : xm_Sc} : xm_bok (xe_cy (XE sc) 266) b_X12_natural_0 := by show xm_bok cX12_natural _; unfold xm_bok; decide +kernel
def b_X12_natural_2 : List (Nat × Jvm.ClassFile.Instr × Nat) := [(2, .aload_n 0, 1), (3, .invokevirtual 339, 3)]
set_option maxRecDepth 20000 in
theorem k_X12_natural_2 {sc : xm_Sc} : xm_bok (xe_cy (XE sc) 266) b_X12_natural_2 := by show xm_bok cX12_natural _; unfold xm_bok; decide +kernel
def b_X12_natural_6 : List (Nat × Jvm.ClassFile.Instr × Nat) := [(6, .iconst 1, 1), (7, .if_icmp .ne 9, 3)]
set_option maxRecDepth 20000 in
theorem k_X12_natural_6 {sc : xm_Sc} : xm_bok (xe_cy (XE sc) 266) b_X12_natural_6 := by show xm_bok cX12_natural _; unfold xm_bok; decide +kernel
def b_X12_natural_10 : List (Nat × Jvm.ClassFile.Instr × Nat) := [(10, .iinc 1 1, 3), (13, .goto (-11), 3)]
set_option maxRecDepth 20000 in
theorem k_X12_natural_10 {sc : xm_Sc} : xm_bok (xe_cy (XE sc) 266) b_X12_natural_10 := by show xm_bok cX12_natural _; unfold xm_bok; decide +kernel
def b_X12_natural_16 : List (Nat × Jvm.ClassFile.Instr × Nat) := [(16, .iconst 1, 1), (17, .istore_n 2, 1)]
set_option maxRecDepth 20000 in
theorem k_X12_natural_16 {sc : xm_Sc} : xm_bok (xe_cy (XE sc) 266) b_X12_natural_16 := by show xm_bok cX12_natural _; unfold xm_bok; decide +kernel
def b_X12_natural_18 : List (Nat × Jvm.ClassFile.Instr × Nat) := [(18, .iload_n 1, 1), (19, .ifCond .le 42, 3)]
set_option maxRecDepth 20000 in
theorem k_X12_natural_18 {sc : xm_Sc} : xm_bok (xe_cy (XE sc) 266) b_X12_natural_18 := by show xm_bok cX12_natural _; unfold xm_bok; decide +kernel
def b_X12_natural_22 : List (Nat × Jvm.ClassFile.Instr × Nat) := [(22, .aload_n 0, 1), (23, .getfield 330, 3), (26, .ifCond .ne 35, 3)]
set_option maxRecDepth 20000 in
theorem k_X12_natural_22 {sc : xm_Sc} : xm_bok (xe_cy (XE sc) 266) b_X12_natural_22 := by show xm_bok cX12_natural _; unfold xm_bok; decide +kernel
def b_X12_natural_29 : List (Nat × Jvm.ClassFile.Instr × Nat) := [(29, .iload_n 2, 1), (30, .bipush 15, 2), (32, .if_icmp .le 11, 3)]
set_option maxRecDepth 20000 in
theorem k_X12_natural_29 {sc : xm_Sc} : xm_bok (xe_cy (XE sc) 266) b_X12_natural_29 := by show xm_bok cX12_natural _; unfold xm_bok; decide +kernel
def b_X12_natural_35 : List (Nat × Jvm.ClassFile.Instr × Nat) := [(35, .aload_n 0, 1), (36, .iconst 4, 1), (37, .putfield 330, 3), (40, .goto 15, 3)]
set_option maxRecDepth 20000 in
theorem k_X12_natural_35 {sc : xm_Sc} : xm_bok (xe_cy (XE sc) 266) b_X12_natural_35 := by show xm_bok cX12_natural _; unfold xm_bok; decide +kernel
def b_X12_natural_43 : List (Nat × Jvm.ClassFile.Instr × Nat) := [(43, .aload_n 0, 1), (44, .iload_n 2, 1), (45, .invokevirtual 342, 3)]
set_option maxRecDepth 20000 in
theorem k_X12_natural_43 {sc : xm_Sc} : xm_bok (xe_cy (XE sc) 266) b_X12_natural_43 := by show xm_bok cX12_natural _; unfold xm_bok; decide +kernel
def b_X12_natural_48 : List (Nat × Jvm.ClassFile.Instr × Nat) := [(48, .istore_n 3, 1), (49, .iconst 1, 1), (50, .iload_n 2, 1), (51, .ishl, 1), (52, .iload_n 3, 1), (53, .iadd, 1), (54, .istore_n 2, 1)]
set_option maxRecDepth 20000 in
theorem k_X12_natural_48 {sc : xm_Sc} : xm_bok (xe_cy (XE sc) 266) b_X12_natural_48 := by show xm_bok cX12_natural _; unfold xm_bok; decide +kernel
def b_X12_natural_55 : List (Nat × Jvm.ClassFile.Instr × Nat) := [(55, .iinc 1 (-1), 3), (58, .goto (-40), 3)]
set_option maxRecDepth 20000 in
theorem k_X12_natural_55 {sc : xm_Sc} : xm_bok (xe_cy (XE sc) 266) b_X12_natural_55 := by show xm_bok cX12_natural _; unfold xm_bok; decide +kernel
def b_X12_natural_61 : List (Nat × Jvm.ClassFile.Instr × Nat) := [(61, .iload_n 2, 1), (62, .ireturn, 1)]
set_option maxRecDepth 20000 in
theorem k_X12_natural_61 {sc : xm_Sc} : xm_bok (xe_cy (XE sc) 266) b_X12_natural_61 := by show xm_bok cX12_natural _; unfold xm_bok; decide +kernel
set_option maxRecDepth 20000 in
theorem cn_266 {sc : xm_Sc} : xe_cn (XE sc) 266 = 12 := rfl
set_option maxRecDepth 20000 in
theorem ml_266 {sc : xm_Sc} : xe_ml (XE sc) 266 = 4 := rfl
set_option maxRecDepth 20000 in
theorem ry_266 {sc : xm_Sc} : xe_ry (XE sc) 266 = (some .int) := rfl
set_option maxRecDepth 20000 in
theorem is_266 {sc : xm_Sc} : xe_is (XE sc) 266 = false := rfl
set_option maxRecDepth 20000 in
theorem np_266 {sc : xm_Sc} : xe_np (XE sc) 266 = 0 := rfl
/- method 267: X12_nextWord -/
def b_X12_nextWord_0 : List (Nat × Jvm.ClassFile.Instr × Nat) := [(0, .aload_n 0, 1), (1, .getfield 595, 3), (4, .aload_n 0, 1), (5, .getfield 215, 3), (8, .if_icmp .ge 44, 3)]
set_option maxRecDepth 20000 in
theorem k_X12_nextWord_0 {sc : xm_Sc} : xm_bok (xe_cy (XE sc) 267) b_X12_nextWord_0 := by show xm_bok cX12_nextWord _; unfold xm_bok; decide +kernel
def b_X12_nextWord_11 : List (Nat × Jvm.ClassFile.Instr × Nat) := [(11, .aload_n 0, 1), (12, .getfield 7, 3), (15, .aload_n 0, 1), (16, .getfield 595, 3), (19, .iaload, 1), (20, .bipush 10, 2), (22, .if_icmp .eq 17, 3)]
set_option maxRecDepth 20000 in
theorem k_X12_nextWord_11 {sc : xm_Sc} : xm_bok (xe_cy (XE sc) 267) b_X12_nextWord_11 := by show xm_bok cX12_nextWord _; unfold xm_bok; decide +kernel
def b_X12_nextWord_25 : List (Nat × Jvm.ClassFile.Instr × Nat) := [(25, .aload_n 0, 1), (26, .getfield 7, 3), (29, .aload_n 0, 1), (30, .getfield 595, 3), (33, .iaload, 1), (34, .bipush 32, 2), (36, .if_icmp .ne 16, 3)]
set_option maxRecDepth 20000 in
theorem k_X12_nextWord_25 {sc : xm_Sc} : xm_bok (xe_cy (XE sc) 267) b_X12_nextWord_25 := by show xm_bok cX12_nextWord _; unfold xm_bok; decide +kernel
def b_X12_nextWord_39 : List (Nat × Jvm.ClassFile.Instr × Nat) := [(39, .aload_n 0, 1), (40, .dup, 1), (41, .getfield 595, 3), (44, .iconst 1, 1), (45, .iadd, 1), (46, .putfield 595, 3), (49, .goto (-49), 3)]
set_option maxRecDepth 20000 in
theorem k_X12_nextWord_39 {sc : xm_Sc} : xm_bok (xe_cy (XE sc) 267) b_X12_nextWord_39 := by show xm_bok cX12_nextWord _; unfold xm_bok; decide +kernel
def b_X12_nextWord_52 : List (Nat × Jvm.ClassFile.Instr × Nat) := [(52, .aload_n 0, 1), (53, .aload_n 0, 1), (54, .getfield 595, 3), (57, .putfield 598, 3), (60, .aload_n 0, 1), (61, .iconst 0, 1), (62, .putfield 601, 3), (65, .aload_n 0, 1), (66, .getfield 595, 3), (69, .aload_n 0, 1), (70, .getfield 215, 3), (73, .if_icmp .ne 4, 3)]
set_option maxRecDepth 20000 in
theorem k_X12_nextWord_52 {sc : xm_Sc} : xm_bok (xe_cy (XE sc) 267) b_X12_nextWord_52 := by show xm_bok cX12_nextWord _; unfold xm_bok; decide +kernel
def b_X12_nextWord_76 : List (Nat × Jvm.ClassFile.Instr × Nat) := [(76, .return_, 1)]
set_option maxRecDepth 20000 in
theorem k_X12_nextWord_76 {sc : xm_Sc} : xm_bok (xe_cy (XE sc) 267) b_X12_nextWord_76 := by show xm_bok cX12_nextWord _; unfold xm_bok; decide +kernel
def b_X12_nextWord_77 : List (Nat × Jvm.ClassFile.Instr × Nat) := [(77, .aload_n 0, 1), (78, .getfield 7, 3), (81, .aload_n 0, 1), (82, .getfield 595, 3), (85, .iaload, 1), (86, .istore_n 1, 1), (87, .iload_n 1, 1), (88, .bipush 33, 2), (90, .bipush 126, 2), (92, .invokestatic 211, 3)]
set_option maxRecDepth 20000 in
theorem k_X12_nextWord_77 {sc : xm_Sc} : xm_bok (xe_cy (XE sc) 267) b_X12_nextWord_77 := by show xm_bok cX12_nextWord _; unfold xm_bok; decide +kernel
def b_X12_nextWord_95 : List (Nat × Jvm.ClassFile.Instr × Nat) := [(95, .ifCond .ne 14, 3)]
set_option maxRecDepth 20000 in
theorem k_X12_nextWord_95 {sc : xm_Sc} : xm_bok (xe_cy (XE sc) 267) b_X12_nextWord_95 := by show xm_bok cX12_nextWord _; unfold xm_bok; decide +kernel
def b_X12_nextWord_98 : List (Nat × Jvm.ClassFile.Instr × Nat) := [(98, .aload_n 0, 1), (99, .iconst 1, 1), (100, .aload_n 0, 1), (101, .getfield 595, 3), (104, .invokevirtual 604, 3)]
set_option maxRecDepth 20000 in
theorem k_X12_nextWord_98 {sc : xm_Sc} : xm_bok (xe_cy (XE sc) 267) b_X12_nextWord_98 := by show xm_bok cX12_nextWord _; unfold xm_bok; decide +kernel
def b_X12_nextWord_107 : List (Nat × Jvm.ClassFile.Instr × Nat) := [(107, .istore_n 2, 1), (108, .return_, 1)]
set_option maxRecDepth 20000 in
theorem k_X12_nextWord_107 {sc : xm_Sc} : xm_bok (xe_cy (XE sc) 267) b_X12_nextWord_107 := by show xm_bok cX12_nextWord _; unfold xm_bok; decide +kernel
def b_X12_nextWord_109 : List (Nat × Jvm.ClassFile.Instr × Nat) := [(109, .aload_n 0, 1), (110, .dup, 1), (111, .getfield 595, 3), (114, .iconst 1, 1), (115, .iadd, 1), (116, .putfield 595, 3), (119, .aload_n 0, 1), (120, .iload_n 1, 1), (121, .bipush 61, 2), (123, .if_icmp .ne 7, 3)]
set_option maxRecDepth 20000 in
theorem k_X12_nextWord_109 {sc : xm_Sc} : xm_bok (xe_cy (XE sc) 267) b_X12_nextWord_109 := by show xm_bok cX12_nextWord _; unfold xm_bok; decide +kernel
def b_X12_nextWord_126 : List (Nat × Jvm.ClassFile.Instr × Nat) := [(126, .iconst 1, 1), (127, .goto 24, 3)]
set_option maxRecDepth 20000 in
theorem k_X12_nextWord_126 {sc : xm_Sc} : xm_bok (xe_cy (XE sc) 267) b_X12_nextWord_126 := by show xm_bok cX12_nextWord _; unfold xm_bok; decide +kernel
def b_X12_nextWord_130 : List (Nat × Jvm.ClassFile.Instr × Nat) := [(130, .iload_n 1, 1), (131, .bipush 40, 2), (133, .if_icmp .ne 7, 3)]
set_option maxRecDepth 20000 in
theorem k_X12_nextWord_130 {sc : xm_Sc} : xm_bok (xe_cy (XE sc) 267) b_X12_nextWord_130 := by show xm_bok cX12_nextWord _; unfold xm_bok; decide +kernel
def b_X12_nextWord_136 : List (Nat × Jvm.ClassFile.Instr × Nat) := [(136, .iconst 2, 1), (137, .goto 14, 3)]
set_option maxRecDepth 20000 in
theorem k_X12_nextWord_136 {sc : xm_Sc} : xm_bok (xe_cy (XE sc) 267) b_X12_nextWord_136 := by show xm_bok cX12_nextWord _; unfold xm_bok; decide +kernel
def b_X12_nextWord_140 : List (Nat × Jvm.ClassFile.Instr × Nat) := [(140, .iload_n 1, 1), (141, .bipush 41, 2), (143, .if_icmp .ne 7, 3)]
set_option maxRecDepth 20000 in
theorem k_X12_nextWord_140 {sc : xm_Sc} : xm_bok (xe_cy (XE sc) 267) b_X12_nextWord_140 := by show xm_bok cX12_nextWord _; unfold xm_bok; decide +kernel
def b_X12_nextWord_146 : List (Nat × Jvm.ClassFile.Instr × Nat) := [(146, .iconst 3, 1), (147, .goto 4, 3)]
set_option maxRecDepth 20000 in
theorem k_X12_nextWord_146 {sc : xm_Sc} : xm_bok (xe_cy (XE sc) 267) b_X12_nextWord_146 := by show xm_bok cX12_nextWord _; unfold xm_bok; decide +kernel
def b_X12_nextWord_150 : List (Nat × Jvm.ClassFile.Instr × Nat) := [(150, .iconst 4, 1)]
set_option maxRecDepth 20000 in
theorem k_X12_nextWord_150 {sc : xm_Sc} : xm_bok (xe_cy (XE sc) 267) b_X12_nextWord_150 := by show xm_bok cX12_nextWord _; unfold xm_bok; decide +kernel
def b_X12_nextWord_151 : List (Nat × Jvm.ClassFile.Instr × Nat) := [(151, .putfield 601, 3)]
set_option maxRecDepth 20000 in
theorem k_X12_nextWord_151 {sc : xm_Sc} : xm_bok (xe_cy (XE sc) 267) b_X12_nextWord_151 := by show xm_bok cX12_nextWord _; unfold xm_bok; decide +kernel
def b_X12_nextWord_154 : List (Nat × Jvm.ClassFile.Instr × Nat) := [(154, .aload_n 0, 1), (155, .getfield 601, 3), (158, .iconst 4, 1), (159, .if_icmp .ne 42, 3)]
set_option maxRecDepth 20000 in
theorem k_X12_nextWord_154 {sc : xm_Sc} : xm_bok (xe_cy (XE sc) 267) b_X12_nextWord_154 := by show xm_bok cX12_nextWord _; unfold xm_bok; decide +kernel
def b_X12_nextWord_162 : List (Nat × Jvm.ClassFile.Instr × Nat) := [(162, .aload_n 0, 1), (163, .getfield 595, 3), (166, .aload_n 0, 1), (167, .getfield 215, 3), (170, .if_icmp .ge 31, 3)]
set_option maxRecDepth 20000 in
theorem k_X12_nextWord_162 {sc : xm_Sc} : xm_bok (xe_cy (XE sc) 267) b_X12_nextWord_162 := by show xm_bok cX12_nextWord _; unfold xm_bok; decide +kernel
def b_X12_nextWord_173 : List (Nat × Jvm.ClassFile.Instr × Nat) := [(173, .aload_n 0, 1), (174, .getfield 7, 3), (177, .aload_n 0, 1), (178, .getfield 595, 3), (181, .iaload, 1), (182, .invokestatic 607, 3)]
set_option maxRecDepth 20000 in
theorem k_X12_nextWord_173 {sc : xm_Sc} : xm_bok (xe_cy (XE sc) 267) b_X12_nextWord_173 := by show xm_bok cX12_nextWord _; unfold xm_bok; decide +kernel
def b_X12_nextWord_185 : List (Nat × Jvm.ClassFile.Instr × Nat) := [(185, .ifCond .eq 16, 3)]
set_option maxRecDepth 20000 in
theorem k_X12_nextWord_185 {sc : xm_Sc} : xm_bok (xe_cy (XE sc) 267) b_X12_nextWord_185 := by show xm_bok cX12_nextWord _; unfold xm_bok; decide +kernel
def b_X12_nextWord_188 : List (Nat × Jvm.ClassFile.Instr × Nat) := [(188, .aload_n 0, 1), (189, .dup, 1), (190, .getfield 595, 3), (193, .iconst 1, 1), (194, .iadd, 1), (195, .putfield 595, 3), (198, .goto (-44), 3)]
set_option maxRecDepth 20000 in
theorem k_X12_nextWord_188 {sc : xm_Sc} : xm_bok (xe_cy (XE sc) 267) b_X12_nextWord_188 := by show xm_bok cX12_nextWord _; unfold xm_bok; decide +kernel
def b_X12_nextWord_201 : List (Nat × Jvm.ClassFile.Instr × Nat) := [(201, .return_, 1)]
set_option maxRecDepth 20000 in
theorem k_X12_nextWord_201 {sc : xm_Sc} : xm_bok (xe_cy (XE sc) 267) b_X12_nextWord_201 := by show xm_bok cX12_nextWord _; unfold xm_bok; decide +kernel
set_option maxRecDepth 20000 in
theorem cn_267 {sc : xm_Sc} : xe_cn (XE sc) 267 = 12 := rfl
set_option maxRecDepth 20000 in
theorem ml_267 {sc : xm_Sc} : xe_ml (XE sc) 267 = 3 := rfl
set_option maxRecDepth 20000 in
theorem ry_267 {sc : xm_Sc} : xe_ry (XE sc) 267 = none := rfl
set_option maxRecDepth 20000 in
theorem is_267 {sc : xm_Sc} : xe_is (XE sc) 267 = false := rfl
set_option maxRecDepth 20000 in
theorem np_267 {sc : xm_Sc} : xe_np (XE sc) 267 = 0 := rfl
/- method 268: X12_node -/
def b_X12_node_0 : List (Nat × Jvm.ClassFile.Instr × Nat) := [(0, .aload_n 0, 1), (1, .aload_n 0, 1), (2, .iload_n 1, 1), (3, .invokevirtual 561, 3)]
set_option maxRecDepth 20000 in
theorem k_X12_node_0 {sc : xm_Sc} : xm_bok (xe_cy (XE sc) 268) b_X12_node_0 := by show xm_bok cX12_node _; unfold xm_bok; decide +kernel
def b_X12_node_6 : List (Nat × Jvm.ClassFile.Instr × Nat) := [(6, .ifCond .eq 17, 3)]
set_option maxRecDepth 20000 in
theorem k_X12_node_6 {sc : xm_Sc} : xm_bok (xe_cy (XE sc) 268) b_X12_node_6 := by show xm_bok cX12_node _; unfold xm_bok; decide +kernel
def b_X12_node_9 : List (Nat × Jvm.ClassFile.Instr × Nat) := [(9, .iload_n 2, 1), (10, .iconst 0, 1), (11, .bipush 7, 2), (13, .invokestatic 211, 3)]
set_option maxRecDepth 20000 in
theorem k_X12_node_9 {sc : xm_Sc} : xm_bok (xe_cy (XE sc) 268) b_X12_node_9 := by show xm_bok cX12_node _; unfold xm_bok; decide +kernel
def b_X12_node_16 : List (Nat × Jvm.ClassFile.Instr × Nat) := [(16, .ifCond .eq 7, 3)]
set_option maxRecDepth 20000 in
theorem k_X12_node_16 {sc : xm_Sc} : xm_bok (xe_cy (XE sc) 268) b_X12_node_16 := by show xm_bok cX12_node _; unfold xm_bok; decide +kernel
def b_X12_node_19 : List (Nat × Jvm.ClassFile.Instr × Nat) := [(19, .iconst 0, 1), (20, .goto 4, 3)]
set_option maxRecDepth 20000 in
theorem k_X12_node_19 {sc : xm_Sc} : xm_bok (xe_cy (XE sc) 268) b_X12_node_19 := by show xm_bok cX12_node _; unfold xm_bok; decide +kernel
def b_X12_node_23 : List (Nat × Jvm.ClassFile.Instr × Nat) := [(23, .iconst 1, 1)]
set_option maxRecDepth 20000 in
theorem k_X12_node_23 {sc : xm_Sc} : xm_bok (xe_cy (XE sc) 268) b_X12_node_23 := by show xm_bok cX12_node _; unfold xm_bok; decide +kernel
def b_X12_node_24 : List (Nat × Jvm.ClassFile.Instr × Nat) := [(24, .putfield 205, 3), (27, .aload_n 0, 1), (28, .getfield 205, 3), (31, .ifCond .le 5, 3)]
set_option maxRecDepth 20000 in
theorem k_X12_node_24 {sc : xm_Sc} : xm_bok (xe_cy (XE sc) 268) b_X12_node_24 := by show xm_bok cX12_node _; unfold xm_bok; decide +kernel
def b_X12_node_34 : List (Nat × Jvm.ClassFile.Instr × Nat) := [(34, .iconst 0, 1), (35, .ireturn, 1)]
set_option maxRecDepth 20000 in
theorem k_X12_node_34 {sc : xm_Sc} : xm_bok (xe_cy (XE sc) 268) b_X12_node_34 := by show xm_bok cX12_node _; unfold xm_bok; decide +kernel
def b_X12_node_36 : List (Nat × Jvm.ClassFile.Instr × Nat) := [(36, .iload_n 2, 1), (37, .tableswitch 141 0 6 #[43, 50, 92, 113, 119, 125, 133], 43)]
set_option maxRecDepth 20000 in
theorem k_X12_node_36 {sc : xm_Sc} : xm_bok (xe_cy (XE sc) 268) b_X12_node_36 := by show xm_bok cX12_node _; unfold xm_bok; decide +kernel
def b_X12_node_80 : List (Nat × Jvm.ClassFile.Instr × Nat) := [(80, .aload_n 0, 1), (81, .getfield 54, 3), (84, .iload_n 1, 1), (85, .iaload, 1), (86, .ireturn, 1)]
set_option maxRecDepth 20000 in
theorem k_X12_node_80 {sc : xm_Sc} : xm_bok (xe_cy (XE sc) 268) b_X12_node_80 := by show xm_bok cX12_node _; unfold xm_bok; decide +kernel
def b_X12_node_87 : List (Nat × Jvm.ClassFile.Instr × Nat) := [(87, .aload_n 0, 1), (88, .getfield 54, 3), (91, .iload_n 1, 1), (92, .iaload, 1), (93, .bipush 12, 2), (95, .if_icmp .ne 12, 3)]
set_option maxRecDepth 20000 in
theorem k_X12_node_87 {sc : xm_Sc} : xm_bok (xe_cy (XE sc) 268) b_X12_node_87 := by show xm_bok cX12_node _; unfold xm_bok; decide +kernel
def b_X12_node_98 : List (Nat × Jvm.ClassFile.Instr × Nat) := [(98, .aload_n 0, 1), (99, .getfield 63, 3), (102, .iload_n 1, 1), (103, .iaload, 1), (104, .goto 24, 3)]
set_option maxRecDepth 20000 in
theorem k_X12_node_98 {sc : xm_Sc} : xm_bok (xe_cy (XE sc) 268) b_X12_node_98 := by show xm_bok cX12_node _; unfold xm_bok; decide +kernel
def b_X12_node_107 : List (Nat × Jvm.ClassFile.Instr × Nat) := [(107, .aload_n 0, 1), (108, .getfield 54, 3), (111, .iload_n 1, 1), (112, .iaload, 1), (113, .bipush 6, 2), (115, .if_icmp .gt 12, 3)]
set_option maxRecDepth 20000 in
theorem k_X12_node_107 {sc : xm_Sc} : xm_bok (xe_cy (XE sc) 268) b_X12_node_107 := by show xm_bok cX12_node _; unfold xm_bok; decide +kernel
def b_X12_node_118 : List (Nat × Jvm.ClassFile.Instr × Nat) := [(118, .aload_n 0, 1), (119, .getfield 57, 3), (122, .iload_n 1, 1), (123, .iaload, 1), (124, .goto 4, 3)]
set_option maxRecDepth 20000 in
theorem k_X12_node_118 {sc : xm_Sc} : xm_bok (xe_cy (XE sc) 268) b_X12_node_118 := by show xm_bok cX12_node _; unfold xm_bok; decide +kernel
def b_X12_node_127 : List (Nat × Jvm.ClassFile.Instr × Nat) := [(127, .iconst (-1), 1)]
set_option maxRecDepth 20000 in
theorem k_X12_node_127 {sc : xm_Sc} : xm_bok (xe_cy (XE sc) 268) b_X12_node_127 := by show xm_bok cX12_node _; unfold xm_bok; decide +kernel
def b_X12_node_128 : List (Nat × Jvm.ClassFile.Instr × Nat) := [(128, .ireturn, 1)]
set_option maxRecDepth 20000 in
theorem k_X12_node_128 {sc : xm_Sc} : xm_bok (xe_cy (XE sc) 268) b_X12_node_128 := by show xm_bok cX12_node _; unfold xm_bok; decide +kernel
def b_X12_node_129 : List (Nat × Jvm.ClassFile.Instr × Nat) := [(129, .aload_n 0, 1), (130, .getfield 54, 3), (133, .iload_n 1, 1), (134, .iaload, 1), (135, .iconst 2, 1), (136, .if_icmp .gt 12, 3)]
set_option maxRecDepth 20000 in
theorem k_X12_node_129 {sc : xm_Sc} : xm_bok (xe_cy (XE sc) 268) b_X12_node_129 := by show xm_bok cX12_node _; unfold xm_bok; decide +kernel
def b_X12_node_139 : List (Nat × Jvm.ClassFile.Instr × Nat) := [(139, .aload_n 0, 1), (140, .getfield 60, 3), (143, .iload_n 1, 1), (144, .iaload, 1), (145, .goto 4, 3)]
set_option maxRecDepth 20000 in
theorem k_X12_node_139 {sc : xm_Sc} : xm_bok (xe_cy (XE sc) 268) b_X12_node_139 := by show xm_bok cX12_node _; unfold xm_bok; decide +kernel
def b_X12_node_148 : List (Nat × Jvm.ClassFile.Instr × Nat) := [(148, .iconst (-1), 1)]
set_option maxRecDepth 20000 in
theorem k_X12_node_148 {sc : xm_Sc} : xm_bok (xe_cy (XE sc) 268) b_X12_node_148 := by show xm_bok cX12_node _; unfold xm_bok; decide +kernel
def b_X12_node_149 : List (Nat × Jvm.ClassFile.Instr × Nat) := [(149, .ireturn, 1)]
set_option maxRecDepth 20000 in
theorem k_X12_node_149 {sc : xm_Sc} : xm_bok (xe_cy (XE sc) 268) b_X12_node_149 := by show xm_bok cX12_node _; unfold xm_bok; decide +kernel
def b_X12_node_150 : List (Nat × Jvm.ClassFile.Instr × Nat) := [(150, .aload_n 0, 1), (151, .iload_n 1, 1), (152, .invokevirtual 403, 3)]
set_option maxRecDepth 20000 in
theorem k_X12_node_150 {sc : xm_Sc} : xm_bok (xe_cy (XE sc) 268) b_X12_node_150 := by show xm_bok cX12_node _; unfold xm_bok; decide +kernel
def b_X12_node_155 : List (Nat × Jvm.ClassFile.Instr × Nat) := [(155, .ireturn, 1)]
set_option maxRecDepth 20000 in
theorem k_X12_node_155 {sc : xm_Sc} : xm_bok (xe_cy (XE sc) 268) b_X12_node_155 := by show xm_bok cX12_node _; unfold xm_bok; decide +kernel
def b_X12_node_156 : List (Nat × Jvm.ClassFile.Instr × Nat) := [(156, .aload_n 0, 1), (157, .iload_n 1, 1), (158, .invokevirtual 400, 3)]
set_option maxRecDepth 20000 in
theorem k_X12_node_156 {sc : xm_Sc} : xm_bok (xe_cy (XE sc) 268) b_X12_node_156 := by show xm_bok cX12_node _; unfold xm_bok; decide +kernel
def b_X12_node_161 : List (Nat × Jvm.ClassFile.Instr × Nat) := [(161, .ireturn, 1)]
set_option maxRecDepth 20000 in
theorem k_X12_node_161 {sc : xm_Sc} : xm_bok (xe_cy (XE sc) 268) b_X12_node_161 := by show xm_bok cX12_node _; unfold xm_bok; decide +kernel
def b_X12_node_162 : List (Nat × Jvm.ClassFile.Instr × Nat) := [(162, .aload_n 0, 1), (163, .getfield 78, 3), (166, .iload_n 1, 1), (167, .laload, 1), (168, .l2i, 1), (169, .ireturn, 1)]
set_option maxRecDepth 20000 in
theorem k_X12_node_162 {sc : xm_Sc} : xm_bok (xe_cy (XE sc) 268) b_X12_node_162 := by show xm_bok cX12_node _; unfold xm_bok; decide +kernel
def b_X12_node_170 : List (Nat × Jvm.ClassFile.Instr × Nat) := [(170, .aload_n 0, 1), (171, .getfield 82, 3), (174, .iload_n 1, 1), (175, .laload, 1), (176, .l2i, 1), (177, .ireturn, 1)]
set_option maxRecDepth 20000 in
theorem k_X12_node_170 {sc : xm_Sc} : xm_bok (xe_cy (XE sc) 268) b_X12_node_170 := by show xm_bok cX12_node _; unfold xm_bok; decide +kernel
def b_X12_node_178 : List (Nat × Jvm.ClassFile.Instr × Nat) := [(178, .aload_n 0, 1), (179, .getfield 85, 3), (182, .iload_n 1, 1), (183, .laload, 1), (184, .l2i, 1), (185, .ireturn, 1)]
set_option maxRecDepth 20000 in
theorem k_X12_node_178 {sc : xm_Sc} : xm_bok (xe_cy (XE sc) 268) b_X12_node_178 := by show xm_bok cX12_node _; unfold xm_bok; decide +kernel
set_option maxRecDepth 20000 in
theorem cn_268 {sc : xm_Sc} : xe_cn (XE sc) 268 = 12 := rfl
set_option maxRecDepth 20000 in
theorem ml_268 {sc : xm_Sc} : xe_ml (XE sc) 268 = 3 := rfl
set_option maxRecDepth 20000 in
theorem ry_268 {sc : xm_Sc} : xe_ry (XE sc) 268 = (some .int) := rfl
set_option maxRecDepth 20000 in
theorem is_268 {sc : xm_Sc} : xe_is (XE sc) 268 = false := rfl
set_option maxRecDepth 20000 in
theorem np_268 {sc : xm_Sc} : xe_np (XE sc) 268 = 2 := rfl
/- method 269: X12_number0 -/
def b_X12_number0_0 : List (Nat × Jvm.ClassFile.Instr × Nat) := [(0, .aload_n 0, 1), (1, .getfield 63, 3), (4, .iload_n 1, 1), (5, .iaload, 1), (6, .ireturn, 1)]
set_option maxRecDepth 20000 in
theorem k_X12_number0_0 {sc : xm_Sc} : xm_bok (xe_cy (XE sc) 269) b_X12_number0_0 := by show xm_bok cX12_number0 _; unfold xm_bok; decide +kernel
set_option maxRecDepth 20000 in
theorem cn_269 {sc : xm_Sc} : xe_cn (XE sc) 269 = 12 := rfl
set_option maxRecDepth 20000 in
theorem ml_269 {sc : xm_Sc} : xe_ml (XE sc) 269 = 2 := rfl
set_option maxRecDepth 20000 in
theorem ry_269 {sc : xm_Sc} : xe_ry (XE sc) 269 = (some .int) := rfl
set_option maxRecDepth 20000 in
theorem is_269 {sc : xm_Sc} : xe_is (XE sc) 269 = false := rfl
set_option maxRecDepth 20000 in
theorem np_269 {sc : xm_Sc} : xe_np (XE sc) 269 = 1 := rfl
/- method 270: X12_ofThree -/
def b_X12_ofThree_0 : List (Nat × Jvm.ClassFile.Instr × Nat) := [(0, .aload_n 0, 1), (1, .iload_n 2, 1), (2, .iload 4, 2), (4, .invokevirtual 450, 3)]
set_option maxRecDepth 20000 in
theorem k_X12_ofThree_0 {sc : xm_Sc} : xm_bok (xe_cy (XE sc) 270) b_X12_ofThree_0 := by show xm_bok cX12_ofThree _; unfold xm_bok; decide +kernel
def b_X12_ofThree_7 : List (Nat × Jvm.ClassFile.Instr × Nat) := [(7, .lstore 5, 2), (9, .aload_n 0, 1), (10, .iload_n 2, 1), (11, .iload 4, 2), (13, .iadd, 1), (14, .iload 4, 2), (16, .invokevirtual 450, 3)]
set_option maxRecDepth 20000 in
theorem k_X12_ofThree_7 {sc : xm_Sc} : xm_bok (xe_cy (XE sc) 270) b_X12_ofThree_7 := by show xm_bok cX12_ofThree _; unfold xm_bok; decide +kernel
def b_X12_ofThree_19 : List (Nat × Jvm.ClassFile.Instr × Nat) := [(19, .lstore 7, 2), (21, .aload_n 0, 1), (22, .iload_n 2, 1), (23, .iconst 2, 1), (24, .iload 4, 2), (26, .imul, 1), (27, .iadd, 1), (28, .iload 4, 2), (30, .invokevirtual 450, 3)]
set_option maxRecDepth 20000 in
theorem k_X12_ofThree_19 {sc : xm_Sc} : xm_bok (xe_cy (XE sc) 270) b_X12_ofThree_19 := by show xm_bok cX12_ofThree _; unfold xm_bok; decide +kernel
def b_X12_ofThree_33 : List (Nat × Jvm.ClassFile.Instr × Nat) := [(33, .lstore 9, 2), (35, .iload_n 1, 1), (36, .bipush 18, 2), (38, .if_icmp .ne 15, 3)]
set_option maxRecDepth 20000 in
theorem k_X12_ofThree_33 {sc : xm_Sc} : xm_bok (xe_cy (XE sc) 270) b_X12_ofThree_33 := by show xm_bok cX12_ofThree _; unfold xm_bok; decide +kernel
def b_X12_ofThree_41 : List (Nat × Jvm.ClassFile.Instr × Nat) := [(41, .lload 5, 2), (43, .lload 7, 2), (45, .lload 9, 2), (47, .invokestatic 454, 3)]
set_option maxRecDepth 20000 in
theorem k_X12_ofThree_41 {sc : xm_Sc} : xm_bok (xe_cy (XE sc) 270) b_X12_ofThree_41 := by show xm_bok cX12_ofThree _; unfold xm_bok; decide +kernel
def b_X12_ofThree_50 : List (Nat × Jvm.ClassFile.Instr × Nat) := [(50, .goto 61, 3)]
set_option maxRecDepth 20000 in
theorem k_X12_ofThree_50 {sc : xm_Sc} : xm_bok (xe_cy (XE sc) 270) b_X12_ofThree_50 := by show xm_bok cX12_ofThree _; unfold xm_bok; decide +kernel
def b_X12_ofThree_53 : List (Nat × Jvm.ClassFile.Instr × Nat) := [(53, .iload_n 1, 1), (54, .bipush 27, 2), (56, .if_icmp .ne 14, 3)]
set_option maxRecDepth 20000 in
theorem k_X12_ofThree_53 {sc : xm_Sc} : xm_bok (xe_cy (XE sc) 270) b_X12_ofThree_53 := by show xm_bok cX12_ofThree _; unfold xm_bok; decide +kernel
def b_X12_ofThree_59 : List (Nat × Jvm.ClassFile.Instr × Nat) := [(59, .lload 5, 2), (61, .lload 7, 2), (63, .lxor, 1), (64, .lload 9, 2), (66, .lxor, 1), (67, .goto 44, 3)]
set_option maxRecDepth 20000 in
theorem k_X12_ofThree_59 {sc : xm_Sc} : xm_bok (xe_cy (XE sc) 270) b_X12_ofThree_59 := by show xm_bok cX12_ofThree _; unfold xm_bok; decide +kernel
def b_X12_ofThree_70 : List (Nat × Jvm.ClassFile.Instr × Nat) := [(70, .iload_n 1, 1), (71, .bipush 28, 2), (73, .if_icmp .ne 23, 3)]
set_option maxRecDepth 20000 in
theorem k_X12_ofThree_70 {sc : xm_Sc} : xm_bok (xe_cy (XE sc) 270) b_X12_ofThree_70 := by show xm_bok cX12_ofThree _; unfold xm_bok; decide +kernel
def b_X12_ofThree_76 : List (Nat × Jvm.ClassFile.Instr × Nat) := [(76, .lload 5, 2), (78, .lload 7, 2), (80, .land, 1), (81, .lload 5, 2), (83, .lload 9, 2), (85, .land, 1), (86, .lor, 1), (87, .lload 7, 2), (89, .lload 9, 2), (91, .land, 1), (92, .lor, 1), (93, .goto 18, 3)]
set_option maxRecDepth 20000 in
theorem k_X12_ofThree_76 {sc : xm_Sc} : xm_bok (xe_cy (XE sc) 270) b_X12_ofThree_76 := by show xm_bok cX12_ofThree _; unfold xm_bok; decide +kernel
def b_X12_ofThree_96 : List (Nat × Jvm.ClassFile.Instr × Nat) := [(96, .lload 5, 2), (98, .lload 7, 2), (100, .land, 1), (101, .lload 5, 2), (103, .ldc2_w 428, 3), (106, .lxor, 1), (107, .lload 9, 2), (109, .land, 1), (110, .lor, 1)]
set_option maxRecDepth 20000 in
theorem k_X12_ofThree_96 {sc : xm_Sc} : xm_bok (xe_cy (XE sc) 270) b_X12_ofThree_96 := by show xm_bok cX12_ofThree _; unfold xm_bok; decide +kernel
def b_X12_ofThree_111 : List (Nat × Jvm.ClassFile.Instr × Nat) := [(111, .lstore 11, 2), (113, .aload_n 0, 1), (114, .iload_n 3, 1), (115, .iload 4, 2), (117, .lload 11, 2), (119, .iload 4, 2), (121, .invokestatic 432, 3)]
set_option maxRecDepth 20000 in
theorem k_X12_ofThree_111 {sc : xm_Sc} : xm_bok (xe_cy (XE sc) 270) b_X12_ofThree_111 := by show xm_bok cX12_ofThree _; unfold xm_bok; decide +kernel
def b_X12_ofThree_124 : List (Nat × Jvm.ClassFile.Instr × Nat) := [(124, .land, 1), (125, .invokevirtual 436, 3)]
set_option maxRecDepth 20000 in
theorem k_X12_ofThree_124 {sc : xm_Sc} : xm_bok (xe_cy (XE sc) 270) b_X12_ofThree_124 := by show xm_bok cX12_ofThree _; unfold xm_bok; decide +kernel
def b_X12_ofThree_128 : List (Nat × Jvm.ClassFile.Instr × Nat) := [(128, .return_, 1)]
set_option maxRecDepth 20000 in
theorem k_X12_ofThree_128 {sc : xm_Sc} : xm_bok (xe_cy (XE sc) 270) b_X12_ofThree_128 := by show xm_bok cX12_ofThree _; unfold xm_bok; decide +kernel
set_option maxRecDepth 20000 in
theorem cn_270 {sc : xm_Sc} : xe_cn (XE sc) 270 = 12 := rfl
set_option maxRecDepth 20000 in
theorem ml_270 {sc : xm_Sc} : xe_ml (XE sc) 270 = 13 := rfl
set_option maxRecDepth 20000 in
theorem ry_270 {sc : xm_Sc} : xe_ry (XE sc) 270 = none := rfl
set_option maxRecDepth 20000 in
theorem is_270 {sc : xm_Sc} : xe_is (XE sc) 270 = false := rfl
set_option maxRecDepth 20000 in
theorem np_270 {sc : xm_Sc} : xe_np (XE sc) 270 = 4 := rfl
/- method 271: X12_ofTwo -/
def b_X12_ofTwo_0 : List (Nat × Jvm.ClassFile.Instr × Nat) := [(0, .iload_n 0, 1), (1, .tableswitch 141 9 25 #[83, 99, 141, 141, 141, 141, 141, 105, 119, 141, 141, 141, 141, 141, 141, 133, 137], 83)]
set_option maxRecDepth 20000 in
theorem k_X12_ofTwo_0 {sc : xm_Sc} : xm_bok (xe_cy (XE sc) 271) b_X12_ofTwo_0 := by show xm_bok cX12_ofTwo _; unfold xm_bok; decide +kernel
def b_X12_ofTwo_84 : List (Nat × Jvm.ClassFile.Instr × Nat) := [(84, .lload_n 3, 1), (85, .lconst 0, 1), (86, .lcmp, 1), (87, .ifCond .ne 7, 3)]
set_option maxRecDepth 20000 in
theorem k_X12_ofTwo_84 {sc : xm_Sc} : xm_bok (xe_cy (XE sc) 271) b_X12_ofTwo_84 := by show xm_bok cX12_ofTwo _; unfold xm_bok; decide +kernel
def b_X12_ofTwo_90 : List (Nat × Jvm.ClassFile.Instr × Nat) := [(90, .lconst 0, 1), (91, .goto 8, 3)]
set_option maxRecDepth 20000 in
theorem k_X12_ofTwo_90 {sc : xm_Sc} : xm_bok (xe_cy (XE sc) 271) b_X12_ofTwo_90 := by show xm_bok cX12_ofTwo _; unfold xm_bok; decide +kernel
def b_X12_ofTwo_94 : List (Nat × Jvm.ClassFile.Instr × Nat) := [(94, .lload_n 1, 1), (95, .lload_n 3, 1), (96, .invokestatic 425, 3)]
set_option maxRecDepth 20000 in
theorem k_X12_ofTwo_94 {sc : xm_Sc} : xm_bok (xe_cy (XE sc) 271) b_X12_ofTwo_94 := by show xm_bok cX12_ofTwo _; unfold xm_bok; decide +kernel
def b_X12_ofTwo_99 : List (Nat × Jvm.ClassFile.Instr × Nat) := [(99, .lreturn, 1)]
set_option maxRecDepth 20000 in
theorem k_X12_ofTwo_99 {sc : xm_Sc} : xm_bok (xe_cy (XE sc) 271) b_X12_ofTwo_99 := by show xm_bok cX12_ofTwo _; unfold xm_bok; decide +kernel
def b_X12_ofTwo_100 : List (Nat × Jvm.ClassFile.Instr × Nat) := [(100, .lload_n 1, 1), (101, .lload_n 3, 1), (102, .invokestatic 443, 3)]
set_option maxRecDepth 20000 in
theorem k_X12_ofTwo_100 {sc : xm_Sc} : xm_bok (xe_cy (XE sc) 271) b_X12_ofTwo_100 := by show xm_bok cX12_ofTwo _; unfold xm_bok; decide +kernel
def b_X12_ofTwo_105 : List (Nat × Jvm.ClassFile.Instr × Nat) := [(105, .lreturn, 1)]
set_option maxRecDepth 20000 in
theorem k_X12_ofTwo_105 {sc : xm_Sc} : xm_bok (xe_cy (XE sc) 271) b_X12_ofTwo_105 := by show xm_bok cX12_ofTwo _; unfold xm_bok; decide +kernel
def b_X12_ofTwo_106 : List (Nat × Jvm.ClassFile.Instr × Nat) := [(106, .lload_n 1, 1), (107, .lload_n 3, 1), (108, .invokestatic 421, 3)]
set_option maxRecDepth 20000 in
theorem k_X12_ofTwo_106 {sc : xm_Sc} : xm_bok (xe_cy (XE sc) 271) b_X12_ofTwo_106 := by show xm_bok cX12_ofTwo _; unfold xm_bok; decide +kernel
def b_X12_ofTwo_111 : List (Nat × Jvm.ClassFile.Instr × Nat) := [(111, .ifCond .eq 7, 3)]
set_option maxRecDepth 20000 in
theorem k_X12_ofTwo_111 {sc : xm_Sc} : xm_bok (xe_cy (XE sc) 271) b_X12_ofTwo_111 := by show xm_bok cX12_ofTwo _; unfold xm_bok; decide +kernel
def b_X12_ofTwo_114 : List (Nat × Jvm.ClassFile.Instr × Nat) := [(114, .lload_n 1, 1), (115, .goto 4, 3)]
set_option maxRecDepth 20000 in
theorem k_X12_ofTwo_114 {sc : xm_Sc} : xm_bok (xe_cy (XE sc) 271) b_X12_ofTwo_114 := by show xm_bok cX12_ofTwo _; unfold xm_bok; decide +kernel
def b_X12_ofTwo_118 : List (Nat × Jvm.ClassFile.Instr × Nat) := [(118, .lload_n 3, 1)]
set_option maxRecDepth 20000 in
theorem k_X12_ofTwo_118 {sc : xm_Sc} : xm_bok (xe_cy (XE sc) 271) b_X12_ofTwo_118 := by show xm_bok cX12_ofTwo _; unfold xm_bok; decide +kernel
def b_X12_ofTwo_119 : List (Nat × Jvm.ClassFile.Instr × Nat) := [(119, .lreturn, 1)]
set_option maxRecDepth 20000 in
theorem k_X12_ofTwo_119 {sc : xm_Sc} : xm_bok (xe_cy (XE sc) 271) b_X12_ofTwo_119 := by show xm_bok cX12_ofTwo _; unfold xm_bok; decide +kernel
def b_X12_ofTwo_120 : List (Nat × Jvm.ClassFile.Instr × Nat) := [(120, .lload_n 1, 1), (121, .lload_n 3, 1), (122, .invokestatic 421, 3)]
set_option maxRecDepth 20000 in
theorem k_X12_ofTwo_120 {sc : xm_Sc} : xm_bok (xe_cy (XE sc) 271) b_X12_ofTwo_120 := by show xm_bok cX12_ofTwo _; unfold xm_bok; decide +kernel
def b_X12_ofTwo_125 : List (Nat × Jvm.ClassFile.Instr × Nat) := [(125, .ifCond .eq 7, 3)]
set_option maxRecDepth 20000 in
theorem k_X12_ofTwo_125 {sc : xm_Sc} : xm_bok (xe_cy (XE sc) 271) b_X12_ofTwo_125 := by show xm_bok cX12_ofTwo _; unfold xm_bok; decide +kernel
def b_X12_ofTwo_128 : List (Nat × Jvm.ClassFile.Instr × Nat) := [(128, .lload_n 3, 1), (129, .goto 4, 3)]
set_option maxRecDepth 20000 in
theorem k_X12_ofTwo_128 {sc : xm_Sc} : xm_bok (xe_cy (XE sc) 271) b_X12_ofTwo_128 := by show xm_bok cX12_ofTwo _; unfold xm_bok; decide +kernel
def b_X12_ofTwo_132 : List (Nat × Jvm.ClassFile.Instr × Nat) := [(132, .lload_n 1, 1)]
set_option maxRecDepth 20000 in
theorem k_X12_ofTwo_132 {sc : xm_Sc} : xm_bok (xe_cy (XE sc) 271) b_X12_ofTwo_132 := by show xm_bok cX12_ofTwo _; unfold xm_bok; decide +kernel
def b_X12_ofTwo_133 : List (Nat × Jvm.ClassFile.Instr × Nat) := [(133, .lreturn, 1)]
set_option maxRecDepth 20000 in
theorem k_X12_ofTwo_133 {sc : xm_Sc} : xm_bok (xe_cy (XE sc) 271) b_X12_ofTwo_133 := by show xm_bok cX12_ofTwo _; unfold xm_bok; decide +kernel
def b_X12_ofTwo_134 : List (Nat × Jvm.ClassFile.Instr × Nat) := [(134, .lload_n 1, 1), (135, .lload_n 3, 1), (136, .land, 1), (137, .lreturn, 1)]
set_option maxRecDepth 20000 in
theorem k_X12_ofTwo_134 {sc : xm_Sc} : xm_bok (xe_cy (XE sc) 271) b_X12_ofTwo_134 := by show xm_bok cX12_ofTwo _; unfold xm_bok; decide +kernel
def b_X12_ofTwo_138 : List (Nat × Jvm.ClassFile.Instr × Nat) := [(138, .lload_n 1, 1), (139, .lload_n 3, 1), (140, .lor, 1), (141, .lreturn, 1)]
set_option maxRecDepth 20000 in
theorem k_X12_ofTwo_138 {sc : xm_Sc} : xm_bok (xe_cy (XE sc) 271) b_X12_ofTwo_138 := by show xm_bok cX12_ofTwo _; unfold xm_bok; decide +kernel
def b_X12_ofTwo_142 : List (Nat × Jvm.ClassFile.Instr × Nat) := [(142, .lload_n 1, 1), (143, .lload_n 3, 1), (144, .lxor, 1), (145, .lreturn, 1)]
set_option maxRecDepth 20000 in
theorem k_X12_ofTwo_142 {sc : xm_Sc} : xm_bok (xe_cy (XE sc) 271) b_X12_ofTwo_142 := by show xm_bok cX12_ofTwo _; unfold xm_bok; decide +kernel
set_option maxRecDepth 20000 in
theorem cn_271 {sc : xm_Sc} : xe_cn (XE sc) 271 = 12 := rfl
set_option maxRecDepth 20000 in
theorem ml_271 {sc : xm_Sc} : xe_ml (XE sc) 271 = 5 := rfl
set_option maxRecDepth 20000 in
theorem ry_271 {sc : xm_Sc} : xe_ry (XE sc) 271 = (some .long) := rfl
set_option maxRecDepth 20000 in
theorem is_271 {sc : xm_Sc} : xe_is (XE sc) 271 = true := rfl
set_option maxRecDepth 20000 in
theorem np_271 {sc : xm_Sc} : xe_np (XE sc) 271 = 3 := rfl
/- method 272: X12_ones -/
def b_X12_ones_0 : List (Nat × Jvm.ClassFile.Instr × Nat) := [(0, .lconst 0, 1), (1, .lstore_n 3, 1), (2, .iconst 0, 1), (3, .istore 5, 2)]
set_option maxRecDepth 20000 in
theorem k_X12_ones_0 {sc : xm_Sc} : xm_bok (xe_cy (XE sc) 272) b_X12_ones_0 := by show xm_bok cX12_ones _; unfold xm_bok; decide +kernel
def b_X12_ones_5 : List (Nat × Jvm.ClassFile.Instr × Nat) := [(5, .iload 5, 2), (7, .iload_n 2, 1), (8, .if_icmp .ge 18, 3)]
set_option maxRecDepth 20000 in
theorem k_X12_ones_5 {sc : xm_Sc} : xm_bok (xe_cy (XE sc) 272) b_X12_ones_5 := by show xm_bok cX12_ones _; unfold xm_bok; decide +kernel
def b_X12_ones_11 : List (Nat × Jvm.ClassFile.Instr × Nat) := [(11, .lload_n 3, 1), (12, .lload_n 0, 1), (13, .iload 5, 2), (15, .lshr, 1), (16, .lconst 1, 1), (17, .land, 1), (18, .ladd, 1), (19, .lstore_n 3, 1), (20, .iinc 5 1, 3), (23, .goto (-18), 3)]
set_option maxRecDepth 20000 in
theorem k_X12_ones_11 {sc : xm_Sc} : xm_bok (xe_cy (XE sc) 272) b_X12_ones_11 := by show xm_bok cX12_ones _; unfold xm_bok; decide +kernel
def b_X12_ones_26 : List (Nat × Jvm.ClassFile.Instr × Nat) := [(26, .lload_n 3, 1), (27, .lreturn, 1)]
set_option maxRecDepth 20000 in
theorem k_X12_ones_26 {sc : xm_Sc} : xm_bok (xe_cy (XE sc) 272) b_X12_ones_26 := by show xm_bok cX12_ones _; unfold xm_bok; decide +kernel
set_option maxRecDepth 20000 in
theorem cn_272 {sc : xm_Sc} : xe_cn (XE sc) 272 = 12 := rfl
set_option maxRecDepth 20000 in
theorem ml_272 {sc : xm_Sc} : xe_ml (XE sc) 272 = 6 := rfl
set_option maxRecDepth 20000 in
theorem ry_272 {sc : xm_Sc} : xe_ry (XE sc) 272 = (some .long) := rfl
set_option maxRecDepth 20000 in
theorem is_272 {sc : xm_Sc} : xe_is (XE sc) 272 = true := rfl
set_option maxRecDepth 20000 in
theorem np_272 {sc : xm_Sc} : xe_np (XE sc) 272 = 2 := rfl
/- method 273: X12_open -/
def b_X12_open_0 : List (Nat × Jvm.ClassFile.Instr × Nat) := [(0, .aload_n 0, 1), (1, .iconst 0, 1), (2, .iconst (-1), 1), (3, .iconst (-1), 1), (4, .invokevirtual 236, 3)]
set_option maxRecDepth 20000 in
theorem k_X12_open_0 {sc : xm_Sc} : xm_bok (xe_cy (XE sc) 273) b_X12_open_0 := by show xm_bok cX12_open _; unfold xm_bok; decide +kernel
def b_X12_open_7 : List (Nat × Jvm.ClassFile.Instr × Nat) := [(7, .ireturn, 1)]
set_option maxRecDepth 20000 in
theorem k_X12_open_7 {sc : xm_Sc} : xm_bok (xe_cy (XE sc) 273) b_X12_open_7 := by show xm_bok cX12_open _; unfold xm_bok; decide +kernel
set_option maxRecDepth 20000 in
theorem cn_273 {sc : xm_Sc} : xe_cn (XE sc) 273 = 12 := rfl
set_option maxRecDepth 20000 in
theorem ml_273 {sc : xm_Sc} : xe_ml (XE sc) 273 = 1 := rfl
set_option maxRecDepth 20000 in
theorem ry_273 {sc : xm_Sc} : xe_ry (XE sc) 273 = (some .int) := rfl
set_option maxRecDepth 20000 in
theorem is_273 {sc : xm_Sc} : xe_is (XE sc) 273 = false := rfl
set_option maxRecDepth 20000 in
theorem np_273 {sc : xm_Sc} : xe_np (XE sc) 273 = 0 := rfl
/- method 274: X12_out -/
def b_X12_out_0 : List (Nat × Jvm.ClassFile.Instr × Nat) := [(0, .aload_n 0, 1), (1, .iload_n 1, 1), (2, .iconst 0, 1), (3, .aload_n 0, 1), (4, .getfield 220, 3), (7, .iconst 1, 1), (8, .isub, 1), (9, .invokestatic 211, 3)]
set_option maxRecDepth 20000 in
theorem k_X12_out_0 {sc : xm_Sc} : xm_bok (xe_cy (XE sc) 274) b_X12_out_0 := by show xm_bok cX12_out _; unfold xm_bok; decide +kernel
def b_X12_out_12 : List (Nat × Jvm.ClassFile.Instr × Nat) := [(12, .ifCond .eq 7, 3)]
set_option maxRecDepth 20000 in
theorem k_X12_out_12 {sc : xm_Sc} : xm_bok (xe_cy (XE sc) 274) b_X12_out_12 := by show xm_bok cX12_out _; unfold xm_bok; decide +kernel
def b_X12_out_15 : List (Nat × Jvm.ClassFile.Instr × Nat) := [(15, .iconst 0, 1), (16, .goto 4, 3)]
set_option maxRecDepth 20000 in
theorem k_X12_out_15 {sc : xm_Sc} : xm_bok (xe_cy (XE sc) 274) b_X12_out_15 := by show xm_bok cX12_out _; unfold xm_bok; decide +kernel
def b_X12_out_19 : List (Nat × Jvm.ClassFile.Instr × Nat) := [(19, .iconst 1, 1)]
set_option maxRecDepth 20000 in
theorem k_X12_out_19 {sc : xm_Sc} : xm_bok (xe_cy (XE sc) 274) b_X12_out_19 := by show xm_bok cX12_out _; unfold xm_bok; decide +kernel
def b_X12_out_20 : List (Nat × Jvm.ClassFile.Instr × Nat) := [(20, .putfield 205, 3), (23, .lconst 0, 1), (24, .lstore_n 2, 1), (25, .bipush 7, 2), (27, .istore 4, 2)]
set_option maxRecDepth 20000 in
theorem k_X12_out_20 {sc : xm_Sc} : xm_bok (xe_cy (XE sc) 274) b_X12_out_20 := by show xm_bok cX12_out _; unfold xm_bok; decide +kernel
def b_X12_out_29 : List (Nat × Jvm.ClassFile.Instr × Nat) := [(29, .iload 4, 2), (31, .ifCond .lt 47, 3)]
set_option maxRecDepth 20000 in
theorem k_X12_out_29 {sc : xm_Sc} : xm_bok (xe_cy (XE sc) 274) b_X12_out_29 := by show xm_bok cX12_out _; unfold xm_bok; decide +kernel
def b_X12_out_34 : List (Nat × Jvm.ClassFile.Instr × Nat) := [(34, .aload_n 0, 1), (35, .getfield 205, 3), (38, .ifCond .ne 40, 3)]
set_option maxRecDepth 20000 in
theorem k_X12_out_34 {sc : xm_Sc} : xm_bok (xe_cy (XE sc) 274) b_X12_out_34 := by show xm_bok cX12_out _; unfold xm_bok; decide +kernel
def b_X12_out_41 : List (Nat × Jvm.ClassFile.Instr × Nat) := [(41, .lload_n 2, 1), (42, .bipush 8, 2), (44, .lshl, 1), (45, .iload_n 1, 1), (46, .iload 4, 2), (48, .iadd, 1), (49, .aload_n 0, 1), (50, .getfield 220, 3), (53, .if_icmp .ge 15, 3)]
set_option maxRecDepth 20000 in
theorem k_X12_out_41 {sc : xm_Sc} : xm_bok (xe_cy (XE sc) 274) b_X12_out_41 := by show xm_bok cX12_out _; unfold xm_bok; decide +kernel
def b_X12_out_56 : List (Nat × Jvm.ClassFile.Instr × Nat) := [(56, .aload_n 0, 1), (57, .getfield 13, 3), (60, .iload_n 1, 1), (61, .iload 4, 2), (63, .iadd, 1), (64, .iaload, 1), (65, .goto 4, 3)]
set_option maxRecDepth 20000 in
theorem k_X12_out_56 {sc : xm_Sc} : xm_bok (xe_cy (XE sc) 274) b_X12_out_56 := by show xm_bok cX12_out _; unfold xm_bok; decide +kernel
def b_X12_out_68 : List (Nat × Jvm.ClassFile.Instr × Nat) := [(68, .iconst 0, 1)]
set_option maxRecDepth 20000 in
theorem k_X12_out_68 {sc : xm_Sc} : xm_bok (xe_cy (XE sc) 274) b_X12_out_68 := by show xm_bok cX12_out _; unfold xm_bok; decide +kernel
def b_X12_out_69 : List (Nat × Jvm.ClassFile.Instr × Nat) := [(69, .i2l, 1), (70, .lor, 1), (71, .lstore_n 2, 1), (72, .iinc 4 (-1), 3), (75, .goto (-46), 3)]
set_option maxRecDepth 20000 in
theorem k_X12_out_69 {sc : xm_Sc} : xm_bok (xe_cy (XE sc) 274) b_X12_out_69 := by show xm_bok cX12_out _; unfold xm_bok; decide +kernel
def b_X12_out_78 : List (Nat × Jvm.ClassFile.Instr × Nat) := [(78, .lload_n 2, 1), (79, .lreturn, 1)]
set_option maxRecDepth 20000 in
theorem k_X12_out_78 {sc : xm_Sc} : xm_bok (xe_cy (XE sc) 274) b_X12_out_78 := by show xm_bok cX12_out _; unfold xm_bok; decide +kernel
set_option maxRecDepth 20000 in
theorem cn_274 {sc : xm_Sc} : xe_cn (XE sc) 274 = 12 := rfl
set_option maxRecDepth 20000 in
theorem ml_274 {sc : xm_Sc} : xe_ml (XE sc) 274 = 5 := rfl
set_option maxRecDepth 20000 in
theorem ry_274 {sc : xm_Sc} : xe_ry (XE sc) 274 = (some .long) := rfl
set_option maxRecDepth 20000 in
theorem is_274 {sc : xm_Sc} : xe_is (XE sc) 274 = false := rfl
set_option maxRecDepth 20000 in
theorem np_274 {sc : xm_Sc} : xe_np (XE sc) 274 = 1 := rfl
/- method 275: X12_packed -/
def b_X12_packed_0 : List (Nat × Jvm.ClassFile.Instr × Nat) := [(0, .aload_n 0, 1), (1, .getfield 601, 3), (4, .iconst 4, 1), (5, .if_icmp .ne 36, 3)]
set_option maxRecDepth 20000 in
theorem k_X12_packed_0 {sc : xm_Sc} : xm_bok (xe_cy (XE sc) 275) b_X12_packed_0 := by show xm_bok cX12_packed _; unfold xm_bok; decide +kernel
def b_X12_packed_8 : List (Nat × Jvm.ClassFile.Instr × Nat) := [(8, .aload_n 0, 1), (9, .getfield 595, 3), (12, .aload_n 0, 1), (13, .getfield 598, 3), (16, .isub, 1), (17, .bipush 8, 2), (19, .if_icmp .gt 22, 3)]
set_option maxRecDepth 20000 in
theorem k_X12_packed_8 {sc : xm_Sc} : xm_bok (xe_cy (XE sc) 275) b_X12_packed_8 := by show xm_bok cX12_packed _; unfold xm_bok; decide +kernel
def b_X12_packed_22 : List (Nat × Jvm.ClassFile.Instr × Nat) := [(22, .aload_n 0, 1), (23, .getfield 7, 3), (26, .aload_n 0, 1), (27, .getfield 598, 3), (30, .iaload, 1), (31, .bipush 97, 2), (33, .bipush 122, 2), (35, .invokestatic 211, 3)]
set_option maxRecDepth 20000 in
theorem k_X12_packed_22 {sc : xm_Sc} : xm_bok (xe_cy (XE sc) 275) b_X12_packed_22 := by show xm_bok cX12_packed _; unfold xm_bok; decide +kernel
def b_X12_packed_38 : List (Nat × Jvm.ClassFile.Instr × Nat) := [(38, .ifCond .ne 5, 3)]
set_option maxRecDepth 20000 in
theorem k_X12_packed_38 {sc : xm_Sc} : xm_bok (xe_cy (XE sc) 275) b_X12_packed_38 := by show xm_bok cX12_packed _; unfold xm_bok; decide +kernel
def b_X12_packed_41 : List (Nat × Jvm.ClassFile.Instr × Nat) := [(41, .lconst 0, 1), (42, .lreturn, 1)]
set_option maxRecDepth 20000 in
theorem k_X12_packed_41 {sc : xm_Sc} : xm_bok (xe_cy (XE sc) 275) b_X12_packed_41 := by show xm_bok cX12_packed _; unfold xm_bok; decide +kernel
def b_X12_packed_43 : List (Nat × Jvm.ClassFile.Instr × Nat) := [(43, .lconst 0, 1), (44, .lstore_n 1, 1), (45, .aload_n 0, 1), (46, .getfield 598, 3), (49, .istore_n 3, 1)]
set_option maxRecDepth 20000 in
theorem k_X12_packed_43 {sc : xm_Sc} : xm_bok (xe_cy (XE sc) 275) b_X12_packed_43 := by show xm_bok cX12_packed _; unfold xm_bok; decide +kernel
def b_X12_packed_50 : List (Nat × Jvm.ClassFile.Instr × Nat) := [(50, .iload_n 3, 1), (51, .aload_n 0, 1), (52, .getfield 595, 3), (55, .if_icmp .ge 37, 3)]
set_option maxRecDepth 20000 in
theorem k_X12_packed_50 {sc : xm_Sc} : xm_bok (xe_cy (XE sc) 275) b_X12_packed_50 := by show xm_bok cX12_packed _; unfold xm_bok; decide +kernel
def b_X12_packed_58 : List (Nat × Jvm.ClassFile.Instr × Nat) := [(58, .aload_n 0, 1), (59, .getfield 7, 3), (62, .iload_n 3, 1), (63, .iaload, 1), (64, .invokestatic 201, 3)]
set_option maxRecDepth 20000 in
theorem k_X12_packed_58 {sc : xm_Sc} : xm_bok (xe_cy (XE sc) 275) b_X12_packed_58 := by show xm_bok cX12_packed _; unfold xm_bok; decide +kernel
def b_X12_packed_67 : List (Nat × Jvm.ClassFile.Instr × Nat) := [(67, .istore 4, 2), (69, .iload 4, 2), (71, .ifCond .ne 5, 3)]
set_option maxRecDepth 20000 in
theorem k_X12_packed_67 {sc : xm_Sc} : xm_bok (xe_cy (XE sc) 275) b_X12_packed_67 := by show xm_bok cX12_packed _; unfold xm_bok; decide +kernel
def b_X12_packed_74 : List (Nat × Jvm.ClassFile.Instr × Nat) := [(74, .lconst 0, 1), (75, .lreturn, 1)]
set_option maxRecDepth 20000 in
theorem k_X12_packed_74 {sc : xm_Sc} : xm_bok (xe_cy (XE sc) 275) b_X12_packed_74 := by show xm_bok cX12_packed _; unfold xm_bok; decide +kernel
def b_X12_packed_76 : List (Nat × Jvm.ClassFile.Instr × Nat) := [(76, .ldc2_w 199, 3), (79, .lload_n 1, 1), (80, .lmul, 1), (81, .iload 4, 2), (83, .i2l, 1), (84, .ladd, 1), (85, .lstore_n 1, 1), (86, .iinc 3 1, 3), (89, .goto (-39), 3)]
set_option maxRecDepth 20000 in
theorem k_X12_packed_76 {sc : xm_Sc} : xm_bok (xe_cy (XE sc) 275) b_X12_packed_76 := by show xm_bok cX12_packed _; unfold xm_bok; decide +kernel
def b_X12_packed_92 : List (Nat × Jvm.ClassFile.Instr × Nat) := [(92, .lload_n 1, 1), (93, .lreturn, 1)]
set_option maxRecDepth 20000 in
theorem k_X12_packed_92 {sc : xm_Sc} : xm_bok (xe_cy (XE sc) 275) b_X12_packed_92 := by show xm_bok cX12_packed _; unfold xm_bok; decide +kernel
set_option maxRecDepth 20000 in
theorem cn_275 {sc : xm_Sc} : xe_cn (XE sc) 275 = 12 := rfl
set_option maxRecDepth 20000 in
theorem ml_275 {sc : xm_Sc} : xe_ml (XE sc) 275 = 5 := rfl
set_option maxRecDepth 20000 in
theorem ry_275 {sc : xm_Sc} : xe_ry (XE sc) 275 = (some .long) := rfl
set_option maxRecDepth 20000 in
theorem is_275 {sc : xm_Sc} : xe_is (XE sc) 275 = false := rfl
set_option maxRecDepth 20000 in
theorem np_275 {sc : xm_Sc} : xe_np (XE sc) 275 = 0 := rfl
/- method 276: X12_pileProduct -/
def b_X12_pileProduct_0 : List (Nat × Jvm.ClassFile.Instr × Nat) := [(0, .aload_n 0, 1), (1, .getfield 48, 3), (4, .iload_n 1, 1), (5, .bipush (-3), 2), (7, .iastore, 1), (8, .aload_n 0, 1), (9, .getfield 48, 3), (12, .iload_n 1, 1), (13, .iconst 1, 1), (14, .iadd, 1), (15, .aload_n 0, 1), (16, .getfield 97, 3), (19, .iload_n 2, 1), (20, .iaload, 1), (21, .iastore, 1), (22, .aload_n 0, 1), (23, .getfield 51, 3), (26, .iload_n 1, 1), (27, .iconst 1, 1), (28, .iadd, 1), (29, .iload_n 3, 1), (30, .aload_n 0, 1), (31, .getfield 100, 3), (34, .aload_n 0, 1), (35, .getfield 94, 3), (38, .iload_n 2, 1), (39, .iaload, 1), (40, .iaload, 1), (41, .iadd, 1), (42, .iastore, 1), (43, .aload_n 0, 1), (44, .getfield 48, 3), (47, .iload_n 1, 1), (48, .iconst 2, 1), (49, .iadd, 1), (50, .bipush (-2), 2), (52, .iastore, 1), (53, .aload_n 0, 1), (54, .getfield 48, 3), (57, .iload_n 1, 1), (58, .iconst 3, 1), (59, .iadd, 1), (60, .aload_n 0, 1), (61, .getfield 94, 3), (64, .iload_n 2, 1), (65, .iaload, 1), (66, .iastore, 1), (67, .aload_n 0, 1), (68, .getfield 51, 3), (71, .iload_n 1, 1), (72, .iconst 3, 1), (73, .iadd, 1), (74, .iload_n 3, 1), (75, .iastore, 1), (76, .iload_n 1, 1), (77, .iconst 4, 1), (78, .iadd, 1), (79, .ireturn, 1)]
set_option maxRecDepth 20000 in
theorem k_X12_pileProduct_0 {sc : xm_Sc} : xm_bok (xe_cy (XE sc) 276) b_X12_pileProduct_0 := by show xm_bok cX12_pileProduct _; unfold xm_bok; decide +kernel
set_option maxRecDepth 20000 in
theorem cn_276 {sc : xm_Sc} : xe_cn (XE sc) 276 = 12 := rfl
set_option maxRecDepth 20000 in
theorem ml_276 {sc : xm_Sc} : xe_ml (XE sc) 276 = 4 := rfl
set_option maxRecDepth 20000 in
theorem ry_276 {sc : xm_Sc} : xe_ry (XE sc) 276 = (some .int) := rfl
set_option maxRecDepth 20000 in
theorem is_276 {sc : xm_Sc} : xe_is (XE sc) 276 = false := rfl
set_option maxRecDepth 20000 in
theorem np_276 {sc : xm_Sc} : xe_np (XE sc) 276 = 3 := rfl
/- method 277: X12_product -/
def b_X12_product_0 : List (Nat × Jvm.ClassFile.Instr × Nat) := [(0, .lload_n 3, 1), (1, .lload 5, 2), (3, .lmul, 1), (4, .lstore 11, 2), (6, .iload_n 2, 1), (7, .bipush 64, 2), (9, .if_icmp .ge 44, 3)]
set_option maxRecDepth 20000 in
theorem k_X12_product_0 {sc : xm_Sc} : xm_bok (xe_cy (XE sc) 277) b_X12_product_0 := by show xm_bok cX12_product _; unfold xm_bok; decide +kernel
def b_X12_product_12 : List (Nat × Jvm.ClassFile.Instr × Nat) := [(12, .lload 11, 2), (14, .lload 7, 2), (16, .ladd, 1), (17, .lload 9, 2), (19, .ladd, 1), (20, .lstore 11, 2), (22, .aload_n 0, 1), (23, .iload_n 1, 1), (24, .iload_n 2, 1), (25, .lload 11, 2), (27, .iload_n 2, 1), (28, .lushr, 1), (29, .iload_n 2, 1), (30, .invokestatic 432, 3)]
set_option maxRecDepth 20000 in
theorem k_X12_product_12 {sc : xm_Sc} : xm_bok (xe_cy (XE sc) 277) b_X12_product_12 := by show xm_bok cX12_product _; unfold xm_bok; decide +kernel
def b_X12_product_33 : List (Nat × Jvm.ClassFile.Instr × Nat) := [(33, .land, 1), (34, .invokevirtual 436, 3)]
set_option maxRecDepth 20000 in
theorem k_X12_product_33 {sc : xm_Sc} : xm_bok (xe_cy (XE sc) 277) b_X12_product_33 := by show xm_bok cX12_product _; unfold xm_bok; decide +kernel
def b_X12_product_37 : List (Nat × Jvm.ClassFile.Instr × Nat) := [(37, .aload_n 0, 1), (38, .iload_n 1, 1), (39, .iload_n 2, 1), (40, .iadd, 1), (41, .iload_n 2, 1), (42, .lload 11, 2), (44, .iload_n 2, 1), (45, .invokestatic 432, 3)]
set_option maxRecDepth 20000 in
theorem k_X12_product_37 {sc : xm_Sc} : xm_bok (xe_cy (XE sc) 277) b_X12_product_37 := by show xm_bok cX12_product _; unfold xm_bok; decide +kernel
def b_X12_product_48 : List (Nat × Jvm.ClassFile.Instr × Nat) := [(48, .land, 1), (49, .invokevirtual 436, 3)]
set_option maxRecDepth 20000 in
theorem k_X12_product_48 {sc : xm_Sc} : xm_bok (xe_cy (XE sc) 277) b_X12_product_48 := by show xm_bok cX12_product _; unfold xm_bok; decide +kernel
def b_X12_product_52 : List (Nat × Jvm.ClassFile.Instr × Nat) := [(52, .return_, 1)]
set_option maxRecDepth 20000 in
theorem k_X12_product_52 {sc : xm_Sc} : xm_bok (xe_cy (XE sc) 277) b_X12_product_52 := by show xm_bok cX12_product _; unfold xm_bok; decide +kernel
def b_X12_product_53 : List (Nat × Jvm.ClassFile.Instr × Nat) := [(53, .lload_n 3, 1), (54, .lload 5, 2), (56, .invokestatic 440, 3)]
set_option maxRecDepth 20000 in
theorem k_X12_product_53 {sc : xm_Sc} : xm_bok (xe_cy (XE sc) 277) b_X12_product_53 := by show xm_bok cX12_product _; unfold xm_bok; decide +kernel
def b_X12_product_59 : List (Nat × Jvm.ClassFile.Instr × Nat) := [(59, .lstore 13, 2), (61, .lload 11, 2), (63, .lload 7, 2), (65, .ladd, 1), (66, .lstore 15, 2), (68, .lload 15, 2), (70, .lload 9, 2), (72, .ladd, 1), (73, .lstore 17, 2), (75, .lload 13, 2), (77, .lload 15, 2), (79, .lload 11, 2), (81, .invokestatic 421, 3)]
set_option maxRecDepth 20000 in
theorem k_X12_product_59 {sc : xm_Sc} : xm_bok (xe_cy (XE sc) 277) b_X12_product_59 := by show xm_bok cX12_product _; unfold xm_bok; decide +kernel
def b_X12_product_84 : List (Nat × Jvm.ClassFile.Instr × Nat) := [(84, .ifCond .eq 7, 3)]
set_option maxRecDepth 20000 in
theorem k_X12_product_84 {sc : xm_Sc} : xm_bok (xe_cy (XE sc) 277) b_X12_product_84 := by show xm_bok cX12_product _; unfold xm_bok; decide +kernel
def b_X12_product_87 : List (Nat × Jvm.ClassFile.Instr × Nat) := [(87, .lconst 1, 1), (88, .goto 4, 3)]
set_option maxRecDepth 20000 in
theorem k_X12_product_87 {sc : xm_Sc} : xm_bok (xe_cy (XE sc) 277) b_X12_product_87 := by show xm_bok cX12_product _; unfold xm_bok; decide +kernel
def b_X12_product_91 : List (Nat × Jvm.ClassFile.Instr × Nat) := [(91, .lconst 0, 1)]
set_option maxRecDepth 20000 in
theorem k_X12_product_91 {sc : xm_Sc} : xm_bok (xe_cy (XE sc) 277) b_X12_product_91 := by show xm_bok cX12_product _; unfold xm_bok; decide +kernel
def b_X12_product_92 : List (Nat × Jvm.ClassFile.Instr × Nat) := [(92, .lload 17, 2), (94, .lload 15, 2), (96, .invokestatic 421, 3)]
set_option maxRecDepth 20000 in
theorem k_X12_product_92 {sc : xm_Sc} : xm_bok (xe_cy (XE sc) 277) b_X12_product_92 := by show xm_bok cX12_product _; unfold xm_bok; decide +kernel
def b_X12_product_99 : List (Nat × Jvm.ClassFile.Instr × Nat) := [(99, .ifCond .eq 7, 3)]
set_option maxRecDepth 20000 in
theorem k_X12_product_99 {sc : xm_Sc} : xm_bok (xe_cy (XE sc) 277) b_X12_product_99 := by show xm_bok cX12_product _; unfold xm_bok; decide +kernel
def b_X12_product_102 : List (Nat × Jvm.ClassFile.Instr × Nat) := [(102, .lconst 1, 1), (103, .goto 4, 3)]
set_option maxRecDepth 20000 in
theorem k_X12_product_102 {sc : xm_Sc} : xm_bok (xe_cy (XE sc) 277) b_X12_product_102 := by show xm_bok cX12_product _; unfold xm_bok; decide +kernel
def b_X12_product_106 : List (Nat × Jvm.ClassFile.Instr × Nat) := [(106, .lconst 0, 1)]
set_option maxRecDepth 20000 in
theorem k_X12_product_106 {sc : xm_Sc} : xm_bok (xe_cy (XE sc) 277) b_X12_product_106 := by show xm_bok cX12_product _; unfold xm_bok; decide +kernel
def b_X12_product_107 : List (Nat × Jvm.ClassFile.Instr × Nat) := [(107, .ladd, 1), (108, .ladd, 1), (109, .lstore 13, 2), (111, .aload_n 0, 1), (112, .iload_n 1, 1), (113, .iload_n 2, 1), (114, .lload 13, 2), (116, .invokevirtual 436, 3)]
set_option maxRecDepth 20000 in
theorem k_X12_product_107 {sc : xm_Sc} : xm_bok (xe_cy (XE sc) 277) b_X12_product_107 := by show xm_bok cX12_product _; unfold xm_bok; decide +kernel
def b_X12_product_119 : List (Nat × Jvm.ClassFile.Instr × Nat) := [(119, .aload_n 0, 1), (120, .iload_n 1, 1), (121, .iload_n 2, 1), (122, .iadd, 1), (123, .iload_n 2, 1), (124, .lload 17, 2), (126, .invokevirtual 436, 3)]
set_option maxRecDepth 20000 in
theorem k_X12_product_119 {sc : xm_Sc} : xm_bok (xe_cy (XE sc) 277) b_X12_product_119 := by show xm_bok cX12_product _; unfold xm_bok; decide +kernel
def b_X12_product_129 : List (Nat × Jvm.ClassFile.Instr × Nat) := [(129, .return_, 1)]
set_option maxRecDepth 20000 in
theorem k_X12_product_129 {sc : xm_Sc} : xm_bok (xe_cy (XE sc) 277) b_X12_product_129 := by show xm_bok cX12_product _; unfold xm_bok; decide +kernel
set_option maxRecDepth 20000 in
theorem cn_277 {sc : xm_Sc} : xe_cn (XE sc) 277 = 12 := rfl
set_option maxRecDepth 20000 in
theorem ml_277 {sc : xm_Sc} : xe_ml (XE sc) 277 = 19 := rfl
set_option maxRecDepth 20000 in
theorem ry_277 {sc : xm_Sc} : xe_ry (XE sc) 277 = none := rfl
set_option maxRecDepth 20000 in
theorem is_277 {sc : xm_Sc} : xe_is (XE sc) 277 = false := rfl
set_option maxRecDepth 20000 in
theorem np_277 {sc : xm_Sc} : xe_np (XE sc) 277 = 6 := rfl
/- method 278: X12_programCells -/
def b_X12_programCells_0 : List (Nat × Jvm.ClassFile.Instr × Nat) := [(0, .aload_n 0, 1), (1, .getfield 78, 3), (4, .aload_n 0, 1), (5, .getfield 378, 3), (8, .iconst 1, 1), (9, .isub, 1), (10, .laload, 1), (11, .aload_n 0, 1), (12, .aload_n 0, 1), (13, .getfield 378, 3), (16, .iconst 1, 1), (17, .isub, 1), (18, .invokevirtual 403, 3)]
set_option maxRecDepth 20000 in
theorem k_X12_programCells_0 {sc : xm_Sc} : xm_bok (xe_cy (XE sc) 278) b_X12_programCells_0 := by show xm_bok cX12_programCells _; unfold xm_bok; decide +kernel
def b_X12_programCells_21 : List (Nat × Jvm.ClassFile.Instr × Nat) := [(21, .i2l, 1), (22, .ladd, 1), (23, .aload_n 0, 1), (24, .aload_n 0, 1), (25, .getfield 378, 3), (28, .iconst 1, 1), (29, .isub, 1), (30, .invokevirtual 400, 3)]
set_option maxRecDepth 20000 in
theorem k_X12_programCells_21 {sc : xm_Sc} : xm_bok (xe_cy (XE sc) 278) b_X12_programCells_21 := by show xm_bok cX12_programCells _; unfold xm_bok; decide +kernel
def b_X12_programCells_33 : List (Nat × Jvm.ClassFile.Instr × Nat) := [(33, .i2l, 1), (34, .ladd, 1), (35, .invokestatic 406, 3)]
set_option maxRecDepth 20000 in
theorem k_X12_programCells_33 {sc : xm_Sc} : xm_bok (xe_cy (XE sc) 278) b_X12_programCells_33 := by show xm_bok cX12_programCells _; unfold xm_bok; decide +kernel
def b_X12_programCells_38 : List (Nat × Jvm.ClassFile.Instr × Nat) := [(38, .lreturn, 1)]
set_option maxRecDepth 20000 in
theorem k_X12_programCells_38 {sc : xm_Sc} : xm_bok (xe_cy (XE sc) 278) b_X12_programCells_38 := by show xm_bok cX12_programCells _; unfold xm_bok; decide +kernel
set_option maxRecDepth 20000 in
theorem cn_278 {sc : xm_Sc} : xe_cn (XE sc) 278 = 12 := rfl
set_option maxRecDepth 20000 in
theorem ml_278 {sc : xm_Sc} : xe_ml (XE sc) 278 = 1 := rfl
set_option maxRecDepth 20000 in
theorem ry_278 {sc : xm_Sc} : xe_ry (XE sc) 278 = (some .long) := rfl
set_option maxRecDepth 20000 in
theorem is_278 {sc : xm_Sc} : xe_is (XE sc) 278 = false := rfl
set_option maxRecDepth 20000 in
theorem np_278 {sc : xm_Sc} : xe_np (XE sc) 278 = 0 := rfl
/- method 279: X12_put -/
def b_X12_put_0 : List (Nat × Jvm.ClassFile.Instr × Nat) := [(0, .iconst 0, 1), (1, .istore 5, 2)]
set_option maxRecDepth 20000 in
theorem k_X12_put_0 {sc : xm_Sc} : xm_bok (xe_cy (XE sc) 279) b_X12_put_0 := by show xm_bok cX12_put _; unfold xm_bok; decide +kernel
def b_X12_put_3 : List (Nat × Jvm.ClassFile.Instr × Nat) := [(3, .iload 5, 2), (5, .iload_n 2, 1), (6, .if_icmp .ge 30, 3)]
set_option maxRecDepth 20000 in
theorem k_X12_put_3 {sc : xm_Sc} : xm_bok (xe_cy (XE sc) 279) b_X12_put_3 := by show xm_bok cX12_put _; unfold xm_bok; decide +kernel
def b_X12_put_9 : List (Nat × Jvm.ClassFile.Instr × Nat) := [(9, .aload_n 0, 1), (10, .getfield 141, 3), (13, .iload_n 1, 1), (14, .iload 5, 2), (16, .iadd, 1), (17, .lload_n 3, 1), (18, .iload_n 2, 1), (19, .iconst 1, 1), (20, .isub, 1), (21, .iload 5, 2), (23, .isub, 1), (24, .lshr, 1), (25, .lconst 1, 1), (26, .land, 1), (27, .l2i, 1), (28, .i2b, 1), (29, .bastore, 1), (30, .iinc 5 1, 3), (33, .goto (-30), 3)]
set_option maxRecDepth 20000 in
theorem k_X12_put_9 {sc : xm_Sc} : xm_bok (xe_cy (XE sc) 279) b_X12_put_9 := by show xm_bok cX12_put _; unfold xm_bok; decide +kernel
def b_X12_put_36 : List (Nat × Jvm.ClassFile.Instr × Nat) := [(36, .return_, 1)]
set_option maxRecDepth 20000 in
theorem k_X12_put_36 {sc : xm_Sc} : xm_bok (xe_cy (XE sc) 279) b_X12_put_36 := by show xm_bok cX12_put _; unfold xm_bok; decide +kernel
set_option maxRecDepth 20000 in
theorem cn_279 {sc : xm_Sc} : xe_cn (XE sc) 279 = 12 := rfl
set_option maxRecDepth 20000 in
theorem ml_279 {sc : xm_Sc} : xe_ml (XE sc) 279 = 6 := rfl
set_option maxRecDepth 20000 in
theorem ry_279 {sc : xm_Sc} : xe_ry (XE sc) 279 = none := rfl
set_option maxRecDepth 20000 in
theorem is_279 {sc : xm_Sc} : xe_is (XE sc) 279 = false := rfl
set_option maxRecDepth 20000 in
theorem np_279 {sc : xm_Sc} : xe_np (XE sc) 279 = 3 := rfl
/- method 280: X12_quotient -/
def b_X12_quotient_0 : List (Nat × Jvm.ClassFile.Instr × Nat) := [(0, .lconst 0, 1), (1, .lstore 4, 2), (3, .lconst 0, 1), (4, .lstore 6, 2), (6, .bipush 63, 2), (8, .istore 8, 2)]
set_option maxRecDepth 20000 in
theorem k_X12_quotient_0 {sc : xm_Sc} : xm_bok (xe_cy (XE sc) 280) b_X12_quotient_0 := by show xm_bok cX12_quotient _; unfold xm_bok; decide +kernel
def b_X12_quotient_10 : List (Nat × Jvm.ClassFile.Instr × Nat) := [(10, .iload 8, 2), (12, .ifCond .lt 90, 3)]
set_option maxRecDepth 20000 in
theorem k_X12_quotient_10 {sc : xm_Sc} : xm_bok (xe_cy (XE sc) 280) b_X12_quotient_10 := by show xm_bok cX12_quotient _; unfold xm_bok; decide +kernel
def b_X12_quotient_15 : List (Nat × Jvm.ClassFile.Instr × Nat) := [(15, .lload 6, 2), (17, .lconst 0, 1), (18, .lcmp, 1), (19, .ifCond .ge 7, 3)]
set_option maxRecDepth 20000 in
theorem k_X12_quotient_15 {sc : xm_Sc} : xm_bok (xe_cy (XE sc) 280) b_X12_quotient_15 := by show xm_bok cX12_quotient _; unfold xm_bok; decide +kernel
def b_X12_quotient_22 : List (Nat × Jvm.ClassFile.Instr × Nat) := [(22, .iconst 1, 1), (23, .goto 4, 3)]
set_option maxRecDepth 20000 in
theorem k_X12_quotient_22 {sc : xm_Sc} : xm_bok (xe_cy (XE sc) 280) b_X12_quotient_22 := by show xm_bok cX12_quotient _; unfold xm_bok; decide +kernel
def b_X12_quotient_26 : List (Nat × Jvm.ClassFile.Instr × Nat) := [(26, .iconst 0, 1)]
set_option maxRecDepth 20000 in
theorem k_X12_quotient_26 {sc : xm_Sc} : xm_bok (xe_cy (XE sc) 280) b_X12_quotient_26 := by show xm_bok cX12_quotient _; unfold xm_bok; decide +kernel
def b_X12_quotient_27 : List (Nat × Jvm.ClassFile.Instr × Nat) := [(27, .istore 9, 2), (29, .lload 6, 2), (31, .iconst 1, 1), (32, .lshl, 1), (33, .lload_n 0, 1), (34, .iload 8, 2), (36, .lshr, 1), (37, .lconst 1, 1), (38, .land, 1), (39, .lor, 1), (40, .lstore 6, 2), (42, .iload 9, 2), (44, .ifCond .ne 12, 3)]
set_option maxRecDepth 20000 in
theorem k_X12_quotient_27 {sc : xm_Sc} : xm_bok (xe_cy (XE sc) 280) b_X12_quotient_27 := by show xm_bok cX12_quotient _; unfold xm_bok; decide +kernel
def b_X12_quotient_47 : List (Nat × Jvm.ClassFile.Instr × Nat) := [(47, .lload 6, 2), (49, .lload_n 2, 1), (50, .invokestatic 421, 3)]
set_option maxRecDepth 20000 in
theorem k_X12_quotient_47 {sc : xm_Sc} : xm_bok (xe_cy (XE sc) 280) b_X12_quotient_47 := by show xm_bok cX12_quotient _; unfold xm_bok; decide +kernel
def b_X12_quotient_53 : List (Nat × Jvm.ClassFile.Instr × Nat) := [(53, .ifCond .ne 7, 3)]
set_option maxRecDepth 20000 in
theorem k_X12_quotient_53 {sc : xm_Sc} : xm_bok (xe_cy (XE sc) 280) b_X12_quotient_53 := by show xm_bok cX12_quotient _; unfold xm_bok; decide +kernel
def b_X12_quotient_56 : List (Nat × Jvm.ClassFile.Instr × Nat) := [(56, .iconst 1, 1), (57, .goto 4, 3)]
set_option maxRecDepth 20000 in
theorem k_X12_quotient_56 {sc : xm_Sc} : xm_bok (xe_cy (XE sc) 280) b_X12_quotient_56 := by show xm_bok cX12_quotient _; unfold xm_bok; decide +kernel
def b_X12_quotient_60 : List (Nat × Jvm.ClassFile.Instr × Nat) := [(60, .iconst 0, 1)]
set_option maxRecDepth 20000 in
theorem k_X12_quotient_60 {sc : xm_Sc} : xm_bok (xe_cy (XE sc) 280) b_X12_quotient_60 := by show xm_bok cX12_quotient _; unfold xm_bok; decide +kernel
def b_X12_quotient_61 : List (Nat × Jvm.ClassFile.Instr × Nat) := [(61, .istore 10, 2), (63, .lload 6, 2), (65, .iload 10, 2), (67, .ifCond .eq 7, 3)]
set_option maxRecDepth 20000 in
theorem k_X12_quotient_61 {sc : xm_Sc} : xm_bok (xe_cy (XE sc) 280) b_X12_quotient_61 := by show xm_bok cX12_quotient _; unfold xm_bok; decide +kernel
def b_X12_quotient_70 : List (Nat × Jvm.ClassFile.Instr × Nat) := [(70, .lload_n 2, 1), (71, .goto 4, 3)]
set_option maxRecDepth 20000 in
theorem k_X12_quotient_70 {sc : xm_Sc} : xm_bok (xe_cy (XE sc) 280) b_X12_quotient_70 := by show xm_bok cX12_quotient _; unfold xm_bok; decide +kernel
def b_X12_quotient_74 : List (Nat × Jvm.ClassFile.Instr × Nat) := [(74, .lconst 0, 1)]
set_option maxRecDepth 20000 in
theorem k_X12_quotient_74 {sc : xm_Sc} : xm_bok (xe_cy (XE sc) 280) b_X12_quotient_74 := by show xm_bok cX12_quotient _; unfold xm_bok; decide +kernel
def b_X12_quotient_75 : List (Nat × Jvm.ClassFile.Instr × Nat) := [(75, .lsub, 1), (76, .lstore 6, 2), (78, .lload 4, 2), (80, .iload 10, 2), (82, .ifCond .eq 10, 3)]
set_option maxRecDepth 20000 in
theorem k_X12_quotient_75 {sc : xm_Sc} : xm_bok (xe_cy (XE sc) 280) b_X12_quotient_75 := by show xm_bok cX12_quotient _; unfold xm_bok; decide +kernel
def b_X12_quotient_85 : List (Nat × Jvm.ClassFile.Instr × Nat) := [(85, .lconst 1, 1), (86, .iload 8, 2), (88, .lshl, 1), (89, .goto 4, 3)]
set_option maxRecDepth 20000 in
theorem k_X12_quotient_85 {sc : xm_Sc} : xm_bok (xe_cy (XE sc) 280) b_X12_quotient_85 := by show xm_bok cX12_quotient _; unfold xm_bok; decide +kernel
def b_X12_quotient_92 : List (Nat × Jvm.ClassFile.Instr × Nat) := [(92, .lconst 0, 1)]
set_option maxRecDepth 20000 in
theorem k_X12_quotient_92 {sc : xm_Sc} : xm_bok (xe_cy (XE sc) 280) b_X12_quotient_92 := by show xm_bok cX12_quotient _; unfold xm_bok; decide +kernel
def b_X12_quotient_93 : List (Nat × Jvm.ClassFile.Instr × Nat) := [(93, .lor, 1), (94, .lstore 4, 2), (96, .iinc 8 (-1), 3), (99, .goto (-89), 3)]
set_option maxRecDepth 20000 in
theorem k_X12_quotient_93 {sc : xm_Sc} : xm_bok (xe_cy (XE sc) 280) b_X12_quotient_93 := by show xm_bok cX12_quotient _; unfold xm_bok; decide +kernel
def b_X12_quotient_102 : List (Nat × Jvm.ClassFile.Instr × Nat) := [(102, .lload 4, 2), (104, .lreturn, 1)]
set_option maxRecDepth 20000 in
theorem k_X12_quotient_102 {sc : xm_Sc} : xm_bok (xe_cy (XE sc) 280) b_X12_quotient_102 := by show xm_bok cX12_quotient _; unfold xm_bok; decide +kernel
set_option maxRecDepth 20000 in
theorem cn_280 {sc : xm_Sc} : xe_cn (XE sc) 280 = 12 := rfl
set_option maxRecDepth 20000 in
theorem ml_280 {sc : xm_Sc} : xe_ml (XE sc) 280 = 11 := rfl
set_option maxRecDepth 20000 in
theorem ry_280 {sc : xm_Sc} : xe_ry (XE sc) 280 = (some .long) := rfl
set_option maxRecDepth 20000 in
theorem is_280 {sc : xm_Sc} : xe_is (XE sc) 280 = true := rfl
set_option maxRecDepth 20000 in
theorem np_280 {sc : xm_Sc} : xe_np (XE sc) 280 = 2 := rfl
/- method 281: X12_readChild -/
def b_X12_readChild_0 : List (Nat × Jvm.ClassFile.Instr × Nat) := [(0, .aload_n 0, 1), (1, .invokevirtual 345, 3)]
set_option maxRecDepth 20000 in
theorem k_X12_readChild_0 {sc : xm_Sc} : xm_bok (xe_cy (XE sc) 281) b_X12_readChild_0 := by show xm_bok cX12_readChild _; unfold xm_bok; decide +kernel
def b_X12_readChild_4 : List (Nat × Jvm.ClassFile.Instr × Nat) := [(4, .istore_n 2, 1), (5, .aload_n 0, 1), (6, .getfield 330, 3), (9, .ifCond .ne 13, 3)]
set_option maxRecDepth 20000 in
theorem k_X12_readChild_4 {sc : xm_Sc} : xm_bok (xe_cy (XE sc) 281) b_X12_readChild_4 := by show xm_bok cX12_readChild _; unfold xm_bok; decide +kernel
def b_X12_readChild_12 : List (Nat × Jvm.ClassFile.Instr × Nat) := [(12, .iload_n 2, 1), (13, .iload_n 1, 1), (14, .if_icmp .le 8, 3)]
set_option maxRecDepth 20000 in
theorem k_X12_readChild_12 {sc : xm_Sc} : xm_bok (xe_cy (XE sc) 281) b_X12_readChild_12 := by show xm_bok cX12_readChild _; unfold xm_bok; decide +kernel
def b_X12_readChild_17 : List (Nat × Jvm.ClassFile.Instr × Nat) := [(17, .aload_n 0, 1), (18, .iconst 3, 1), (19, .putfield 330, 3)]
set_option maxRecDepth 20000 in
theorem k_X12_readChild_17 {sc : xm_Sc} : xm_bok (xe_cy (XE sc) 281) b_X12_readChild_17 := by show xm_bok cX12_readChild _; unfold xm_bok; decide +kernel
def b_X12_readChild_22 : List (Nat × Jvm.ClassFile.Instr × Nat) := [(22, .iload_n 1, 1), (23, .iload_n 2, 1), (24, .isub, 1), (25, .ireturn, 1)]
set_option maxRecDepth 20000 in
theorem k_X12_readChild_22 {sc : xm_Sc} : xm_bok (xe_cy (XE sc) 281) b_X12_readChild_22 := by show xm_bok cX12_readChild _; unfold xm_bok; decide +kernel
set_option maxRecDepth 20000 in
theorem cn_281 {sc : xm_Sc} : xe_cn (XE sc) 281 = 12 := rfl
set_option maxRecDepth 20000 in
theorem ml_281 {sc : xm_Sc} : xe_ml (XE sc) 281 = 3 := rfl
set_option maxRecDepth 20000 in
theorem ry_281 {sc : xm_Sc} : xe_ry (XE sc) 281 = (some .int) := rfl
set_option maxRecDepth 20000 in
theorem is_281 {sc : xm_Sc} : xe_is (XE sc) 281 = false := rfl
set_option maxRecDepth 20000 in
theorem np_281 {sc : xm_Sc} : xe_np (XE sc) 281 = 1 := rfl
/- method 282: X12_readNode -/
def b_X12_readNode_0 : List (Nat × Jvm.ClassFile.Instr × Nat) := [(0, .aload_n 0, 1), (1, .iconst 5, 1), (2, .invokevirtual 342, 3)]
set_option maxRecDepth 20000 in
theorem k_X12_readNode_0 {sc : xm_Sc} : xm_bok (xe_cy (XE sc) 282) b_X12_readNode_0 := by show xm_bok cX12_readNode _; unfold xm_bok; decide +kernel
def b_X12_readNode_5 : List (Nat × Jvm.ClassFile.Instr × Nat) := [(5, .istore_n 2, 1), (6, .aload_n 0, 1), (7, .getfield 330, 3), (10, .ifCond .ne 14, 3)]
set_option maxRecDepth 20000 in
theorem k_X12_readNode_5 {sc : xm_Sc} : xm_bok (xe_cy (XE sc) 282) b_X12_readNode_5 := by show xm_bok cX12_readNode _; unfold xm_bok; decide +kernel
def b_X12_readNode_13 : List (Nat × Jvm.ClassFile.Instr × Nat) := [(13, .iload_n 2, 1), (14, .bipush 12, 2), (16, .if_icmp .le 8, 3)]
set_option maxRecDepth 20000 in
theorem k_X12_readNode_13 {sc : xm_Sc} : xm_bok (xe_cy (XE sc) 282) b_X12_readNode_13 := by show xm_bok cX12_readNode _; unfold xm_bok; decide +kernel
def b_X12_readNode_19 : List (Nat × Jvm.ClassFile.Instr × Nat) := [(19, .aload_n 0, 1), (20, .iconst 2, 1), (21, .putfield 330, 3)]
set_option maxRecDepth 20000 in
theorem k_X12_readNode_19 {sc : xm_Sc} : xm_bok (xe_cy (XE sc) 282) b_X12_readNode_19 := by show xm_bok cX12_readNode _; unfold xm_bok; decide +kernel
def b_X12_readNode_24 : List (Nat × Jvm.ClassFile.Instr × Nat) := [(24, .aload_n 0, 1), (25, .getfield 330, 3), (28, .ifCond .le 4, 3)]
set_option maxRecDepth 20000 in
theorem k_X12_readNode_24 {sc : xm_Sc} : xm_bok (xe_cy (XE sc) 282) b_X12_readNode_24 := by show xm_bok cX12_readNode _; unfold xm_bok; decide +kernel
def b_X12_readNode_31 : List (Nat × Jvm.ClassFile.Instr × Nat) := [(31, .return_, 1)]
set_option maxRecDepth 20000 in
theorem k_X12_readNode_31 {sc : xm_Sc} : xm_bok (xe_cy (XE sc) 282) b_X12_readNode_31 := by show xm_bok cX12_readNode _; unfold xm_bok; decide +kernel
def b_X12_readNode_32 : List (Nat × Jvm.ClassFile.Instr × Nat) := [(32, .aload_n 0, 1), (33, .getfield 16, 3), (36, .iload_n 1, 1), (37, .iload_n 2, 1), (38, .iastore, 1), (39, .aload_n 0, 1), (40, .getfield 19, 3), (43, .iload_n 1, 1), (44, .iconst (-1), 1), (45, .iastore, 1), (46, .aload_n 0, 1), (47, .getfield 22, 3), (50, .iload_n 1, 1), (51, .iconst (-1), 1), (52, .iastore, 1), (53, .aload_n 0, 1), (54, .getfield 25, 3), (57, .iload_n 1, 1), (58, .iconst 0, 1), (59, .iastore, 1), (60, .iload_n 2, 1), (61, .bipush 6, 2), (63, .if_icmp .gt 14, 3)]
set_option maxRecDepth 20000 in
theorem k_X12_readNode_32 {sc : xm_Sc} : xm_bok (xe_cy (XE sc) 282) b_X12_readNode_32 := by show xm_bok cX12_readNode _; unfold xm_bok; decide +kernel
def b_X12_readNode_66 : List (Nat × Jvm.ClassFile.Instr × Nat) := [(66, .aload_n 0, 1), (67, .getfield 19, 3), (70, .iload_n 1, 1), (71, .aload_n 0, 1), (72, .iload_n 1, 1), (73, .invokevirtual 348, 3)]
set_option maxRecDepth 20000 in
theorem k_X12_readNode_66 {sc : xm_Sc} : xm_bok (xe_cy (XE sc) 282) b_X12_readNode_66 := by show xm_bok cX12_readNode _; unfold xm_bok; decide +kernel
def b_X12_readNode_76 : List (Nat × Jvm.ClassFile.Instr × Nat) := [(76, .iastore, 1)]
set_option maxRecDepth 20000 in
theorem k_X12_readNode_76 {sc : xm_Sc} : xm_bok (xe_cy (XE sc) 282) b_X12_readNode_76 := by show xm_bok cX12_readNode _; unfold xm_bok; decide +kernel
def b_X12_readNode_77 : List (Nat × Jvm.ClassFile.Instr × Nat) := [(77, .iload_n 2, 1), (78, .iconst 2, 1), (79, .if_icmp .gt 21, 3)]
set_option maxRecDepth 20000 in
theorem k_X12_readNode_77 {sc : xm_Sc} : xm_bok (xe_cy (XE sc) 282) b_X12_readNode_77 := by show xm_bok cX12_readNode _; unfold xm_bok; decide +kernel
def b_X12_readNode_82 : List (Nat × Jvm.ClassFile.Instr × Nat) := [(82, .aload_n 0, 1), (83, .getfield 330, 3), (86, .ifCond .ne 14, 3)]
set_option maxRecDepth 20000 in
theorem k_X12_readNode_82 {sc : xm_Sc} : xm_bok (xe_cy (XE sc) 282) b_X12_readNode_82 := by show xm_bok cX12_readNode _; unfold xm_bok; decide +kernel
def b_X12_readNode_89 : List (Nat × Jvm.ClassFile.Instr × Nat) := [(89, .aload_n 0, 1), (90, .getfield 22, 3), (93, .iload_n 1, 1), (94, .aload_n 0, 1), (95, .iload_n 1, 1), (96, .invokevirtual 348, 3)]
set_option maxRecDepth 20000 in
theorem k_X12_readNode_89 {sc : xm_Sc} : xm_bok (xe_cy (XE sc) 282) b_X12_readNode_89 := by show xm_bok cX12_readNode _; unfold xm_bok; decide +kernel
def b_X12_readNode_99 : List (Nat × Jvm.ClassFile.Instr × Nat) := [(99, .iastore, 1)]
set_option maxRecDepth 20000 in
theorem k_X12_readNode_99 {sc : xm_Sc} : xm_bok (xe_cy (XE sc) 282) b_X12_readNode_99 := by show xm_bok cX12_readNode _; unfold xm_bok; decide +kernel
def b_X12_readNode_100 : List (Nat × Jvm.ClassFile.Instr × Nat) := [(100, .iconst 0, 1), (101, .istore_n 3, 1)]
set_option maxRecDepth 20000 in
theorem k_X12_readNode_100 {sc : xm_Sc} : xm_bok (xe_cy (XE sc) 282) b_X12_readNode_100 := by show xm_bok cX12_readNode _; unfold xm_bok; decide +kernel
def b_X12_readNode_102 : List (Nat × Jvm.ClassFile.Instr × Nat) := [(102, .iload_n 2, 1), (103, .bipush 11, 2), (105, .if_icmp .ne 32, 3)]
set_option maxRecDepth 20000 in
theorem k_X12_readNode_102 {sc : xm_Sc} : xm_bok (xe_cy (XE sc) 282) b_X12_readNode_102 := by show xm_bok cX12_readNode _; unfold xm_bok; decide +kernel
def b_X12_readNode_108 : List (Nat × Jvm.ClassFile.Instr × Nat) := [(108, .iload_n 3, 1), (109, .bipush 8, 2), (111, .if_icmp .ge 26, 3)]
set_option maxRecDepth 20000 in
theorem k_X12_readNode_108 {sc : xm_Sc} : xm_bok (xe_cy (XE sc) 282) b_X12_readNode_108 := by show xm_bok cX12_readNode _; unfold xm_bok; decide +kernel
def b_X12_readNode_114 : List (Nat × Jvm.ClassFile.Instr × Nat) := [(114, .aload_n 0, 1), (115, .getfield 31, 3), (118, .bipush 8, 2), (120, .iload_n 1, 1), (121, .imul, 1), (122, .iload_n 3, 1), (123, .iadd, 1), (124, .aload_n 0, 1), (125, .bipush 32, 2), (127, .invokevirtual 342, 3)]
set_option maxRecDepth 20000 in
theorem k_X12_readNode_114 {sc : xm_Sc} : xm_bok (xe_cy (XE sc) 282) b_X12_readNode_114 := by show xm_bok cX12_readNode _; unfold xm_bok; decide +kernel
def b_X12_readNode_130 : List (Nat × Jvm.ClassFile.Instr × Nat) := [(130, .iastore, 1), (131, .iinc 3 1, 3), (134, .goto (-32), 3)]
set_option maxRecDepth 20000 in
theorem k_X12_readNode_130 {sc : xm_Sc} : xm_bok (xe_cy (XE sc) 282) b_X12_readNode_130 := by show xm_bok cX12_readNode _; unfold xm_bok; decide +kernel
def b_X12_readNode_137 : List (Nat × Jvm.ClassFile.Instr × Nat) := [(137, .iload_n 2, 1), (138, .bipush 12, 2), (140, .if_icmp .eq 4, 3)]
set_option maxRecDepth 20000 in
theorem k_X12_readNode_137 {sc : xm_Sc} : xm_bok (xe_cy (XE sc) 282) b_X12_readNode_137 := by show xm_bok cX12_readNode _; unfold xm_bok; decide +kernel
def b_X12_readNode_143 : List (Nat × Jvm.ClassFile.Instr × Nat) := [(143, .return_, 1)]
set_option maxRecDepth 20000 in
theorem k_X12_readNode_143 {sc : xm_Sc} : xm_bok (xe_cy (XE sc) 282) b_X12_readNode_143 := by show xm_bok cX12_readNode _; unfold xm_bok; decide +kernel
def b_X12_readNode_144 : List (Nat × Jvm.ClassFile.Instr × Nat) := [(144, .aload_n 0, 1), (145, .getfield 25, 3), (148, .iload_n 1, 1), (149, .aload_n 0, 1), (150, .bipush 8, 2), (152, .invokevirtual 342, 3)]
set_option maxRecDepth 20000 in
theorem k_X12_readNode_144 {sc : xm_Sc} : xm_bok (xe_cy (XE sc) 282) b_X12_readNode_144 := by show xm_bok cX12_readNode _; unfold xm_bok; decide +kernel
def b_X12_readNode_155 : List (Nat × Jvm.ClassFile.Instr × Nat) := [(155, .iastore, 1), (156, .aload_n 0, 1), (157, .getfield 330, 3), (160, .ifCond .ne 20, 3)]
set_option maxRecDepth 20000 in
theorem k_X12_readNode_155 {sc : xm_Sc} : xm_bok (xe_cy (XE sc) 282) b_X12_readNode_155 := by show xm_bok cX12_readNode _; unfold xm_bok; decide +kernel
def b_X12_readNode_163 : List (Nat × Jvm.ClassFile.Instr × Nat) := [(163, .aload_n 0, 1), (164, .getfield 25, 3), (167, .iload_n 1, 1), (168, .iaload, 1), (169, .sipush 167, 3), (172, .if_icmp .le 8, 3)]
set_option maxRecDepth 20000 in
theorem k_X12_readNode_163 {sc : xm_Sc} : xm_bok (xe_cy (XE sc) 282) b_X12_readNode_163 := by show xm_bok cX12_readNode _; unfold xm_bok; decide +kernel
def b_X12_readNode_175 : List (Nat × Jvm.ClassFile.Instr × Nat) := [(175, .aload_n 0, 1), (176, .iconst 2, 1), (177, .putfield 330, 3)]
set_option maxRecDepth 20000 in
theorem k_X12_readNode_175 {sc : xm_Sc} : xm_bok (xe_cy (XE sc) 282) b_X12_readNode_175 := by show xm_bok cX12_readNode _; unfold xm_bok; decide +kernel
def b_X12_readNode_180 : List (Nat × Jvm.ClassFile.Instr × Nat) := [(180, .return_, 1)]
set_option maxRecDepth 20000 in
theorem k_X12_readNode_180 {sc : xm_Sc} : xm_bok (xe_cy (XE sc) 282) b_X12_readNode_180 := by show xm_bok cX12_readNode _; unfold xm_bok; decide +kernel
set_option maxRecDepth 20000 in
theorem cn_282 {sc : xm_Sc} : xe_cn (XE sc) 282 = 12 := rfl
set_option maxRecDepth 20000 in
theorem ml_282 {sc : xm_Sc} : xe_ml (XE sc) 282 = 4 := rfl
set_option maxRecDepth 20000 in
theorem ry_282 {sc : xm_Sc} : xe_ry (XE sc) 282 = none := rfl
set_option maxRecDepth 20000 in
theorem is_282 {sc : xm_Sc} : xe_is (XE sc) 282 = false := rfl
set_option maxRecDepth 20000 in
theorem np_282 {sc : xm_Sc} : xe_np (XE sc) 282 = 1 := rfl
/- method 283: X12_readProgram -/
def b_X12_readProgram_0 : List (Nat × Jvm.ClassFile.Instr × Nat) := [(0, .aload_n 0, 1), (1, .iconst 0, 1), (2, .putfield 333, 3), (5, .aload_n 0, 1), (6, .bipush 8, 2), (8, .aload_n 0, 1), (9, .getfield 215, 3), (12, .imul, 1), (13, .putfield 336, 3), (16, .aload_n 0, 1), (17, .iconst 0, 1), (18, .putfield 330, 3), (21, .aload_n 0, 1), (22, .aload_n 0, 1), (23, .invokevirtual 345, 3)]
set_option maxRecDepth 20000 in
theorem k_X12_readProgram_0 {sc : xm_Sc} : xm_bok (xe_cy (XE sc) 283) b_X12_readProgram_0 := by show xm_bok cX12_readProgram _; unfold xm_bok; decide +kernel
def b_X12_readProgram_26 : List (Nat × Jvm.ClassFile.Instr × Nat) := [(26, .putfield 223, 3), (29, .aload_n 0, 1), (30, .getfield 330, 3), (33, .ifCond .ne 18, 3)]
set_option maxRecDepth 20000 in
theorem k_X12_readProgram_26 {sc : xm_Sc} : xm_bok (xe_cy (XE sc) 283) b_X12_readProgram_26 := by show xm_bok cX12_readProgram _; unfold xm_bok; decide +kernel
def b_X12_readProgram_36 : List (Nat × Jvm.ClassFile.Instr × Nat) := [(36, .aload_n 0, 1), (37, .getfield 223, 3), (40, .sipush 400, 3), (43, .if_icmp .le 8, 3)]
set_option maxRecDepth 20000 in
theorem k_X12_readProgram_36 {sc : xm_Sc} : xm_bok (xe_cy (XE sc) 283) b_X12_readProgram_36 := by show xm_bok cX12_readProgram _; unfold xm_bok; decide +kernel
def b_X12_readProgram_46 : List (Nat × Jvm.ClassFile.Instr × Nat) := [(46, .aload_n 0, 1), (47, .iconst 4, 1), (48, .putfield 330, 3)]
set_option maxRecDepth 20000 in
theorem k_X12_readProgram_46 {sc : xm_Sc} : xm_bok (xe_cy (XE sc) 283) b_X12_readProgram_46 := by show xm_bok cX12_readProgram _; unfold xm_bok; decide +kernel
def b_X12_readProgram_51 : List (Nat × Jvm.ClassFile.Instr × Nat) := [(51, .iconst 0, 1), (52, .istore_n 1, 1)]
set_option maxRecDepth 20000 in
theorem k_X12_readProgram_51 {sc : xm_Sc} : xm_bok (xe_cy (XE sc) 283) b_X12_readProgram_51 := by show xm_bok cX12_readProgram _; unfold xm_bok; decide +kernel
def b_X12_readProgram_53 : List (Nat × Jvm.ClassFile.Instr × Nat) := [(53, .iload_n 1, 1), (54, .aload_n 0, 1), (55, .getfield 223, 3), (58, .if_icmp .ge 21, 3)]
set_option maxRecDepth 20000 in
theorem k_X12_readProgram_53 {sc : xm_Sc} : xm_bok (xe_cy (XE sc) 283) b_X12_readProgram_53 := by show xm_bok cX12_readProgram _; unfold xm_bok; decide +kernel
def b_X12_readProgram_61 : List (Nat × Jvm.ClassFile.Instr × Nat) := [(61, .aload_n 0, 1), (62, .getfield 330, 3), (65, .ifCond .ne 14, 3)]
set_option maxRecDepth 20000 in
theorem k_X12_readProgram_61 {sc : xm_Sc} : xm_bok (xe_cy (XE sc) 283) b_X12_readProgram_61 := by show xm_bok cX12_readProgram _; unfold xm_bok; decide +kernel
def b_X12_readProgram_68 : List (Nat × Jvm.ClassFile.Instr × Nat) := [(68, .aload_n 0, 1), (69, .iload_n 1, 1), (70, .invokevirtual 360, 3)]
set_option maxRecDepth 20000 in
theorem k_X12_readProgram_68 {sc : xm_Sc} : xm_bok (xe_cy (XE sc) 283) b_X12_readProgram_68 := by show xm_bok cX12_readProgram _; unfold xm_bok; decide +kernel
def b_X12_readProgram_73 : List (Nat × Jvm.ClassFile.Instr × Nat) := [(73, .iinc 1 1, 3), (76, .goto (-23), 3)]
set_option maxRecDepth 20000 in
theorem k_X12_readProgram_73 {sc : xm_Sc} : xm_bok (xe_cy (XE sc) 283) b_X12_readProgram_73 := by show xm_bok cX12_readProgram _; unfold xm_bok; decide +kernel
def b_X12_readProgram_79 : List (Nat × Jvm.ClassFile.Instr × Nat) := [(79, .aload_n 0, 1), (80, .getfield 330, 3), (83, .ifCond .le 8, 3)]
set_option maxRecDepth 20000 in
theorem k_X12_readProgram_79 {sc : xm_Sc} : xm_bok (xe_cy (XE sc) 283) b_X12_readProgram_79 := by show xm_bok cX12_readProgram _; unfold xm_bok; decide +kernel
def b_X12_readProgram_86 : List (Nat × Jvm.ClassFile.Instr × Nat) := [(86, .aload_n 0, 1), (87, .getfield 330, 3), (90, .ireturn, 1)]
set_option maxRecDepth 20000 in
theorem k_X12_readProgram_86 {sc : xm_Sc} : xm_bok (xe_cy (XE sc) 283) b_X12_readProgram_86 := by show xm_bok cX12_readProgram _; unfold xm_bok; decide +kernel
def b_X12_readProgram_91 : List (Nat × Jvm.ClassFile.Instr × Nat) := [(91, .aload_n 0, 1), (92, .invokevirtual 363, 3)]
set_option maxRecDepth 20000 in
theorem k_X12_readProgram_91 {sc : xm_Sc} : xm_bok (xe_cy (XE sc) 283) b_X12_readProgram_91 := by show xm_bok cX12_readProgram _; unfold xm_bok; decide +kernel
def b_X12_readProgram_95 : List (Nat × Jvm.ClassFile.Instr × Nat) := [(95, .ifCond .ne 5, 3)]
set_option maxRecDepth 20000 in
theorem k_X12_readProgram_95 {sc : xm_Sc} : xm_bok (xe_cy (XE sc) 283) b_X12_readProgram_95 := by show xm_bok cX12_readProgram _; unfold xm_bok; decide +kernel
def b_X12_readProgram_98 : List (Nat × Jvm.ClassFile.Instr × Nat) := [(98, .iconst 5, 1), (99, .ireturn, 1)]
set_option maxRecDepth 20000 in
theorem k_X12_readProgram_98 {sc : xm_Sc} : xm_bok (xe_cy (XE sc) 283) b_X12_readProgram_98 := by show xm_bok cX12_readProgram _; unfold xm_bok; decide +kernel
def b_X12_readProgram_100 : List (Nat × Jvm.ClassFile.Instr × Nat) := [(100, .aload_n 0, 1), (101, .aload_n 0, 1), (102, .getfield 223, 3), (105, .iconst 1, 1), (106, .isub, 1), (107, .invokevirtual 366, 3)]
set_option maxRecDepth 20000 in
theorem k_X12_readProgram_100 {sc : xm_Sc} : xm_bok (xe_cy (XE sc) 283) b_X12_readProgram_100 := by show xm_bok cX12_readProgram _; unfold xm_bok; decide +kernel
def b_X12_readProgram_110 : List (Nat × Jvm.ClassFile.Instr × Nat) := [(110, .ifCond .eq 6, 3)]
set_option maxRecDepth 20000 in
theorem k_X12_readProgram_110 {sc : xm_Sc} : xm_bok (xe_cy (XE sc) 283) b_X12_readProgram_110 := by show xm_bok cX12_readProgram _; unfold xm_bok; decide +kernel
def b_X12_readProgram_113 : List (Nat × Jvm.ClassFile.Instr × Nat) := [(113, .bipush 7, 2), (115, .ireturn, 1)]
set_option maxRecDepth 20000 in
theorem k_X12_readProgram_113 {sc : xm_Sc} : xm_bok (xe_cy (XE sc) 283) b_X12_readProgram_113 := by show xm_bok cX12_readProgram _; unfold xm_bok; decide +kernel
def b_X12_readProgram_116 : List (Nat × Jvm.ClassFile.Instr × Nat) := [(116, .aload_n 0, 1), (117, .invokevirtual 369, 3)]
set_option maxRecDepth 20000 in
theorem k_X12_readProgram_116 {sc : xm_Sc} : xm_bok (xe_cy (XE sc) 283) b_X12_readProgram_116 := by show xm_bok cX12_readProgram _; unfold xm_bok; decide +kernel
def b_X12_readProgram_120 : List (Nat × Jvm.ClassFile.Instr × Nat) := [(120, .istore_n 1, 1), (121, .iload_n 1, 1), (122, .ifCond .le 5, 3)]
set_option maxRecDepth 20000 in
theorem k_X12_readProgram_120 {sc : xm_Sc} : xm_bok (xe_cy (XE sc) 283) b_X12_readProgram_120 := by show xm_bok cX12_readProgram _; unfold xm_bok; decide +kernel
def b_X12_readProgram_125 : List (Nat × Jvm.ClassFile.Instr × Nat) := [(125, .iload_n 1, 1), (126, .ireturn, 1)]
set_option maxRecDepth 20000 in
theorem k_X12_readProgram_125 {sc : xm_Sc} : xm_bok (xe_cy (XE sc) 283) b_X12_readProgram_125 := by show xm_bok cX12_readProgram _; unfold xm_bok; decide +kernel
def b_X12_readProgram_127 : List (Nat × Jvm.ClassFile.Instr × Nat) := [(127, .aload_n 0, 1), (128, .invokevirtual 372, 3)]
set_option maxRecDepth 20000 in
theorem k_X12_readProgram_127 {sc : xm_Sc} : xm_bok (xe_cy (XE sc) 283) b_X12_readProgram_127 := by show xm_bok cX12_readProgram _; unfold xm_bok; decide +kernel
def b_X12_readProgram_131 : List (Nat × Jvm.ClassFile.Instr × Nat) := [(131, .ifCond .eq 6, 3)]
set_option maxRecDepth 20000 in
theorem k_X12_readProgram_131 {sc : xm_Sc} : xm_bok (xe_cy (XE sc) 283) b_X12_readProgram_131 := by show xm_bok cX12_readProgram _; unfold xm_bok; decide +kernel
def b_X12_readProgram_134 : List (Nat × Jvm.ClassFile.Instr × Nat) := [(134, .bipush 6, 2), (136, .ireturn, 1)]
set_option maxRecDepth 20000 in
theorem k_X12_readProgram_134 {sc : xm_Sc} : xm_bok (xe_cy (XE sc) 283) b_X12_readProgram_134 := by show xm_bok cX12_readProgram _; unfold xm_bok; decide +kernel
def b_X12_readProgram_137 : List (Nat × Jvm.ClassFile.Instr × Nat) := [(137, .aload_n 0, 1), (138, .invokevirtual 375, 3)]
set_option maxRecDepth 20000 in
theorem k_X12_readProgram_137 {sc : xm_Sc} : xm_bok (xe_cy (XE sc) 283) b_X12_readProgram_137 := by show xm_bok cX12_readProgram _; unfold xm_bok; decide +kernel
def b_X12_readProgram_141 : List (Nat × Jvm.ClassFile.Instr × Nat) := [(141, .ireturn, 1)]
set_option maxRecDepth 20000 in
theorem k_X12_readProgram_141 {sc : xm_Sc} : xm_bok (xe_cy (XE sc) 283) b_X12_readProgram_141 := by show xm_bok cX12_readProgram _; unfold xm_bok; decide +kernel
set_option maxRecDepth 20000 in
theorem cn_283 {sc : xm_Sc} : xe_cn (XE sc) 283 = 12 := rfl
set_option maxRecDepth 20000 in
theorem ml_283 {sc : xm_Sc} : xe_ml (XE sc) 283 = 2 := rfl
set_option maxRecDepth 20000 in
theorem ry_283 {sc : xm_Sc} : xe_ry (XE sc) 283 = (some .int) := rfl
set_option maxRecDepth 20000 in
theorem is_283 {sc : xm_Sc} : xe_is (XE sc) 283 = false := rfl
set_option maxRecDepth 20000 in
theorem np_283 {sc : xm_Sc} : xe_np (XE sc) 283 = 0 := rfl
/- method 284: X12_readWitness -/
def b_X12_readWitness_0 : List (Nat × Jvm.ClassFile.Instr × Nat) := [(0, .aload_n 0, 1), (1, .invokevirtual 345, 3)]
set_option maxRecDepth 20000 in
theorem k_X12_readWitness_0 {sc : xm_Sc} : xm_bok (xe_cy (XE sc) 284) b_X12_readWitness_0 := by show xm_bok cX12_readWitness _; unfold xm_bok; decide +kernel
def b_X12_readWitness_4 : List (Nat × Jvm.ClassFile.Instr × Nat) := [(4, .iconst 1, 1), (5, .isub, 1), (6, .istore_n 1, 1), (7, .aload_n 0, 1), (8, .getfield 330, 3), (11, .ifCond .ne 21, 3)]
set_option maxRecDepth 20000 in
theorem k_X12_readWitness_4 {sc : xm_Sc} : xm_bok (xe_cy (XE sc) 284) b_X12_readWitness_4 := by show xm_bok cX12_readWitness _; unfold xm_bok; decide +kernel
def b_X12_readWitness_14 : List (Nat × Jvm.ClassFile.Instr × Nat) := [(14, .aload_n 0, 1), (15, .getfield 333, 3), (18, .iload_n 1, 1), (19, .iadd, 1), (20, .aload_n 0, 1), (21, .getfield 336, 3), (24, .if_icmp .le 8, 3)]
set_option maxRecDepth 20000 in
theorem k_X12_readWitness_14 {sc : xm_Sc} : xm_bok (xe_cy (XE sc) 284) b_X12_readWitness_14 := by show xm_bok cX12_readWitness _; unfold xm_bok; decide +kernel
def b_X12_readWitness_27 : List (Nat × Jvm.ClassFile.Instr × Nat) := [(27, .aload_n 0, 1), (28, .iconst 1, 1), (29, .putfield 330, 3)]
set_option maxRecDepth 20000 in
theorem k_X12_readWitness_27 {sc : xm_Sc} : xm_bok (xe_cy (XE sc) 284) b_X12_readWitness_27 := by show xm_bok cX12_readWitness _; unfold xm_bok; decide +kernel
def b_X12_readWitness_32 : List (Nat × Jvm.ClassFile.Instr × Nat) := [(32, .aload_n 0, 1), (33, .getfield 330, 3), (36, .ifCond .le 8, 3)]
set_option maxRecDepth 20000 in
theorem k_X12_readWitness_32 {sc : xm_Sc} : xm_bok (xe_cy (XE sc) 284) b_X12_readWitness_32 := by show xm_bok cX12_readWitness _; unfold xm_bok; decide +kernel
def b_X12_readWitness_39 : List (Nat × Jvm.ClassFile.Instr × Nat) := [(39, .aload_n 0, 1), (40, .getfield 330, 3), (43, .ireturn, 1)]
set_option maxRecDepth 20000 in
theorem k_X12_readWitness_39 {sc : xm_Sc} : xm_bok (xe_cy (XE sc) 284) b_X12_readWitness_39 := by show xm_bok cX12_readWitness _; unfold xm_bok; decide +kernel
def b_X12_readWitness_44 : List (Nat × Jvm.ClassFile.Instr × Nat) := [(44, .lconst 0, 1), (45, .lstore_n 2, 1), (46, .iconst 0, 1), (47, .istore 4, 2)]
set_option maxRecDepth 20000 in
theorem k_X12_readWitness_44 {sc : xm_Sc} : xm_bok (xe_cy (XE sc) 284) b_X12_readWitness_44 := by show xm_bok cX12_readWitness _; unfold xm_bok; decide +kernel
def b_X12_readWitness_49 : List (Nat × Jvm.ClassFile.Instr × Nat) := [(49, .iload 4, 2), (51, .aload_n 0, 1), (52, .getfield 223, 3), (55, .if_icmp .ge 55, 3)]
set_option maxRecDepth 20000 in
theorem k_X12_readWitness_49 {sc : xm_Sc} : xm_bok (xe_cy (XE sc) 284) b_X12_readWitness_49 := by show xm_bok cX12_readWitness _; unfold xm_bok; decide +kernel
def b_X12_readWitness_58 : List (Nat × Jvm.ClassFile.Instr × Nat) := [(58, .aload_n 0, 1), (59, .getfield 160, 3), (62, .iload 4, 2), (64, .aload_n 0, 1), (65, .getfield 333, 3), (68, .lload_n 2, 1), (69, .l2i, 1), (70, .iadd, 1), (71, .iastore, 1), (72, .lload_n 2, 1), (73, .aload_n 0, 1), (74, .getfield 16, 3), (77, .iload 4, 2), (79, .iaload, 1), (80, .bipush 10, 2), (82, .if_icmp .ne 19, 3)]
set_option maxRecDepth 20000 in
theorem k_X12_readWitness_58 {sc : xm_Sc} : xm_bok (xe_cy (XE sc) 284) b_X12_readWitness_58 := by show xm_bok cX12_readWitness _; unfold xm_bok; decide +kernel
def b_X12_readWitness_85 : List (Nat × Jvm.ClassFile.Instr × Nat) := [(85, .aload_n 0, 1), (86, .getfield 100, 3), (89, .aload_n 0, 1), (90, .getfield 37, 3), (93, .iload 4, 2), (95, .iaload, 1), (96, .iaload, 1), (97, .i2l, 1), (98, .goto 4, 3)]
set_option maxRecDepth 20000 in
theorem k_X12_readWitness_85 {sc : xm_Sc} : xm_bok (xe_cy (XE sc) 284) b_X12_readWitness_85 := by show xm_bok cX12_readWitness _; unfold xm_bok; decide +kernel
def b_X12_readWitness_101 : List (Nat × Jvm.ClassFile.Instr × Nat) := [(101, .lconst 0, 1)]
set_option maxRecDepth 20000 in
theorem k_X12_readWitness_101 {sc : xm_Sc} : xm_bok (xe_cy (XE sc) 284) b_X12_readWitness_101 := by show xm_bok cX12_readWitness _; unfold xm_bok; decide +kernel
def b_X12_readWitness_102 : List (Nat × Jvm.ClassFile.Instr × Nat) := [(102, .ladd, 1), (103, .lstore_n 2, 1), (104, .iinc 4 1, 3), (107, .goto (-58), 3)]
set_option maxRecDepth 20000 in
theorem k_X12_readWitness_102 {sc : xm_Sc} : xm_bok (xe_cy (XE sc) 284) b_X12_readWitness_102 := by show xm_bok cX12_readWitness _; unfold xm_bok; decide +kernel
def b_X12_readWitness_110 : List (Nat × Jvm.ClassFile.Instr × Nat) := [(110, .lload_n 2, 1), (111, .iload_n 1, 1), (112, .i2l, 1), (113, .lcmp, 1), (114, .ifCond .eq 6, 3)]
set_option maxRecDepth 20000 in
theorem k_X12_readWitness_110 {sc : xm_Sc} : xm_bok (xe_cy (XE sc) 284) b_X12_readWitness_110 := by show xm_bok cX12_readWitness _; unfold xm_bok; decide +kernel
def b_X12_readWitness_117 : List (Nat × Jvm.ClassFile.Instr × Nat) := [(117, .bipush 10, 2), (119, .ireturn, 1)]
set_option maxRecDepth 20000 in
theorem k_X12_readWitness_117 {sc : xm_Sc} : xm_bok (xe_cy (XE sc) 284) b_X12_readWitness_117 := by show xm_bok cX12_readWitness _; unfold xm_bok; decide +kernel
def b_X12_readWitness_120 : List (Nat × Jvm.ClassFile.Instr × Nat) := [(120, .iconst 0, 1), (121, .istore 4, 2)]
set_option maxRecDepth 20000 in
theorem k_X12_readWitness_120 {sc : xm_Sc} : xm_bok (xe_cy (XE sc) 284) b_X12_readWitness_120 := by show xm_bok cX12_readWitness _; unfold xm_bok; decide +kernel
def b_X12_readWitness_123 : List (Nat × Jvm.ClassFile.Instr × Nat) := [(123, .iload 4, 2), (125, .aload_n 0, 1), (126, .getfield 223, 3), (129, .if_icmp .ge 90, 3)]
set_option maxRecDepth 20000 in
theorem k_X12_readWitness_123 {sc : xm_Sc} : xm_bok (xe_cy (XE sc) 284) b_X12_readWitness_123 := by show xm_bok cX12_readWitness _; unfold xm_bok; decide +kernel
def b_X12_readWitness_132 : List (Nat × Jvm.ClassFile.Instr × Nat) := [(132, .aload_n 0, 1), (133, .getfield 16, 3), (136, .iload 4, 2), (138, .iaload, 1), (139, .bipush 10, 2), (141, .if_icmp .eq 6, 3)]
set_option maxRecDepth 20000 in
theorem k_X12_readWitness_132 {sc : xm_Sc} : xm_bok (xe_cy (XE sc) 284) b_X12_readWitness_132 := by show xm_bok cX12_readWitness _; unfold xm_bok; decide +kernel
def b_X12_readWitness_144 : List (Nat × Jvm.ClassFile.Instr × Nat) := [(144, .goto 69, 3)]
set_option maxRecDepth 20000 in
theorem k_X12_readWitness_144 {sc : xm_Sc} : xm_bok (xe_cy (XE sc) 284) b_X12_readWitness_144 := by show xm_bok cX12_readWitness _; unfold xm_bok; decide +kernel
def b_X12_readWitness_147 : List (Nat × Jvm.ClassFile.Instr × Nat) := [(147, .iconst 0, 1), (148, .istore 5, 2)]
set_option maxRecDepth 20000 in
theorem k_X12_readWitness_147 {sc : xm_Sc} : xm_bok (xe_cy (XE sc) 284) b_X12_readWitness_147 := by show xm_bok cX12_readWitness _; unfold xm_bok; decide +kernel
def b_X12_readWitness_150 : List (Nat × Jvm.ClassFile.Instr × Nat) := [(150, .iload 5, 2), (152, .aload_n 0, 1), (153, .getfield 100, 3), (156, .aload_n 0, 1), (157, .getfield 37, 3), (160, .iload 4, 2), (162, .iaload, 1), (163, .iaload, 1), (164, .if_icmp .ge 31, 3)]
set_option maxRecDepth 20000 in
theorem k_X12_readWitness_150 {sc : xm_Sc} : xm_bok (xe_cy (XE sc) 284) b_X12_readWitness_150 := by show xm_bok cX12_readWitness _; unfold xm_bok; decide +kernel
def b_X12_readWitness_167 : List (Nat × Jvm.ClassFile.Instr × Nat) := [(167, .aload_n 0, 1), (168, .getfield 141, 3), (171, .iload 5, 2), (173, .aload_n 0, 1), (174, .aload_n 0, 1), (175, .getfield 160, 3), (178, .iload 4, 2), (180, .iaload, 1), (181, .iload 5, 2), (183, .iadd, 1), (184, .invokevirtual 283, 3)]
set_option maxRecDepth 20000 in
theorem k_X12_readWitness_167 {sc : xm_Sc} : xm_bok (xe_cy (XE sc) 284) b_X12_readWitness_167 := by show xm_bok cX12_readWitness _; unfold xm_bok; decide +kernel
def b_X12_readWitness_187 : List (Nat × Jvm.ClassFile.Instr × Nat) := [(187, .i2b, 1), (188, .bastore, 1), (189, .iinc 5 1, 3), (192, .goto (-42), 3)]
set_option maxRecDepth 20000 in
theorem k_X12_readWitness_187 {sc : xm_Sc} : xm_bok (xe_cy (XE sc) 284) b_X12_readWitness_187 := by show xm_bok cX12_readWitness _; unfold xm_bok; decide +kernel
def b_X12_readWitness_195 : List (Nat × Jvm.ClassFile.Instr × Nat) := [(195, .aload_n 0, 1), (196, .aload_n 0, 1), (197, .getfield 37, 3), (200, .iload 4, 2), (202, .iaload, 1), (203, .iconst 0, 1), (204, .invokevirtual 286, 3)]
set_option maxRecDepth 20000 in
theorem k_X12_readWitness_195 {sc : xm_Sc} : xm_bok (xe_cy (XE sc) 284) b_X12_readWitness_195 := by show xm_bok cX12_readWitness _; unfold xm_bok; decide +kernel
def b_X12_readWitness_207 : List (Nat × Jvm.ClassFile.Instr × Nat) := [(207, .ifCond .ne 6, 3)]
set_option maxRecDepth 20000 in
theorem k_X12_readWitness_207 {sc : xm_Sc} : xm_bok (xe_cy (XE sc) 284) b_X12_readWitness_207 := by show xm_bok cX12_readWitness _; unfold xm_bok; decide +kernel
def b_X12_readWitness_210 : List (Nat × Jvm.ClassFile.Instr × Nat) := [(210, .bipush 11, 2), (212, .ireturn, 1)]
set_option maxRecDepth 20000 in
theorem k_X12_readWitness_210 {sc : xm_Sc} : xm_bok (xe_cy (XE sc) 284) b_X12_readWitness_210 := by show xm_bok cX12_readWitness _; unfold xm_bok; decide +kernel
def b_X12_readWitness_213 : List (Nat × Jvm.ClassFile.Instr × Nat) := [(213, .iinc 4 1, 3), (216, .goto (-93), 3)]
set_option maxRecDepth 20000 in
theorem k_X12_readWitness_213 {sc : xm_Sc} : xm_bok (xe_cy (XE sc) 284) b_X12_readWitness_213 := by show xm_bok cX12_readWitness _; unfold xm_bok; decide +kernel
def b_X12_readWitness_219 : List (Nat × Jvm.ClassFile.Instr × Nat) := [(219, .aload_n 0, 1), (220, .dup, 1), (221, .getfield 333, 3), (224, .iload_n 1, 1), (225, .iadd, 1), (226, .putfield 333, 3), (229, .aload_n 0, 1), (230, .getfield 336, 3), (233, .aload_n 0, 1), (234, .getfield 333, 3), (237, .isub, 1), (238, .bipush 8, 2), (240, .if_icmp .ge 7, 3)]
set_option maxRecDepth 20000 in
theorem k_X12_readWitness_219 {sc : xm_Sc} : xm_bok (xe_cy (XE sc) 284) b_X12_readWitness_219 := by show xm_bok cX12_readWitness _; unfold xm_bok; decide +kernel
def b_X12_readWitness_243 : List (Nat × Jvm.ClassFile.Instr × Nat) := [(243, .iconst 1, 1), (244, .goto 4, 3)]
set_option maxRecDepth 20000 in
theorem k_X12_readWitness_243 {sc : xm_Sc} : xm_bok (xe_cy (XE sc) 284) b_X12_readWitness_243 := by show xm_bok cX12_readWitness _; unfold xm_bok; decide +kernel
def b_X12_readWitness_247 : List (Nat × Jvm.ClassFile.Instr × Nat) := [(247, .iconst 0, 1)]
set_option maxRecDepth 20000 in
theorem k_X12_readWitness_247 {sc : xm_Sc} : xm_bok (xe_cy (XE sc) 284) b_X12_readWitness_247 := by show xm_bok cX12_readWitness _; unfold xm_bok; decide +kernel
def b_X12_readWitness_248 : List (Nat × Jvm.ClassFile.Instr × Nat) := [(248, .istore 4, 2), (250, .aload_n 0, 1), (251, .getfield 333, 3), (254, .istore 5, 2)]
set_option maxRecDepth 20000 in
theorem k_X12_readWitness_248 {sc : xm_Sc} : xm_bok (xe_cy (XE sc) 284) b_X12_readWitness_248 := by show xm_bok cX12_readWitness _; unfold xm_bok; decide +kernel
def b_X12_readWitness_256 : List (Nat × Jvm.ClassFile.Instr × Nat) := [(256, .iload 5, 2), (258, .aload_n 0, 1), (259, .getfield 336, 3), (262, .if_icmp .ge 30, 3)]
set_option maxRecDepth 20000 in
theorem k_X12_readWitness_256 {sc : xm_Sc} : xm_bok (xe_cy (XE sc) 284) b_X12_readWitness_256 := by show xm_bok cX12_readWitness _; unfold xm_bok; decide +kernel
def b_X12_readWitness_265 : List (Nat × Jvm.ClassFile.Instr × Nat) := [(265, .iload 4, 2), (267, .ifCond .eq 25, 3)]
set_option maxRecDepth 20000 in
theorem k_X12_readWitness_265 {sc : xm_Sc} : xm_bok (xe_cy (XE sc) 284) b_X12_readWitness_265 := by show xm_bok cX12_readWitness _; unfold xm_bok; decide +kernel
def b_X12_readWitness_270 : List (Nat × Jvm.ClassFile.Instr × Nat) := [(270, .aload_n 0, 1), (271, .iload 5, 2), (273, .invokevirtual 283, 3)]
set_option maxRecDepth 20000 in
theorem k_X12_readWitness_270 {sc : xm_Sc} : xm_bok (xe_cy (XE sc) 284) b_X12_readWitness_270 := by show xm_bok cX12_readWitness _; unfold xm_bok; decide +kernel
def b_X12_readWitness_276 : List (Nat × Jvm.ClassFile.Instr × Nat) := [(276, .ifCond .ne 7, 3)]
set_option maxRecDepth 20000 in
theorem k_X12_readWitness_276 {sc : xm_Sc} : xm_bok (xe_cy (XE sc) 284) b_X12_readWitness_276 := by show xm_bok cX12_readWitness _; unfold xm_bok; decide +kernel
def b_X12_readWitness_279 : List (Nat × Jvm.ClassFile.Instr × Nat) := [(279, .iconst 1, 1), (280, .goto 4, 3)]
set_option maxRecDepth 20000 in
theorem k_X12_readWitness_279 {sc : xm_Sc} : xm_bok (xe_cy (XE sc) 284) b_X12_readWitness_279 := by show xm_bok cX12_readWitness _; unfold xm_bok; decide +kernel
def b_X12_readWitness_283 : List (Nat × Jvm.ClassFile.Instr × Nat) := [(283, .iconst 0, 1)]
set_option maxRecDepth 20000 in
theorem k_X12_readWitness_283 {sc : xm_Sc} : xm_bok (xe_cy (XE sc) 284) b_X12_readWitness_283 := by show xm_bok cX12_readWitness _; unfold xm_bok; decide +kernel
def b_X12_readWitness_284 : List (Nat × Jvm.ClassFile.Instr × Nat) := [(284, .istore 4, 2), (286, .iinc 5 1, 3), (289, .goto (-33), 3)]
set_option maxRecDepth 20000 in
theorem k_X12_readWitness_284 {sc : xm_Sc} : xm_bok (xe_cy (XE sc) 284) b_X12_readWitness_284 := by show xm_bok cX12_readWitness _; unfold xm_bok; decide +kernel
def b_X12_readWitness_292 : List (Nat × Jvm.ClassFile.Instr × Nat) := [(292, .aload_n 0, 1), (293, .iload 4, 2), (295, .ifCond .eq 7, 3)]
set_option maxRecDepth 20000 in
theorem k_X12_readWitness_292 {sc : xm_Sc} : xm_bok (xe_cy (XE sc) 284) b_X12_readWitness_292 := by show xm_bok cX12_readWitness _; unfold xm_bok; decide +kernel
def b_X12_readWitness_298 : List (Nat × Jvm.ClassFile.Instr × Nat) := [(298, .iload_n 1, 1), (299, .goto 7, 3)]
set_option maxRecDepth 20000 in
theorem k_X12_readWitness_298 {sc : xm_Sc} : xm_bok (xe_cy (XE sc) 284) b_X12_readWitness_298 := by show xm_bok cX12_readWitness _; unfold xm_bok; decide +kernel
def b_X12_readWitness_302 : List (Nat × Jvm.ClassFile.Instr × Nat) := [(302, .aload_n 0, 1), (303, .getfield 357, 3)]
set_option maxRecDepth 20000 in
theorem k_X12_readWitness_302 {sc : xm_Sc} : xm_bok (xe_cy (XE sc) 284) b_X12_readWitness_302 := by show xm_bok cX12_readWitness _; unfold xm_bok; decide +kernel
def b_X12_readWitness_306 : List (Nat × Jvm.ClassFile.Instr × Nat) := [(306, .putfield 357, 3), (309, .iload 4, 2), (311, .ifCond .eq 7, 3)]
set_option maxRecDepth 20000 in
theorem k_X12_readWitness_306 {sc : xm_Sc} : xm_bok (xe_cy (XE sc) 284) b_X12_readWitness_306 := by show xm_bok cX12_readWitness _; unfold xm_bok; decide +kernel
def b_X12_readWitness_314 : List (Nat × Jvm.ClassFile.Instr × Nat) := [(314, .iconst 0, 1), (315, .goto 5, 3)]
set_option maxRecDepth 20000 in
theorem k_X12_readWitness_314 {sc : xm_Sc} : xm_bok (xe_cy (XE sc) 284) b_X12_readWitness_314 := by show xm_bok cX12_readWitness _; unfold xm_bok; decide +kernel
def b_X12_readWitness_318 : List (Nat × Jvm.ClassFile.Instr × Nat) := [(318, .bipush 12, 2)]
set_option maxRecDepth 20000 in
theorem k_X12_readWitness_318 {sc : xm_Sc} : xm_bok (xe_cy (XE sc) 284) b_X12_readWitness_318 := by show xm_bok cX12_readWitness _; unfold xm_bok; decide +kernel
def b_X12_readWitness_320 : List (Nat × Jvm.ClassFile.Instr × Nat) := [(320, .ireturn, 1)]
set_option maxRecDepth 20000 in
theorem k_X12_readWitness_320 {sc : xm_Sc} : xm_bok (xe_cy (XE sc) 284) b_X12_readWitness_320 := by show xm_bok cX12_readWitness _; unfold xm_bok; decide +kernel
set_option maxRecDepth 20000 in
theorem cn_284 {sc : xm_Sc} : xe_cn (XE sc) 284 = 12 := rfl
set_option maxRecDepth 20000 in
theorem ml_284 {sc : xm_Sc} : xe_ml (XE sc) 284 = 6 := rfl
set_option maxRecDepth 20000 in
theorem ry_284 {sc : xm_Sc} : xe_ry (XE sc) 284 = (some .int) := rfl
set_option maxRecDepth 20000 in
theorem is_284 {sc : xm_Sc} : xe_is (XE sc) 284 = false := rfl
set_option maxRecDepth 20000 in
theorem np_284 {sc : xm_Sc} : xe_np (XE sc) 284 = 0 := rfl
/- method 285: X12_renewed -/
def b_X12_renewed_0 : List (Nat × Jvm.ClassFile.Instr × Nat) := [(0, .aload_n 0, 1), (1, .getfield 598, 3), (4, .istore_n 1, 1), (5, .aload_n 0, 1), (6, .invokevirtual 613, 3)]
set_option maxRecDepth 20000 in
theorem k_X12_renewed_0 {sc : xm_Sc} : xm_bok (xe_cy (XE sc) 285) b_X12_renewed_0 := by show xm_bok cX12_renewed _; unfold xm_bok; decide +kernel
def b_X12_renewed_9 : List (Nat × Jvm.ClassFile.Instr × Nat) := [(9, .aload_n 0, 1), (10, .getfield 592, 3), (13, .ifCond .le 5, 3)]
set_option maxRecDepth 20000 in
theorem k_X12_renewed_9 {sc : xm_Sc} : xm_bok (xe_cy (XE sc) 285) b_X12_renewed_9 := by show xm_bok cX12_renewed _; unfold xm_bok; decide +kernel
def b_X12_renewed_16 : List (Nat × Jvm.ClassFile.Instr × Nat) := [(16, .iconst (-1), 1), (17, .ireturn, 1)]
set_option maxRecDepth 20000 in
theorem k_X12_renewed_16 {sc : xm_Sc} : xm_bok (xe_cy (XE sc) 285) b_X12_renewed_16 := by show xm_bok cX12_renewed _; unfold xm_bok; decide +kernel
def b_X12_renewed_18 : List (Nat × Jvm.ClassFile.Instr × Nat) := [(18, .aload_n 0, 1), (19, .invokevirtual 616, 3)]
set_option maxRecDepth 20000 in
theorem k_X12_renewed_18 {sc : xm_Sc} : xm_bok (xe_cy (XE sc) 285) b_X12_renewed_18 := by show xm_bok cX12_renewed _; unfold xm_bok; decide +kernel
def b_X12_renewed_22 : List (Nat × Jvm.ClassFile.Instr × Nat) := [(22, .lstore_n 2, 1), (23, .lload_n 2, 1), (24, .lconst 0, 1), (25, .lcmp, 1), (26, .ifCond .eq 11, 3)]
set_option maxRecDepth 20000 in
theorem k_X12_renewed_22 {sc : xm_Sc} : xm_bok (xe_cy (XE sc) 285) b_X12_renewed_22 := by show xm_bok cX12_renewed _; unfold xm_bok; decide +kernel
def b_X12_renewed_29 : List (Nat × Jvm.ClassFile.Instr × Nat) := [(29, .aload_n 0, 1), (30, .lload_n 2, 1), (31, .invokevirtual 619, 3)]
set_option maxRecDepth 20000 in
theorem k_X12_renewed_29 {sc : xm_Sc} : xm_bok (xe_cy (XE sc) 285) b_X12_renewed_29 := by show xm_bok cX12_renewed _; unfold xm_bok; decide +kernel
def b_X12_renewed_34 : List (Nat × Jvm.ClassFile.Instr × Nat) := [(34, .ifCond .lt 13, 3)]
set_option maxRecDepth 20000 in
theorem k_X12_renewed_34 {sc : xm_Sc} : xm_bok (xe_cy (XE sc) 285) b_X12_renewed_34 := by show xm_bok cX12_renewed _; unfold xm_bok; decide +kernel
def b_X12_renewed_37 : List (Nat × Jvm.ClassFile.Instr × Nat) := [(37, .aload_n 0, 1), (38, .iconst 1, 1), (39, .aload_n 0, 1), (40, .getfield 598, 3), (43, .invokevirtual 604, 3)]
set_option maxRecDepth 20000 in
theorem k_X12_renewed_37 {sc : xm_Sc} : xm_bok (xe_cy (XE sc) 285) b_X12_renewed_37 := by show xm_bok cX12_renewed _; unfold xm_bok; decide +kernel
def b_X12_renewed_46 : List (Nat × Jvm.ClassFile.Instr × Nat) := [(46, .ireturn, 1)]
set_option maxRecDepth 20000 in
theorem k_X12_renewed_46 {sc : xm_Sc} : xm_bok (xe_cy (XE sc) 285) b_X12_renewed_46 := by show xm_bok cX12_renewed _; unfold xm_bok; decide +kernel
def b_X12_renewed_47 : List (Nat × Jvm.ClassFile.Instr × Nat) := [(47, .aload_n 0, 1), (48, .lload_n 2, 1), (49, .invokevirtual 623, 3)]
set_option maxRecDepth 20000 in
theorem k_X12_renewed_47 {sc : xm_Sc} : xm_bok (xe_cy (XE sc) 285) b_X12_renewed_47 := by show xm_bok cX12_renewed _; unfold xm_bok; decide +kernel
def b_X12_renewed_52 : List (Nat × Jvm.ClassFile.Instr × Nat) := [(52, .istore 4, 2), (54, .iload 4, 2), (56, .ifCond .ge 13, 3)]
set_option maxRecDepth 20000 in
theorem k_X12_renewed_52 {sc : xm_Sc} : xm_bok (xe_cy (XE sc) 285) b_X12_renewed_52 := by show xm_bok cX12_renewed _; unfold xm_bok; decide +kernel
def b_X12_renewed_59 : List (Nat × Jvm.ClassFile.Instr × Nat) := [(59, .aload_n 0, 1), (60, .iconst 2, 1), (61, .aload_n 0, 1), (62, .getfield 598, 3), (65, .invokevirtual 604, 3)]
set_option maxRecDepth 20000 in
theorem k_X12_renewed_59 {sc : xm_Sc} : xm_bok (xe_cy (XE sc) 285) b_X12_renewed_59 := by show xm_bok cX12_renewed _; unfold xm_bok; decide +kernel
def b_X12_renewed_68 : List (Nat × Jvm.ClassFile.Instr × Nat) := [(68, .ireturn, 1)]
set_option maxRecDepth 20000 in
theorem k_X12_renewed_68 {sc : xm_Sc} : xm_bok (xe_cy (XE sc) 285) b_X12_renewed_68 := by show xm_bok cX12_renewed _; unfold xm_bok; decide +kernel
def b_X12_renewed_69 : List (Nat × Jvm.ClassFile.Instr × Nat) := [(69, .aload_n 0, 1), (70, .iload 4, 2), (72, .invokevirtual 351, 3)]
set_option maxRecDepth 20000 in
theorem k_X12_renewed_69 {sc : xm_Sc} : xm_bok (xe_cy (XE sc) 285) b_X12_renewed_69 := by show xm_bok cX12_renewed _; unfold xm_bok; decide +kernel
def b_X12_renewed_75 : List (Nat × Jvm.ClassFile.Instr × Nat) := [(75, .aload_n 0, 1), (76, .getfield 223, 3), (79, .aload_n 0, 1), (80, .getfield 226, 3), (83, .iadd, 1), (84, .sipush 2000, 3), (87, .if_icmp .le 10, 3)]
set_option maxRecDepth 20000 in
theorem k_X12_renewed_75 {sc : xm_Sc} : xm_bok (xe_cy (XE sc) 285) b_X12_renewed_75 := by show xm_bok cX12_renewed _; unfold xm_bok; decide +kernel
def b_X12_renewed_90 : List (Nat × Jvm.ClassFile.Instr × Nat) := [(90, .aload_n 0, 1), (91, .iconst 3, 1), (92, .iload_n 1, 1), (93, .invokevirtual 604, 3)]
set_option maxRecDepth 20000 in
theorem k_X12_renewed_90 {sc : xm_Sc} : xm_bok (xe_cy (XE sc) 285) b_X12_renewed_90 := by show xm_bok cX12_renewed _; unfold xm_bok; decide +kernel
def b_X12_renewed_96 : List (Nat × Jvm.ClassFile.Instr × Nat) := [(96, .ireturn, 1)]
set_option maxRecDepth 20000 in
theorem k_X12_renewed_96 {sc : xm_Sc} : xm_bok (xe_cy (XE sc) 285) b_X12_renewed_96 := by show xm_bok cX12_renewed _; unfold xm_bok; decide +kernel
def b_X12_renewed_97 : List (Nat × Jvm.ClassFile.Instr × Nat) := [(97, .iconst 0, 1), (98, .istore 5, 2)]
set_option maxRecDepth 20000 in
theorem k_X12_renewed_97 {sc : xm_Sc} : xm_bok (xe_cy (XE sc) 285) b_X12_renewed_97 := by show xm_bok cX12_renewed _; unfold xm_bok; decide +kernel
def b_X12_renewed_100 : List (Nat × Jvm.ClassFile.Instr × Nat) := [(100, .iload 5, 2), (102, .aload_n 0, 1), (103, .getfield 226, 3), (106, .if_icmp .ge 188, 3)]
set_option maxRecDepth 20000 in
theorem k_X12_renewed_100 {sc : xm_Sc} : xm_bok (xe_cy (XE sc) 285) b_X12_renewed_100 := by show xm_bok cX12_renewed _; unfold xm_bok; decide +kernel
def b_X12_renewed_109 : List (Nat × Jvm.ClassFile.Instr × Nat) := [(109, .aload_n 0, 1), (110, .getfield 40, 3), (113, .iload 5, 2), (115, .iaload, 1), (116, .istore 6, 2), (118, .aload_n 0, 1), (119, .aload_n 0, 1), (120, .getfield 16, 3), (123, .iload 6, 2), (125, .iaload, 1), (126, .invokevirtual 626, 3)]
set_option maxRecDepth 20000 in
theorem k_X12_renewed_109 {sc : xm_Sc} : xm_bok (xe_cy (XE sc) 285) b_X12_renewed_109 := by show xm_bok cX12_renewed _; unfold xm_bok; decide +kernel
def b_X12_renewed_129 : List (Nat × Jvm.ClassFile.Instr × Nat) := [(129, .istore 7, 2), (131, .aload_n 0, 1), (132, .getfield 190, 3), (135, .iload 6, 2), (137, .iload 7, 2), (139, .iastore, 1), (140, .aload_n 0, 1), (141, .getfield 19, 3), (144, .iload 7, 2), (146, .aload_n 0, 1), (147, .iload 6, 2), (149, .iconst 0, 1), (150, .invokevirtual 229, 3)]
set_option maxRecDepth 20000 in
theorem k_X12_renewed_129 {sc : xm_Sc} : xm_bok (xe_cy (XE sc) 285) b_X12_renewed_129 := by show xm_bok cX12_renewed _; unfold xm_bok; decide +kernel
def b_X12_renewed_153 : List (Nat × Jvm.ClassFile.Instr × Nat) := [(153, .ifCond .ge 7, 3)]
set_option maxRecDepth 20000 in
theorem k_X12_renewed_153 {sc : xm_Sc} : xm_bok (xe_cy (XE sc) 285) b_X12_renewed_153 := by show xm_bok cX12_renewed _; unfold xm_bok; decide +kernel
def b_X12_renewed_156 : List (Nat × Jvm.ClassFile.Instr × Nat) := [(156, .iconst (-1), 1), (157, .goto 15, 3)]
set_option maxRecDepth 20000 in
theorem k_X12_renewed_156 {sc : xm_Sc} : xm_bok (xe_cy (XE sc) 285) b_X12_renewed_156 := by show xm_bok cX12_renewed _; unfold xm_bok; decide +kernel
def b_X12_renewed_160 : List (Nat × Jvm.ClassFile.Instr × Nat) := [(160, .aload_n 0, 1), (161, .getfield 190, 3), (164, .aload_n 0, 1), (165, .getfield 19, 3), (168, .iload 6, 2), (170, .iaload, 1), (171, .iaload, 1)]
set_option maxRecDepth 20000 in
theorem k_X12_renewed_160 {sc : xm_Sc} : xm_bok (xe_cy (XE sc) 285) b_X12_renewed_160 := by show xm_bok cX12_renewed _; unfold xm_bok; decide +kernel
def b_X12_renewed_172 : List (Nat × Jvm.ClassFile.Instr × Nat) := [(172, .iastore, 1), (173, .aload_n 0, 1), (174, .getfield 22, 3), (177, .iload 7, 2), (179, .aload_n 0, 1), (180, .iload 6, 2), (182, .iconst 1, 1), (183, .invokevirtual 229, 3)]
set_option maxRecDepth 20000 in
theorem k_X12_renewed_172 {sc : xm_Sc} : xm_bok (xe_cy (XE sc) 285) b_X12_renewed_172 := by show xm_bok cX12_renewed _; unfold xm_bok; decide +kernel
def b_X12_renewed_186 : List (Nat × Jvm.ClassFile.Instr × Nat) := [(186, .ifCond .ge 7, 3)]
set_option maxRecDepth 20000 in
theorem k_X12_renewed_186 {sc : xm_Sc} : xm_bok (xe_cy (XE sc) 285) b_X12_renewed_186 := by show xm_bok cX12_renewed _; unfold xm_bok; decide +kernel
def b_X12_renewed_189 : List (Nat × Jvm.ClassFile.Instr × Nat) := [(189, .iconst (-1), 1), (190, .goto 15, 3)]
set_option maxRecDepth 20000 in
theorem k_X12_renewed_189 {sc : xm_Sc} : xm_bok (xe_cy (XE sc) 285) b_X12_renewed_189 := by show xm_bok cX12_renewed _; unfold xm_bok; decide +kernel
def b_X12_renewed_193 : List (Nat × Jvm.ClassFile.Instr × Nat) := [(193, .aload_n 0, 1), (194, .getfield 190, 3), (197, .aload_n 0, 1), (198, .getfield 22, 3), (201, .iload 6, 2), (203, .iaload, 1), (204, .iaload, 1)]
set_option maxRecDepth 20000 in
theorem k_X12_renewed_193 {sc : xm_Sc} : xm_bok (xe_cy (XE sc) 285) b_X12_renewed_193 := by show xm_bok cX12_renewed _; unfold xm_bok; decide +kernel
def b_X12_renewed_205 : List (Nat × Jvm.ClassFile.Instr × Nat) := [(205, .iastore, 1), (206, .aload_n 0, 1), (207, .getfield 25, 3), (210, .iload 7, 2), (212, .aload_n 0, 1), (213, .getfield 25, 3), (216, .iload 6, 2), (218, .iaload, 1), (219, .iastore, 1), (220, .aload_n 0, 1), (221, .getfield 28, 3), (224, .iload 7, 2), (226, .aload_n 0, 1), (227, .getfield 28, 3), (230, .iload 6, 2), (232, .iaload, 1), (233, .iastore, 1), (234, .iconst 0, 1), (235, .istore 8, 2)]
set_option maxRecDepth 20000 in
theorem k_X12_renewed_205 {sc : xm_Sc} : xm_bok (xe_cy (XE sc) 285) b_X12_renewed_205 := by show xm_bok cX12_renewed _; unfold xm_bok; decide +kernel
def b_X12_renewed_237 : List (Nat × Jvm.ClassFile.Instr × Nat) := [(237, .iload 8, 2), (239, .bipush 8, 2), (241, .if_icmp .ge 47, 3)]
set_option maxRecDepth 20000 in
theorem k_X12_renewed_237 {sc : xm_Sc} : xm_bok (xe_cy (XE sc) 285) b_X12_renewed_237 := by show xm_bok cX12_renewed _; unfold xm_bok; decide +kernel
def b_X12_renewed_244 : List (Nat × Jvm.ClassFile.Instr × Nat) := [(244, .aload_n 0, 1), (245, .getfield 16, 3), (248, .iload 6, 2), (250, .iaload, 1), (251, .bipush 11, 2), (253, .if_icmp .ne 35, 3)]
set_option maxRecDepth 20000 in
theorem k_X12_renewed_244 {sc : xm_Sc} : xm_bok (xe_cy (XE sc) 285) b_X12_renewed_244 := by show xm_bok cX12_renewed _; unfold xm_bok; decide +kernel
def b_X12_renewed_256 : List (Nat × Jvm.ClassFile.Instr × Nat) := [(256, .aload_n 0, 1), (257, .getfield 31, 3), (260, .bipush 8, 2), (262, .iload 7, 2), (264, .imul, 1), (265, .iload 8, 2), (267, .iadd, 1), (268, .aload_n 0, 1), (269, .getfield 31, 3), (272, .bipush 8, 2), (274, .iload 6, 2), (276, .imul, 1), (277, .iload 8, 2), (279, .iadd, 1), (280, .iaload, 1), (281, .iastore, 1), (282, .iinc 8 1, 3), (285, .goto (-48), 3)]
set_option maxRecDepth 20000 in
theorem k_X12_renewed_256 {sc : xm_Sc} : xm_bok (xe_cy (XE sc) 285) b_X12_renewed_256 := by show xm_bok cX12_renewed _; unfold xm_bok; decide +kernel
def b_X12_renewed_288 : List (Nat × Jvm.ClassFile.Instr × Nat) := [(288, .iinc 5 1, 3), (291, .goto (-191), 3)]
set_option maxRecDepth 20000 in
theorem k_X12_renewed_288 {sc : xm_Sc} : xm_bok (xe_cy (XE sc) 285) b_X12_renewed_288 := by show xm_bok cX12_renewed _; unfold xm_bok; decide +kernel
def b_X12_renewed_294 : List (Nat × Jvm.ClassFile.Instr × Nat) := [(294, .aload_n 0, 1), (295, .getfield 190, 3), (298, .iload 4, 2), (300, .iaload, 1), (301, .ireturn, 1)]
set_option maxRecDepth 20000 in
theorem k_X12_renewed_294 {sc : xm_Sc} : xm_bok (xe_cy (XE sc) 285) b_X12_renewed_294 := by show xm_bok cX12_renewed _; unfold xm_bok; decide +kernel
set_option maxRecDepth 20000 in
theorem cn_285 {sc : xm_Sc} : xe_cn (XE sc) 285 = 12 := rfl
set_option maxRecDepth 20000 in
theorem ml_285 {sc : xm_Sc} : xe_ml (XE sc) 285 = 9 := rfl
set_option maxRecDepth 20000 in
theorem ry_285 {sc : xm_Sc} : xe_ry (XE sc) 285 = (some .int) := rfl
set_option maxRecDepth 20000 in
theorem is_285 {sc : xm_Sc} : xe_is (XE sc) 285 = false := rfl
set_option maxRecDepth 20000 in
theorem np_285 {sc : xm_Sc} : xe_np (XE sc) 285 = 0 := rfl
/- method 286: X12_rest -/
def b_X12_rest_0 : List (Nat × Jvm.ClassFile.Instr × Nat) := [(0, .lload_n 2, 1), (1, .lconst 0, 1), (2, .lcmp, 1), (3, .ifCond .ne 7, 3)]
set_option maxRecDepth 20000 in
theorem k_X12_rest_0 {sc : xm_Sc} : xm_bok (xe_cy (XE sc) 286) b_X12_rest_0 := by show xm_bok cX12_rest _; unfold xm_bok; decide +kernel
def b_X12_rest_6 : List (Nat × Jvm.ClassFile.Instr × Nat) := [(6, .lload_n 0, 1), (7, .goto 12, 3)]
set_option maxRecDepth 20000 in
theorem k_X12_rest_6 {sc : xm_Sc} : xm_bok (xe_cy (XE sc) 286) b_X12_rest_6 := by show xm_bok cX12_rest _; unfold xm_bok; decide +kernel
def b_X12_rest_10 : List (Nat × Jvm.ClassFile.Instr × Nat) := [(10, .lload_n 0, 1), (11, .lload_n 2, 1), (12, .lload_n 0, 1), (13, .lload_n 2, 1), (14, .invokestatic 425, 3)]
set_option maxRecDepth 20000 in
theorem k_X12_rest_10 {sc : xm_Sc} : xm_bok (xe_cy (XE sc) 286) b_X12_rest_10 := by show xm_bok cX12_rest _; unfold xm_bok; decide +kernel
def b_X12_rest_17 : List (Nat × Jvm.ClassFile.Instr × Nat) := [(17, .lmul, 1), (18, .lsub, 1)]
set_option maxRecDepth 20000 in
theorem k_X12_rest_17 {sc : xm_Sc} : xm_bok (xe_cy (XE sc) 286) b_X12_rest_17 := by show xm_bok cX12_rest _; unfold xm_bok; decide +kernel
def b_X12_rest_19 : List (Nat × Jvm.ClassFile.Instr × Nat) := [(19, .lreturn, 1)]
set_option maxRecDepth 20000 in
theorem k_X12_rest_19 {sc : xm_Sc} : xm_bok (xe_cy (XE sc) 286) b_X12_rest_19 := by show xm_bok cX12_rest _; unfold xm_bok; decide +kernel
set_option maxRecDepth 20000 in
theorem cn_286 {sc : xm_Sc} : xe_cn (XE sc) 286 = 12 := rfl
set_option maxRecDepth 20000 in
theorem ml_286 {sc : xm_Sc} : xe_ml (XE sc) 286 = 4 := rfl
set_option maxRecDepth 20000 in
theorem ry_286 {sc : xm_Sc} : xe_ry (XE sc) 286 = (some .long) := rfl
set_option maxRecDepth 20000 in
theorem is_286 {sc : xm_Sc} : xe_is (XE sc) 286 = true := rfl
set_option maxRecDepth 20000 in
theorem np_286 {sc : xm_Sc} : xe_np (XE sc) 286 = 2 := rfl
/- method 287: X12_root -/
def b_X12_root_0 : List (Nat × Jvm.ClassFile.Instr × Nat) := [(0, .aload_n 0, 1), (1, .aload_n 0, 1), (2, .iload_n 1, 1), (3, .invokevirtual 561, 3)]
set_option maxRecDepth 20000 in
theorem k_X12_root_0 {sc : xm_Sc} : xm_bok (xe_cy (XE sc) 287) b_X12_root_0 := by show xm_bok cX12_root _; unfold xm_bok; decide +kernel
def b_X12_root_6 : List (Nat × Jvm.ClassFile.Instr × Nat) := [(6, .ifCond .eq 17, 3)]
set_option maxRecDepth 20000 in
theorem k_X12_root_6 {sc : xm_Sc} : xm_bok (xe_cy (XE sc) 287) b_X12_root_6 := by show xm_bok cX12_root _; unfold xm_bok; decide +kernel
def b_X12_root_9 : List (Nat × Jvm.ClassFile.Instr × Nat) := [(9, .iload_n 2, 1), (10, .iconst 0, 1), (11, .bipush 7, 2), (13, .invokestatic 211, 3)]
set_option maxRecDepth 20000 in
theorem k_X12_root_9 {sc : xm_Sc} : xm_bok (xe_cy (XE sc) 287) b_X12_root_9 := by show xm_bok cX12_root _; unfold xm_bok; decide +kernel
def b_X12_root_16 : List (Nat × Jvm.ClassFile.Instr × Nat) := [(16, .ifCond .eq 7, 3)]
set_option maxRecDepth 20000 in
theorem k_X12_root_16 {sc : xm_Sc} : xm_bok (xe_cy (XE sc) 287) b_X12_root_16 := by show xm_bok cX12_root _; unfold xm_bok; decide +kernel
def b_X12_root_19 : List (Nat × Jvm.ClassFile.Instr × Nat) := [(19, .iconst 0, 1), (20, .goto 4, 3)]
set_option maxRecDepth 20000 in
theorem k_X12_root_19 {sc : xm_Sc} : xm_bok (xe_cy (XE sc) 287) b_X12_root_19 := by show xm_bok cX12_root _; unfold xm_bok; decide +kernel
def b_X12_root_23 : List (Nat × Jvm.ClassFile.Instr × Nat) := [(23, .iconst 1, 1)]
set_option maxRecDepth 20000 in
theorem k_X12_root_23 {sc : xm_Sc} : xm_bok (xe_cy (XE sc) 287) b_X12_root_23 := by show xm_bok cX12_root _; unfold xm_bok; decide +kernel
def b_X12_root_24 : List (Nat × Jvm.ClassFile.Instr × Nat) := [(24, .putfield 205, 3), (27, .aload_n 0, 1), (28, .getfield 205, 3), (31, .ifCond .le 7, 3)]
set_option maxRecDepth 20000 in
theorem k_X12_root_24 {sc : xm_Sc} : xm_bok (xe_cy (XE sc) 287) b_X12_root_24 := by show xm_bok cX12_root _; unfold xm_bok; decide +kernel
def b_X12_root_34 : List (Nat × Jvm.ClassFile.Instr × Nat) := [(34, .lconst 0, 1), (35, .goto 19, 3)]
set_option maxRecDepth 20000 in
theorem k_X12_root_34 {sc : xm_Sc} : xm_bok (xe_cy (XE sc) 287) b_X12_root_34 := by show xm_bok cX12_root _; unfold xm_bok; decide +kernel
def b_X12_root_38 : List (Nat × Jvm.ClassFile.Instr × Nat) := [(38, .aload_n 0, 1), (39, .getfield 75, 3), (42, .bipush 8, 2), (44, .iload_n 1, 1), (45, .imul, 1), (46, .iload_n 2, 1), (47, .iadd, 1), (48, .iaload, 1), (49, .i2l, 1), (50, .ldc2_w 430, 3), (53, .land, 1)]
set_option maxRecDepth 20000 in
theorem k_X12_root_38 {sc : xm_Sc} : xm_bok (xe_cy (XE sc) 287) b_X12_root_38 := by show xm_bok cX12_root _; unfold xm_bok; decide +kernel
def b_X12_root_54 : List (Nat × Jvm.ClassFile.Instr × Nat) := [(54, .lreturn, 1)]
set_option maxRecDepth 20000 in
theorem k_X12_root_54 {sc : xm_Sc} : xm_bok (xe_cy (XE sc) 287) b_X12_root_54 := by show xm_bok cX12_root _; unfold xm_bok; decide +kernel
set_option maxRecDepth 20000 in
theorem cn_287 {sc : xm_Sc} : xe_cn (XE sc) 287 = 12 := rfl
set_option maxRecDepth 20000 in
theorem ml_287 {sc : xm_Sc} : xe_ml (XE sc) 287 = 3 := rfl
set_option maxRecDepth 20000 in
theorem ry_287 {sc : xm_Sc} : xe_ry (XE sc) 287 = (some .long) := rfl
set_option maxRecDepth 20000 in
theorem is_287 {sc : xm_Sc} : xe_is (XE sc) 287 = false := rfl
set_option maxRecDepth 20000 in
theorem np_287 {sc : xm_Sc} : xe_np (XE sc) 287 = 2 := rfl
/- method 288: X12_rootOfNode -/
def b_X12_rootOfNode_0 : List (Nat × Jvm.ClassFile.Instr × Nat) := [(0, .aload_n 0, 1), (1, .getfield 54, 3), (4, .iload_n 1, 1), (5, .iaload, 1), (6, .bipush 11, 2), (8, .if_icmp .ne 40, 3)]
set_option maxRecDepth 20000 in
theorem k_X12_rootOfNode_0 {sc : xm_Sc} : xm_bok (xe_cy (XE sc) 288) b_X12_rootOfNode_0 := by show xm_bok cX12_rootOfNode _; unfold xm_bok; decide +kernel
def b_X12_rootOfNode_11 : List (Nat × Jvm.ClassFile.Instr × Nat) := [(11, .iconst 0, 1), (12, .istore_n 2, 1)]
set_option maxRecDepth 20000 in
theorem k_X12_rootOfNode_11 {sc : xm_Sc} : xm_bok (xe_cy (XE sc) 288) b_X12_rootOfNode_11 := by show xm_bok cX12_rootOfNode _; unfold xm_bok; decide +kernel
def b_X12_rootOfNode_13 : List (Nat × Jvm.ClassFile.Instr × Nat) := [(13, .iload_n 2, 1), (14, .bipush 8, 2), (16, .if_icmp .ge 31, 3)]
set_option maxRecDepth 20000 in
theorem k_X12_rootOfNode_13 {sc : xm_Sc} : xm_bok (xe_cy (XE sc) 288) b_X12_rootOfNode_13 := by show xm_bok cX12_rootOfNode _; unfold xm_bok; decide +kernel
def b_X12_rootOfNode_19 : List (Nat × Jvm.ClassFile.Instr × Nat) := [(19, .aload_n 0, 1), (20, .getfield 75, 3), (23, .bipush 8, 2), (25, .iload_n 1, 1), (26, .imul, 1), (27, .iload_n 2, 1), (28, .iadd, 1), (29, .aload_n 0, 1), (30, .getfield 66, 3), (33, .bipush 8, 2), (35, .iload_n 1, 1), (36, .imul, 1), (37, .iload_n 2, 1), (38, .iadd, 1), (39, .iaload, 1), (40, .iastore, 1), (41, .iinc 2 1, 3), (44, .goto (-31), 3)]
set_option maxRecDepth 20000 in
theorem k_X12_rootOfNode_19 {sc : xm_Sc} : xm_bok (xe_cy (XE sc) 288) b_X12_rootOfNode_19 := by show xm_bok cX12_rootOfNode _; unfold xm_bok; decide +kernel
def b_X12_rootOfNode_47 : List (Nat × Jvm.ClassFile.Instr × Nat) := [(47, .return_, 1)]
set_option maxRecDepth 20000 in
theorem k_X12_rootOfNode_47 {sc : xm_Sc} : xm_bok (xe_cy (XE sc) 288) b_X12_rootOfNode_47 := by show xm_bok cX12_rootOfNode _; unfold xm_bok; decide +kernel
def b_X12_rootOfNode_48 : List (Nat × Jvm.ClassFile.Instr × Nat) := [(48, .aload_n 0, 1), (49, .aload_n 0, 1), (50, .getfield 54, 3), (53, .iload_n 1, 1), (54, .iaload, 1), (55, .bipush 12, 2), (57, .if_icmp .ne 15, 3)]
set_option maxRecDepth 20000 in
theorem k_X12_rootOfNode_48 {sc : xm_Sc} : xm_bok (xe_cy (XE sc) 288) b_X12_rootOfNode_48 := by show xm_bok cX12_rootOfNode _; unfold xm_bok; decide +kernel
def b_X12_rootOfNode_60 : List (Nat × Jvm.ClassFile.Instr × Nat) := [(60, .bipush 32, 2), (62, .aload_n 0, 1), (63, .getfield 63, 3), (66, .iload_n 1, 1), (67, .iaload, 1), (68, .iadd, 1), (69, .goto 9, 3)]
set_option maxRecDepth 20000 in
theorem k_X12_rootOfNode_60 {sc : xm_Sc} : xm_bok (xe_cy (XE sc) 288) b_X12_rootOfNode_60 := by show xm_bok cX12_rootOfNode _; unfold xm_bok; decide +kernel
def b_X12_rootOfNode_72 : List (Nat × Jvm.ClassFile.Instr × Nat) := [(72, .aload_n 0, 1), (73, .getfield 54, 3), (76, .iload_n 1, 1), (77, .iaload, 1)]
set_option maxRecDepth 20000 in
theorem k_X12_rootOfNode_72 {sc : xm_Sc} : xm_bok (xe_cy (XE sc) 288) b_X12_rootOfNode_72 := by show xm_bok cX12_rootOfNode _; unfold xm_bok; decide +kernel
def b_X12_rootOfNode_78 : List (Nat × Jvm.ClassFile.Instr × Nat) := [(78, .invokevirtual 323, 3)]
set_option maxRecDepth 20000 in
theorem k_X12_rootOfNode_78 {sc : xm_Sc} : xm_bok (xe_cy (XE sc) 288) b_X12_rootOfNode_78 := by show xm_bok cX12_rootOfNode _; unfold xm_bok; decide +kernel
def b_X12_rootOfNode_81 : List (Nat × Jvm.ClassFile.Instr × Nat) := [(81, .aload_n 0, 1), (82, .getfield 54, 3), (85, .iload_n 1, 1), (86, .iaload, 1), (87, .bipush 6, 2), (89, .if_icmp .gt 76, 3)]
set_option maxRecDepth 20000 in
theorem k_X12_rootOfNode_81 {sc : xm_Sc} : xm_bok (xe_cy (XE sc) 288) b_X12_rootOfNode_81 := by show xm_bok cX12_rootOfNode _; unfold xm_bok; decide +kernel
def b_X12_rootOfNode_92 : List (Nat × Jvm.ClassFile.Instr × Nat) := [(92, .aload_n 0, 1), (93, .iconst 0, 1), (94, .aload_n 0, 1), (95, .getfield 75, 3), (98, .aload_n 0, 1), (99, .getfield 54, 3), (102, .iload_n 1, 1), (103, .iaload, 1), (104, .iconst 2, 1), (105, .if_icmp .gt 15, 3)]
set_option maxRecDepth 20000 in
theorem k_X12_rootOfNode_92 {sc : xm_Sc} : xm_bok (xe_cy (XE sc) 288) b_X12_rootOfNode_92 := by show xm_bok cX12_rootOfNode _; unfold xm_bok; decide +kernel
def b_X12_rootOfNode_108 : List (Nat × Jvm.ClassFile.Instr × Nat) := [(108, .bipush 8, 2), (110, .aload_n 0, 1), (111, .getfield 57, 3), (114, .iload_n 1, 1), (115, .iaload, 1), (116, .imul, 1), (117, .goto 4, 3)]
set_option maxRecDepth 20000 in
theorem k_X12_rootOfNode_108 {sc : xm_Sc} : xm_bok (xe_cy (XE sc) 288) b_X12_rootOfNode_108 := by show xm_bok cX12_rootOfNode _; unfold xm_bok; decide +kernel
def b_X12_rootOfNode_120 : List (Nat × Jvm.ClassFile.Instr × Nat) := [(120, .iconst (-1), 1)]
set_option maxRecDepth 20000 in
theorem k_X12_rootOfNode_120 {sc : xm_Sc} : xm_bok (xe_cy (XE sc) 288) b_X12_rootOfNode_120 := by show xm_bok cX12_rootOfNode _; unfold xm_bok; decide +kernel
def b_X12_rootOfNode_121 : List (Nat × Jvm.ClassFile.Instr × Nat) := [(121, .invokevirtual 326, 3)]
set_option maxRecDepth 20000 in
theorem k_X12_rootOfNode_121 {sc : xm_Sc} : xm_bok (xe_cy (XE sc) 288) b_X12_rootOfNode_121 := by show xm_bok cX12_rootOfNode _; unfold xm_bok; decide +kernel
def b_X12_rootOfNode_124 : List (Nat × Jvm.ClassFile.Instr × Nat) := [(124, .aload_n 0, 1), (125, .iconst 1, 1), (126, .aload_n 0, 1), (127, .getfield 75, 3), (130, .bipush 8, 2), (132, .aload_n 0, 1), (133, .getfield 54, 3), (136, .iload_n 1, 1), (137, .iaload, 1), (138, .iconst 2, 1), (139, .if_icmp .gt 12, 3)]
set_option maxRecDepth 20000 in
theorem k_X12_rootOfNode_124 {sc : xm_Sc} : xm_bok (xe_cy (XE sc) 288) b_X12_rootOfNode_124 := by show xm_bok cX12_rootOfNode _; unfold xm_bok; decide +kernel
def b_X12_rootOfNode_142 : List (Nat × Jvm.ClassFile.Instr × Nat) := [(142, .aload_n 0, 1), (143, .getfield 60, 3), (146, .iload_n 1, 1), (147, .iaload, 1), (148, .goto 9, 3)]
set_option maxRecDepth 20000 in
theorem k_X12_rootOfNode_142 {sc : xm_Sc} : xm_bok (xe_cy (XE sc) 288) b_X12_rootOfNode_142 := by show xm_bok cX12_rootOfNode _; unfold xm_bok; decide +kernel
def b_X12_rootOfNode_151 : List (Nat × Jvm.ClassFile.Instr × Nat) := [(151, .aload_n 0, 1), (152, .getfield 57, 3), (155, .iload_n 1, 1), (156, .iaload, 1)]
set_option maxRecDepth 20000 in
theorem k_X12_rootOfNode_151 {sc : xm_Sc} : xm_bok (xe_cy (XE sc) 288) b_X12_rootOfNode_151 := by show xm_bok cX12_rootOfNode _; unfold xm_bok; decide +kernel
def b_X12_rootOfNode_157 : List (Nat × Jvm.ClassFile.Instr × Nat) := [(157, .imul, 1), (158, .invokevirtual 326, 3)]
set_option maxRecDepth 20000 in
theorem k_X12_rootOfNode_157 {sc : xm_Sc} : xm_bok (xe_cy (XE sc) 288) b_X12_rootOfNode_157 := by show xm_bok cX12_rootOfNode _; unfold xm_bok; decide +kernel
def b_X12_rootOfNode_161 : List (Nat × Jvm.ClassFile.Instr × Nat) := [(161, .aload_n 0, 1), (162, .invokevirtual 320, 3)]
set_option maxRecDepth 20000 in
theorem k_X12_rootOfNode_161 {sc : xm_Sc} : xm_bok (xe_cy (XE sc) 288) b_X12_rootOfNode_161 := by show xm_bok cX12_rootOfNode _; unfold xm_bok; decide +kernel
def b_X12_rootOfNode_165 : List (Nat × Jvm.ClassFile.Instr × Nat) := [(165, .iconst 0, 1), (166, .istore_n 2, 1)]
set_option maxRecDepth 20000 in
theorem k_X12_rootOfNode_165 {sc : xm_Sc} : xm_bok (xe_cy (XE sc) 288) b_X12_rootOfNode_165 := by show xm_bok cX12_rootOfNode _; unfold xm_bok; decide +kernel
def b_X12_rootOfNode_167 : List (Nat × Jvm.ClassFile.Instr × Nat) := [(167, .iload_n 2, 1), (168, .bipush 8, 2), (170, .if_icmp .ge 26, 3)]
set_option maxRecDepth 20000 in
theorem k_X12_rootOfNode_167 {sc : xm_Sc} : xm_bok (xe_cy (XE sc) 288) b_X12_rootOfNode_167 := by show xm_bok cX12_rootOfNode _; unfold xm_bok; decide +kernel
def b_X12_rootOfNode_173 : List (Nat × Jvm.ClassFile.Instr × Nat) := [(173, .aload_n 0, 1), (174, .getfield 75, 3), (177, .bipush 8, 2), (179, .iload_n 1, 1), (180, .imul, 1), (181, .iload_n 2, 1), (182, .iadd, 1), (183, .aload_n 0, 1), (184, .getfield 151, 3), (187, .iload_n 2, 1), (188, .iaload, 1), (189, .iastore, 1), (190, .iinc 2 1, 3), (193, .goto (-26), 3)]
set_option maxRecDepth 20000 in
theorem k_X12_rootOfNode_173 {sc : xm_Sc} : xm_bok (xe_cy (XE sc) 288) b_X12_rootOfNode_173 := by show xm_bok cX12_rootOfNode _; unfold xm_bok; decide +kernel
def b_X12_rootOfNode_196 : List (Nat × Jvm.ClassFile.Instr × Nat) := [(196, .return_, 1)]
set_option maxRecDepth 20000 in
theorem k_X12_rootOfNode_196 {sc : xm_Sc} : xm_bok (xe_cy (XE sc) 288) b_X12_rootOfNode_196 := by show xm_bok cX12_rootOfNode _; unfold xm_bok; decide +kernel
set_option maxRecDepth 20000 in
theorem cn_288 {sc : xm_Sc} : xe_cn (XE sc) 288 = 12 := rfl
set_option maxRecDepth 20000 in
theorem ml_288 {sc : xm_Sc} : xe_ml (XE sc) 288 = 3 := rfl
set_option maxRecDepth 20000 in
theorem ry_288 {sc : xm_Sc} : xe_ry (XE sc) 288 = none := rfl
set_option maxRecDepth 20000 in
theorem is_288 {sc : xm_Sc} : xe_is (XE sc) 288 = false := rfl
set_option maxRecDepth 20000 in
theorem np_288 {sc : xm_Sc} : xe_np (XE sc) 288 = 1 := rfl
/- method 289: X12_rootOfType -/
def b_X12_rootOfType_0 : List (Nat × Jvm.ClassFile.Instr × Nat) := [(0, .aload_n 0, 1), (1, .aload_n 0, 1), (2, .getfield 91, 3), (5, .iload_n 1, 1), (6, .iaload, 1), (7, .iconst 1, 1), (8, .if_icmp .ne 9, 3)]
set_option maxRecDepth 20000 in
theorem k_X12_rootOfType_0 {sc : xm_Sc} : xm_bok (xe_cy (XE sc) 289) b_X12_rootOfType_0 := by show xm_bok cX12_rootOfType _; unfold xm_bok; decide +kernel
def b_X12_rootOfType_11 : List (Nat × Jvm.ClassFile.Instr × Nat) := [(11, .sipush 208, 3), (14, .goto 22, 3)]
set_option maxRecDepth 20000 in
theorem k_X12_rootOfType_11 {sc : xm_Sc} : xm_bok (xe_cy (XE sc) 289) b_X12_rootOfType_11 := by show xm_bok cX12_rootOfType _; unfold xm_bok; decide +kernel
def b_X12_rootOfType_17 : List (Nat × Jvm.ClassFile.Instr × Nat) := [(17, .aload_n 0, 1), (18, .getfield 91, 3), (21, .iload_n 1, 1), (22, .iaload, 1), (23, .iconst 2, 1), (24, .if_icmp .ne 9, 3)]
set_option maxRecDepth 20000 in
theorem k_X12_rootOfType_17 {sc : xm_Sc} : xm_bok (xe_cy (XE sc) 289) b_X12_rootOfType_17 := by show xm_bok cX12_rootOfType _; unfold xm_bok; decide +kernel
def b_X12_rootOfType_27 : List (Nat × Jvm.ClassFile.Instr × Nat) := [(27, .sipush 209, 3), (30, .goto 6, 3)]
set_option maxRecDepth 20000 in
theorem k_X12_rootOfType_27 {sc : xm_Sc} : xm_bok (xe_cy (XE sc) 289) b_X12_rootOfType_27 := by show xm_bok cX12_rootOfType _; unfold xm_bok; decide +kernel
def b_X12_rootOfType_33 : List (Nat × Jvm.ClassFile.Instr × Nat) := [(33, .sipush 210, 3)]
set_option maxRecDepth 20000 in
theorem k_X12_rootOfType_33 {sc : xm_Sc} : xm_bok (xe_cy (XE sc) 289) b_X12_rootOfType_33 := by show xm_bok cX12_rootOfType _; unfold xm_bok; decide +kernel
def b_X12_rootOfType_36 : List (Nat × Jvm.ClassFile.Instr × Nat) := [(36, .invokevirtual 323, 3)]
set_option maxRecDepth 20000 in
theorem k_X12_rootOfType_36 {sc : xm_Sc} : xm_bok (xe_cy (XE sc) 289) b_X12_rootOfType_36 := by show xm_bok cX12_rootOfType _; unfold xm_bok; decide +kernel
def b_X12_rootOfType_39 : List (Nat × Jvm.ClassFile.Instr × Nat) := [(39, .aload_n 0, 1), (40, .getfield 91, 3), (43, .iload_n 1, 1), (44, .iaload, 1), (45, .iconst 1, 1), (46, .if_icmp .eq 43, 3)]
set_option maxRecDepth 20000 in
theorem k_X12_rootOfType_39 {sc : xm_Sc} : xm_bok (xe_cy (XE sc) 289) b_X12_rootOfType_39 := by show xm_bok cX12_rootOfType _; unfold xm_bok; decide +kernel
def b_X12_rootOfType_49 : List (Nat × Jvm.ClassFile.Instr × Nat) := [(49, .aload_n 0, 1), (50, .iconst 0, 1), (51, .aload_n 0, 1), (52, .getfield 115, 3), (55, .bipush 8, 2), (57, .aload_n 0, 1), (58, .getfield 94, 3), (61, .iload_n 1, 1), (62, .iaload, 1), (63, .imul, 1), (64, .invokevirtual 326, 3)]
set_option maxRecDepth 20000 in
theorem k_X12_rootOfType_49 {sc : xm_Sc} : xm_bok (xe_cy (XE sc) 289) b_X12_rootOfType_49 := by show xm_bok cX12_rootOfType _; unfold xm_bok; decide +kernel
def b_X12_rootOfType_67 : List (Nat × Jvm.ClassFile.Instr × Nat) := [(67, .aload_n 0, 1), (68, .iconst 1, 1), (69, .aload_n 0, 1), (70, .getfield 115, 3), (73, .bipush 8, 2), (75, .aload_n 0, 1), (76, .getfield 97, 3), (79, .iload_n 1, 1), (80, .iaload, 1), (81, .imul, 1), (82, .invokevirtual 326, 3)]
set_option maxRecDepth 20000 in
theorem k_X12_rootOfType_67 {sc : xm_Sc} : xm_bok (xe_cy (XE sc) 289) b_X12_rootOfType_67 := by show xm_bok cX12_rootOfType _; unfold xm_bok; decide +kernel
def b_X12_rootOfType_85 : List (Nat × Jvm.ClassFile.Instr × Nat) := [(85, .aload_n 0, 1), (86, .invokevirtual 320, 3)]
set_option maxRecDepth 20000 in
theorem k_X12_rootOfType_85 {sc : xm_Sc} : xm_bok (xe_cy (XE sc) 289) b_X12_rootOfType_85 := by show xm_bok cX12_rootOfType _; unfold xm_bok; decide +kernel
def b_X12_rootOfType_89 : List (Nat × Jvm.ClassFile.Instr × Nat) := [(89, .iconst 0, 1), (90, .istore_n 2, 1)]
set_option maxRecDepth 20000 in
theorem k_X12_rootOfType_89 {sc : xm_Sc} : xm_bok (xe_cy (XE sc) 289) b_X12_rootOfType_89 := by show xm_bok cX12_rootOfType _; unfold xm_bok; decide +kernel
def b_X12_rootOfType_91 : List (Nat × Jvm.ClassFile.Instr × Nat) := [(91, .iload_n 2, 1), (92, .bipush 8, 2), (94, .if_icmp .ge 26, 3)]
set_option maxRecDepth 20000 in
theorem k_X12_rootOfType_91 {sc : xm_Sc} : xm_bok (xe_cy (XE sc) 289) b_X12_rootOfType_91 := by show xm_bok cX12_rootOfType _; unfold xm_bok; decide +kernel
def b_X12_rootOfType_97 : List (Nat × Jvm.ClassFile.Instr × Nat) := [(97, .aload_n 0, 1), (98, .getfield 115, 3), (101, .bipush 8, 2), (103, .iload_n 1, 1), (104, .imul, 1), (105, .iload_n 2, 1), (106, .iadd, 1), (107, .aload_n 0, 1), (108, .getfield 151, 3), (111, .iload_n 2, 1), (112, .iaload, 1), (113, .iastore, 1), (114, .iinc 2 1, 3), (117, .goto (-26), 3)]
set_option maxRecDepth 20000 in
theorem k_X12_rootOfType_97 {sc : xm_Sc} : xm_bok (xe_cy (XE sc) 289) b_X12_rootOfType_97 := by show xm_bok cX12_rootOfType _; unfold xm_bok; decide +kernel
def b_X12_rootOfType_120 : List (Nat × Jvm.ClassFile.Instr × Nat) := [(120, .return_, 1)]
set_option maxRecDepth 20000 in
theorem k_X12_rootOfType_120 {sc : xm_Sc} : xm_bok (xe_cy (XE sc) 289) b_X12_rootOfType_120 := by show xm_bok cX12_rootOfType _; unfold xm_bok; decide +kernel
set_option maxRecDepth 20000 in
theorem cn_289 {sc : xm_Sc} : xe_cn (XE sc) 289 = 12 := rfl
set_option maxRecDepth 20000 in
theorem ml_289 {sc : xm_Sc} : xe_ml (XE sc) 289 = 3 := rfl
set_option maxRecDepth 20000 in
theorem ry_289 {sc : xm_Sc} : xe_ry (XE sc) 289 = none := rfl
set_option maxRecDepth 20000 in
theorem is_289 {sc : xm_Sc} : xe_is (XE sc) 289 = false := rfl
set_option maxRecDepth 20000 in
theorem np_289 {sc : xm_Sc} : xe_np (XE sc) 289 = 1 := rfl
/- method 290: X12_run -/
def b_X12_run_0 : List (Nat × Jvm.ClassFile.Instr × Nat) := [(0, .aload_n 0, 1), (1, .iload_n 1, 1), (2, .iconst 1, 1), (3, .if_icmp .lt 8, 3)]
set_option maxRecDepth 20000 in
theorem k_X12_run_0 {sc : xm_Sc} : xm_bok (xe_cy (XE sc) 290) b_X12_run_0 := by show xm_bok cX12_run _; unfold xm_bok; decide +kernel
def b_X12_run_6 : List (Nat × Jvm.ClassFile.Instr × Nat) := [(6, .iload_n 2, 1), (7, .iconst 1, 1), (8, .if_icmp .ge 7, 3)]
set_option maxRecDepth 20000 in
theorem k_X12_run_6 {sc : xm_Sc} : xm_bok (xe_cy (XE sc) 290) b_X12_run_6 := by show xm_bok cX12_run _; unfold xm_bok; decide +kernel
def b_X12_run_11 : List (Nat × Jvm.ClassFile.Instr × Nat) := [(11, .iconst 1, 1), (12, .goto 15, 3)]
set_option maxRecDepth 20000 in
theorem k_X12_run_11 {sc : xm_Sc} : xm_bok (xe_cy (XE sc) 290) b_X12_run_11 := by show xm_bok cX12_run _; unfold xm_bok; decide +kernel
def b_X12_run_15 : List (Nat × Jvm.ClassFile.Instr × Nat) := [(15, .aload_n 0, 1), (16, .getfield 378, 3), (19, .ifCond .ne 7, 3)]
set_option maxRecDepth 20000 in
theorem k_X12_run_15 {sc : xm_Sc} : xm_bok (xe_cy (XE sc) 290) b_X12_run_15 := by show xm_bok cX12_run _; unfold xm_bok; decide +kernel
def b_X12_run_22 : List (Nat × Jvm.ClassFile.Instr × Nat) := [(22, .iconst 2, 1), (23, .goto 4, 3)]
set_option maxRecDepth 20000 in
theorem k_X12_run_22 {sc : xm_Sc} : xm_bok (xe_cy (XE sc) 290) b_X12_run_22 := by show xm_bok cX12_run _; unfold xm_bok; decide +kernel
def b_X12_run_26 : List (Nat × Jvm.ClassFile.Instr × Nat) := [(26, .iconst 0, 1)]
set_option maxRecDepth 20000 in
theorem k_X12_run_26 {sc : xm_Sc} : xm_bok (xe_cy (XE sc) 290) b_X12_run_26 := by show xm_bok cX12_run _; unfold xm_bok; decide +kernel
def b_X12_run_27 : List (Nat × Jvm.ClassFile.Instr × Nat) := [(27, .putfield 205, 3), (30, .aload_n 0, 1), (31, .getfield 205, 3), (34, .ifCond .le 5, 3)]
set_option maxRecDepth 20000 in
theorem k_X12_run_27 {sc : xm_Sc} : xm_bok (xe_cy (XE sc) 290) b_X12_run_27 := by show xm_bok cX12_run _; unfold xm_bok; decide +kernel
def b_X12_run_37 : List (Nat × Jvm.ClassFile.Instr × Nat) := [(37, .iconst 0, 1), (38, .ireturn, 1)]
set_option maxRecDepth 20000 in
theorem k_X12_run_37 {sc : xm_Sc} : xm_bok (xe_cy (XE sc) 290) b_X12_run_37 := by show xm_bok cX12_run _; unfold xm_bok; decide +kernel
def b_X12_run_39 : List (Nat × Jvm.ClassFile.Instr × Nat) := [(39, .aload_n 0, 1), (40, .getfield 378, 3), (43, .iconst 1, 1), (44, .isub, 1), (45, .istore 4, 2), (47, .aload_n 0, 1), (48, .iload 4, 2), (50, .invokevirtual 403, 3)]
set_option maxRecDepth 20000 in
theorem k_X12_run_39 {sc : xm_Sc} : xm_bok (xe_cy (XE sc) 290) b_X12_run_39 := by show xm_bok cX12_run _; unfold xm_bok; decide +kernel
def b_X12_run_53 : List (Nat × Jvm.ClassFile.Instr × Nat) := [(53, .istore 5, 2), (55, .aload_n 0, 1), (56, .iload 4, 2), (58, .invokevirtual 400, 3)]
set_option maxRecDepth 20000 in
theorem k_X12_run_53 {sc : xm_Sc} : xm_bok (xe_cy (XE sc) 290) b_X12_run_53 := by show xm_bok cX12_run _; unfold xm_bok; decide +kernel
def b_X12_run_61 : List (Nat × Jvm.ClassFile.Instr × Nat) := [(61, .istore 6, 2), (63, .aload_n 0, 1), (64, .aload_n 0, 1), (65, .getfield 69, 3), (68, .iload 4, 2), (70, .iaload, 1), (71, .invokevirtual 532, 3)]
set_option maxRecDepth 20000 in
theorem k_X12_run_61 {sc : xm_Sc} : xm_bok (xe_cy (XE sc) 290) b_X12_run_61 := by show xm_bok cX12_run _; unfold xm_bok; decide +kernel
def b_X12_run_74 : List (Nat × Jvm.ClassFile.Instr × Nat) := [(74, .ifCond .ne 6, 3)]
set_option maxRecDepth 20000 in
theorem k_X12_run_74 {sc : xm_Sc} : xm_bok (xe_cy (XE sc) 290) b_X12_run_74 := by show xm_bok cX12_run _; unfold xm_bok; decide +kernel
def b_X12_run_77 : List (Nat × Jvm.ClassFile.Instr × Nat) := [(77, .bipush (-4), 2), (79, .ireturn, 1)]
set_option maxRecDepth 20000 in
theorem k_X12_run_77 {sc : xm_Sc} : xm_bok (xe_cy (XE sc) 290) b_X12_run_77 := by show xm_bok cX12_run _; unfold xm_bok; decide +kernel
def b_X12_run_80 : List (Nat × Jvm.ClassFile.Instr × Nat) := [(80, .aload_n 0, 1), (81, .getfield 85, 3), (84, .iload 4, 2), (86, .laload, 1), (87, .iload_n 1, 1), (88, .i2l, 1), (89, .lcmp, 1), (90, .ifCond .gt 27, 3)]
set_option maxRecDepth 20000 in
theorem k_X12_run_80 {sc : xm_Sc} : xm_bok (xe_cy (XE sc) 290) b_X12_run_80 := by show xm_bok cX12_run _; unfold xm_bok; decide +kernel
def b_X12_run_93 : List (Nat × Jvm.ClassFile.Instr × Nat) := [(93, .aload_n 0, 1), (94, .getfield 85, 3), (97, .iload 4, 2), (99, .laload, 1), (100, .ldc2_w 535, 3), (103, .lcmp, 1), (104, .ifCond .gt 13, 3)]
set_option maxRecDepth 20000 in
theorem k_X12_run_93 {sc : xm_Sc} : xm_bok (xe_cy (XE sc) 290) b_X12_run_93 := by show xm_bok cX12_run _; unfold xm_bok; decide +kernel
def b_X12_run_107 : List (Nat × Jvm.ClassFile.Instr × Nat) := [(107, .aload_n 0, 1), (108, .invokevirtual 537, 3)]
set_option maxRecDepth 20000 in
theorem k_X12_run_107 {sc : xm_Sc} : xm_bok (xe_cy (XE sc) 290) b_X12_run_107 := by show xm_bok cX12_run _; unfold xm_bok; decide +kernel
def b_X12_run_111 : List (Nat × Jvm.ClassFile.Instr × Nat) := [(111, .iload_n 2, 1), (112, .i2l, 1), (113, .lcmp, 1), (114, .ifCond .le 6, 3)]
set_option maxRecDepth 20000 in
theorem k_X12_run_111 {sc : xm_Sc} : xm_bok (xe_cy (XE sc) 290) b_X12_run_111 := by show xm_bok cX12_run _; unfold xm_bok; decide +kernel
def b_X12_run_117 : List (Nat × Jvm.ClassFile.Instr × Nat) := [(117, .bipush (-2), 2), (119, .ireturn, 1)]
set_option maxRecDepth 20000 in
theorem k_X12_run_117 {sc : xm_Sc} : xm_bok (xe_cy (XE sc) 290) b_X12_run_117 := by show xm_bok cX12_run _; unfold xm_bok; decide +kernel
def b_X12_run_120 : List (Nat × Jvm.ClassFile.Instr × Nat) := [(120, .aload_n 0, 1), (121, .iconst 0, 1), (122, .putfield 494, 3), (125, .aload_n 0, 1), (126, .iload 5, 2), (128, .iload 6, 2), (130, .iadd, 1), (131, .putfield 513, 3), (134, .aload_n 0, 1), (135, .lconst 0, 1), (136, .putfield 501, 3), (139, .aload_n 0, 1), (140, .lconst 0, 1), (141, .putfield 507, 3), (144, .aload_n 0, 1), (145, .lconst 0, 1), (146, .putfield 504, 3), (149, .aload_n 0, 1), (150, .lconst 0, 1), (151, .putfield 510, 3), (154, .aload_n 0, 1), (155, .lconst 0, 1), (156, .putfield 497, 3), (159, .aload_n 0, 1), (160, .iload 4, 2), (162, .iconst 0, 1), (163, .iload 5, 2), (165, .invokevirtual 516, 3)]
set_option maxRecDepth 20000 in
theorem k_X12_run_120 {sc : xm_Sc} : xm_bok (xe_cy (XE sc) 290) b_X12_run_120 := by show xm_bok cX12_run _; unfold xm_bok; decide +kernel
def b_X12_run_168 : List (Nat × Jvm.ClassFile.Instr × Nat) := [(168, .iconst 1, 1), (169, .istore 7, 2)]
set_option maxRecDepth 20000 in
theorem k_X12_run_168 {sc : xm_Sc} : xm_bok (xe_cy (XE sc) 290) b_X12_run_168 := by show xm_bok cX12_run _; unfold xm_bok; decide +kernel
def b_X12_run_171 : List (Nat × Jvm.ClassFile.Instr × Nat) := [(171, .aload_n 0, 1), (172, .getfield 494, 3), (175, .ifCond .le 17, 3)]
set_option maxRecDepth 20000 in
theorem k_X12_run_171 {sc : xm_Sc} : xm_bok (xe_cy (XE sc) 290) b_X12_run_171 := by show xm_bok cX12_run _; unfold xm_bok; decide +kernel
def b_X12_run_178 : List (Nat × Jvm.ClassFile.Instr × Nat) := [(178, .iload 7, 2), (180, .ifCond .eq 12, 3)]
set_option maxRecDepth 20000 in
theorem k_X12_run_178 {sc : xm_Sc} : xm_bok (xe_cy (XE sc) 290) b_X12_run_178 := by show xm_bok cX12_run _; unfold xm_bok; decide +kernel
def b_X12_run_183 : List (Nat × Jvm.ClassFile.Instr × Nat) := [(183, .aload_n 0, 1), (184, .invokevirtual 541, 3)]
set_option maxRecDepth 20000 in
theorem k_X12_run_183 {sc : xm_Sc} : xm_bok (xe_cy (XE sc) 290) b_X12_run_183 := by show xm_bok cX12_run _; unfold xm_bok; decide +kernel
def b_X12_run_187 : List (Nat × Jvm.ClassFile.Instr × Nat) := [(187, .istore 7, 2), (189, .goto (-18), 3)]
set_option maxRecDepth 20000 in
theorem k_X12_run_187 {sc : xm_Sc} : xm_bok (xe_cy (XE sc) 290) b_X12_run_187 := by show xm_bok cX12_run _; unfold xm_bok; decide +kernel
def b_X12_run_192 : List (Nat × Jvm.ClassFile.Instr × Nat) := [(192, .iload 7, 2), (194, .ifCond .ne 5, 3)]
set_option maxRecDepth 20000 in
theorem k_X12_run_192 {sc : xm_Sc} : xm_bok (xe_cy (XE sc) 290) b_X12_run_192 := by show xm_bok cX12_run _; unfold xm_bok; decide +kernel
def b_X12_run_197 : List (Nat × Jvm.ClassFile.Instr × Nat) := [(197, .iconst (-1), 1), (198, .ireturn, 1)]
set_option maxRecDepth 20000 in
theorem k_X12_run_197 {sc : xm_Sc} : xm_bok (xe_cy (XE sc) 290) b_X12_run_197 := by show xm_bok cX12_run _; unfold xm_bok; decide +kernel
def b_X12_run_199 : List (Nat × Jvm.ClassFile.Instr × Nat) := [(199, .aload_n 0, 1), (200, .dup, 1), (201, .getfield 544, 3), (204, .iconst 1, 1), (205, .iadd, 1), (206, .putfield 544, 3), (209, .iload_n 3, 1), (210, .ifCond .ne 48, 3)]
set_option maxRecDepth 20000 in
theorem k_X12_run_199 {sc : xm_Sc} : xm_bok (xe_cy (XE sc) 290) b_X12_run_199 := by show xm_bok cX12_run _; unfold xm_bok; decide +kernel
def b_X12_run_213 : List (Nat × Jvm.ClassFile.Instr × Nat) := [(213, .aload_n 0, 1), (214, .aload_n 0, 1), (215, .getfield 507, 3), (218, .iload 5, 2), (220, .i2l, 1), (221, .ladd, 1), (222, .iload 6, 2), (224, .i2l, 1), (225, .ladd, 1), (226, .invokestatic 406, 3)]
set_option maxRecDepth 20000 in
theorem k_X12_run_213 {sc : xm_Sc} : xm_bok (xe_cy (XE sc) 290) b_X12_run_213 := by show xm_bok cX12_run _; unfold xm_bok; decide +kernel
def b_X12_run_229 : List (Nat × Jvm.ClassFile.Instr × Nat) := [(229, .putfield 547, 3), (232, .aload_n 0, 1), (233, .aload_n 0, 1), (234, .getfield 510, 3), (237, .ldc2_w 550, 3), (240, .ladd, 1), (241, .invokestatic 406, 3)]
set_option maxRecDepth 20000 in
theorem k_X12_run_229 {sc : xm_Sc} : xm_bok (xe_cy (XE sc) 290) b_X12_run_229 := by show xm_bok cX12_run _; unfold xm_bok; decide +kernel
def b_X12_run_244 : List (Nat × Jvm.ClassFile.Instr × Nat) := [(244, .putfield 552, 3), (247, .aload_n 0, 1), (248, .aload_n 0, 1), (249, .getfield 497, 3), (252, .invokestatic 406, 3)]
set_option maxRecDepth 20000 in
theorem k_X12_run_244 {sc : xm_Sc} : xm_bok (xe_cy (XE sc) 290) b_X12_run_244 := by show xm_bok cX12_run _; unfold xm_bok; decide +kernel
def b_X12_run_255 : List (Nat × Jvm.ClassFile.Instr × Nat) := [(255, .putfield 555, 3)]
set_option maxRecDepth 20000 in
theorem k_X12_run_255 {sc : xm_Sc} : xm_bok (xe_cy (XE sc) 290) b_X12_run_255 := by show xm_bok cX12_run _; unfold xm_bok; decide +kernel
def b_X12_run_258 : List (Nat × Jvm.ClassFile.Instr × Nat) := [(258, .aload_n 0, 1), (259, .iload 5, 2), (261, .iload 6, 2), (263, .invokevirtual 558, 3)]
set_option maxRecDepth 20000 in
theorem k_X12_run_258 {sc : xm_Sc} : xm_bok (xe_cy (XE sc) 290) b_X12_run_258 := by show xm_bok cX12_run _; unfold xm_bok; decide +kernel
def b_X12_run_266 : List (Nat × Jvm.ClassFile.Instr × Nat) := [(266, .ireturn, 1)]
set_option maxRecDepth 20000 in
theorem k_X12_run_266 {sc : xm_Sc} : xm_bok (xe_cy (XE sc) 290) b_X12_run_266 := by show xm_bok cX12_run _; unfold xm_bok; decide +kernel
set_option maxRecDepth 20000 in
theorem cn_290 {sc : xm_Sc} : xe_cn (XE sc) 290 = 12 := rfl
set_option maxRecDepth 20000 in
theorem ml_290 {sc : xm_Sc} : xe_ml (XE sc) 290 = 8 := rfl
set_option maxRecDepth 20000 in
theorem ry_290 {sc : xm_Sc} : xe_ry (XE sc) 290 = (some .int) := rfl
set_option maxRecDepth 20000 in
theorem is_290 {sc : xm_Sc} : xe_is (XE sc) 290 = false := rfl
set_option maxRecDepth 20000 in
theorem np_290 {sc : xm_Sc} : xe_np (XE sc) 290 = 3 := rfl
/- method 291: X12_say -/
def b_X12_say_0 : List (Nat × Jvm.ClassFile.Instr × Nat) := [(0, .aload_n 0, 1), (1, .iconst 0, 1), (2, .putfield 205, 3), (5, .aload_n 0, 1), (6, .invokevirtual 688, 3)]
set_option maxRecDepth 20000 in
theorem k_X12_say_0 {sc : xm_Sc} : xm_bok (xe_cy (XE sc) 291) b_X12_say_0 := by show xm_bok cX12_say _; unfold xm_bok; decide +kernel
def b_X12_say_9 : List (Nat × Jvm.ClassFile.Instr × Nat) := [(9, .istore_n 1, 1), (10, .aload_n 0, 1), (11, .iconst 0, 1), (12, .putfield 215, 3), (15, .iload_n 1, 1), (16, .ifCond .le 5, 3)]
set_option maxRecDepth 20000 in
theorem k_X12_say_9 {sc : xm_Sc} : xm_bok (xe_cy (XE sc) 291) b_X12_say_9 := by show xm_bok cX12_say _; unfold xm_bok; decide +kernel
def b_X12_say_19 : List (Nat × Jvm.ClassFile.Instr × Nat) := [(19, .iload_n 1, 1), (20, .ireturn, 1)]
set_option maxRecDepth 20000 in
theorem k_X12_say_19 {sc : xm_Sc} : xm_bok (xe_cy (XE sc) 291) b_X12_say_19 := by show xm_bok cX12_say _; unfold xm_bok; decide +kernel
def b_X12_say_21 : List (Nat × Jvm.ClassFile.Instr × Nat) := [(21, .aload_n 0, 1), (22, .aload_n 0, 1), (23, .getfield 656, 3), (26, .bipush 7, 2), (28, .iadd, 1), (29, .bipush 8, 2), (31, .idiv, 1), (32, .putfield 220, 3), (35, .iconst 0, 1), (36, .istore_n 2, 1)]
set_option maxRecDepth 20000 in
theorem k_X12_say_21 {sc : xm_Sc} : xm_bok (xe_cy (XE sc) 291) b_X12_say_21 := by show xm_bok cX12_say _; unfold xm_bok; decide +kernel
def b_X12_say_37 : List (Nat × Jvm.ClassFile.Instr × Nat) := [(37, .iload_n 2, 1), (38, .aload_n 0, 1), (39, .getfield 220, 3), (42, .if_icmp .ge 21, 3)]
set_option maxRecDepth 20000 in
theorem k_X12_say_37 {sc : xm_Sc} : xm_bok (xe_cy (XE sc) 291) b_X12_say_37 := by show xm_bok cX12_say _; unfold xm_bok; decide +kernel
def b_X12_say_45 : List (Nat × Jvm.ClassFile.Instr × Nat) := [(45, .aload_n 0, 1), (46, .getfield 13, 3), (49, .iload_n 2, 1), (50, .aload_n 0, 1), (51, .getfield 148, 3), (54, .iload_n 2, 1), (55, .iaload, 1), (56, .iastore, 1), (57, .iinc 2 1, 3), (60, .goto (-23), 3)]
set_option maxRecDepth 20000 in
theorem k_X12_say_45 {sc : xm_Sc} : xm_bok (xe_cy (XE sc) 291) b_X12_say_45 := by show xm_bok cX12_say _; unfold xm_bok; decide +kernel
def b_X12_say_63 : List (Nat × Jvm.ClassFile.Instr × Nat) := [(63, .iconst 0, 1), (64, .ireturn, 1)]
set_option maxRecDepth 20000 in
theorem k_X12_say_63 {sc : xm_Sc} : xm_bok (xe_cy (XE sc) 291) b_X12_say_63 := by show xm_bok cX12_say _; unfold xm_bok; decide +kernel
set_option maxRecDepth 20000 in
theorem cn_291 {sc : xm_Sc} : xe_cn (XE sc) 291 = 12 := rfl
set_option maxRecDepth 20000 in
theorem ml_291 {sc : xm_Sc} : xe_ml (XE sc) 291 = 3 := rfl
set_option maxRecDepth 20000 in
theorem ry_291 {sc : xm_Sc} : xe_ry (XE sc) 291 = (some .int) := rfl
set_option maxRecDepth 20000 in
theorem is_291 {sc : xm_Sc} : xe_is (XE sc) 291 = false := rfl
set_option maxRecDepth 20000 in
theorem np_291 {sc : xm_Sc} : xe_np (XE sc) 291 = 0 := rfl
/- method 292: X12_settled -/
def b_X12_settled_0 : List (Nat × Jvm.ClassFile.Instr × Nat) := [(0, .iconst 1, 1), (1, .istore_n 2, 1), (2, .aload_n 0, 1), (3, .getfield 48, 3), (6, .iconst 0, 1), (7, .aload_n 0, 1), (8, .iload_n 1, 1), (9, .invokevirtual 240, 3)]
set_option maxRecDepth 20000 in
theorem k_X12_settled_0 {sc : xm_Sc} : xm_bok (xe_cy (XE sc) 292) b_X12_settled_0 := by show xm_bok cX12_settled _; unfold xm_bok; decide +kernel
def b_X12_settled_12 : List (Nat × Jvm.ClassFile.Instr × Nat) := [(12, .iastore, 1)]
set_option maxRecDepth 20000 in
theorem k_X12_settled_12 {sc : xm_Sc} : xm_bok (xe_cy (XE sc) 292) b_X12_settled_12 := by show xm_bok cX12_settled _; unfold xm_bok; decide +kernel
def b_X12_settled_13 : List (Nat × Jvm.ClassFile.Instr × Nat) := [(13, .iload_n 2, 1), (14, .ifCond .le 189, 3)]
set_option maxRecDepth 20000 in
theorem k_X12_settled_13 {sc : xm_Sc} : xm_bok (xe_cy (XE sc) 292) b_X12_settled_13 := by show xm_bok cX12_settled _; unfold xm_bok; decide +kernel
def b_X12_settled_17 : List (Nat × Jvm.ClassFile.Instr × Nat) := [(17, .aload_n 0, 1), (18, .getfield 48, 3), (21, .iload_n 2, 1), (22, .iconst 1, 1), (23, .isub, 1), (24, .iaload, 1), (25, .istore_n 3, 1), (26, .aload_n 0, 1), (27, .getfield 130, 3), (30, .iload_n 3, 1), (31, .iaload, 1), (32, .ifCond .lt 9, 3)]
set_option maxRecDepth 20000 in
theorem k_X12_settled_17 {sc : xm_Sc} : xm_bok (xe_cy (XE sc) 292) b_X12_settled_17 := by show xm_bok cX12_settled _; unfold xm_bok; decide +kernel
def b_X12_settled_35 : List (Nat × Jvm.ClassFile.Instr × Nat) := [(35, .iinc 2 (-1), 3), (38, .goto 162, 3)]
set_option maxRecDepth 20000 in
theorem k_X12_settled_35 {sc : xm_Sc} : xm_bok (xe_cy (XE sc) 292) b_X12_settled_35 := by show xm_bok cX12_settled _; unfold xm_bok; decide +kernel
def b_X12_settled_41 : List (Nat × Jvm.ClassFile.Instr × Nat) := [(41, .aload_n 0, 1), (42, .getfield 118, 3), (45, .iload_n 3, 1), (46, .iaload, 1), (47, .iconst 2, 1), (48, .if_icmp .ge 15, 3)]
set_option maxRecDepth 20000 in
theorem k_X12_settled_41 {sc : xm_Sc} : xm_bok (xe_cy (XE sc) 292) b_X12_settled_41 := by show xm_bok cX12_settled _; unfold xm_bok; decide +kernel
def b_X12_settled_51 : List (Nat × Jvm.ClassFile.Instr × Nat) := [(51, .aload_n 0, 1), (52, .getfield 130, 3), (55, .iload_n 3, 1), (56, .sipush 3200, 3), (59, .iastore, 1), (60, .goto 140, 3)]
set_option maxRecDepth 20000 in
theorem k_X12_settled_51 {sc : xm_Sc} : xm_bok (xe_cy (XE sc) 292) b_X12_settled_51 := by show xm_bok cX12_settled _; unfold xm_bok; decide +kernel
def b_X12_settled_63 : List (Nat × Jvm.ClassFile.Instr × Nat) := [(63, .aload_n 0, 1), (64, .getfield 130, 3), (67, .iload_n 3, 1), (68, .bipush (-2), 2), (70, .iastore, 1), (71, .aload_n 0, 1), (72, .aload_n 0, 1), (73, .getfield 121, 3), (76, .iload_n 3, 1), (77, .iaload, 1), (78, .invokevirtual 240, 3)]
set_option maxRecDepth 20000 in
theorem k_X12_settled_63 {sc : xm_Sc} : xm_bok (xe_cy (XE sc) 292) b_X12_settled_63 := by show xm_bok cX12_settled _; unfold xm_bok; decide +kernel
def b_X12_settled_81 : List (Nat × Jvm.ClassFile.Instr × Nat) := [(81, .istore 4, 2), (83, .aload_n 0, 1), (84, .aload_n 0, 1), (85, .getfield 124, 3), (88, .iload_n 3, 1), (89, .iaload, 1), (90, .invokevirtual 240, 3)]
set_option maxRecDepth 20000 in
theorem k_X12_settled_81 {sc : xm_Sc} : xm_bok (xe_cy (XE sc) 292) b_X12_settled_81 := by show xm_bok cX12_settled _; unfold xm_bok; decide +kernel
def b_X12_settled_93 : List (Nat × Jvm.ClassFile.Instr × Nat) := [(93, .istore 5, 2), (95, .aload_n 0, 1), (96, .getfield 130, 3), (99, .iload 4, 2), (101, .iaload, 1), (102, .bipush (-2), 2), (104, .if_icmp .eq 15, 3)]
set_option maxRecDepth 20000 in
theorem k_X12_settled_93 {sc : xm_Sc} : xm_bok (xe_cy (XE sc) 292) b_X12_settled_93 := by show xm_bok cX12_settled _; unfold xm_bok; decide +kernel
def b_X12_settled_107 : List (Nat × Jvm.ClassFile.Instr × Nat) := [(107, .aload_n 0, 1), (108, .getfield 130, 3), (111, .iload 5, 2), (113, .iaload, 1), (114, .bipush (-2), 2), (116, .if_icmp .ne 5, 3)]
set_option maxRecDepth 20000 in
theorem k_X12_settled_107 {sc : xm_Sc} : xm_bok (xe_cy (XE sc) 292) b_X12_settled_107 := by show xm_bok cX12_settled _; unfold xm_bok; decide +kernel
def b_X12_settled_119 : List (Nat × Jvm.ClassFile.Instr × Nat) := [(119, .iconst (-1), 1), (120, .ireturn, 1)]
set_option maxRecDepth 20000 in
theorem k_X12_settled_119 {sc : xm_Sc} : xm_bok (xe_cy (XE sc) 292) b_X12_settled_119 := by show xm_bok cX12_settled _; unfold xm_bok; decide +kernel
def b_X12_settled_121 : List (Nat × Jvm.ClassFile.Instr × Nat) := [(121, .aload_n 0, 1), (122, .getfield 130, 3), (125, .iload 4, 2), (127, .iaload, 1), (128, .ifCond .lt 46, 3)]
set_option maxRecDepth 20000 in
theorem k_X12_settled_121 {sc : xm_Sc} : xm_bok (xe_cy (XE sc) 292) b_X12_settled_121 := by show xm_bok cX12_settled _; unfold xm_bok; decide +kernel
def b_X12_settled_131 : List (Nat × Jvm.ClassFile.Instr × Nat) := [(131, .aload_n 0, 1), (132, .getfield 130, 3), (135, .iload 5, 2), (137, .iaload, 1), (138, .ifCond .lt 36, 3)]
set_option maxRecDepth 20000 in
theorem k_X12_settled_131 {sc : xm_Sc} : xm_bok (xe_cy (XE sc) 292) b_X12_settled_131 := by show xm_bok cX12_settled _; unfold xm_bok; decide +kernel
def b_X12_settled_141 : List (Nat × Jvm.ClassFile.Instr × Nat) := [(141, .aload_n 0, 1), (142, .getfield 130, 3), (145, .iload_n 3, 1), (146, .aload_n 0, 1), (147, .aload_n 0, 1), (148, .getfield 118, 3), (151, .iload_n 3, 1), (152, .iaload, 1), (153, .aload_n 0, 1), (154, .getfield 130, 3), (157, .iload 4, 2), (159, .iaload, 1), (160, .aload_n 0, 1), (161, .getfield 130, 3), (164, .iload 5, 2), (166, .iaload, 1), (167, .invokevirtual 268, 3)]
set_option maxRecDepth 20000 in
theorem k_X12_settled_141 {sc : xm_Sc} : xm_bok (xe_cy (XE sc) 292) b_X12_settled_141 := by show xm_bok cX12_settled _; unfold xm_bok; decide +kernel
def b_X12_settled_170 : List (Nat × Jvm.ClassFile.Instr × Nat) := [(170, .iastore, 1), (171, .goto 29, 3)]
set_option maxRecDepth 20000 in
theorem k_X12_settled_170 {sc : xm_Sc} : xm_bok (xe_cy (XE sc) 292) b_X12_settled_170 := by show xm_bok cX12_settled _; unfold xm_bok; decide +kernel
def b_X12_settled_174 : List (Nat × Jvm.ClassFile.Instr × Nat) := [(174, .aload_n 0, 1), (175, .getfield 48, 3), (178, .iload_n 2, 1), (179, .aload_n 0, 1), (180, .getfield 130, 3), (183, .iload 4, 2), (185, .iaload, 1), (186, .ifCond .ge 8, 3)]
set_option maxRecDepth 20000 in
theorem k_X12_settled_174 {sc : xm_Sc} : xm_bok (xe_cy (XE sc) 292) b_X12_settled_174 := by show xm_bok cX12_settled _; unfold xm_bok; decide +kernel
def b_X12_settled_189 : List (Nat × Jvm.ClassFile.Instr × Nat) := [(189, .iload 4, 2), (191, .goto 5, 3)]
set_option maxRecDepth 20000 in
theorem k_X12_settled_189 {sc : xm_Sc} : xm_bok (xe_cy (XE sc) 292) b_X12_settled_189 := by show xm_bok cX12_settled _; unfold xm_bok; decide +kernel
def b_X12_settled_194 : List (Nat × Jvm.ClassFile.Instr × Nat) := [(194, .iload 5, 2)]
set_option maxRecDepth 20000 in
theorem k_X12_settled_194 {sc : xm_Sc} : xm_bok (xe_cy (XE sc) 292) b_X12_settled_194 := by show xm_bok cX12_settled _; unfold xm_bok; decide +kernel
def b_X12_settled_196 : List (Nat × Jvm.ClassFile.Instr × Nat) := [(196, .iastore, 1), (197, .iinc 2 1, 3)]
set_option maxRecDepth 20000 in
theorem k_X12_settled_196 {sc : xm_Sc} : xm_bok (xe_cy (XE sc) 292) b_X12_settled_196 := by show xm_bok cX12_settled _; unfold xm_bok; decide +kernel
def b_X12_settled_200 : List (Nat × Jvm.ClassFile.Instr × Nat) := [(200, .goto (-187), 3)]
set_option maxRecDepth 20000 in
theorem k_X12_settled_200 {sc : xm_Sc} : xm_bok (xe_cy (XE sc) 292) b_X12_settled_200 := by show xm_bok cX12_settled _; unfold xm_bok; decide +kernel
def b_X12_settled_203 : List (Nat × Jvm.ClassFile.Instr × Nat) := [(203, .aload_n 0, 1), (204, .getfield 130, 3), (207, .aload_n 0, 1), (208, .iload_n 1, 1), (209, .invokevirtual 240, 3)]
set_option maxRecDepth 20000 in
theorem k_X12_settled_203 {sc : xm_Sc} : xm_bok (xe_cy (XE sc) 292) b_X12_settled_203 := by show xm_bok cX12_settled _; unfold xm_bok; decide +kernel
def b_X12_settled_212 : List (Nat × Jvm.ClassFile.Instr × Nat) := [(212, .iaload, 1), (213, .ireturn, 1)]
set_option maxRecDepth 20000 in
theorem k_X12_settled_212 {sc : xm_Sc} : xm_bok (xe_cy (XE sc) 292) b_X12_settled_212 := by show xm_bok cX12_settled _; unfold xm_bok; decide +kernel
set_option maxRecDepth 20000 in
theorem cn_292 {sc : xm_Sc} : xe_cn (XE sc) 292 = 12 := rfl
set_option maxRecDepth 20000 in
theorem ml_292 {sc : xm_Sc} : xe_ml (XE sc) 292 = 6 := rfl
set_option maxRecDepth 20000 in
theorem ry_292 {sc : xm_Sc} : xe_ry (XE sc) 292 = (some .int) := rfl
set_option maxRecDepth 20000 in
theorem is_292 {sc : xm_Sc} : xe_is (XE sc) 292 = false := rfl
set_option maxRecDepth 20000 in
theorem np_292 {sc : xm_Sc} : xe_np (XE sc) 292 = 1 := rfl
/- method 293: X12_signed -/
def b_X12_signed_0 : List (Nat × Jvm.ClassFile.Instr × Nat) := [(0, .iload_n 2, 1), (1, .bipush 64, 2), (3, .if_icmp .ne 7, 3)]
set_option maxRecDepth 20000 in
theorem k_X12_signed_0 {sc : xm_Sc} : xm_bok (xe_cy (XE sc) 293) b_X12_signed_0 := by show xm_bok cX12_signed _; unfold xm_bok; decide +kernel
def b_X12_signed_6 : List (Nat × Jvm.ClassFile.Instr × Nat) := [(6, .lload_n 0, 1), (7, .goto 14, 3)]
set_option maxRecDepth 20000 in
theorem k_X12_signed_6 {sc : xm_Sc} : xm_bok (xe_cy (XE sc) 293) b_X12_signed_6 := by show xm_bok cX12_signed _; unfold xm_bok; decide +kernel
def b_X12_signed_10 : List (Nat × Jvm.ClassFile.Instr × Nat) := [(10, .lload_n 0, 1), (11, .bipush 64, 2), (13, .iload_n 2, 1), (14, .isub, 1), (15, .lshl, 1), (16, .bipush 64, 2), (18, .iload_n 2, 1), (19, .isub, 1), (20, .lshr, 1)]
set_option maxRecDepth 20000 in
theorem k_X12_signed_10 {sc : xm_Sc} : xm_bok (xe_cy (XE sc) 293) b_X12_signed_10 := by show xm_bok cX12_signed _; unfold xm_bok; decide +kernel
def b_X12_signed_21 : List (Nat × Jvm.ClassFile.Instr × Nat) := [(21, .lreturn, 1)]
set_option maxRecDepth 20000 in
theorem k_X12_signed_21 {sc : xm_Sc} : xm_bok (xe_cy (XE sc) 293) b_X12_signed_21 := by show xm_bok cX12_signed _; unfold xm_bok; decide +kernel
set_option maxRecDepth 20000 in
theorem cn_293 {sc : xm_Sc} : xe_cn (XE sc) 293 = 12 := rfl
set_option maxRecDepth 20000 in
theorem ml_293 {sc : xm_Sc} : xe_ml (XE sc) 293 = 3 := rfl
set_option maxRecDepth 20000 in
theorem ry_293 {sc : xm_Sc} : xe_ry (XE sc) 293 = (some .long) := rfl
set_option maxRecDepth 20000 in
theorem is_293 {sc : xm_Sc} : xe_is (XE sc) 293 = true := rfl
set_option maxRecDepth 20000 in
theorem np_293 {sc : xm_Sc} : xe_np (XE sc) 293 = 2 := rfl
/- method 294: X12_small -/
def b_X12_small_0 : List (Nat × Jvm.ClassFile.Instr × Nat) := [(0, .iload 4, 2), (2, .iconst 2, 1), (3, .idiv, 1), (4, .istore 5, 2), (6, .iload_n 1, 1), (7, .bipush 30, 2), (9, .if_icmp .lt 14, 3)]
set_option maxRecDepth 20000 in
theorem k_X12_small_0 {sc : xm_Sc} : xm_bok (xe_cy (XE sc) 294) b_X12_small_0 := by show xm_bok cX12_small _; unfold xm_bok; decide +kernel
def b_X12_small_12 : List (Nat × Jvm.ClassFile.Instr × Nat) := [(12, .iload_n 1, 1), (13, .bipush 36, 2), (15, .bipush 39, 2), (17, .invokestatic 211, 3)]
set_option maxRecDepth 20000 in
theorem k_X12_small_12 {sc : xm_Sc} : xm_bok (xe_cy (XE sc) 294) b_X12_small_12 := by show xm_bok cX12_small _; unfold xm_bok; decide +kernel
def b_X12_small_20 : List (Nat × Jvm.ClassFile.Instr × Nat) := [(20, .ifCond .eq 13, 3)]
set_option maxRecDepth 20000 in
theorem k_X12_small_20 {sc : xm_Sc} : xm_bok (xe_cy (XE sc) 294) b_X12_small_20 := by show xm_bok cX12_small _; unfold xm_bok; decide +kernel
def b_X12_small_23 : List (Nat × Jvm.ClassFile.Instr × Nat) := [(23, .aload_n 0, 1), (24, .iload_n 2, 1), (25, .iload 4, 2), (27, .invokevirtual 450, 3)]
set_option maxRecDepth 20000 in
theorem k_X12_small_23 {sc : xm_Sc} : xm_bok (xe_cy (XE sc) 294) b_X12_small_23 := by show xm_bok cX12_small _; unfold xm_bok; decide +kernel
def b_X12_small_30 : List (Nat × Jvm.ClassFile.Instr × Nat) := [(30, .goto 4, 3)]
set_option maxRecDepth 20000 in
theorem k_X12_small_30 {sc : xm_Sc} : xm_bok (xe_cy (XE sc) 294) b_X12_small_30 := by show xm_bok cX12_small _; unfold xm_bok; decide +kernel
def b_X12_small_33 : List (Nat × Jvm.ClassFile.Instr × Nat) := [(33, .lconst 0, 1)]
set_option maxRecDepth 20000 in
theorem k_X12_small_33 {sc : xm_Sc} : xm_bok (xe_cy (XE sc) 294) b_X12_small_33 := by show xm_bok cX12_small _; unfold xm_bok; decide +kernel
def b_X12_small_34 : List (Nat × Jvm.ClassFile.Instr × Nat) := [(34, .lstore 6, 2), (36, .iload_n 1, 1), (37, .bipush 23, 2), (39, .if_icmp .ne 25, 3)]
set_option maxRecDepth 20000 in
theorem k_X12_small_34 {sc : xm_Sc} : xm_bok (xe_cy (XE sc) 294) b_X12_small_34 := by show xm_bok cX12_small _; unfold xm_bok; decide +kernel
def b_X12_small_42 : List (Nat × Jvm.ClassFile.Instr × Nat) := [(42, .aload_n 0, 1), (43, .iload_n 3, 1), (44, .iload 4, 2), (46, .lload 6, 2), (48, .ldc2_w 428, 3), (51, .lxor, 1), (52, .iload 4, 2), (54, .invokestatic 432, 3)]
set_option maxRecDepth 20000 in
theorem k_X12_small_42 {sc : xm_Sc} : xm_bok (xe_cy (XE sc) 294) b_X12_small_42 := by show xm_bok cX12_small _; unfold xm_bok; decide +kernel
def b_X12_small_57 : List (Nat × Jvm.ClassFile.Instr × Nat) := [(57, .land, 1), (58, .invokevirtual 436, 3)]
set_option maxRecDepth 20000 in
theorem k_X12_small_57 {sc : xm_Sc} : xm_bok (xe_cy (XE sc) 294) b_X12_small_57 := by show xm_bok cX12_small _; unfold xm_bok; decide +kernel
def b_X12_small_61 : List (Nat × Jvm.ClassFile.Instr × Nat) := [(61, .goto 197, 3)]
set_option maxRecDepth 20000 in
theorem k_X12_small_61 {sc : xm_Sc} : xm_bok (xe_cy (XE sc) 294) b_X12_small_61 := by show xm_bok cX12_small _; unfold xm_bok; decide +kernel
def b_X12_small_64 : List (Nat × Jvm.ClassFile.Instr × Nat) := [(64, .iload_n 1, 1), (65, .bipush 32, 2), (67, .if_icmp .ge 28, 3)]
set_option maxRecDepth 20000 in
theorem k_X12_small_64 {sc : xm_Sc} : xm_bok (xe_cy (XE sc) 294) b_X12_small_64 := by show xm_bok cX12_small _; unfold xm_bok; decide +kernel
def b_X12_small_70 : List (Nat × Jvm.ClassFile.Instr × Nat) := [(70, .aload_n 0, 1), (71, .iload_n 3, 1), (72, .iload 4, 2), (74, .iload_n 1, 1), (75, .bipush 30, 2), (77, .if_icmp .ne 7, 3)]
set_option maxRecDepth 20000 in
theorem k_X12_small_70 {sc : xm_Sc} : xm_bok (xe_cy (XE sc) 294) b_X12_small_70 := by show xm_bok cX12_small _; unfold xm_bok; decide +kernel
def b_X12_small_80 : List (Nat × Jvm.ClassFile.Instr × Nat) := [(80, .lconst 0, 1), (81, .goto 8, 3)]
set_option maxRecDepth 20000 in
theorem k_X12_small_80 {sc : xm_Sc} : xm_bok (xe_cy (XE sc) 294) b_X12_small_80 := by show xm_bok cX12_small _; unfold xm_bok; decide +kernel
def b_X12_small_84 : List (Nat × Jvm.ClassFile.Instr × Nat) := [(84, .iload 4, 2), (86, .invokestatic 432, 3)]
set_option maxRecDepth 20000 in
theorem k_X12_small_84 {sc : xm_Sc} : xm_bok (xe_cy (XE sc) 294) b_X12_small_84 := by show xm_bok cX12_small _; unfold xm_bok; decide +kernel
def b_X12_small_89 : List (Nat × Jvm.ClassFile.Instr × Nat) := [(89, .invokevirtual 436, 3)]
set_option maxRecDepth 20000 in
theorem k_X12_small_89 {sc : xm_Sc} : xm_bok (xe_cy (XE sc) 294) b_X12_small_89 := by show xm_bok cX12_small _; unfold xm_bok; decide +kernel
def b_X12_small_92 : List (Nat × Jvm.ClassFile.Instr × Nat) := [(92, .goto 166, 3)]
set_option maxRecDepth 20000 in
theorem k_X12_small_92 {sc : xm_Sc} : xm_bok (xe_cy (XE sc) 294) b_X12_small_92 := by show xm_bok cX12_small _; unfold xm_bok; decide +kernel
def b_X12_small_95 : List (Nat × Jvm.ClassFile.Instr × Nat) := [(95, .iload_n 1, 1), (96, .bipush 36, 2), (98, .if_icmp .ge 36, 3)]
set_option maxRecDepth 20000 in
theorem k_X12_small_95 {sc : xm_Sc} : xm_bok (xe_cy (XE sc) 294) b_X12_small_95 := by show xm_bok cX12_small _; unfold xm_bok; decide +kernel
def b_X12_small_101 : List (Nat × Jvm.ClassFile.Instr × Nat) := [(101, .aload_n 0, 1), (102, .iload_n 3, 1), (103, .iload 4, 2), (105, .iload_n 1, 1), (106, .aload_n 0, 1), (107, .iload_n 2, 1), (108, .bipush 8, 2), (110, .invokevirtual 450, 3)]
set_option maxRecDepth 20000 in
theorem k_X12_small_101 {sc : xm_Sc} : xm_bok (xe_cy (XE sc) 294) b_X12_small_101 := by show xm_bok cX12_small _; unfold xm_bok; decide +kernel
def b_X12_small_113 : List (Nat × Jvm.ClassFile.Instr × Nat) := [(113, .aload_n 0, 1), (114, .iload_n 2, 1), (115, .bipush 8, 2), (117, .iadd, 1), (118, .iload 4, 2), (120, .invokevirtual 450, 3)]
set_option maxRecDepth 20000 in
theorem k_X12_small_113 {sc : xm_Sc} : xm_bok (xe_cy (XE sc) 294) b_X12_small_113 := by show xm_bok cX12_small _; unfold xm_bok; decide +kernel
def b_X12_small_123 : List (Nat × Jvm.ClassFile.Instr × Nat) := [(123, .iload 4, 2), (125, .invokestatic 458, 3)]
set_option maxRecDepth 20000 in
theorem k_X12_small_123 {sc : xm_Sc} : xm_bok (xe_cy (XE sc) 294) b_X12_small_123 := by show xm_bok cX12_small _; unfold xm_bok; decide +kernel
def b_X12_small_128 : List (Nat × Jvm.ClassFile.Instr × Nat) := [(128, .invokevirtual 436, 3)]
set_option maxRecDepth 20000 in
theorem k_X12_small_128 {sc : xm_Sc} : xm_bok (xe_cy (XE sc) 294) b_X12_small_128 := by show xm_bok cX12_small _; unfold xm_bok; decide +kernel
def b_X12_small_131 : List (Nat × Jvm.ClassFile.Instr × Nat) := [(131, .goto 127, 3)]
set_option maxRecDepth 20000 in
theorem k_X12_small_131 {sc : xm_Sc} : xm_bok (xe_cy (XE sc) 294) b_X12_small_131 := by show xm_bok cX12_small _; unfold xm_bok; decide +kernel
def b_X12_small_134 : List (Nat × Jvm.ClassFile.Instr × Nat) := [(134, .iload_n 1, 1), (135, .bipush 36, 2), (137, .if_icmp .ne 20, 3)]
set_option maxRecDepth 20000 in
theorem k_X12_small_134 {sc : xm_Sc} : xm_bok (xe_cy (XE sc) 294) b_X12_small_134 := by show xm_bok cX12_small _; unfold xm_bok; decide +kernel
def b_X12_small_140 : List (Nat × Jvm.ClassFile.Instr × Nat) := [(140, .aload_n 0, 1), (141, .iload_n 3, 1), (142, .bipush 8, 2), (144, .lload 6, 2), (146, .iload 4, 2), (148, .invokestatic 462, 3)]
set_option maxRecDepth 20000 in
theorem k_X12_small_140 {sc : xm_Sc} : xm_bok (xe_cy (XE sc) 294) b_X12_small_140 := by show xm_bok cX12_small _; unfold xm_bok; decide +kernel
def b_X12_small_151 : List (Nat × Jvm.ClassFile.Instr × Nat) := [(151, .invokevirtual 436, 3)]
set_option maxRecDepth 20000 in
theorem k_X12_small_151 {sc : xm_Sc} : xm_bok (xe_cy (XE sc) 294) b_X12_small_151 := by show xm_bok cX12_small _; unfold xm_bok; decide +kernel
def b_X12_small_154 : List (Nat × Jvm.ClassFile.Instr × Nat) := [(154, .goto 104, 3)]
set_option maxRecDepth 20000 in
theorem k_X12_small_154 {sc : xm_Sc} : xm_bok (xe_cy (XE sc) 294) b_X12_small_154 := by show xm_bok cX12_small _; unfold xm_bok; decide +kernel
def b_X12_small_157 : List (Nat × Jvm.ClassFile.Instr × Nat) := [(157, .iload_n 1, 1), (158, .bipush 37, 2), (160, .if_icmp .ne 20, 3)]
set_option maxRecDepth 20000 in
theorem k_X12_small_157 {sc : xm_Sc} : xm_bok (xe_cy (XE sc) 294) b_X12_small_157 := by show xm_bok cX12_small _; unfold xm_bok; decide +kernel
def b_X12_small_163 : List (Nat × Jvm.ClassFile.Instr × Nat) := [(163, .aload_n 0, 1), (164, .iload_n 3, 1), (165, .bipush 8, 2), (167, .lload 6, 2), (169, .iload 4, 2), (171, .invokestatic 465, 3)]
set_option maxRecDepth 20000 in
theorem k_X12_small_163 {sc : xm_Sc} : xm_bok (xe_cy (XE sc) 294) b_X12_small_163 := by show xm_bok cX12_small _; unfold xm_bok; decide +kernel
def b_X12_small_174 : List (Nat × Jvm.ClassFile.Instr × Nat) := [(174, .invokevirtual 436, 3)]
set_option maxRecDepth 20000 in
theorem k_X12_small_174 {sc : xm_Sc} : xm_bok (xe_cy (XE sc) 294) b_X12_small_174 := by show xm_bok cX12_small _; unfold xm_bok; decide +kernel
def b_X12_small_177 : List (Nat × Jvm.ClassFile.Instr × Nat) := [(177, .goto 81, 3)]
set_option maxRecDepth 20000 in
theorem k_X12_small_177 {sc : xm_Sc} : xm_bok (xe_cy (XE sc) 294) b_X12_small_177 := by show xm_bok cX12_small _; unfold xm_bok; decide +kernel
def b_X12_small_180 : List (Nat × Jvm.ClassFile.Instr × Nat) := [(180, .iload_n 1, 1), (181, .bipush 38, 2), (183, .if_icmp .ne 18, 3)]
set_option maxRecDepth 20000 in
theorem k_X12_small_180 {sc : xm_Sc} : xm_bok (xe_cy (XE sc) 294) b_X12_small_180 := by show xm_bok cX12_small _; unfold xm_bok; decide +kernel
def b_X12_small_186 : List (Nat × Jvm.ClassFile.Instr × Nat) := [(186, .aload_n 0, 1), (187, .iload_n 3, 1), (188, .iload 5, 2), (190, .lload 6, 2), (192, .iload 5, 2), (194, .lushr, 1), (195, .invokevirtual 436, 3)]
set_option maxRecDepth 20000 in
theorem k_X12_small_186 {sc : xm_Sc} : xm_bok (xe_cy (XE sc) 294) b_X12_small_186 := by show xm_bok cX12_small _; unfold xm_bok; decide +kernel
def b_X12_small_198 : List (Nat × Jvm.ClassFile.Instr × Nat) := [(198, .goto 60, 3)]
set_option maxRecDepth 20000 in
theorem k_X12_small_198 {sc : xm_Sc} : xm_bok (xe_cy (XE sc) 294) b_X12_small_198 := by show xm_bok cX12_small _; unfold xm_bok; decide +kernel
def b_X12_small_201 : List (Nat × Jvm.ClassFile.Instr × Nat) := [(201, .iload_n 1, 1), (202, .bipush 39, 2), (204, .if_icmp .ne 21, 3)]
set_option maxRecDepth 20000 in
theorem k_X12_small_201 {sc : xm_Sc} : xm_bok (xe_cy (XE sc) 294) b_X12_small_201 := by show xm_bok cX12_small _; unfold xm_bok; decide +kernel
def b_X12_small_207 : List (Nat × Jvm.ClassFile.Instr × Nat) := [(207, .aload_n 0, 1), (208, .iload_n 3, 1), (209, .iload 5, 2), (211, .lload 6, 2), (213, .iload 5, 2), (215, .invokestatic 432, 3)]
set_option maxRecDepth 20000 in
theorem k_X12_small_207 {sc : xm_Sc} : xm_bok (xe_cy (XE sc) 294) b_X12_small_207 := by show xm_bok cX12_small _; unfold xm_bok; decide +kernel
def b_X12_small_218 : List (Nat × Jvm.ClassFile.Instr × Nat) := [(218, .land, 1), (219, .invokevirtual 436, 3)]
set_option maxRecDepth 20000 in
theorem k_X12_small_218 {sc : xm_Sc} : xm_bok (xe_cy (XE sc) 294) b_X12_small_218 := by show xm_bok cX12_small _; unfold xm_bok; decide +kernel
def b_X12_small_222 : List (Nat × Jvm.ClassFile.Instr × Nat) := [(222, .goto 36, 3)]
set_option maxRecDepth 20000 in
theorem k_X12_small_222 {sc : xm_Sc} : xm_bok (xe_cy (XE sc) 294) b_X12_small_222 := by show xm_bok cX12_small _; unfold xm_bok; decide +kernel
def b_X12_small_225 : List (Nat × Jvm.ClassFile.Instr × Nat) := [(225, .aload_n 0, 1), (226, .iload_n 3, 1), (227, .iload 4, 2), (229, .iload_n 1, 1), (230, .bipush 40, 2), (232, .if_icmp .ne 13, 3)]
set_option maxRecDepth 20000 in
theorem k_X12_small_225 {sc : xm_Sc} : xm_bok (xe_cy (XE sc) 294) b_X12_small_225 := by show xm_bok cX12_small _; unfold xm_bok; decide +kernel
def b_X12_small_235 : List (Nat × Jvm.ClassFile.Instr × Nat) := [(235, .aload_n 0, 1), (236, .iload_n 2, 1), (237, .iload 5, 2), (239, .invokevirtual 450, 3)]
set_option maxRecDepth 20000 in
theorem k_X12_small_235 {sc : xm_Sc} : xm_bok (xe_cy (XE sc) 294) b_X12_small_235 := by show xm_bok cX12_small _; unfold xm_bok; decide +kernel
def b_X12_small_242 : List (Nat × Jvm.ClassFile.Instr × Nat) := [(242, .goto 13, 3)]
set_option maxRecDepth 20000 in
theorem k_X12_small_242 {sc : xm_Sc} : xm_bok (xe_cy (XE sc) 294) b_X12_small_242 := by show xm_bok cX12_small _; unfold xm_bok; decide +kernel
def b_X12_small_245 : List (Nat × Jvm.ClassFile.Instr × Nat) := [(245, .aload_n 0, 1), (246, .iload_n 2, 1), (247, .iload 5, 2), (249, .invokevirtual 450, 3)]
set_option maxRecDepth 20000 in
theorem k_X12_small_245 {sc : xm_Sc} : xm_bok (xe_cy (XE sc) 294) b_X12_small_245 := by show xm_bok cX12_small _; unfold xm_bok; decide +kernel
def b_X12_small_252 : List (Nat × Jvm.ClassFile.Instr × Nat) := [(252, .iload 5, 2), (254, .lshl, 1)]
set_option maxRecDepth 20000 in
theorem k_X12_small_252 {sc : xm_Sc} : xm_bok (xe_cy (XE sc) 294) b_X12_small_252 := by show xm_bok cX12_small _; unfold xm_bok; decide +kernel
def b_X12_small_255 : List (Nat × Jvm.ClassFile.Instr × Nat) := [(255, .invokevirtual 436, 3)]
set_option maxRecDepth 20000 in
theorem k_X12_small_255 {sc : xm_Sc} : xm_bok (xe_cy (XE sc) 294) b_X12_small_255 := by show xm_bok cX12_small _; unfold xm_bok; decide +kernel
def b_X12_small_258 : List (Nat × Jvm.ClassFile.Instr × Nat) := [(258, .return_, 1)]
set_option maxRecDepth 20000 in
theorem k_X12_small_258 {sc : xm_Sc} : xm_bok (xe_cy (XE sc) 294) b_X12_small_258 := by show xm_bok cX12_small _; unfold xm_bok; decide +kernel
set_option maxRecDepth 20000 in
theorem cn_294 {sc : xm_Sc} : xe_cn (XE sc) 294 = 12 := rfl
set_option maxRecDepth 20000 in
theorem ml_294 {sc : xm_Sc} : xe_ml (XE sc) 294 = 8 := rfl
set_option maxRecDepth 20000 in
theorem ry_294 {sc : xm_Sc} : xe_ry (XE sc) 294 = none := rfl
set_option maxRecDepth 20000 in
theorem is_294 {sc : xm_Sc} : xe_is (XE sc) 294 = false := rfl
set_option maxRecDepth 20000 in
theorem np_294 {sc : xm_Sc} : xe_np (XE sc) 294 = 4 := rfl
/- method 295: X12_sourceWidth -/
def b_X12_sourceWidth_0 : List (Nat × Jvm.ClassFile.Instr × Nat) := [(0, .aload_n 0, 1), (1, .getfield 69, 3), (4, .iload_n 1, 1), (5, .iaload, 1), (6, .ifCond .ge 7, 3)]
set_option maxRecDepth 20000 in
theorem k_X12_sourceWidth_0 {sc : xm_Sc} : xm_bok (xe_cy (XE sc) 295) b_X12_sourceWidth_0 := by show xm_bok cX12_sourceWidth _; unfold xm_bok; decide +kernel
def b_X12_sourceWidth_9 : List (Nat × Jvm.ClassFile.Instr × Nat) := [(9, .iconst (-1), 1), (10, .goto 14, 3)]
set_option maxRecDepth 20000 in
theorem k_X12_sourceWidth_9 {sc : xm_Sc} : xm_bok (xe_cy (XE sc) 295) b_X12_sourceWidth_9 := by show xm_bok cX12_sourceWidth _; unfold xm_bok; decide +kernel
def b_X12_sourceWidth_13 : List (Nat × Jvm.ClassFile.Instr × Nat) := [(13, .aload_n 0, 1), (14, .getfield 100, 3), (17, .aload_n 0, 1), (18, .getfield 69, 3), (21, .iload_n 1, 1), (22, .iaload, 1), (23, .iaload, 1)]
set_option maxRecDepth 20000 in
theorem k_X12_sourceWidth_13 {sc : xm_Sc} : xm_bok (xe_cy (XE sc) 295) b_X12_sourceWidth_13 := by show xm_bok cX12_sourceWidth _; unfold xm_bok; decide +kernel
def b_X12_sourceWidth_24 : List (Nat × Jvm.ClassFile.Instr × Nat) := [(24, .ireturn, 1)]
set_option maxRecDepth 20000 in
theorem k_X12_sourceWidth_24 {sc : xm_Sc} : xm_bok (xe_cy (XE sc) 295) b_X12_sourceWidth_24 := by show xm_bok cX12_sourceWidth _; unfold xm_bok; decide +kernel
set_option maxRecDepth 20000 in
theorem cn_295 {sc : xm_Sc} : xe_cn (XE sc) 295 = 12 := rfl
set_option maxRecDepth 20000 in
theorem ml_295 {sc : xm_Sc} : xe_ml (XE sc) 295 = 2 := rfl
set_option maxRecDepth 20000 in
theorem ry_295 {sc : xm_Sc} : xe_ry (XE sc) 295 = (some .int) := rfl
set_option maxRecDepth 20000 in
theorem is_295 {sc : xm_Sc} : xe_is (XE sc) 295 = false := rfl
set_option maxRecDepth 20000 in
theorem np_295 {sc : xm_Sc} : xe_np (XE sc) 295 = 1 := rfl
/- method 296: X12_speak -/
def b_X12_speak_0 : List (Nat × Jvm.ClassFile.Instr × Nat) := [(0, .aload_n 0, 1), (1, .aload_n 0, 1), (2, .getfield 378, 3), (5, .ifCond .le 7, 3)]
set_option maxRecDepth 20000 in
theorem k_X12_speak_0 {sc : xm_Sc} : xm_bok (xe_cy (XE sc) 296) b_X12_speak_0 := by show xm_bok cX12_speak _; unfold xm_bok; decide +kernel
def b_X12_speak_8 : List (Nat × Jvm.ClassFile.Instr × Nat) := [(8, .iconst 0, 1), (9, .goto 4, 3)]
set_option maxRecDepth 20000 in
theorem k_X12_speak_8 {sc : xm_Sc} : xm_bok (xe_cy (XE sc) 296) b_X12_speak_8 := by show xm_bok cX12_speak _; unfold xm_bok; decide +kernel
def b_X12_speak_12 : List (Nat × Jvm.ClassFile.Instr × Nat) := [(12, .iconst 1, 1)]
set_option maxRecDepth 20000 in
theorem k_X12_speak_12 {sc : xm_Sc} : xm_bok (xe_cy (XE sc) 296) b_X12_speak_12 := by show xm_bok cX12_speak _; unfold xm_bok; decide +kernel
def b_X12_speak_13 : List (Nat × Jvm.ClassFile.Instr × Nat) := [(13, .putfield 205, 3), (16, .aload_n 0, 1), (17, .getfield 205, 3), (20, .ifCond .le 5, 3)]
set_option maxRecDepth 20000 in
theorem k_X12_speak_13 {sc : xm_Sc} : xm_bok (xe_cy (XE sc) 296) b_X12_speak_13 := by show xm_bok cX12_speak _; unfold xm_bok; decide +kernel
def b_X12_speak_23 : List (Nat × Jvm.ClassFile.Instr × Nat) := [(23, .iconst 0, 1), (24, .ireturn, 1)]
set_option maxRecDepth 20000 in
theorem k_X12_speak_23 {sc : xm_Sc} : xm_bok (xe_cy (XE sc) 296) b_X12_speak_23 := by show xm_bok cX12_speak _; unfold xm_bok; decide +kernel
def b_X12_speak_25 : List (Nat × Jvm.ClassFile.Instr × Nat) := [(25, .aload_n 0, 1), (26, .iconst 0, 1), (27, .putfield 289, 3), (30, .iconst 0, 1), (31, .istore_n 1, 1)]
set_option maxRecDepth 20000 in
theorem k_X12_speak_25 {sc : xm_Sc} : xm_bok (xe_cy (XE sc) 296) b_X12_speak_25 := by show xm_bok cX12_speak _; unfold xm_bok; decide +kernel
def b_X12_speak_32 : List (Nat × Jvm.ClassFile.Instr × Nat) := [(32, .iload_n 1, 1), (33, .aload_n 0, 1), (34, .getfield 378, 3), (37, .if_icmp .ge 21, 3)]
set_option maxRecDepth 20000 in
theorem k_X12_speak_32 {sc : xm_Sc} : xm_bok (xe_cy (XE sc) 296) b_X12_speak_32 := by show xm_bok cX12_speak _; unfold xm_bok; decide +kernel
def b_X12_speak_40 : List (Nat × Jvm.ClassFile.Instr × Nat) := [(40, .aload_n 0, 1), (41, .invokevirtual 292, 3)]
set_option maxRecDepth 20000 in
theorem k_X12_speak_40 {sc : xm_Sc} : xm_bok (xe_cy (XE sc) 296) b_X12_speak_40 := by show xm_bok cX12_speak _; unfold xm_bok; decide +kernel
def b_X12_speak_44 : List (Nat × Jvm.ClassFile.Instr × Nat) := [(44, .ifCond .ne 14, 3)]
set_option maxRecDepth 20000 in
theorem k_X12_speak_44 {sc : xm_Sc} : xm_bok (xe_cy (XE sc) 296) b_X12_speak_44 := by show xm_bok cX12_speak _; unfold xm_bok; decide +kernel
def b_X12_speak_47 : List (Nat × Jvm.ClassFile.Instr × Nat) := [(47, .aload_n 0, 1), (48, .iload_n 1, 1), (49, .invokevirtual 589, 3)]
set_option maxRecDepth 20000 in
theorem k_X12_speak_47 {sc : xm_Sc} : xm_bok (xe_cy (XE sc) 296) b_X12_speak_47 := by show xm_bok cX12_speak _; unfold xm_bok; decide +kernel
def b_X12_speak_52 : List (Nat × Jvm.ClassFile.Instr × Nat) := [(52, .iinc 1 1, 3), (55, .goto (-23), 3)]
set_option maxRecDepth 20000 in
theorem k_X12_speak_52 {sc : xm_Sc} : xm_bok (xe_cy (XE sc) 296) b_X12_speak_52 := by show xm_bok cX12_speak _; unfold xm_bok; decide +kernel
def b_X12_speak_58 : List (Nat × Jvm.ClassFile.Instr × Nat) := [(58, .aload_n 0, 1), (59, .invokevirtual 292, 3)]
set_option maxRecDepth 20000 in
theorem k_X12_speak_58 {sc : xm_Sc} : xm_bok (xe_cy (XE sc) 296) b_X12_speak_58 := by show xm_bok cX12_speak _; unfold xm_bok; decide +kernel
def b_X12_speak_62 : List (Nat × Jvm.ClassFile.Instr × Nat) := [(62, .ifCond .eq 7, 3)]
set_option maxRecDepth 20000 in
theorem k_X12_speak_62 {sc : xm_Sc} : xm_bok (xe_cy (XE sc) 296) b_X12_speak_62 := by show xm_bok cX12_speak _; unfold xm_bok; decide +kernel
def b_X12_speak_65 : List (Nat × Jvm.ClassFile.Instr × Nat) := [(65, .iconst (-1), 1), (66, .goto 7, 3)]
set_option maxRecDepth 20000 in
theorem k_X12_speak_65 {sc : xm_Sc} : xm_bok (xe_cy (XE sc) 296) b_X12_speak_65 := by show xm_bok cX12_speak _; unfold xm_bok; decide +kernel
def b_X12_speak_69 : List (Nat × Jvm.ClassFile.Instr × Nat) := [(69, .aload_n 0, 1), (70, .invokevirtual 568, 3)]
set_option maxRecDepth 20000 in
theorem k_X12_speak_69 {sc : xm_Sc} : xm_bok (xe_cy (XE sc) 296) b_X12_speak_69 := by show xm_bok cX12_speak _; unfold xm_bok; decide +kernel
def b_X12_speak_73 : List (Nat × Jvm.ClassFile.Instr × Nat) := [(73, .ireturn, 1)]
set_option maxRecDepth 20000 in
theorem k_X12_speak_73 {sc : xm_Sc} : xm_bok (xe_cy (XE sc) 296) b_X12_speak_73 := by show xm_bok cX12_speak _; unfold xm_bok; decide +kernel
set_option maxRecDepth 20000 in
theorem cn_296 {sc : xm_Sc} : xe_cn (XE sc) 296 = 12 := rfl
set_option maxRecDepth 20000 in
theorem ml_296 {sc : xm_Sc} : xe_ml (XE sc) 296 = 2 := rfl
set_option maxRecDepth 20000 in
theorem ry_296 {sc : xm_Sc} : xe_ry (XE sc) 296 = (some .int) := rfl
set_option maxRecDepth 20000 in
theorem is_296 {sc : xm_Sc} : xe_is (XE sc) 296 = false := rfl
set_option maxRecDepth 20000 in
theorem np_296 {sc : xm_Sc} : xe_np (XE sc) 296 = 0 := rfl
/- method 297: X12_speech -/
def b_X12_speech_0 : List (Nat × Jvm.ClassFile.Instr × Nat) := [(0, .aload_n 0, 1), (1, .iconst 0, 1), (2, .putfield 592, 3), (5, .aload_n 0, 1), (6, .iconst 0, 1), (7, .putfield 577, 3), (10, .aload_n 0, 1), (11, .invokevirtual 676, 3)]
set_option maxRecDepth 20000 in
theorem k_X12_speech_0 {sc : xm_Sc} : xm_bok (xe_cy (XE sc) 297) b_X12_speech_0 := by show xm_bok cX12_speech _; unfold xm_bok; decide +kernel
def b_X12_speech_14 : List (Nat × Jvm.ClassFile.Instr × Nat) := [(14, .istore_n 1, 1), (15, .aload_n 0, 1), (16, .getfield 592, 3), (19, .ifCond .le 8, 3)]
set_option maxRecDepth 20000 in
theorem k_X12_speech_14 {sc : xm_Sc} : xm_bok (xe_cy (XE sc) 297) b_X12_speech_14 := by show xm_bok cX12_speech _; unfold xm_bok; decide +kernel
def b_X12_speech_22 : List (Nat × Jvm.ClassFile.Instr × Nat) := [(22, .aload_n 0, 1), (23, .getfield 592, 3), (26, .ireturn, 1)]
set_option maxRecDepth 20000 in
theorem k_X12_speech_22 {sc : xm_Sc} : xm_bok (xe_cy (XE sc) 297) b_X12_speech_22 := by show xm_bok cX12_speech _; unfold xm_bok; decide +kernel
def b_X12_speech_27 : List (Nat × Jvm.ClassFile.Instr × Nat) := [(27, .aload_n 0, 1), (28, .iload_n 1, 1), (29, .invokevirtual 351, 3)]
set_option maxRecDepth 20000 in
theorem k_X12_speech_27 {sc : xm_Sc} : xm_bok (xe_cy (XE sc) 297) b_X12_speech_27 := by show xm_bok cX12_speech _; unfold xm_bok; decide +kernel
def b_X12_speech_32 : List (Nat × Jvm.ClassFile.Instr × Nat) := [(32, .aload_n 0, 1), (33, .iload_n 1, 1), (34, .invokevirtual 366, 3)]
set_option maxRecDepth 20000 in
theorem k_X12_speech_32 {sc : xm_Sc} : xm_bok (xe_cy (XE sc) 297) b_X12_speech_32 := by show xm_bok cX12_speech _; unfold xm_bok; decide +kernel
def b_X12_speech_37 : List (Nat × Jvm.ClassFile.Instr × Nat) := [(37, .ifCond .eq 6, 3)]
set_option maxRecDepth 20000 in
theorem k_X12_speech_37 {sc : xm_Sc} : xm_bok (xe_cy (XE sc) 297) b_X12_speech_37 := by show xm_bok cX12_speech _; unfold xm_bok; decide +kernel
def b_X12_speech_40 : List (Nat × Jvm.ClassFile.Instr × Nat) := [(40, .bipush 7, 2), (42, .ireturn, 1)]
set_option maxRecDepth 20000 in
theorem k_X12_speech_40 {sc : xm_Sc} : xm_bok (xe_cy (XE sc) 297) b_X12_speech_40 := by show xm_bok cX12_speech _; unfold xm_bok; decide +kernel
def b_X12_speech_43 : List (Nat × Jvm.ClassFile.Instr × Nat) := [(43, .aload_n 0, 1), (44, .invokevirtual 369, 3)]
set_option maxRecDepth 20000 in
theorem k_X12_speech_43 {sc : xm_Sc} : xm_bok (xe_cy (XE sc) 297) b_X12_speech_43 := by show xm_bok cX12_speech _; unfold xm_bok; decide +kernel
def b_X12_speech_47 : List (Nat × Jvm.ClassFile.Instr × Nat) := [(47, .istore_n 2, 1), (48, .iload_n 2, 1), (49, .ifCond .le 5, 3)]
set_option maxRecDepth 20000 in
theorem k_X12_speech_47 {sc : xm_Sc} : xm_bok (xe_cy (XE sc) 297) b_X12_speech_47 := by show xm_bok cX12_speech _; unfold xm_bok; decide +kernel
def b_X12_speech_52 : List (Nat × Jvm.ClassFile.Instr × Nat) := [(52, .iload_n 2, 1), (53, .ireturn, 1)]
set_option maxRecDepth 20000 in
theorem k_X12_speech_52 {sc : xm_Sc} : xm_bok (xe_cy (XE sc) 297) b_X12_speech_52 := by show xm_bok cX12_speech _; unfold xm_bok; decide +kernel
def b_X12_speech_54 : List (Nat × Jvm.ClassFile.Instr × Nat) := [(54, .aload_n 0, 1), (55, .aload_n 0, 1), (56, .iload_n 1, 1), (57, .invokevirtual 679, 3)]
set_option maxRecDepth 20000 in
theorem k_X12_speech_54 {sc : xm_Sc} : xm_bok (xe_cy (XE sc) 297) b_X12_speech_54 := by show xm_bok cX12_speech _; unfold xm_bok; decide +kernel
def b_X12_speech_60 : List (Nat × Jvm.ClassFile.Instr × Nat) := [(60, .invokevirtual 351, 3)]
set_option maxRecDepth 20000 in
theorem k_X12_speech_60 {sc : xm_Sc} : xm_bok (xe_cy (XE sc) 297) b_X12_speech_60 := by show xm_bok cX12_speech _; unfold xm_bok; decide +kernel
def b_X12_speech_63 : List (Nat × Jvm.ClassFile.Instr × Nat) := [(63, .aload_n 0, 1), (64, .getfield 226, 3), (67, .sipush 400, 3), (70, .if_icmp .le 5, 3)]
set_option maxRecDepth 20000 in
theorem k_X12_speech_63 {sc : xm_Sc} : xm_bok (xe_cy (XE sc) 297) b_X12_speech_63 := by show xm_bok cX12_speech _; unfold xm_bok; decide +kernel
def b_X12_speech_73 : List (Nat × Jvm.ClassFile.Instr × Nat) := [(73, .iconst 4, 1), (74, .ireturn, 1)]
set_option maxRecDepth 20000 in
theorem k_X12_speech_73 {sc : xm_Sc} : xm_bok (xe_cy (XE sc) 297) b_X12_speech_73 := by show xm_bok cX12_speech _; unfold xm_bok; decide +kernel
def b_X12_speech_75 : List (Nat × Jvm.ClassFile.Instr × Nat) := [(75, .aload_n 0, 1), (76, .invokevirtual 682, 3)]
set_option maxRecDepth 20000 in
theorem k_X12_speech_75 {sc : xm_Sc} : xm_bok (xe_cy (XE sc) 297) b_X12_speech_75 := by show xm_bok cX12_speech _; unfold xm_bok; decide +kernel
def b_X12_speech_79 : List (Nat × Jvm.ClassFile.Instr × Nat) := [(79, .istore_n 2, 1), (80, .iload_n 2, 1), (81, .ifCond .le 5, 3)]
set_option maxRecDepth 20000 in
theorem k_X12_speech_79 {sc : xm_Sc} : xm_bok (xe_cy (XE sc) 297) b_X12_speech_79 := by show xm_bok cX12_speech _; unfold xm_bok; decide +kernel
def b_X12_speech_84 : List (Nat × Jvm.ClassFile.Instr × Nat) := [(84, .iload_n 2, 1), (85, .ireturn, 1)]
set_option maxRecDepth 20000 in
theorem k_X12_speech_84 {sc : xm_Sc} : xm_bok (xe_cy (XE sc) 297) b_X12_speech_84 := by show xm_bok cX12_speech _; unfold xm_bok; decide +kernel
def b_X12_speech_86 : List (Nat × Jvm.ClassFile.Instr × Nat) := [(86, .aload_n 0, 1), (87, .invokevirtual 685, 3)]
set_option maxRecDepth 20000 in
theorem k_X12_speech_86 {sc : xm_Sc} : xm_bok (xe_cy (XE sc) 297) b_X12_speech_86 := by show xm_bok cX12_speech _; unfold xm_bok; decide +kernel
def b_X12_speech_90 : List (Nat × Jvm.ClassFile.Instr × Nat) := [(90, .aload_n 0, 1), (91, .getfield 656, 3), (94, .ldc_w 659, 3), (97, .if_icmp .le 7, 3)]
set_option maxRecDepth 20000 in
theorem k_X12_speech_90 {sc : xm_Sc} : xm_bok (xe_cy (XE sc) 297) b_X12_speech_90 := by show xm_bok cX12_speech _; unfold xm_bok; decide +kernel
def b_X12_speech_100 : List (Nat × Jvm.ClassFile.Instr × Nat) := [(100, .iconst 4, 1), (101, .goto 4, 3)]
set_option maxRecDepth 20000 in
theorem k_X12_speech_100 {sc : xm_Sc} : xm_bok (xe_cy (XE sc) 297) b_X12_speech_100 := by show xm_bok cX12_speech _; unfold xm_bok; decide +kernel
def b_X12_speech_104 : List (Nat × Jvm.ClassFile.Instr × Nat) := [(104, .iconst 0, 1)]
set_option maxRecDepth 20000 in
theorem k_X12_speech_104 {sc : xm_Sc} : xm_bok (xe_cy (XE sc) 297) b_X12_speech_104 := by show xm_bok cX12_speech _; unfold xm_bok; decide +kernel
def b_X12_speech_105 : List (Nat × Jvm.ClassFile.Instr × Nat) := [(105, .ireturn, 1)]
set_option maxRecDepth 20000 in
theorem k_X12_speech_105 {sc : xm_Sc} : xm_bok (xe_cy (XE sc) 297) b_X12_speech_105 := by show xm_bok cX12_speech _; unfold xm_bok; decide +kernel
set_option maxRecDepth 20000 in
theorem cn_297 {sc : xm_Sc} : xe_cn (XE sc) 297 = 12 := rfl
set_option maxRecDepth 20000 in
theorem ml_297 {sc : xm_Sc} : xe_ml (XE sc) 297 = 3 := rfl
set_option maxRecDepth 20000 in
theorem ry_297 {sc : xm_Sc} : xe_ry (XE sc) 297 = (some .int) := rfl
set_option maxRecDepth 20000 in
theorem is_297 {sc : xm_Sc} : xe_is (XE sc) 297 = false := rfl
set_option maxRecDepth 20000 in
theorem np_297 {sc : xm_Sc} : xe_np (XE sc) 297 = 0 := rfl
/- method 298: X12_sum -/
def b_X12_sum_0 : List (Nat × Jvm.ClassFile.Instr × Nat) := [(0, .iload 9, 2), (2, .ifCond .eq 13, 3)]
set_option maxRecDepth 20000 in
theorem k_X12_sum_0 {sc : xm_Sc} : xm_bok (xe_cy (XE sc) 298) b_X12_sum_0 := by show xm_bok cX12_sum _; unfold xm_bok; decide +kernel
def b_X12_sum_5 : List (Nat × Jvm.ClassFile.Instr × Nat) := [(5, .lload_n 3, 1), (6, .lload 5, 2), (8, .lsub, 1), (9, .lload 7, 2), (11, .lsub, 1), (12, .goto 10, 3)]
set_option maxRecDepth 20000 in
theorem k_X12_sum_5 {sc : xm_Sc} : xm_bok (xe_cy (XE sc) 298) b_X12_sum_5 := by show xm_bok cX12_sum _; unfold xm_bok; decide +kernel
def b_X12_sum_15 : List (Nat × Jvm.ClassFile.Instr × Nat) := [(15, .lload_n 3, 1), (16, .lload 5, 2), (18, .ladd, 1), (19, .lload 7, 2), (21, .ladd, 1)]
set_option maxRecDepth 20000 in
theorem k_X12_sum_15 {sc : xm_Sc} : xm_bok (xe_cy (XE sc) 298) b_X12_sum_15 := by show xm_bok cX12_sum _; unfold xm_bok; decide +kernel
def b_X12_sum_22 : List (Nat × Jvm.ClassFile.Instr × Nat) := [(22, .lstore 10, 2), (24, .iload 9, 2), (26, .ifCond .eq 36, 3)]
set_option maxRecDepth 20000 in
theorem k_X12_sum_22 {sc : xm_Sc} : xm_bok (xe_cy (XE sc) 298) b_X12_sum_22 := by show xm_bok cX12_sum _; unfold xm_bok; decide +kernel
def b_X12_sum_29 : List (Nat × Jvm.ClassFile.Instr × Nat) := [(29, .lload_n 3, 1), (30, .lload 5, 2), (32, .invokestatic 421, 3)]
set_option maxRecDepth 20000 in
theorem k_X12_sum_29 {sc : xm_Sc} : xm_bok (xe_cy (XE sc) 298) b_X12_sum_29 := by show xm_bok cX12_sum _; unfold xm_bok; decide +kernel
def b_X12_sum_35 : List (Nat × Jvm.ClassFile.Instr × Nat) := [(35, .ifCond .ne 17, 3)]
set_option maxRecDepth 20000 in
theorem k_X12_sum_35 {sc : xm_Sc} : xm_bok (xe_cy (XE sc) 298) b_X12_sum_35 := by show xm_bok cX12_sum _; unfold xm_bok; decide +kernel
def b_X12_sum_38 : List (Nat × Jvm.ClassFile.Instr × Nat) := [(38, .lload_n 3, 1), (39, .lload 5, 2), (41, .lcmp, 1), (42, .ifCond .ne 14, 3)]
set_option maxRecDepth 20000 in
theorem k_X12_sum_38 {sc : xm_Sc} : xm_bok (xe_cy (XE sc) 298) b_X12_sum_38 := by show xm_bok cX12_sum _; unfold xm_bok; decide +kernel
def b_X12_sum_45 : List (Nat × Jvm.ClassFile.Instr × Nat) := [(45, .lload 7, 2), (47, .lconst 1, 1), (48, .lcmp, 1), (49, .ifCond .ne 7, 3)]
set_option maxRecDepth 20000 in
theorem k_X12_sum_45 {sc : xm_Sc} : xm_bok (xe_cy (XE sc) 298) b_X12_sum_45 := by show xm_bok cX12_sum _; unfold xm_bok; decide +kernel
def b_X12_sum_52 : List (Nat × Jvm.ClassFile.Instr × Nat) := [(52, .iconst 1, 1), (53, .goto 4, 3)]
set_option maxRecDepth 20000 in
theorem k_X12_sum_52 {sc : xm_Sc} : xm_bok (xe_cy (XE sc) 298) b_X12_sum_52 := by show xm_bok cX12_sum _; unfold xm_bok; decide +kernel
def b_X12_sum_56 : List (Nat × Jvm.ClassFile.Instr × Nat) := [(56, .iconst 0, 1)]
set_option maxRecDepth 20000 in
theorem k_X12_sum_56 {sc : xm_Sc} : xm_bok (xe_cy (XE sc) 298) b_X12_sum_56 := by show xm_bok cX12_sum _; unfold xm_bok; decide +kernel
def b_X12_sum_57 : List (Nat × Jvm.ClassFile.Instr × Nat) := [(57, .istore 12, 2), (59, .goto 58, 3)]
set_option maxRecDepth 20000 in
theorem k_X12_sum_57 {sc : xm_Sc} : xm_bok (xe_cy (XE sc) 298) b_X12_sum_57 := by show xm_bok cX12_sum _; unfold xm_bok; decide +kernel
def b_X12_sum_62 : List (Nat × Jvm.ClassFile.Instr × Nat) := [(62, .iload_n 2, 1), (63, .bipush 64, 2), (65, .if_icmp .ge 22, 3)]
set_option maxRecDepth 20000 in
theorem k_X12_sum_62 {sc : xm_Sc} : xm_bok (xe_cy (XE sc) 298) b_X12_sum_62 := by show xm_bok cX12_sum _; unfold xm_bok; decide +kernel
def b_X12_sum_68 : List (Nat × Jvm.ClassFile.Instr × Nat) := [(68, .lload 10, 2), (70, .iload_n 2, 1), (71, .lushr, 1), (72, .lconst 0, 1), (73, .lcmp, 1), (74, .ifCond .eq 7, 3)]
set_option maxRecDepth 20000 in
theorem k_X12_sum_68 {sc : xm_Sc} : xm_bok (xe_cy (XE sc) 298) b_X12_sum_68 := by show xm_bok cX12_sum _; unfold xm_bok; decide +kernel
def b_X12_sum_77 : List (Nat × Jvm.ClassFile.Instr × Nat) := [(77, .iconst 1, 1), (78, .goto 4, 3)]
set_option maxRecDepth 20000 in
theorem k_X12_sum_77 {sc : xm_Sc} : xm_bok (xe_cy (XE sc) 298) b_X12_sum_77 := by show xm_bok cX12_sum _; unfold xm_bok; decide +kernel
def b_X12_sum_81 : List (Nat × Jvm.ClassFile.Instr × Nat) := [(81, .iconst 0, 1)]
set_option maxRecDepth 20000 in
theorem k_X12_sum_81 {sc : xm_Sc} : xm_bok (xe_cy (XE sc) 298) b_X12_sum_81 := by show xm_bok cX12_sum _; unfold xm_bok; decide +kernel
def b_X12_sum_82 : List (Nat × Jvm.ClassFile.Instr × Nat) := [(82, .istore 12, 2), (84, .goto 33, 3)]
set_option maxRecDepth 20000 in
theorem k_X12_sum_82 {sc : xm_Sc} : xm_bok (xe_cy (XE sc) 298) b_X12_sum_82 := by show xm_bok cX12_sum _; unfold xm_bok; decide +kernel
def b_X12_sum_87 : List (Nat × Jvm.ClassFile.Instr × Nat) := [(87, .lload_n 3, 1), (88, .lload 5, 2), (90, .ladd, 1), (91, .lload_n 3, 1), (92, .invokestatic 421, 3)]
set_option maxRecDepth 20000 in
theorem k_X12_sum_87 {sc : xm_Sc} : xm_bok (xe_cy (XE sc) 298) b_X12_sum_87 := by show xm_bok cX12_sum _; unfold xm_bok; decide +kernel
def b_X12_sum_95 : List (Nat × Jvm.ClassFile.Instr × Nat) := [(95, .ifCond .ne 15, 3)]
set_option maxRecDepth 20000 in
theorem k_X12_sum_95 {sc : xm_Sc} : xm_bok (xe_cy (XE sc) 298) b_X12_sum_95 := by show xm_bok cX12_sum _; unfold xm_bok; decide +kernel
def b_X12_sum_98 : List (Nat × Jvm.ClassFile.Instr × Nat) := [(98, .lload 10, 2), (100, .lload_n 3, 1), (101, .lload 5, 2), (103, .ladd, 1), (104, .invokestatic 421, 3)]
set_option maxRecDepth 20000 in
theorem k_X12_sum_98 {sc : xm_Sc} : xm_bok (xe_cy (XE sc) 298) b_X12_sum_98 := by show xm_bok cX12_sum _; unfold xm_bok; decide +kernel
def b_X12_sum_107 : List (Nat × Jvm.ClassFile.Instr × Nat) := [(107, .ifCond .eq 7, 3)]
set_option maxRecDepth 20000 in
theorem k_X12_sum_107 {sc : xm_Sc} : xm_bok (xe_cy (XE sc) 298) b_X12_sum_107 := by show xm_bok cX12_sum _; unfold xm_bok; decide +kernel
def b_X12_sum_110 : List (Nat × Jvm.ClassFile.Instr × Nat) := [(110, .iconst 1, 1), (111, .goto 4, 3)]
set_option maxRecDepth 20000 in
theorem k_X12_sum_110 {sc : xm_Sc} : xm_bok (xe_cy (XE sc) 298) b_X12_sum_110 := by show xm_bok cX12_sum _; unfold xm_bok; decide +kernel
def b_X12_sum_114 : List (Nat × Jvm.ClassFile.Instr × Nat) := [(114, .iconst 0, 1)]
set_option maxRecDepth 20000 in
theorem k_X12_sum_114 {sc : xm_Sc} : xm_bok (xe_cy (XE sc) 298) b_X12_sum_114 := by show xm_bok cX12_sum _; unfold xm_bok; decide +kernel
def b_X12_sum_115 : List (Nat × Jvm.ClassFile.Instr × Nat) := [(115, .istore 12, 2)]
set_option maxRecDepth 20000 in
theorem k_X12_sum_115 {sc : xm_Sc} : xm_bok (xe_cy (XE sc) 298) b_X12_sum_115 := by show xm_bok cX12_sum _; unfold xm_bok; decide +kernel
def b_X12_sum_117 : List (Nat × Jvm.ClassFile.Instr × Nat) := [(117, .aload_n 0, 1), (118, .getfield 141, 3), (121, .iload_n 1, 1), (122, .iload 12, 2), (124, .ifCond .eq 7, 3)]
set_option maxRecDepth 20000 in
theorem k_X12_sum_117 {sc : xm_Sc} : xm_bok (xe_cy (XE sc) 298) b_X12_sum_117 := by show xm_bok cX12_sum _; unfold xm_bok; decide +kernel
def b_X12_sum_127 : List (Nat × Jvm.ClassFile.Instr × Nat) := [(127, .iconst 1, 1), (128, .goto 4, 3)]
set_option maxRecDepth 20000 in
theorem k_X12_sum_127 {sc : xm_Sc} : xm_bok (xe_cy (XE sc) 298) b_X12_sum_127 := by show xm_bok cX12_sum _; unfold xm_bok; decide +kernel
def b_X12_sum_131 : List (Nat × Jvm.ClassFile.Instr × Nat) := [(131, .iconst 0, 1)]
set_option maxRecDepth 20000 in
theorem k_X12_sum_131 {sc : xm_Sc} : xm_bok (xe_cy (XE sc) 298) b_X12_sum_131 := by show xm_bok cX12_sum _; unfold xm_bok; decide +kernel
def b_X12_sum_132 : List (Nat × Jvm.ClassFile.Instr × Nat) := [(132, .i2b, 1), (133, .bastore, 1), (134, .aload_n 0, 1), (135, .iload_n 1, 1), (136, .iconst 1, 1), (137, .iadd, 1), (138, .iload_n 2, 1), (139, .lload 10, 2), (141, .iload_n 2, 1), (142, .invokestatic 432, 3)]
set_option maxRecDepth 20000 in
theorem k_X12_sum_132 {sc : xm_Sc} : xm_bok (xe_cy (XE sc) 298) b_X12_sum_132 := by show xm_bok cX12_sum _; unfold xm_bok; decide +kernel
def b_X12_sum_145 : List (Nat × Jvm.ClassFile.Instr × Nat) := [(145, .land, 1), (146, .invokevirtual 436, 3)]
set_option maxRecDepth 20000 in
theorem k_X12_sum_145 {sc : xm_Sc} : xm_bok (xe_cy (XE sc) 298) b_X12_sum_145 := by show xm_bok cX12_sum _; unfold xm_bok; decide +kernel
def b_X12_sum_149 : List (Nat × Jvm.ClassFile.Instr × Nat) := [(149, .return_, 1)]
set_option maxRecDepth 20000 in
theorem k_X12_sum_149 {sc : xm_Sc} : xm_bok (xe_cy (XE sc) 298) b_X12_sum_149 := by show xm_bok cX12_sum _; unfold xm_bok; decide +kernel
set_option maxRecDepth 20000 in
theorem cn_298 {sc : xm_Sc} : xe_cn (XE sc) 298 = 12 := rfl
set_option maxRecDepth 20000 in
theorem ml_298 {sc : xm_Sc} : xe_ml (XE sc) 298 = 13 := rfl
set_option maxRecDepth 20000 in
theorem ry_298 {sc : xm_Sc} : xe_ry (XE sc) 298 = none := rfl
set_option maxRecDepth 20000 in
theorem is_298 {sc : xm_Sc} : xe_is (XE sc) 298 = false := rfl
set_option maxRecDepth 20000 in
theorem np_298 {sc : xm_Sc} : xe_np (XE sc) 298 = 6 := rfl
/- method 299: X12_take -/
def b_X12_take_0 : List (Nat × Jvm.ClassFile.Instr × Nat) := [(0, .lconst 0, 1), (1, .lstore_n 3, 1), (2, .iconst 0, 1), (3, .istore 5, 2)]
set_option maxRecDepth 20000 in
theorem k_X12_take_0 {sc : xm_Sc} : xm_bok (xe_cy (XE sc) 299) b_X12_take_0 := by show xm_bok cX12_take _; unfold xm_bok; decide +kernel
def b_X12_take_5 : List (Nat × Jvm.ClassFile.Instr × Nat) := [(5, .iload 5, 2), (7, .iload_n 2, 1), (8, .if_icmp .ge 24, 3)]
set_option maxRecDepth 20000 in
theorem k_X12_take_5 {sc : xm_Sc} : xm_bok (xe_cy (XE sc) 299) b_X12_take_5 := by show xm_bok cX12_take _; unfold xm_bok; decide +kernel
def b_X12_take_11 : List (Nat × Jvm.ClassFile.Instr × Nat) := [(11, .lload_n 3, 1), (12, .iconst 1, 1), (13, .lshl, 1), (14, .aload_n 0, 1), (15, .getfield 141, 3), (18, .iload_n 1, 1), (19, .iload 5, 2), (21, .iadd, 1), (22, .baload, 1), (23, .i2l, 1), (24, .lor, 1), (25, .lstore_n 3, 1), (26, .iinc 5 1, 3), (29, .goto (-24), 3)]
set_option maxRecDepth 20000 in
theorem k_X12_take_11 {sc : xm_Sc} : xm_bok (xe_cy (XE sc) 299) b_X12_take_11 := by show xm_bok cX12_take _; unfold xm_bok; decide +kernel
def b_X12_take_32 : List (Nat × Jvm.ClassFile.Instr × Nat) := [(32, .lload_n 3, 1), (33, .lreturn, 1)]
set_option maxRecDepth 20000 in
theorem k_X12_take_32 {sc : xm_Sc} : xm_bok (xe_cy (XE sc) 299) b_X12_take_32 := by show xm_bok cX12_take _; unfold xm_bok; decide +kernel
set_option maxRecDepth 20000 in
theorem cn_299 {sc : xm_Sc} : xe_cn (XE sc) 299 = 12 := rfl
set_option maxRecDepth 20000 in
theorem ml_299 {sc : xm_Sc} : xe_ml (XE sc) 299 = 6 := rfl
set_option maxRecDepth 20000 in
theorem ry_299 {sc : xm_Sc} : xe_ry (XE sc) 299 = (some .long) := rfl
set_option maxRecDepth 20000 in
theorem is_299 {sc : xm_Sc} : xe_is (XE sc) 299 = false := rfl
set_option maxRecDepth 20000 in
theorem np_299 {sc : xm_Sc} : xe_np (XE sc) 299 = 2 := rfl
/- method 300: X12_takesDigits -/
def b_X12_takesDigits_0 : List (Nat × Jvm.ClassFile.Instr × Nat) := [(0, .iload_n 1, 1), (1, .iload_n 3, 1), (2, .iadd, 1), (3, .aload_n 0, 1), (4, .getfield 215, 3), (7, .if_icmp .le 5, 3)]
set_option maxRecDepth 20000 in
theorem k_X12_takesDigits_0 {sc : xm_Sc} : xm_bok (xe_cy (XE sc) 300) b_X12_takesDigits_0 := by show xm_bok cX12_takesDigits _; unfold xm_bok; decide +kernel
def b_X12_takesDigits_10 : List (Nat × Jvm.ClassFile.Instr × Nat) := [(10, .iconst 0, 1), (11, .ireturn, 1)]
set_option maxRecDepth 20000 in
theorem k_X12_takesDigits_10 {sc : xm_Sc} : xm_bok (xe_cy (XE sc) 300) b_X12_takesDigits_10 := by show xm_bok cX12_takesDigits _; unfold xm_bok; decide +kernel
def b_X12_takesDigits_12 : List (Nat × Jvm.ClassFile.Instr × Nat) := [(12, .iconst 0, 1), (13, .istore 4, 2)]
set_option maxRecDepth 20000 in
theorem k_X12_takesDigits_12 {sc : xm_Sc} : xm_bok (xe_cy (XE sc) 300) b_X12_takesDigits_12 := by show xm_bok cX12_takesDigits _; unfold xm_bok; decide +kernel
def b_X12_takesDigits_15 : List (Nat × Jvm.ClassFile.Instr × Nat) := [(15, .iload 4, 2), (17, .iload_n 3, 1), (18, .if_icmp .ge 69, 3)]
set_option maxRecDepth 20000 in
theorem k_X12_takesDigits_15 {sc : xm_Sc} : xm_bok (xe_cy (XE sc) 300) b_X12_takesDigits_15 := by show xm_bok cX12_takesDigits _; unfold xm_bok; decide +kernel
def b_X12_takesDigits_21 : List (Nat × Jvm.ClassFile.Instr × Nat) := [(21, .aload_n 0, 1), (22, .getfield 7, 3), (25, .iload_n 1, 1), (26, .iload 4, 2), (28, .iadd, 1), (29, .iaload, 1), (30, .invokestatic 308, 3)]
set_option maxRecDepth 20000 in
theorem k_X12_takesDigits_21 {sc : xm_Sc} : xm_bok (xe_cy (XE sc) 300) b_X12_takesDigits_21 := by show xm_bok cX12_takesDigits _; unfold xm_bok; decide +kernel
def b_X12_takesDigits_33 : List (Nat × Jvm.ClassFile.Instr × Nat) := [(33, .istore 5, 2), (35, .iload 5, 2), (37, .ifCond .ge 5, 3)]
set_option maxRecDepth 20000 in
theorem k_X12_takesDigits_33 {sc : xm_Sc} : xm_bok (xe_cy (XE sc) 300) b_X12_takesDigits_33 := by show xm_bok cX12_takesDigits _; unfold xm_bok; decide +kernel
def b_X12_takesDigits_40 : List (Nat × Jvm.ClassFile.Instr × Nat) := [(40, .iconst 0, 1), (41, .ireturn, 1)]
set_option maxRecDepth 20000 in
theorem k_X12_takesDigits_40 {sc : xm_Sc} : xm_bok (xe_cy (XE sc) 300) b_X12_takesDigits_40 := by show xm_bok cX12_takesDigits _; unfold xm_bok; decide +kernel
def b_X12_takesDigits_42 : List (Nat × Jvm.ClassFile.Instr × Nat) := [(42, .iconst 0, 1), (43, .istore 6, 2)]
set_option maxRecDepth 20000 in
theorem k_X12_takesDigits_42 {sc : xm_Sc} : xm_bok (xe_cy (XE sc) 300) b_X12_takesDigits_42 := by show xm_bok cX12_takesDigits _; unfold xm_bok; decide +kernel
def b_X12_takesDigits_45 : List (Nat × Jvm.ClassFile.Instr × Nat) := [(45, .iload 6, 2), (47, .iconst 4, 1), (48, .if_icmp .ge 33, 3)]
set_option maxRecDepth 20000 in
theorem k_X12_takesDigits_45 {sc : xm_Sc} : xm_bok (xe_cy (XE sc) 300) b_X12_takesDigits_45 := by show xm_bok cX12_takesDigits _; unfold xm_bok; decide +kernel
def b_X12_takesDigits_51 : List (Nat × Jvm.ClassFile.Instr × Nat) := [(51, .aload_n 0, 1), (52, .getfield 141, 3), (55, .iload_n 2, 1), (56, .iconst 4, 1), (57, .iload 4, 2), (59, .imul, 1), (60, .iadd, 1), (61, .iload 6, 2), (63, .iadd, 1), (64, .iload 5, 2), (66, .iconst 3, 1), (67, .iload 6, 2), (69, .isub, 1), (70, .ishr, 1), (71, .iconst 1, 1), (72, .iand, 1), (73, .i2b, 1), (74, .bastore, 1), (75, .iinc 6 1, 3), (78, .goto (-33), 3)]
set_option maxRecDepth 20000 in
theorem k_X12_takesDigits_51 {sc : xm_Sc} : xm_bok (xe_cy (XE sc) 300) b_X12_takesDigits_51 := by show xm_bok cX12_takesDigits _; unfold xm_bok; decide +kernel
def b_X12_takesDigits_81 : List (Nat × Jvm.ClassFile.Instr × Nat) := [(81, .iinc 4 1, 3), (84, .goto (-69), 3)]
set_option maxRecDepth 20000 in
theorem k_X12_takesDigits_81 {sc : xm_Sc} : xm_bok (xe_cy (XE sc) 300) b_X12_takesDigits_81 := by show xm_bok cX12_takesDigits _; unfold xm_bok; decide +kernel
def b_X12_takesDigits_87 : List (Nat × Jvm.ClassFile.Instr × Nat) := [(87, .iconst 1, 1), (88, .ireturn, 1)]
set_option maxRecDepth 20000 in
theorem k_X12_takesDigits_87 {sc : xm_Sc} : xm_bok (xe_cy (XE sc) 300) b_X12_takesDigits_87 := by show xm_bok cX12_takesDigits _; unfold xm_bok; decide +kernel
set_option maxRecDepth 20000 in
theorem cn_300 {sc : xm_Sc} : xe_cn (XE sc) 300 = 12 := rfl
set_option maxRecDepth 20000 in
theorem ml_300 {sc : xm_Sc} : xe_ml (XE sc) 300 = 7 := rfl
set_option maxRecDepth 20000 in
theorem ry_300 {sc : xm_Sc} : xe_ry (XE sc) 300 = (some .boolean) := rfl
set_option maxRecDepth 20000 in
theorem is_300 {sc : xm_Sc} : xe_is (XE sc) 300 = false := rfl
set_option maxRecDepth 20000 in
theorem np_300 {sc : xm_Sc} : xe_np (XE sc) 300 = 3 := rfl
/- method 301: X12_takesHidden -/
def b_X12_takesHidden_0 : List (Nat × Jvm.ClassFile.Instr × Nat) := [(0, .aload_n 0, 1), (1, .getfield 601, 3), (4, .iconst 4, 1), (5, .if_icmp .ne 17, 3)]
set_option maxRecDepth 20000 in
theorem k_X12_takesHidden_0 {sc : xm_Sc} : xm_bok (xe_cy (XE sc) 301) b_X12_takesHidden_0 := by show xm_bok cX12_takesHidden _; unfold xm_bok; decide +kernel
def b_X12_takesHidden_8 : List (Nat × Jvm.ClassFile.Instr × Nat) := [(8, .aload_n 0, 1), (9, .getfield 595, 3), (12, .aload_n 0, 1), (13, .getfield 598, 3), (16, .isub, 1), (17, .bipush 64, 2), (19, .if_icmp .eq 5, 3)]
set_option maxRecDepth 20000 in
theorem k_X12_takesHidden_8 {sc : xm_Sc} : xm_bok (xe_cy (XE sc) 301) b_X12_takesHidden_8 := by show xm_bok cX12_takesHidden _; unfold xm_bok; decide +kernel
def b_X12_takesHidden_22 : List (Nat × Jvm.ClassFile.Instr × Nat) := [(22, .iconst 0, 1), (23, .ireturn, 1)]
set_option maxRecDepth 20000 in
theorem k_X12_takesHidden_22 {sc : xm_Sc} : xm_bok (xe_cy (XE sc) 301) b_X12_takesHidden_22 := by show xm_bok cX12_takesHidden _; unfold xm_bok; decide +kernel
def b_X12_takesHidden_24 : List (Nat × Jvm.ClassFile.Instr × Nat) := [(24, .iconst 0, 1), (25, .istore_n 2, 1)]
set_option maxRecDepth 20000 in
theorem k_X12_takesHidden_24 {sc : xm_Sc} : xm_bok (xe_cy (XE sc) 301) b_X12_takesHidden_24 := by show xm_bok cX12_takesHidden _; unfold xm_bok; decide +kernel
def b_X12_takesHidden_26 : List (Nat × Jvm.ClassFile.Instr × Nat) := [(26, .iload_n 2, 1), (27, .bipush 8, 2), (29, .if_icmp .ge 83, 3)]
set_option maxRecDepth 20000 in
theorem k_X12_takesHidden_26 {sc : xm_Sc} : xm_bok (xe_cy (XE sc) 301) b_X12_takesHidden_26 := by show xm_bok cX12_takesHidden _; unfold xm_bok; decide +kernel
def b_X12_takesHidden_32 : List (Nat × Jvm.ClassFile.Instr × Nat) := [(32, .iconst 0, 1), (33, .istore_n 3, 1), (34, .aload_n 0, 1), (35, .getfield 598, 3), (38, .bipush 8, 2), (40, .iload_n 2, 1), (41, .imul, 1), (42, .iadd, 1), (43, .istore 4, 2)]
set_option maxRecDepth 20000 in
theorem k_X12_takesHidden_32 {sc : xm_Sc} : xm_bok (xe_cy (XE sc) 301) b_X12_takesHidden_32 := by show xm_bok cX12_takesHidden _; unfold xm_bok; decide +kernel
def b_X12_takesHidden_45 : List (Nat × Jvm.ClassFile.Instr × Nat) := [(45, .iload 4, 2), (47, .aload_n 0, 1), (48, .getfield 598, 3), (51, .bipush 8, 2), (53, .iload_n 2, 1), (54, .imul, 1), (55, .iadd, 1), (56, .bipush 8, 2), (58, .iadd, 1), (59, .if_icmp .ge 35, 3)]
set_option maxRecDepth 20000 in
theorem k_X12_takesHidden_45 {sc : xm_Sc} : xm_bok (xe_cy (XE sc) 301) b_X12_takesHidden_45 := by show xm_bok cX12_takesHidden _; unfold xm_bok; decide +kernel
def b_X12_takesHidden_62 : List (Nat × Jvm.ClassFile.Instr × Nat) := [(62, .aload_n 0, 1), (63, .getfield 7, 3), (66, .iload 4, 2), (68, .iaload, 1), (69, .invokestatic 308, 3)]
set_option maxRecDepth 20000 in
theorem k_X12_takesHidden_62 {sc : xm_Sc} : xm_bok (xe_cy (XE sc) 301) b_X12_takesHidden_62 := by show xm_bok cX12_takesHidden _; unfold xm_bok; decide +kernel
def b_X12_takesHidden_72 : List (Nat × Jvm.ClassFile.Instr × Nat) := [(72, .istore 5, 2), (74, .iload 5, 2), (76, .ifCond .ge 5, 3)]
set_option maxRecDepth 20000 in
theorem k_X12_takesHidden_72 {sc : xm_Sc} : xm_bok (xe_cy (XE sc) 301) b_X12_takesHidden_72 := by show xm_bok cX12_takesHidden _; unfold xm_bok; decide +kernel
def b_X12_takesHidden_79 : List (Nat × Jvm.ClassFile.Instr × Nat) := [(79, .iconst 0, 1), (80, .ireturn, 1)]
set_option maxRecDepth 20000 in
theorem k_X12_takesHidden_79 {sc : xm_Sc} : xm_bok (xe_cy (XE sc) 301) b_X12_takesHidden_79 := by show xm_bok cX12_takesHidden _; unfold xm_bok; decide +kernel
def b_X12_takesHidden_81 : List (Nat × Jvm.ClassFile.Instr × Nat) := [(81, .iload_n 3, 1), (82, .iconst 4, 1), (83, .ishl, 1), (84, .iload 5, 2), (86, .ior, 1), (87, .istore_n 3, 1), (88, .iinc 4 1, 3), (91, .goto (-46), 3)]
set_option maxRecDepth 20000 in
theorem k_X12_takesHidden_81 {sc : xm_Sc} : xm_bok (xe_cy (XE sc) 301) b_X12_takesHidden_81 := by show xm_bok cX12_takesHidden _; unfold xm_bok; decide +kernel
def b_X12_takesHidden_94 : List (Nat × Jvm.ClassFile.Instr × Nat) := [(94, .aload_n 0, 1), (95, .getfield 31, 3), (98, .bipush 8, 2), (100, .iload_n 1, 1), (101, .imul, 1), (102, .iload_n 2, 1), (103, .iadd, 1), (104, .iload_n 3, 1), (105, .iastore, 1), (106, .iinc 2 1, 3), (109, .goto (-83), 3)]
set_option maxRecDepth 20000 in
theorem k_X12_takesHidden_94 {sc : xm_Sc} : xm_bok (xe_cy (XE sc) 301) b_X12_takesHidden_94 := by show xm_bok cX12_takesHidden _; unfold xm_bok; decide +kernel
def b_X12_takesHidden_112 : List (Nat × Jvm.ClassFile.Instr × Nat) := [(112, .iconst 1, 1), (113, .ireturn, 1)]
set_option maxRecDepth 20000 in
theorem k_X12_takesHidden_112 {sc : xm_Sc} : xm_bok (xe_cy (XE sc) 301) b_X12_takesHidden_112 := by show xm_bok cX12_takesHidden _; unfold xm_bok; decide +kernel
set_option maxRecDepth 20000 in
theorem cn_301 {sc : xm_Sc} : xe_cn (XE sc) 301 = 12 := rfl
set_option maxRecDepth 20000 in
theorem ml_301 {sc : xm_Sc} : xe_ml (XE sc) 301 = 6 := rfl
set_option maxRecDepth 20000 in
theorem ry_301 {sc : xm_Sc} : xe_ry (XE sc) 301 = (some .boolean) := rfl
set_option maxRecDepth 20000 in
theorem is_301 {sc : xm_Sc} : xe_is (XE sc) 301 = false := rfl
set_option maxRecDepth 20000 in
theorem np_301 {sc : xm_Sc} : xe_np (XE sc) 301 = 1 := rfl
/- method 302: X12_takesRow -/
def b_X12_takesRow_0 : List (Nat × Jvm.ClassFile.Instr × Nat) := [(0, .aload_n 0, 1), (1, .getfield 601, 3), (4, .iconst 4, 1), (5, .if_icmp .eq 5, 3)]
set_option maxRecDepth 20000 in
theorem k_X12_takesRow_0 {sc : xm_Sc} : xm_bok (xe_cy (XE sc) 302) b_X12_takesRow_0 := by show xm_bok cX12_takesRow _; unfold xm_bok; decide +kernel
def b_X12_takesRow_8 : List (Nat × Jvm.ClassFile.Instr × Nat) := [(8, .iconst 0, 1), (9, .ireturn, 1)]
set_option maxRecDepth 20000 in
theorem k_X12_takesRow_8 {sc : xm_Sc} : xm_bok (xe_cy (XE sc) 302) b_X12_takesRow_8 := by show xm_bok cX12_takesRow _; unfold xm_bok; decide +kernel
def b_X12_takesRow_10 : List (Nat × Jvm.ClassFile.Instr × Nat) := [(10, .aload_n 0, 1), (11, .getfield 595, 3), (14, .aload_n 0, 1), (15, .getfield 598, 3), (18, .isub, 1), (19, .iconst 1, 1), (20, .if_icmp .ne 21, 3)]
set_option maxRecDepth 20000 in
theorem k_X12_takesRow_10 {sc : xm_Sc} : xm_bok (xe_cy (XE sc) 302) b_X12_takesRow_10 := by show xm_bok cX12_takesRow _; unfold xm_bok; decide +kernel
def b_X12_takesRow_23 : List (Nat × Jvm.ClassFile.Instr × Nat) := [(23, .aload_n 0, 1), (24, .getfield 7, 3), (27, .aload_n 0, 1), (28, .getfield 598, 3), (31, .iaload, 1), (32, .bipush 45, 2), (34, .if_icmp .ne 7, 3)]
set_option maxRecDepth 20000 in
theorem k_X12_takesRow_23 {sc : xm_Sc} : xm_bok (xe_cy (XE sc) 302) b_X12_takesRow_23 := by show xm_bok cX12_takesRow _; unfold xm_bok; decide +kernel
def b_X12_takesRow_37 : List (Nat × Jvm.ClassFile.Instr × Nat) := [(37, .iconst 1, 1), (38, .goto 4, 3)]
set_option maxRecDepth 20000 in
theorem k_X12_takesRow_37 {sc : xm_Sc} : xm_bok (xe_cy (XE sc) 302) b_X12_takesRow_37 := by show xm_bok cX12_takesRow _; unfold xm_bok; decide +kernel
def b_X12_takesRow_41 : List (Nat × Jvm.ClassFile.Instr × Nat) := [(41, .iconst 0, 1)]
set_option maxRecDepth 20000 in
theorem k_X12_takesRow_41 {sc : xm_Sc} : xm_bok (xe_cy (XE sc) 302) b_X12_takesRow_41 := by show xm_bok cX12_takesRow _; unfold xm_bok; decide +kernel
def b_X12_takesRow_42 : List (Nat × Jvm.ClassFile.Instr × Nat) := [(42, .istore_n 2, 1), (43, .aload_n 0, 1), (44, .getfield 598, 3), (47, .istore_n 3, 1)]
set_option maxRecDepth 20000 in
theorem k_X12_takesRow_42 {sc : xm_Sc} : xm_bok (xe_cy (XE sc) 302) b_X12_takesRow_42 := by show xm_bok cX12_takesRow _; unfold xm_bok; decide +kernel
def b_X12_takesRow_48 : List (Nat × Jvm.ClassFile.Instr × Nat) := [(48, .iload_n 3, 1), (49, .aload_n 0, 1), (50, .getfield 595, 3), (53, .if_icmp .ge 37, 3)]
set_option maxRecDepth 20000 in
theorem k_X12_takesRow_48 {sc : xm_Sc} : xm_bok (xe_cy (XE sc) 302) b_X12_takesRow_48 := by show xm_bok cX12_takesRow _; unfold xm_bok; decide +kernel
def b_X12_takesRow_56 : List (Nat × Jvm.ClassFile.Instr × Nat) := [(56, .iload_n 2, 1), (57, .ifCond .ne 33, 3)]
set_option maxRecDepth 20000 in
theorem k_X12_takesRow_56 {sc : xm_Sc} : xm_bok (xe_cy (XE sc) 302) b_X12_takesRow_56 := by show xm_bok cX12_takesRow _; unfold xm_bok; decide +kernel
def b_X12_takesRow_60 : List (Nat × Jvm.ClassFile.Instr × Nat) := [(60, .aload_n 0, 1), (61, .getfield 7, 3), (64, .iload_n 3, 1), (65, .iaload, 1), (66, .bipush 48, 2), (68, .if_icmp .eq 16, 3)]
set_option maxRecDepth 20000 in
theorem k_X12_takesRow_60 {sc : xm_Sc} : xm_bok (xe_cy (XE sc) 302) b_X12_takesRow_60 := by show xm_bok cX12_takesRow _; unfold xm_bok; decide +kernel
def b_X12_takesRow_71 : List (Nat × Jvm.ClassFile.Instr × Nat) := [(71, .aload_n 0, 1), (72, .getfield 7, 3), (75, .iload_n 3, 1), (76, .iaload, 1), (77, .bipush 49, 2), (79, .if_icmp .eq 5, 3)]
set_option maxRecDepth 20000 in
theorem k_X12_takesRow_71 {sc : xm_Sc} : xm_bok (xe_cy (XE sc) 302) b_X12_takesRow_71 := by show xm_bok cX12_takesRow _; unfold xm_bok; decide +kernel
def b_X12_takesRow_82 : List (Nat × Jvm.ClassFile.Instr × Nat) := [(82, .iconst 0, 1), (83, .ireturn, 1)]
set_option maxRecDepth 20000 in
theorem k_X12_takesRow_82 {sc : xm_Sc} : xm_bok (xe_cy (XE sc) 302) b_X12_takesRow_82 := by show xm_bok cX12_takesRow _; unfold xm_bok; decide +kernel
def b_X12_takesRow_84 : List (Nat × Jvm.ClassFile.Instr × Nat) := [(84, .iinc 3 1, 3), (87, .goto (-39), 3)]
set_option maxRecDepth 20000 in
theorem k_X12_takesRow_84 {sc : xm_Sc} : xm_bok (xe_cy (XE sc) 302) b_X12_takesRow_84 := by show xm_bok cX12_takesRow _; unfold xm_bok; decide +kernel
def b_X12_takesRow_90 : List (Nat × Jvm.ClassFile.Instr × Nat) := [(90, .aload_n 0, 1), (91, .getfield 25, 3), (94, .iload_n 1, 1), (95, .aload_n 0, 1), (96, .getfield 598, 3), (99, .iastore, 1), (100, .aload_n 0, 1), (101, .getfield 28, 3), (104, .iload_n 1, 1), (105, .iload_n 2, 1), (106, .ifCond .eq 7, 3)]
set_option maxRecDepth 20000 in
theorem k_X12_takesRow_90 {sc : xm_Sc} : xm_bok (xe_cy (XE sc) 302) b_X12_takesRow_90 := by show xm_bok cX12_takesRow _; unfold xm_bok; decide +kernel
def b_X12_takesRow_109 : List (Nat × Jvm.ClassFile.Instr × Nat) := [(109, .iconst 0, 1), (110, .goto 12, 3)]
set_option maxRecDepth 20000 in
theorem k_X12_takesRow_109 {sc : xm_Sc} : xm_bok (xe_cy (XE sc) 302) b_X12_takesRow_109 := by show xm_bok cX12_takesRow _; unfold xm_bok; decide +kernel
def b_X12_takesRow_113 : List (Nat × Jvm.ClassFile.Instr × Nat) := [(113, .aload_n 0, 1), (114, .getfield 595, 3), (117, .aload_n 0, 1), (118, .getfield 598, 3), (121, .isub, 1)]
set_option maxRecDepth 20000 in
theorem k_X12_takesRow_113 {sc : xm_Sc} : xm_bok (xe_cy (XE sc) 302) b_X12_takesRow_113 := by show xm_bok cX12_takesRow _; unfold xm_bok; decide +kernel
def b_X12_takesRow_122 : List (Nat × Jvm.ClassFile.Instr × Nat) := [(122, .iastore, 1), (123, .iconst 1, 1), (124, .ireturn, 1)]
set_option maxRecDepth 20000 in
theorem k_X12_takesRow_122 {sc : xm_Sc} : xm_bok (xe_cy (XE sc) 302) b_X12_takesRow_122 := by show xm_bok cX12_takesRow _; unfold xm_bok; decide +kernel
set_option maxRecDepth 20000 in
theorem cn_302 {sc : xm_Sc} : xe_cn (XE sc) 302 = 12 := rfl
set_option maxRecDepth 20000 in
theorem ml_302 {sc : xm_Sc} : xe_ml (XE sc) 302 = 4 := rfl
set_option maxRecDepth 20000 in
theorem ry_302 {sc : xm_Sc} : xe_ry (XE sc) 302 = (some .boolean) := rfl
set_option maxRecDepth 20000 in
theorem is_302 {sc : xm_Sc} : xe_is (XE sc) 302 = false := rfl
set_option maxRecDepth 20000 in
theorem np_302 {sc : xm_Sc} : xe_np (XE sc) 302 = 1 := rfl
/- method 303: X12_takesText -/
def b_X12_takesText_0 : List (Nat × Jvm.ClassFile.Instr × Nat) := [(0, .iconst 1, 1), (1, .istore_n 2, 1), (2, .iconst 0, 1), (3, .istore_n 3, 1), (4, .aload_n 0, 1), (5, .getfield 48, 3), (8, .iconst 0, 1), (9, .iload_n 1, 1), (10, .iastore, 1), (11, .aload_n 0, 1), (12, .getfield 51, 3), (15, .iconst 0, 1), (16, .iconst 0, 1), (17, .iastore, 1)]
set_option maxRecDepth 20000 in
theorem k_X12_takesText_0 {sc : xm_Sc} : xm_bok (xe_cy (XE sc) 303) b_X12_takesText_0 := by show xm_bok cX12_takesText _; unfold xm_bok; decide +kernel
def b_X12_takesText_18 : List (Nat × Jvm.ClassFile.Instr × Nat) := [(18, .iload_n 2, 1), (19, .ifCond .le 348, 3)]
set_option maxRecDepth 20000 in
theorem k_X12_takesText_18 {sc : xm_Sc} : xm_bok (xe_cy (XE sc) 303) b_X12_takesText_18 := by show xm_bok cX12_takesText _; unfold xm_bok; decide +kernel
def b_X12_takesText_22 : List (Nat × Jvm.ClassFile.Instr × Nat) := [(22, .iinc 2 (-1), 3), (25, .aload_n 0, 1), (26, .getfield 48, 3), (29, .iload_n 2, 1), (30, .iaload, 1), (31, .istore 4, 2), (33, .aload_n 0, 1), (34, .getfield 51, 3), (37, .iload_n 2, 1), (38, .iaload, 1), (39, .istore 5, 2), (41, .iload_n 3, 1), (42, .aload_n 0, 1), (43, .getfield 215, 3), (46, .if_icmp .ne 5, 3)]
set_option maxRecDepth 20000 in
theorem k_X12_takesText_22 {sc : xm_Sc} : xm_bok (xe_cy (XE sc) 303) b_X12_takesText_22 := by show xm_bok cX12_takesText _; unfold xm_bok; decide +kernel
def b_X12_takesText_49 : List (Nat × Jvm.ClassFile.Instr × Nat) := [(49, .iconst 0, 1), (50, .ireturn, 1)]
set_option maxRecDepth 20000 in
theorem k_X12_takesText_49 {sc : xm_Sc} : xm_bok (xe_cy (XE sc) 303) b_X12_takesText_49 := by show xm_bok cX12_takesText _; unfold xm_bok; decide +kernel
def b_X12_takesText_51 : List (Nat × Jvm.ClassFile.Instr × Nat) := [(51, .aload_n 0, 1), (52, .getfield 7, 3), (55, .iload_n 3, 1), (56, .iaload, 1), (57, .istore 6, 2), (59, .iinc 3 1, 3), (62, .iload 4, 2), (64, .ifCond .ge 24, 3)]
set_option maxRecDepth 20000 in
theorem k_X12_takesText_51 {sc : xm_Sc} : xm_bok (xe_cy (XE sc) 303) b_X12_takesText_51 := by show xm_bok cX12_takesText _; unfold xm_bok; decide +kernel
def b_X12_takesText_67 : List (Nat × Jvm.ClassFile.Instr × Nat) := [(67, .iload 6, 2), (69, .iload 4, 2), (71, .bipush (-2), 2), (73, .if_icmp .ne 8, 3)]
set_option maxRecDepth 20000 in
theorem k_X12_takesText_67 {sc : xm_Sc} : xm_bok (xe_cy (XE sc) 303) b_X12_takesText_67 := by show xm_bok cX12_takesText _; unfold xm_bok; decide +kernel
def b_X12_takesText_76 : List (Nat × Jvm.ClassFile.Instr × Nat) := [(76, .bipush 44, 2), (78, .goto 5, 3)]
set_option maxRecDepth 20000 in
theorem k_X12_takesText_76 {sc : xm_Sc} : xm_bok (xe_cy (XE sc) 303) b_X12_takesText_76 := by show xm_bok cX12_takesText _; unfold xm_bok; decide +kernel
def b_X12_takesText_81 : List (Nat × Jvm.ClassFile.Instr × Nat) := [(81, .bipush 41, 2)]
set_option maxRecDepth 20000 in
theorem k_X12_takesText_81 {sc : xm_Sc} : xm_bok (xe_cy (XE sc) 303) b_X12_takesText_81 := by show xm_bok cX12_takesText _; unfold xm_bok; decide +kernel
def b_X12_takesText_83 : List (Nat × Jvm.ClassFile.Instr × Nat) := [(83, .if_icmp .eq 281, 3)]
set_option maxRecDepth 20000 in
theorem k_X12_takesText_83 {sc : xm_Sc} : xm_bok (xe_cy (XE sc) 303) b_X12_takesText_83 := by show xm_bok cX12_takesText _; unfold xm_bok; decide +kernel
def b_X12_takesText_86 : List (Nat × Jvm.ClassFile.Instr × Nat) := [(86, .iconst 0, 1), (87, .ireturn, 1)]
set_option maxRecDepth 20000 in
theorem k_X12_takesText_86 {sc : xm_Sc} : xm_bok (xe_cy (XE sc) 303) b_X12_takesText_86 := by show xm_bok cX12_takesText _; unfold xm_bok; decide +kernel
def b_X12_takesText_88 : List (Nat × Jvm.ClassFile.Instr × Nat) := [(88, .aload_n 0, 1), (89, .getfield 91, 3), (92, .iload 4, 2), (94, .iaload, 1), (95, .iconst 1, 1), (96, .if_icmp .ne 12, 3)]
set_option maxRecDepth 20000 in
theorem k_X12_takesText_88 {sc : xm_Sc} : xm_bok (xe_cy (XE sc) 303) b_X12_takesText_88 := by show xm_bok cX12_takesText _; unfold xm_bok; decide +kernel
def b_X12_takesText_99 : List (Nat × Jvm.ClassFile.Instr × Nat) := [(99, .iload 6, 2), (101, .bipush 85, 2), (103, .if_icmp .eq 261, 3)]
set_option maxRecDepth 20000 in
theorem k_X12_takesText_99 {sc : xm_Sc} : xm_bok (xe_cy (XE sc) 303) b_X12_takesText_99 := by show xm_bok cX12_takesText _; unfold xm_bok; decide +kernel
def b_X12_takesText_106 : List (Nat × Jvm.ClassFile.Instr × Nat) := [(106, .iconst 0, 1), (107, .ireturn, 1)]
set_option maxRecDepth 20000 in
theorem k_X12_takesText_106 {sc : xm_Sc} : xm_bok (xe_cy (XE sc) 303) b_X12_takesText_106 := by show xm_bok cX12_takesText _; unfold xm_bok; decide +kernel
def b_X12_takesText_108 : List (Nat × Jvm.ClassFile.Instr × Nat) := [(108, .aload_n 0, 1), (109, .getfield 103, 3), (112, .iload 4, 2), (114, .iaload, 1), (115, .iconst 1, 1), (116, .if_icmp .ne 35, 3)]
set_option maxRecDepth 20000 in
theorem k_X12_takesText_108 {sc : xm_Sc} : xm_bok (xe_cy (XE sc) 303) b_X12_takesText_108 := by show xm_bok cX12_takesText _; unfold xm_bok; decide +kernel
def b_X12_takesText_119 : List (Nat × Jvm.ClassFile.Instr × Nat) := [(119, .iload 6, 2), (121, .bipush 48, 2), (123, .if_icmp .eq 12, 3)]
set_option maxRecDepth 20000 in
theorem k_X12_takesText_119 {sc : xm_Sc} : xm_bok (xe_cy (XE sc) 303) b_X12_takesText_119 := by show xm_bok cX12_takesText _; unfold xm_bok; decide +kernel
def b_X12_takesText_126 : List (Nat × Jvm.ClassFile.Instr × Nat) := [(126, .iload 6, 2), (128, .bipush 49, 2), (130, .if_icmp .eq 5, 3)]
set_option maxRecDepth 20000 in
theorem k_X12_takesText_126 {sc : xm_Sc} : xm_bok (xe_cy (XE sc) 303) b_X12_takesText_126 := by show xm_bok cX12_takesText _; unfold xm_bok; decide +kernel
def b_X12_takesText_133 : List (Nat × Jvm.ClassFile.Instr × Nat) := [(133, .iconst 0, 1), (134, .ireturn, 1)]
set_option maxRecDepth 20000 in
theorem k_X12_takesText_133 {sc : xm_Sc} : xm_bok (xe_cy (XE sc) 303) b_X12_takesText_133 := by show xm_bok cX12_takesText _; unfold xm_bok; decide +kernel
def b_X12_takesText_135 : List (Nat × Jvm.ClassFile.Instr × Nat) := [(135, .aload_n 0, 1), (136, .getfield 141, 3), (139, .iload 5, 2), (141, .iload 6, 2), (143, .bipush 48, 2), (145, .isub, 1), (146, .i2b, 1), (147, .bastore, 1), (148, .goto 216, 3)]
set_option maxRecDepth 20000 in
theorem k_X12_takesText_135 {sc : xm_Sc} : xm_bok (xe_cy (XE sc) 303) b_X12_takesText_135 := by show xm_bok cX12_takesText _; unfold xm_bok; decide +kernel
def b_X12_takesText_151 : List (Nat × Jvm.ClassFile.Instr × Nat) := [(151, .aload_n 0, 1), (152, .getfield 103, 3), (155, .iload 4, 2), (157, .iaload, 1), (158, .iconst 2, 1), (159, .if_icmp .le 46, 3)]
set_option maxRecDepth 20000 in
theorem k_X12_takesText_151 {sc : xm_Sc} : xm_bok (xe_cy (XE sc) 303) b_X12_takesText_151 := by show xm_bok cX12_takesText _; unfold xm_bok; decide +kernel
def b_X12_takesText_162 : List (Nat × Jvm.ClassFile.Instr × Nat) := [(162, .iload 6, 2), (164, .bipush 35, 2), (166, .if_icmp .ne 22, 3)]
set_option maxRecDepth 20000 in
theorem k_X12_takesText_162 {sc : xm_Sc} : xm_bok (xe_cy (XE sc) 303) b_X12_takesText_162 := by show xm_bok cX12_takesText _; unfold xm_bok; decide +kernel
def b_X12_takesText_169 : List (Nat × Jvm.ClassFile.Instr × Nat) := [(169, .aload_n 0, 1), (170, .iload_n 3, 1), (171, .iload 5, 2), (173, .aload_n 0, 1), (174, .getfield 103, 3), (177, .iload 4, 2), (179, .iaload, 1), (180, .iconst 4, 1), (181, .idiv, 1), (182, .invokevirtual 305, 3)]
set_option maxRecDepth 20000 in
theorem k_X12_takesText_169 {sc : xm_Sc} : xm_bok (xe_cy (XE sc) 303) b_X12_takesText_169 := by show xm_bok cX12_takesText _; unfold xm_bok; decide +kernel
def b_X12_takesText_185 : List (Nat × Jvm.ClassFile.Instr × Nat) := [(185, .ifCond .ne 5, 3)]
set_option maxRecDepth 20000 in
theorem k_X12_takesText_185 {sc : xm_Sc} : xm_bok (xe_cy (XE sc) 303) b_X12_takesText_185 := by show xm_bok cX12_takesText _; unfold xm_bok; decide +kernel
def b_X12_takesText_188 : List (Nat × Jvm.ClassFile.Instr × Nat) := [(188, .iconst 0, 1), (189, .ireturn, 1)]
set_option maxRecDepth 20000 in
theorem k_X12_takesText_188 {sc : xm_Sc} : xm_bok (xe_cy (XE sc) 303) b_X12_takesText_188 := by show xm_bok cX12_takesText _; unfold xm_bok; decide +kernel
def b_X12_takesText_190 : List (Nat × Jvm.ClassFile.Instr × Nat) := [(190, .iload_n 3, 1), (191, .aload_n 0, 1), (192, .getfield 103, 3), (195, .iload 4, 2), (197, .iaload, 1), (198, .iconst 4, 1), (199, .idiv, 1), (200, .iadd, 1), (201, .istore_n 3, 1), (202, .goto 162, 3)]
set_option maxRecDepth 20000 in
theorem k_X12_takesText_190 {sc : xm_Sc} : xm_bok (xe_cy (XE sc) 303) b_X12_takesText_190 := by show xm_bok cX12_takesText _; unfold xm_bok; decide +kernel
def b_X12_takesText_205 : List (Nat × Jvm.ClassFile.Instr × Nat) := [(205, .aload_n 0, 1), (206, .getfield 91, 3), (209, .iload 4, 2), (211, .iaload, 1), (212, .iconst 2, 1), (213, .if_icmp .ne 132, 3)]
set_option maxRecDepth 20000 in
theorem k_X12_takesText_205 {sc : xm_Sc} : xm_bok (xe_cy (XE sc) 303) b_X12_takesText_205 := by show xm_bok cX12_takesText _; unfold xm_bok; decide +kernel
def b_X12_takesText_216 : List (Nat × Jvm.ClassFile.Instr × Nat) := [(216, .iload 6, 2), (218, .bipush 76, 2), (220, .if_icmp .eq 12, 3)]
set_option maxRecDepth 20000 in
theorem k_X12_takesText_216 {sc : xm_Sc} : xm_bok (xe_cy (XE sc) 303) b_X12_takesText_216 := by show xm_bok cX12_takesText _; unfold xm_bok; decide +kernel
def b_X12_takesText_223 : List (Nat × Jvm.ClassFile.Instr × Nat) := [(223, .iload 6, 2), (225, .bipush 82, 2), (227, .if_icmp .eq 5, 3)]
set_option maxRecDepth 20000 in
theorem k_X12_takesText_223 {sc : xm_Sc} : xm_bok (xe_cy (XE sc) 303) b_X12_takesText_223 := by show xm_bok cX12_takesText _; unfold xm_bok; decide +kernel
def b_X12_takesText_230 : List (Nat × Jvm.ClassFile.Instr × Nat) := [(230, .iconst 0, 1), (231, .ireturn, 1)]
set_option maxRecDepth 20000 in
theorem k_X12_takesText_230 {sc : xm_Sc} : xm_bok (xe_cy (XE sc) 303) b_X12_takesText_230 := by show xm_bok cX12_takesText _; unfold xm_bok; decide +kernel
def b_X12_takesText_232 : List (Nat × Jvm.ClassFile.Instr × Nat) := [(232, .iload 6, 2), (234, .bipush 76, 2), (236, .if_icmp .ne 13, 3)]
set_option maxRecDepth 20000 in
theorem k_X12_takesText_232 {sc : xm_Sc} : xm_bok (xe_cy (XE sc) 303) b_X12_takesText_232 := by show xm_bok cX12_takesText _; unfold xm_bok; decide +kernel
def b_X12_takesText_239 : List (Nat × Jvm.ClassFile.Instr × Nat) := [(239, .aload_n 0, 1), (240, .getfield 94, 3), (243, .iload 4, 2), (245, .iaload, 1), (246, .goto 10, 3)]
set_option maxRecDepth 20000 in
theorem k_X12_takesText_239 {sc : xm_Sc} : xm_bok (xe_cy (XE sc) 303) b_X12_takesText_239 := by show xm_bok cX12_takesText _; unfold xm_bok; decide +kernel
def b_X12_takesText_249 : List (Nat × Jvm.ClassFile.Instr × Nat) := [(249, .aload_n 0, 1), (250, .getfield 97, 3), (253, .iload 4, 2), (255, .iaload, 1)]
set_option maxRecDepth 20000 in
theorem k_X12_takesText_249 {sc : xm_Sc} : xm_bok (xe_cy (XE sc) 303) b_X12_takesText_249 := by show xm_bok cX12_takesText _; unfold xm_bok; decide +kernel
def b_X12_takesText_256 : List (Nat × Jvm.ClassFile.Instr × Nat) := [(256, .istore 7, 2), (258, .iload 5, 2), (260, .aload_n 0, 1), (261, .getfield 100, 3), (264, .iload 4, 2), (266, .iaload, 1), (267, .iadd, 1), (268, .aload_n 0, 1), (269, .getfield 100, 3), (272, .iload 7, 2), (274, .iaload, 1), (275, .isub, 1), (276, .istore 8, 2), (278, .iload 5, 2), (280, .istore 9, 2)]
set_option maxRecDepth 20000 in
theorem k_X12_takesText_256 {sc : xm_Sc} : xm_bok (xe_cy (XE sc) 303) b_X12_takesText_256 := by show xm_bok cX12_takesText _; unfold xm_bok; decide +kernel
def b_X12_takesText_282 : List (Nat × Jvm.ClassFile.Instr × Nat) := [(282, .iload 9, 2), (284, .iload 8, 2), (286, .if_icmp .ge 17, 3)]
set_option maxRecDepth 20000 in
theorem k_X12_takesText_282 {sc : xm_Sc} : xm_bok (xe_cy (XE sc) 303) b_X12_takesText_282 := by show xm_bok cX12_takesText _; unfold xm_bok; decide +kernel
def b_X12_takesText_289 : List (Nat × Jvm.ClassFile.Instr × Nat) := [(289, .aload_n 0, 1), (290, .getfield 141, 3), (293, .iload 9, 2), (295, .iconst 0, 1), (296, .bastore, 1), (297, .iinc 9 1, 3), (300, .goto (-18), 3)]
set_option maxRecDepth 20000 in
theorem k_X12_takesText_289 {sc : xm_Sc} : xm_bok (xe_cy (XE sc) 303) b_X12_takesText_289 := by show xm_bok cX12_takesText _; unfold xm_bok; decide +kernel
def b_X12_takesText_303 : List (Nat × Jvm.ClassFile.Instr × Nat) := [(303, .aload_n 0, 1), (304, .getfield 141, 3), (307, .iload 5, 2), (309, .iload 6, 2), (311, .bipush 76, 2), (313, .if_icmp .ne 7, 3)]
set_option maxRecDepth 20000 in
theorem k_X12_takesText_303 {sc : xm_Sc} : xm_bok (xe_cy (XE sc) 303) b_X12_takesText_303 := by show xm_bok cX12_takesText _; unfold xm_bok; decide +kernel
def b_X12_takesText_316 : List (Nat × Jvm.ClassFile.Instr × Nat) := [(316, .iconst 0, 1), (317, .goto 4, 3)]
set_option maxRecDepth 20000 in
theorem k_X12_takesText_316 {sc : xm_Sc} : xm_bok (xe_cy (XE sc) 303) b_X12_takesText_316 := by show xm_bok cX12_takesText _; unfold xm_bok; decide +kernel
def b_X12_takesText_320 : List (Nat × Jvm.ClassFile.Instr × Nat) := [(320, .iconst 1, 1)]
set_option maxRecDepth 20000 in
theorem k_X12_takesText_320 {sc : xm_Sc} : xm_bok (xe_cy (XE sc) 303) b_X12_takesText_320 := by show xm_bok cX12_takesText _; unfold xm_bok; decide +kernel
def b_X12_takesText_321 : List (Nat × Jvm.ClassFile.Instr × Nat) := [(321, .i2b, 1), (322, .bastore, 1), (323, .aload_n 0, 1), (324, .getfield 48, 3), (327, .iload_n 2, 1), (328, .iload 7, 2), (330, .iastore, 1), (331, .aload_n 0, 1), (332, .getfield 51, 3), (335, .iload_n 2, 1), (336, .iload 8, 2), (338, .iastore, 1), (339, .iinc 2 1, 3), (342, .goto 22, 3)]
set_option maxRecDepth 20000 in
theorem k_X12_takesText_321 {sc : xm_Sc} : xm_bok (xe_cy (XE sc) 303) b_X12_takesText_321 := by show xm_bok cX12_takesText _; unfold xm_bok; decide +kernel
def b_X12_takesText_345 : List (Nat × Jvm.ClassFile.Instr × Nat) := [(345, .iload 6, 2), (347, .bipush 40, 2), (349, .if_icmp .eq 5, 3)]
set_option maxRecDepth 20000 in
theorem k_X12_takesText_345 {sc : xm_Sc} : xm_bok (xe_cy (XE sc) 303) b_X12_takesText_345 := by show xm_bok cX12_takesText _; unfold xm_bok; decide +kernel
def b_X12_takesText_352 : List (Nat × Jvm.ClassFile.Instr × Nat) := [(352, .iconst 0, 1), (353, .ireturn, 1)]
set_option maxRecDepth 20000 in
theorem k_X12_takesText_352 {sc : xm_Sc} : xm_bok (xe_cy (XE sc) 303) b_X12_takesText_352 := by show xm_bok cX12_takesText _; unfold xm_bok; decide +kernel
def b_X12_takesText_354 : List (Nat × Jvm.ClassFile.Instr × Nat) := [(354, .aload_n 0, 1), (355, .iload_n 2, 1), (356, .iload 4, 2), (358, .iload 5, 2), (360, .invokevirtual 302, 3)]
set_option maxRecDepth 20000 in
theorem k_X12_takesText_354 {sc : xm_Sc} : xm_bok (xe_cy (XE sc) 303) b_X12_takesText_354 := by show xm_bok cX12_takesText _; unfold xm_bok; decide +kernel
def b_X12_takesText_363 : List (Nat × Jvm.ClassFile.Instr × Nat) := [(363, .istore_n 2, 1)]
set_option maxRecDepth 20000 in
theorem k_X12_takesText_363 {sc : xm_Sc} : xm_bok (xe_cy (XE sc) 303) b_X12_takesText_363 := by show xm_bok cX12_takesText _; unfold xm_bok; decide +kernel
def b_X12_takesText_364 : List (Nat × Jvm.ClassFile.Instr × Nat) := [(364, .goto (-346), 3)]
set_option maxRecDepth 20000 in
theorem k_X12_takesText_364 {sc : xm_Sc} : xm_bok (xe_cy (XE sc) 303) b_X12_takesText_364 := by show xm_bok cX12_takesText _; unfold xm_bok; decide +kernel
def b_X12_takesText_367 : List (Nat × Jvm.ClassFile.Instr × Nat) := [(367, .iload_n 3, 1), (368, .aload_n 0, 1), (369, .getfield 215, 3), (372, .if_icmp .ne 7, 3)]
set_option maxRecDepth 20000 in
theorem k_X12_takesText_367 {sc : xm_Sc} : xm_bok (xe_cy (XE sc) 303) b_X12_takesText_367 := by show xm_bok cX12_takesText _; unfold xm_bok; decide +kernel
def b_X12_takesText_375 : List (Nat × Jvm.ClassFile.Instr × Nat) := [(375, .iconst 1, 1), (376, .goto 4, 3)]
set_option maxRecDepth 20000 in
theorem k_X12_takesText_375 {sc : xm_Sc} : xm_bok (xe_cy (XE sc) 303) b_X12_takesText_375 := by show xm_bok cX12_takesText _; unfold xm_bok; decide +kernel
def b_X12_takesText_379 : List (Nat × Jvm.ClassFile.Instr × Nat) := [(379, .iconst 0, 1)]
set_option maxRecDepth 20000 in
theorem k_X12_takesText_379 {sc : xm_Sc} : xm_bok (xe_cy (XE sc) 303) b_X12_takesText_379 := by show xm_bok cX12_takesText _; unfold xm_bok; decide +kernel
def b_X12_takesText_380 : List (Nat × Jvm.ClassFile.Instr × Nat) := [(380, .ireturn, 1)]
set_option maxRecDepth 20000 in
theorem k_X12_takesText_380 {sc : xm_Sc} : xm_bok (xe_cy (XE sc) 303) b_X12_takesText_380 := by show xm_bok cX12_takesText _; unfold xm_bok; decide +kernel
set_option maxRecDepth 20000 in
theorem cn_303 {sc : xm_Sc} : xe_cn (XE sc) 303 = 12 := rfl
set_option maxRecDepth 20000 in
theorem ml_303 {sc : xm_Sc} : xe_ml (XE sc) 303 = 10 := rfl
set_option maxRecDepth 20000 in
theorem ry_303 {sc : xm_Sc} : xe_ry (XE sc) 303 = (some .boolean) := rfl
set_option maxRecDepth 20000 in
theorem is_303 {sc : xm_Sc} : xe_is (XE sc) 303 = false := rfl
set_option maxRecDepth 20000 in
theorem np_303 {sc : xm_Sc} : xe_np (XE sc) 303 = 1 := rfl
/- method 304: X12_takesValue -/
def b_X12_takesValue_0 : List (Nat × Jvm.ClassFile.Instr × Nat) := [(0, .aload_n 0, 1), (1, .getfield 100, 3), (4, .iload_n 1, 1), (5, .iaload, 1), (6, .istore_n 2, 1), (7, .aload_n 0, 1), (8, .getfield 215, 3), (11, .iload_n 2, 1), (12, .bipush 7, 2), (14, .iadd, 1), (15, .bipush 8, 2), (17, .idiv, 1), (18, .if_icmp .ne 7, 3)]
set_option maxRecDepth 20000 in
theorem k_X12_takesValue_0 {sc : xm_Sc} : xm_bok (xe_cy (XE sc) 304) b_X12_takesValue_0 := by show xm_bok cX12_takesValue _; unfold xm_bok; decide +kernel
def b_X12_takesValue_21 : List (Nat × Jvm.ClassFile.Instr × Nat) := [(21, .iconst 1, 1), (22, .goto 4, 3)]
set_option maxRecDepth 20000 in
theorem k_X12_takesValue_21 {sc : xm_Sc} : xm_bok (xe_cy (XE sc) 304) b_X12_takesValue_21 := by show xm_bok cX12_takesValue _; unfold xm_bok; decide +kernel
def b_X12_takesValue_25 : List (Nat × Jvm.ClassFile.Instr × Nat) := [(25, .iconst 0, 1)]
set_option maxRecDepth 20000 in
theorem k_X12_takesValue_25 {sc : xm_Sc} : xm_bok (xe_cy (XE sc) 304) b_X12_takesValue_25 := by show xm_bok cX12_takesValue _; unfold xm_bok; decide +kernel
def b_X12_takesValue_26 : List (Nat × Jvm.ClassFile.Instr × Nat) := [(26, .istore_n 3, 1), (27, .iconst 0, 1), (28, .istore 4, 2)]
set_option maxRecDepth 20000 in
theorem k_X12_takesValue_26 {sc : xm_Sc} : xm_bok (xe_cy (XE sc) 304) b_X12_takesValue_26 := by show xm_bok cX12_takesValue _; unfold xm_bok; decide +kernel
def b_X12_takesValue_30 : List (Nat × Jvm.ClassFile.Instr × Nat) := [(30, .iload 4, 2), (32, .bipush 8, 2), (34, .aload_n 0, 1), (35, .getfield 215, 3), (38, .imul, 1), (39, .if_icmp .ge 51, 3)]
set_option maxRecDepth 20000 in
theorem k_X12_takesValue_30 {sc : xm_Sc} : xm_bok (xe_cy (XE sc) 304) b_X12_takesValue_30 := by show xm_bok cX12_takesValue _; unfold xm_bok; decide +kernel
def b_X12_takesValue_42 : List (Nat × Jvm.ClassFile.Instr × Nat) := [(42, .iload_n 3, 1), (43, .ifCond .eq 47, 3)]
set_option maxRecDepth 20000 in
theorem k_X12_takesValue_42 {sc : xm_Sc} : xm_bok (xe_cy (XE sc) 304) b_X12_takesValue_42 := by show xm_bok cX12_takesValue _; unfold xm_bok; decide +kernel
def b_X12_takesValue_46 : List (Nat × Jvm.ClassFile.Instr × Nat) := [(46, .iload 4, 2), (48, .iload_n 2, 1), (49, .if_icmp .ge 20, 3)]
set_option maxRecDepth 20000 in
theorem k_X12_takesValue_46 {sc : xm_Sc} : xm_bok (xe_cy (XE sc) 304) b_X12_takesValue_46 := by show xm_bok cX12_takesValue _; unfold xm_bok; decide +kernel
def b_X12_takesValue_52 : List (Nat × Jvm.ClassFile.Instr × Nat) := [(52, .aload_n 0, 1), (53, .getfield 141, 3), (56, .iload 4, 2), (58, .aload_n 0, 1), (59, .iload 4, 2), (61, .invokevirtual 283, 3)]
set_option maxRecDepth 20000 in
theorem k_X12_takesValue_52 {sc : xm_Sc} : xm_bok (xe_cy (XE sc) 304) b_X12_takesValue_52 := by show xm_bok cX12_takesValue _; unfold xm_bok; decide +kernel
def b_X12_takesValue_64 : List (Nat × Jvm.ClassFile.Instr × Nat) := [(64, .i2b, 1), (65, .bastore, 1), (66, .goto 18, 3)]
set_option maxRecDepth 20000 in
theorem k_X12_takesValue_64 {sc : xm_Sc} : xm_bok (xe_cy (XE sc) 304) b_X12_takesValue_64 := by show xm_bok cX12_takesValue _; unfold xm_bok; decide +kernel
def b_X12_takesValue_69 : List (Nat × Jvm.ClassFile.Instr × Nat) := [(69, .aload_n 0, 1), (70, .iload 4, 2), (72, .invokevirtual 283, 3)]
set_option maxRecDepth 20000 in
theorem k_X12_takesValue_69 {sc : xm_Sc} : xm_bok (xe_cy (XE sc) 304) b_X12_takesValue_69 := by show xm_bok cX12_takesValue _; unfold xm_bok; decide +kernel
def b_X12_takesValue_75 : List (Nat × Jvm.ClassFile.Instr × Nat) := [(75, .ifCond .ne 7, 3)]
set_option maxRecDepth 20000 in
theorem k_X12_takesValue_75 {sc : xm_Sc} : xm_bok (xe_cy (XE sc) 304) b_X12_takesValue_75 := by show xm_bok cX12_takesValue _; unfold xm_bok; decide +kernel
def b_X12_takesValue_78 : List (Nat × Jvm.ClassFile.Instr × Nat) := [(78, .iconst 1, 1), (79, .goto 4, 3)]
set_option maxRecDepth 20000 in
theorem k_X12_takesValue_78 {sc : xm_Sc} : xm_bok (xe_cy (XE sc) 304) b_X12_takesValue_78 := by show xm_bok cX12_takesValue _; unfold xm_bok; decide +kernel
def b_X12_takesValue_82 : List (Nat × Jvm.ClassFile.Instr × Nat) := [(82, .iconst 0, 1)]
set_option maxRecDepth 20000 in
theorem k_X12_takesValue_82 {sc : xm_Sc} : xm_bok (xe_cy (XE sc) 304) b_X12_takesValue_82 := by show xm_bok cX12_takesValue _; unfold xm_bok; decide +kernel
def b_X12_takesValue_83 : List (Nat × Jvm.ClassFile.Instr × Nat) := [(83, .istore_n 3, 1)]
set_option maxRecDepth 20000 in
theorem k_X12_takesValue_83 {sc : xm_Sc} : xm_bok (xe_cy (XE sc) 304) b_X12_takesValue_83 := by show xm_bok cX12_takesValue _; unfold xm_bok; decide +kernel
def b_X12_takesValue_84 : List (Nat × Jvm.ClassFile.Instr × Nat) := [(84, .iinc 4 1, 3), (87, .goto (-57), 3)]
set_option maxRecDepth 20000 in
theorem k_X12_takesValue_84 {sc : xm_Sc} : xm_bok (xe_cy (XE sc) 304) b_X12_takesValue_84 := by show xm_bok cX12_takesValue _; unfold xm_bok; decide +kernel
def b_X12_takesValue_90 : List (Nat × Jvm.ClassFile.Instr × Nat) := [(90, .aload_n 0, 1), (91, .iconst 0, 1), (92, .putfield 215, 3), (95, .iload_n 3, 1), (96, .ifCond .eq 16, 3)]
set_option maxRecDepth 20000 in
theorem k_X12_takesValue_90 {sc : xm_Sc} : xm_bok (xe_cy (XE sc) 304) b_X12_takesValue_90 := by show xm_bok cX12_takesValue _; unfold xm_bok; decide +kernel
def b_X12_takesValue_99 : List (Nat × Jvm.ClassFile.Instr × Nat) := [(99, .aload_n 0, 1), (100, .iload_n 1, 1), (101, .iconst 0, 1), (102, .invokevirtual 286, 3)]
set_option maxRecDepth 20000 in
theorem k_X12_takesValue_99 {sc : xm_Sc} : xm_bok (xe_cy (XE sc) 304) b_X12_takesValue_99 := by show xm_bok cX12_takesValue _; unfold xm_bok; decide +kernel
def b_X12_takesValue_105 : List (Nat × Jvm.ClassFile.Instr × Nat) := [(105, .ifCond .eq 7, 3)]
set_option maxRecDepth 20000 in
theorem k_X12_takesValue_105 {sc : xm_Sc} : xm_bok (xe_cy (XE sc) 304) b_X12_takesValue_105 := by show xm_bok cX12_takesValue _; unfold xm_bok; decide +kernel
def b_X12_takesValue_108 : List (Nat × Jvm.ClassFile.Instr × Nat) := [(108, .iconst 1, 1), (109, .goto 4, 3)]
set_option maxRecDepth 20000 in
theorem k_X12_takesValue_108 {sc : xm_Sc} : xm_bok (xe_cy (XE sc) 304) b_X12_takesValue_108 := by show xm_bok cX12_takesValue _; unfold xm_bok; decide +kernel
def b_X12_takesValue_112 : List (Nat × Jvm.ClassFile.Instr × Nat) := [(112, .iconst 0, 1)]
set_option maxRecDepth 20000 in
theorem k_X12_takesValue_112 {sc : xm_Sc} : xm_bok (xe_cy (XE sc) 304) b_X12_takesValue_112 := by show xm_bok cX12_takesValue _; unfold xm_bok; decide +kernel
def b_X12_takesValue_113 : List (Nat × Jvm.ClassFile.Instr × Nat) := [(113, .ireturn, 1)]
set_option maxRecDepth 20000 in
theorem k_X12_takesValue_113 {sc : xm_Sc} : xm_bok (xe_cy (XE sc) 304) b_X12_takesValue_113 := by show xm_bok cX12_takesValue _; unfold xm_bok; decide +kernel
set_option maxRecDepth 20000 in
theorem cn_304 {sc : xm_Sc} : xe_cn (XE sc) 304 = 12 := rfl
set_option maxRecDepth 20000 in
theorem ml_304 {sc : xm_Sc} : xe_ml (XE sc) 304 = 5 := rfl
set_option maxRecDepth 20000 in
theorem ry_304 {sc : xm_Sc} : xe_ry (XE sc) 304 = (some .boolean) := rfl
set_option maxRecDepth 20000 in
theorem is_304 {sc : xm_Sc} : xe_is (XE sc) 304 = false := rfl
set_option maxRecDepth 20000 in
theorem np_304 {sc : xm_Sc} : xe_np (XE sc) 304 = 1 := rfl
/- method 305: X12_tapeBit -/
def b_X12_tapeBit_0 : List (Nat × Jvm.ClassFile.Instr × Nat) := [(0, .aload_n 0, 1), (1, .getfield 7, 3), (4, .iload_n 1, 1), (5, .bipush 8, 2), (7, .idiv, 1), (8, .iaload, 1), (9, .bipush 7, 2), (11, .iload_n 1, 1), (12, .bipush 8, 2), (14, .irem, 1), (15, .isub, 1), (16, .ishr, 1), (17, .iconst 1, 1), (18, .iand, 1), (19, .ireturn, 1)]
set_option maxRecDepth 20000 in
theorem k_X12_tapeBit_0 {sc : xm_Sc} : xm_bok (xe_cy (XE sc) 305) b_X12_tapeBit_0 := by show xm_bok cX12_tapeBit _; unfold xm_bok; decide +kernel
set_option maxRecDepth 20000 in
theorem cn_305 {sc : xm_Sc} : xe_cn (XE sc) 305 = 12 := rfl
set_option maxRecDepth 20000 in
theorem ml_305 {sc : xm_Sc} : xe_ml (XE sc) 305 = 2 := rfl
set_option maxRecDepth 20000 in
theorem ry_305 {sc : xm_Sc} : xe_ry (XE sc) 305 = (some .int) := rfl
set_option maxRecDepth 20000 in
theorem is_305 {sc : xm_Sc} : xe_is (XE sc) 305 = false := rfl
set_option maxRecDepth 20000 in
theorem np_305 {sc : xm_Sc} : xe_np (XE sc) 305 = 1 := rfl
/- method 306: X12_targetWidth -/
def b_X12_targetWidth_0 : List (Nat × Jvm.ClassFile.Instr × Nat) := [(0, .aload_n 0, 1), (1, .getfield 72, 3), (4, .iload_n 1, 1), (5, .iaload, 1), (6, .ifCond .ge 7, 3)]
set_option maxRecDepth 20000 in
theorem k_X12_targetWidth_0 {sc : xm_Sc} : xm_bok (xe_cy (XE sc) 306) b_X12_targetWidth_0 := by show xm_bok cX12_targetWidth _; unfold xm_bok; decide +kernel
def b_X12_targetWidth_9 : List (Nat × Jvm.ClassFile.Instr × Nat) := [(9, .iconst (-1), 1), (10, .goto 14, 3)]
set_option maxRecDepth 20000 in
theorem k_X12_targetWidth_9 {sc : xm_Sc} : xm_bok (xe_cy (XE sc) 306) b_X12_targetWidth_9 := by show xm_bok cX12_targetWidth _; unfold xm_bok; decide +kernel
def b_X12_targetWidth_13 : List (Nat × Jvm.ClassFile.Instr × Nat) := [(13, .aload_n 0, 1), (14, .getfield 100, 3), (17, .aload_n 0, 1), (18, .getfield 72, 3), (21, .iload_n 1, 1), (22, .iaload, 1), (23, .iaload, 1)]
set_option maxRecDepth 20000 in
theorem k_X12_targetWidth_13 {sc : xm_Sc} : xm_bok (xe_cy (XE sc) 306) b_X12_targetWidth_13 := by show xm_bok cX12_targetWidth _; unfold xm_bok; decide +kernel
def b_X12_targetWidth_24 : List (Nat × Jvm.ClassFile.Instr × Nat) := [(24, .ireturn, 1)]
set_option maxRecDepth 20000 in
theorem k_X12_targetWidth_24 {sc : xm_Sc} : xm_bok (xe_cy (XE sc) 306) b_X12_targetWidth_24 := by show xm_bok cX12_targetWidth _; unfold xm_bok; decide +kernel
set_option maxRecDepth 20000 in
theorem cn_306 {sc : xm_Sc} : xe_cn (XE sc) 306 = 12 := rfl
set_option maxRecDepth 20000 in
theorem ml_306 {sc : xm_Sc} : xe_ml (XE sc) 306 = 2 := rfl
set_option maxRecDepth 20000 in
theorem ry_306 {sc : xm_Sc} : xe_ry (XE sc) 306 = (some .int) := rfl
set_option maxRecDepth 20000 in
theorem is_306 {sc : xm_Sc} : xe_is (XE sc) 306 = false := rfl
set_option maxRecDepth 20000 in
theorem np_306 {sc : xm_Sc} : xe_np (XE sc) 306 = 1 := rfl
/- method 307: X12_tellsBits -/
def b_X12_tellsBits_0 : List (Nat × Jvm.ClassFile.Instr × Nat) := [(0, .aload_n 0, 1), (1, .iload_n 2, 1), (2, .bipush 7, 2), (4, .iadd, 1), (5, .bipush 8, 2), (7, .idiv, 1), (8, .putfield 220, 3), (11, .iconst 0, 1), (12, .istore_n 3, 1)]
set_option maxRecDepth 20000 in
theorem k_X12_tellsBits_0 {sc : xm_Sc} : xm_bok (xe_cy (XE sc) 307) b_X12_tellsBits_0 := by show xm_bok cX12_tellsBits _; unfold xm_bok; decide +kernel
def b_X12_tellsBits_13 : List (Nat × Jvm.ClassFile.Instr × Nat) := [(13, .iload_n 3, 1), (14, .aload_n 0, 1), (15, .getfield 220, 3), (18, .if_icmp .ge 70, 3)]
set_option maxRecDepth 20000 in
theorem k_X12_tellsBits_13 {sc : xm_Sc} : xm_bok (xe_cy (XE sc) 307) b_X12_tellsBits_13 := by show xm_bok cX12_tellsBits _; unfold xm_bok; decide +kernel
def b_X12_tellsBits_21 : List (Nat × Jvm.ClassFile.Instr × Nat) := [(21, .iconst 0, 1), (22, .istore 4, 2), (24, .bipush 8, 2), (26, .iload_n 3, 1), (27, .imul, 1), (28, .istore 5, 2)]
set_option maxRecDepth 20000 in
theorem k_X12_tellsBits_21 {sc : xm_Sc} : xm_bok (xe_cy (XE sc) 307) b_X12_tellsBits_21 := by show xm_bok cX12_tellsBits _; unfold xm_bok; decide +kernel
def b_X12_tellsBits_30 : List (Nat × Jvm.ClassFile.Instr × Nat) := [(30, .iload 5, 2), (32, .bipush 8, 2), (34, .iload_n 3, 1), (35, .imul, 1), (36, .bipush 8, 2), (38, .iadd, 1), (39, .if_icmp .ge 35, 3)]
set_option maxRecDepth 20000 in
theorem k_X12_tellsBits_30 {sc : xm_Sc} : xm_bok (xe_cy (XE sc) 307) b_X12_tellsBits_30 := by show xm_bok cX12_tellsBits _; unfold xm_bok; decide +kernel
def b_X12_tellsBits_42 : List (Nat × Jvm.ClassFile.Instr × Nat) := [(42, .iload 4, 2), (44, .iconst 1, 1), (45, .ishl, 1), (46, .iload 5, 2), (48, .iload_n 2, 1), (49, .if_icmp .ge 15, 3)]
set_option maxRecDepth 20000 in
theorem k_X12_tellsBits_42 {sc : xm_Sc} : xm_bok (xe_cy (XE sc) 307) b_X12_tellsBits_42 := by show xm_bok cX12_tellsBits _; unfold xm_bok; decide +kernel
def b_X12_tellsBits_52 : List (Nat × Jvm.ClassFile.Instr × Nat) := [(52, .aload_n 0, 1), (53, .getfield 141, 3), (56, .iload_n 1, 1), (57, .iload 5, 2), (59, .iadd, 1), (60, .baload, 1), (61, .goto 4, 3)]
set_option maxRecDepth 20000 in
theorem k_X12_tellsBits_52 {sc : xm_Sc} : xm_bok (xe_cy (XE sc) 307) b_X12_tellsBits_52 := by show xm_bok cX12_tellsBits _; unfold xm_bok; decide +kernel
def b_X12_tellsBits_64 : List (Nat × Jvm.ClassFile.Instr × Nat) := [(64, .iconst 0, 1)]
set_option maxRecDepth 20000 in
theorem k_X12_tellsBits_64 {sc : xm_Sc} : xm_bok (xe_cy (XE sc) 307) b_X12_tellsBits_64 := by show xm_bok cX12_tellsBits _; unfold xm_bok; decide +kernel
def b_X12_tellsBits_65 : List (Nat × Jvm.ClassFile.Instr × Nat) := [(65, .ior, 1), (66, .istore 4, 2), (68, .iinc 5 1, 3), (71, .goto (-41), 3)]
set_option maxRecDepth 20000 in
theorem k_X12_tellsBits_65 {sc : xm_Sc} : xm_bok (xe_cy (XE sc) 307) b_X12_tellsBits_65 := by show xm_bok cX12_tellsBits _; unfold xm_bok; decide +kernel
def b_X12_tellsBits_74 : List (Nat × Jvm.ClassFile.Instr × Nat) := [(74, .aload_n 0, 1), (75, .getfield 13, 3), (78, .iload_n 3, 1), (79, .iload 4, 2), (81, .iastore, 1), (82, .iinc 3 1, 3), (85, .goto (-72), 3)]
set_option maxRecDepth 20000 in
theorem k_X12_tellsBits_74 {sc : xm_Sc} : xm_bok (xe_cy (XE sc) 307) b_X12_tellsBits_74 := by show xm_bok cX12_tellsBits _; unfold xm_bok; decide +kernel
def b_X12_tellsBits_88 : List (Nat × Jvm.ClassFile.Instr × Nat) := [(88, .aload_n 0, 1), (89, .getfield 220, 3), (92, .ireturn, 1)]
set_option maxRecDepth 20000 in
theorem k_X12_tellsBits_88 {sc : xm_Sc} : xm_bok (xe_cy (XE sc) 307) b_X12_tellsBits_88 := by show xm_bok cX12_tellsBits _; unfold xm_bok; decide +kernel
set_option maxRecDepth 20000 in
theorem cn_307 {sc : xm_Sc} : xe_cn (XE sc) 307 = 12 := rfl
set_option maxRecDepth 20000 in
theorem ml_307 {sc : xm_Sc} : xe_ml (XE sc) 307 = 6 := rfl
set_option maxRecDepth 20000 in
theorem ry_307 {sc : xm_Sc} : xe_ry (XE sc) 307 = (some .int) := rfl
set_option maxRecDepth 20000 in
theorem is_307 {sc : xm_Sc} : xe_is (XE sc) 307 = false := rfl
set_option maxRecDepth 20000 in
theorem np_307 {sc : xm_Sc} : xe_np (XE sc) 307 = 2 := rfl
/- method 308: X12_tellsMade -/
def b_X12_tellsMade_0 : List (Nat × Jvm.ClassFile.Instr × Nat) := [(0, .iconst 0, 1), (1, .istore_n 1, 1)]
set_option maxRecDepth 20000 in
theorem k_X12_tellsMade_0 {sc : xm_Sc} : xm_bok (xe_cy (XE sc) 308) b_X12_tellsMade_0 := by show xm_bok cX12_tellsMade _; unfold xm_bok; decide +kernel
def b_X12_tellsMade_2 : List (Nat × Jvm.ClassFile.Instr × Nat) := [(2, .iload_n 1, 1), (3, .aload_n 0, 1), (4, .getfield 289, 3), (7, .if_icmp .ge 21, 3)]
set_option maxRecDepth 20000 in
theorem k_X12_tellsMade_2 {sc : xm_Sc} : xm_bok (xe_cy (XE sc) 308) b_X12_tellsMade_2 := by show xm_bok cX12_tellsMade _; unfold xm_bok; decide +kernel
def b_X12_tellsMade_10 : List (Nat × Jvm.ClassFile.Instr × Nat) := [(10, .aload_n 0, 1), (11, .getfield 13, 3), (14, .iload_n 1, 1), (15, .aload_n 0, 1), (16, .getfield 148, 3), (19, .iload_n 1, 1), (20, .iaload, 1), (21, .iastore, 1), (22, .iinc 1 1, 3), (25, .goto (-23), 3)]
set_option maxRecDepth 20000 in
theorem k_X12_tellsMade_10 {sc : xm_Sc} : xm_bok (xe_cy (XE sc) 308) b_X12_tellsMade_10 := by show xm_bok cX12_tellsMade _; unfold xm_bok; decide +kernel
def b_X12_tellsMade_28 : List (Nat × Jvm.ClassFile.Instr × Nat) := [(28, .aload_n 0, 1), (29, .aload_n 0, 1), (30, .getfield 289, 3), (33, .putfield 220, 3), (36, .aload_n 0, 1), (37, .getfield 220, 3), (40, .ireturn, 1)]
set_option maxRecDepth 20000 in
theorem k_X12_tellsMade_28 {sc : xm_Sc} : xm_bok (xe_cy (XE sc) 308) b_X12_tellsMade_28 := by show xm_bok cX12_tellsMade _; unfold xm_bok; decide +kernel
set_option maxRecDepth 20000 in
theorem cn_308 {sc : xm_Sc} : xe_cn (XE sc) 308 = 12 := rfl
set_option maxRecDepth 20000 in
theorem ml_308 {sc : xm_Sc} : xe_ml (XE sc) 308 = 2 := rfl
set_option maxRecDepth 20000 in
theorem ry_308 {sc : xm_Sc} : xe_ry (XE sc) 308 = (some .int) := rfl
set_option maxRecDepth 20000 in
theorem is_308 {sc : xm_Sc} : xe_is (XE sc) 308 = false := rfl
set_option maxRecDepth 20000 in
theorem np_308 {sc : xm_Sc} : xe_np (XE sc) 308 = 0 := rfl
/- method 309: X12_thrown -/
def b_X12_thrown_0 : List (Nat × Jvm.ClassFile.Instr × Nat) := [(0, .aload_n 0, 1), (1, .getfield 205, 3), (4, .ireturn, 1)]
set_option maxRecDepth 20000 in
theorem k_X12_thrown_0 {sc : xm_Sc} : xm_bok (xe_cy (XE sc) 309) b_X12_thrown_0 := by show xm_bok cX12_thrown _; unfold xm_bok; decide +kernel
set_option maxRecDepth 20000 in
theorem cn_309 {sc : xm_Sc} : xe_cn (XE sc) 309 = 12 := rfl
set_option maxRecDepth 20000 in
theorem ml_309 {sc : xm_Sc} : xe_ml (XE sc) 309 = 1 := rfl
set_option maxRecDepth 20000 in
theorem ry_309 {sc : xm_Sc} : xe_ry (XE sc) 309 = (some .int) := rfl
set_option maxRecDepth 20000 in
theorem is_309 {sc : xm_Sc} : xe_is (XE sc) 309 = false := rfl
set_option maxRecDepth 20000 in
theorem np_309 {sc : xm_Sc} : xe_np (XE sc) 309 = 0 := rfl
/- method 310: X12_tongueOf -/
def b_X12_tongueOf_0 : List (Nat × Jvm.ClassFile.Instr × Nat) := [(0, .iconst 0, 1), (1, .istore_n 3, 1)]
set_option maxRecDepth 20000 in
theorem k_X12_tongueOf_0 {sc : xm_Sc} : xm_bok (xe_cy (XE sc) 310) b_X12_tongueOf_0 := by show xm_bok cX12_tongueOf _; unfold xm_bok; decide +kernel
def b_X12_tongueOf_2 : List (Nat × Jvm.ClassFile.Instr × Nat) := [(2, .iload_n 3, 1), (3, .bipush 14, 2), (5, .if_icmp .ge 22, 3)]
set_option maxRecDepth 20000 in
theorem k_X12_tongueOf_2 {sc : xm_Sc} : xm_bok (xe_cy (XE sc) 310) b_X12_tongueOf_2 := by show xm_bok cX12_tongueOf _; unfold xm_bok; decide +kernel
def b_X12_tongueOf_8 : List (Nat × Jvm.ClassFile.Instr × Nat) := [(8, .aload_n 0, 1), (9, .getfield 145, 3), (12, .iload_n 3, 1), (13, .laload, 1), (14, .lload_n 1, 1), (15, .lcmp, 1), (16, .ifCond .ne 5, 3)]
set_option maxRecDepth 20000 in
theorem k_X12_tongueOf_8 {sc : xm_Sc} : xm_bok (xe_cy (XE sc) 310) b_X12_tongueOf_8 := by show xm_bok cX12_tongueOf _; unfold xm_bok; decide +kernel
def b_X12_tongueOf_19 : List (Nat × Jvm.ClassFile.Instr × Nat) := [(19, .iload_n 3, 1), (20, .ireturn, 1)]
set_option maxRecDepth 20000 in
theorem k_X12_tongueOf_19 {sc : xm_Sc} : xm_bok (xe_cy (XE sc) 310) b_X12_tongueOf_19 := by show xm_bok cX12_tongueOf _; unfold xm_bok; decide +kernel
def b_X12_tongueOf_21 : List (Nat × Jvm.ClassFile.Instr × Nat) := [(21, .iinc 3 1, 3), (24, .goto (-22), 3)]
set_option maxRecDepth 20000 in
theorem k_X12_tongueOf_21 {sc : xm_Sc} : xm_bok (xe_cy (XE sc) 310) b_X12_tongueOf_21 := by show xm_bok cX12_tongueOf _; unfold xm_bok; decide +kernel
def b_X12_tongueOf_27 : List (Nat × Jvm.ClassFile.Instr × Nat) := [(27, .iconst (-1), 1), (28, .ireturn, 1)]
set_option maxRecDepth 20000 in
theorem k_X12_tongueOf_27 {sc : xm_Sc} : xm_bok (xe_cy (XE sc) 310) b_X12_tongueOf_27 := by show xm_bok cX12_tongueOf _; unfold xm_bok; decide +kernel
set_option maxRecDepth 20000 in
theorem cn_310 {sc : xm_Sc} : xe_cn (XE sc) 310 = 12 := rfl
set_option maxRecDepth 20000 in
theorem ml_310 {sc : xm_Sc} : xe_ml (XE sc) 310 = 4 := rfl
set_option maxRecDepth 20000 in
theorem ry_310 {sc : xm_Sc} : xe_ry (XE sc) 310 = (some .int) := rfl
set_option maxRecDepth 20000 in
theorem is_310 {sc : xm_Sc} : xe_is (XE sc) 310 = false := rfl
set_option maxRecDepth 20000 in
theorem np_310 {sc : xm_Sc} : xe_np (XE sc) 310 = 1 := rfl
/- method 311: X12_turned -/
def b_X12_turned_0 : List (Nat × Jvm.ClassFile.Instr × Nat) := [(0, .iload_n 0, 1), (1, .iload_n 1, 1), (2, .iushr, 1), (3, .iload_n 0, 1), (4, .bipush 32, 2), (6, .iload_n 1, 1), (7, .isub, 1), (8, .ishl, 1), (9, .ior, 1), (10, .ireturn, 1)]
set_option maxRecDepth 20000 in
theorem k_X12_turned_0 {sc : xm_Sc} : xm_bok (xe_cy (XE sc) 311) b_X12_turned_0 := by show xm_bok cX12_turned _; unfold xm_bok; decide +kernel
set_option maxRecDepth 20000 in
theorem cn_311 {sc : xm_Sc} : xe_cn (XE sc) 311 = 12 := rfl
set_option maxRecDepth 20000 in
theorem ml_311 {sc : xm_Sc} : xe_ml (XE sc) 311 = 2 := rfl
set_option maxRecDepth 20000 in
theorem ry_311 {sc : xm_Sc} : xe_ry (XE sc) 311 = (some .int) := rfl
set_option maxRecDepth 20000 in
theorem is_311 {sc : xm_Sc} : xe_is (XE sc) 311 = true := rfl
set_option maxRecDepth 20000 in
theorem np_311 {sc : xm_Sc} : xe_np (XE sc) 311 = 2 := rfl
/- method 312: X12_type -/
def b_X12_type_0 : List (Nat × Jvm.ClassFile.Instr × Nat) := [(0, .aload_n 0, 1), (1, .iload_n 1, 1), (2, .iload_n 2, 1), (3, .invokevirtual 564, 3)]
set_option maxRecDepth 20000 in
theorem k_X12_type_0 {sc : xm_Sc} : xm_bok (xe_cy (XE sc) 312) b_X12_type_0 := by show xm_bok cX12_type _; unfold xm_bok; decide +kernel
def b_X12_type_6 : List (Nat × Jvm.ClassFile.Instr × Nat) := [(6, .istore_n 3, 1), (7, .aload_n 0, 1), (8, .getfield 205, 3), (11, .ifCond .le 5, 3)]
set_option maxRecDepth 20000 in
theorem k_X12_type_6 {sc : xm_Sc} : xm_bok (xe_cy (XE sc) 312) b_X12_type_6 := by show xm_bok cX12_type _; unfold xm_bok; decide +kernel
def b_X12_type_14 : List (Nat × Jvm.ClassFile.Instr × Nat) := [(14, .iconst 0, 1), (15, .ireturn, 1)]
set_option maxRecDepth 20000 in
theorem k_X12_type_14 {sc : xm_Sc} : xm_bok (xe_cy (XE sc) 312) b_X12_type_14 := by show xm_bok cX12_type _; unfold xm_bok; decide +kernel
def b_X12_type_16 : List (Nat × Jvm.ClassFile.Instr × Nat) := [(16, .iload_n 3, 1), (17, .ifCond .ge 6, 3)]
set_option maxRecDepth 20000 in
theorem k_X12_type_16 {sc : xm_Sc} : xm_bok (xe_cy (XE sc) 312) b_X12_type_16 := by show xm_bok cX12_type _; unfold xm_bok; decide +kernel
def b_X12_type_20 : List (Nat × Jvm.ClassFile.Instr × Nat) := [(20, .bipush (-2), 2), (22, .ireturn, 1)]
set_option maxRecDepth 20000 in
theorem k_X12_type_20 {sc : xm_Sc} : xm_bok (xe_cy (XE sc) 312) b_X12_type_20 := by show xm_bok cX12_type _; unfold xm_bok; decide +kernel
def b_X12_type_23 : List (Nat × Jvm.ClassFile.Instr × Nat) := [(23, .aload_n 0, 1), (24, .getfield 106, 3), (27, .iload_n 3, 1), (28, .iaload, 1), (29, .sipush 300, 3), (32, .if_icmp .le 5, 3)]
set_option maxRecDepth 20000 in
theorem k_X12_type_23 {sc : xm_Sc} : xm_bok (xe_cy (XE sc) 312) b_X12_type_23 := by show xm_bok cX12_type _; unfold xm_bok; decide +kernel
def b_X12_type_35 : List (Nat × Jvm.ClassFile.Instr × Nat) := [(35, .iconst (-1), 1), (36, .ireturn, 1)]
set_option maxRecDepth 20000 in
theorem k_X12_type_35 {sc : xm_Sc} : xm_bok (xe_cy (XE sc) 312) b_X12_type_35 := by show xm_bok cX12_type _; unfold xm_bok; decide +kernel
def b_X12_type_37 : List (Nat × Jvm.ClassFile.Instr × Nat) := [(37, .aload_n 0, 1), (38, .iconst 0, 1), (39, .putfield 289, 3), (42, .iconst 1, 1), (43, .istore 4, 2), (45, .aload_n 0, 1), (46, .getfield 48, 3), (49, .iconst 0, 1), (50, .iload_n 3, 1), (51, .iastore, 1)]
set_option maxRecDepth 20000 in
theorem k_X12_type_37 {sc : xm_Sc} : xm_bok (xe_cy (XE sc) 312) b_X12_type_37 := by show xm_bok cX12_type _; unfold xm_bok; decide +kernel
def b_X12_type_52 : List (Nat × Jvm.ClassFile.Instr × Nat) := [(52, .iload 4, 2), (54, .ifCond .le 130, 3)]
set_option maxRecDepth 20000 in
theorem k_X12_type_52 {sc : xm_Sc} : xm_bok (xe_cy (XE sc) 312) b_X12_type_52 := by show xm_bok cX12_type _; unfold xm_bok; decide +kernel
def b_X12_type_57 : List (Nat × Jvm.ClassFile.Instr × Nat) := [(57, .iinc 4 (-1), 3), (60, .aload_n 0, 1), (61, .getfield 48, 3), (64, .iload 4, 2), (66, .iaload, 1), (67, .istore 5, 2), (69, .iload 5, 2), (71, .ifCond .ge 13, 3)]
set_option maxRecDepth 20000 in
theorem k_X12_type_57 {sc : xm_Sc} : xm_bok (xe_cy (XE sc) 312) b_X12_type_57 := by show xm_bok cX12_type _; unfold xm_bok; decide +kernel
def b_X12_type_74 : List (Nat × Jvm.ClassFile.Instr × Nat) := [(74, .aload_n 0, 1), (75, .iload 5, 2), (77, .ineg, 1), (78, .invokevirtual 296, 3)]
set_option maxRecDepth 20000 in
theorem k_X12_type_74 {sc : xm_Sc} : xm_bok (xe_cy (XE sc) 312) b_X12_type_74 := by show xm_bok cX12_type _; unfold xm_bok; decide +kernel
def b_X12_type_81 : List (Nat × Jvm.ClassFile.Instr × Nat) := [(81, .goto 100, 3)]
set_option maxRecDepth 20000 in
theorem k_X12_type_81 {sc : xm_Sc} : xm_bok (xe_cy (XE sc) 312) b_X12_type_81 := by show xm_bok cX12_type _; unfold xm_bok; decide +kernel
def b_X12_type_84 : List (Nat × Jvm.ClassFile.Instr × Nat) := [(84, .aload_n 0, 1), (85, .getfield 91, 3), (88, .iload 5, 2), (90, .iaload, 1), (91, .iconst 1, 1), (92, .if_icmp .ne 12, 3)]
set_option maxRecDepth 20000 in
theorem k_X12_type_84 {sc : xm_Sc} : xm_bok (xe_cy (XE sc) 312) b_X12_type_84 := by show xm_bok cX12_type _; unfold xm_bok; decide +kernel
def b_X12_type_95 : List (Nat × Jvm.ClassFile.Instr × Nat) := [(95, .aload_n 0, 1), (96, .bipush 49, 2), (98, .invokevirtual 296, 3)]
set_option maxRecDepth 20000 in
theorem k_X12_type_95 {sc : xm_Sc} : xm_bok (xe_cy (XE sc) 312) b_X12_type_95 := by show xm_bok cX12_type _; unfold xm_bok; decide +kernel
def b_X12_type_101 : List (Nat × Jvm.ClassFile.Instr × Nat) := [(101, .goto 80, 3)]
set_option maxRecDepth 20000 in
theorem k_X12_type_101 {sc : xm_Sc} : xm_bok (xe_cy (XE sc) 312) b_X12_type_101 := by show xm_bok cX12_type _; unfold xm_bok; decide +kernel
def b_X12_type_104 : List (Nat × Jvm.ClassFile.Instr × Nat) := [(104, .aload_n 0, 1), (105, .bipush 40, 2), (107, .invokevirtual 296, 3)]
set_option maxRecDepth 20000 in
theorem k_X12_type_104 {sc : xm_Sc} : xm_bok (xe_cy (XE sc) 312) b_X12_type_104 := by show xm_bok cX12_type _; unfold xm_bok; decide +kernel
def b_X12_type_110 : List (Nat × Jvm.ClassFile.Instr × Nat) := [(110, .aload_n 0, 1), (111, .getfield 48, 3), (114, .iload 4, 2), (116, .bipush (-41), 2), (118, .iastore, 1), (119, .aload_n 0, 1), (120, .getfield 48, 3), (123, .iload 4, 2), (125, .iconst 1, 1), (126, .iadd, 1), (127, .aload_n 0, 1), (128, .getfield 97, 3), (131, .iload 5, 2), (133, .iaload, 1), (134, .iastore, 1), (135, .aload_n 0, 1), (136, .getfield 48, 3), (139, .iload 4, 2), (141, .iconst 2, 1), (142, .iadd, 1), (143, .aload_n 0, 1), (144, .getfield 91, 3), (147, .iload 5, 2), (149, .iaload, 1), (150, .iconst 2, 1), (151, .if_icmp .ne 8, 3)]
set_option maxRecDepth 20000 in
theorem k_X12_type_110 {sc : xm_Sc} : xm_bok (xe_cy (XE sc) 312) b_X12_type_110 := by show xm_bok cX12_type _; unfold xm_bok; decide +kernel
def b_X12_type_154 : List (Nat × Jvm.ClassFile.Instr × Nat) := [(154, .bipush (-43), 2), (156, .goto 5, 3)]
set_option maxRecDepth 20000 in
theorem k_X12_type_154 {sc : xm_Sc} : xm_bok (xe_cy (XE sc) 312) b_X12_type_154 := by show xm_bok cX12_type _; unfold xm_bok; decide +kernel
def b_X12_type_159 : List (Nat × Jvm.ClassFile.Instr × Nat) := [(159, .bipush (-42), 2)]
set_option maxRecDepth 20000 in
theorem k_X12_type_159 {sc : xm_Sc} : xm_bok (xe_cy (XE sc) 312) b_X12_type_159 := by show xm_bok cX12_type _; unfold xm_bok; decide +kernel
def b_X12_type_161 : List (Nat × Jvm.ClassFile.Instr × Nat) := [(161, .iastore, 1), (162, .aload_n 0, 1), (163, .getfield 48, 3), (166, .iload 4, 2), (168, .iconst 3, 1), (169, .iadd, 1), (170, .aload_n 0, 1), (171, .getfield 94, 3), (174, .iload 5, 2), (176, .iaload, 1), (177, .iastore, 1), (178, .iinc 4 4, 3)]
set_option maxRecDepth 20000 in
theorem k_X12_type_161 {sc : xm_Sc} : xm_bok (xe_cy (XE sc) 312) b_X12_type_161 := by show xm_bok cX12_type _; unfold xm_bok; decide +kernel
def b_X12_type_181 : List (Nat × Jvm.ClassFile.Instr × Nat) := [(181, .goto (-129), 3)]
set_option maxRecDepth 20000 in
theorem k_X12_type_181 {sc : xm_Sc} : xm_bok (xe_cy (XE sc) 312) b_X12_type_181 := by show xm_bok cX12_type _; unfold xm_bok; decide +kernel
def b_X12_type_184 : List (Nat × Jvm.ClassFile.Instr × Nat) := [(184, .aload_n 0, 1), (185, .invokevirtual 568, 3)]
set_option maxRecDepth 20000 in
theorem k_X12_type_184 {sc : xm_Sc} : xm_bok (xe_cy (XE sc) 312) b_X12_type_184 := by show xm_bok cX12_type _; unfold xm_bok; decide +kernel
def b_X12_type_188 : List (Nat × Jvm.ClassFile.Instr × Nat) := [(188, .ireturn, 1)]
set_option maxRecDepth 20000 in
theorem k_X12_type_188 {sc : xm_Sc} : xm_bok (xe_cy (XE sc) 312) b_X12_type_188 := by show xm_bok cX12_type _; unfold xm_bok; decide +kernel
set_option maxRecDepth 20000 in
theorem cn_312 {sc : xm_Sc} : xe_cn (XE sc) 312 = 12 := rfl
set_option maxRecDepth 20000 in
theorem ml_312 {sc : xm_Sc} : xe_ml (XE sc) 312 = 6 := rfl
set_option maxRecDepth 20000 in
theorem ry_312 {sc : xm_Sc} : xe_ry (XE sc) 312 = (some .int) := rfl
set_option maxRecDepth 20000 in
theorem is_312 {sc : xm_Sc} : xe_is (XE sc) 312 = false := rfl
set_option maxRecDepth 20000 in
theorem np_312 {sc : xm_Sc} : xe_np (XE sc) 312 = 2 := rfl
/- method 313: X12_typeAt -/
def b_X12_typeAt_0 : List (Nat × Jvm.ClassFile.Instr × Nat) := [(0, .aload_n 0, 1), (1, .aload_n 0, 1), (2, .iload_n 1, 1), (3, .invokevirtual 561, 3)]
set_option maxRecDepth 20000 in
theorem k_X12_typeAt_0 {sc : xm_Sc} : xm_bok (xe_cy (XE sc) 313) b_X12_typeAt_0 := by show xm_bok cX12_typeAt _; unfold xm_bok; decide +kernel
def b_X12_typeAt_6 : List (Nat × Jvm.ClassFile.Instr × Nat) := [(6, .ifCond .eq 7, 3)]
set_option maxRecDepth 20000 in
theorem k_X12_typeAt_6 {sc : xm_Sc} : xm_bok (xe_cy (XE sc) 313) b_X12_typeAt_6 := by show xm_bok cX12_typeAt _; unfold xm_bok; decide +kernel
def b_X12_typeAt_9 : List (Nat × Jvm.ClassFile.Instr × Nat) := [(9, .iconst 0, 1), (10, .goto 4, 3)]
set_option maxRecDepth 20000 in
theorem k_X12_typeAt_9 {sc : xm_Sc} : xm_bok (xe_cy (XE sc) 313) b_X12_typeAt_9 := by show xm_bok cX12_typeAt _; unfold xm_bok; decide +kernel
def b_X12_typeAt_13 : List (Nat × Jvm.ClassFile.Instr × Nat) := [(13, .iconst 1, 1)]
set_option maxRecDepth 20000 in
theorem k_X12_typeAt_13 {sc : xm_Sc} : xm_bok (xe_cy (XE sc) 313) b_X12_typeAt_13 := by show xm_bok cX12_typeAt _; unfold xm_bok; decide +kernel
def b_X12_typeAt_14 : List (Nat × Jvm.ClassFile.Instr × Nat) := [(14, .putfield 205, 3), (17, .aload_n 0, 1), (18, .getfield 205, 3), (21, .ifCond .le 5, 3)]
set_option maxRecDepth 20000 in
theorem k_X12_typeAt_14 {sc : xm_Sc} : xm_bok (xe_cy (XE sc) 313) b_X12_typeAt_14 := by show xm_bok cX12_typeAt _; unfold xm_bok; decide +kernel
def b_X12_typeAt_24 : List (Nat × Jvm.ClassFile.Instr × Nat) := [(24, .iconst (-1), 1), (25, .ireturn, 1)]
set_option maxRecDepth 20000 in
theorem k_X12_typeAt_24 {sc : xm_Sc} : xm_bok (xe_cy (XE sc) 313) b_X12_typeAt_24 := by show xm_bok cX12_typeAt _; unfold xm_bok; decide +kernel
def b_X12_typeAt_26 : List (Nat × Jvm.ClassFile.Instr × Nat) := [(26, .aload_n 0, 1), (27, .getfield 54, 3), (30, .iload_n 1, 1), (31, .iaload, 1), (32, .bipush 11, 2), (34, .if_icmp .ne 8, 3)]
set_option maxRecDepth 20000 in
theorem k_X12_typeAt_26 {sc : xm_Sc} : xm_bok (xe_cy (XE sc) 313) b_X12_typeAt_26 := by show xm_bok cX12_typeAt _; unfold xm_bok; decide +kernel
def b_X12_typeAt_37 : List (Nat × Jvm.ClassFile.Instr × Nat) := [(37, .bipush (-2), 2), (39, .goto 22, 3)]
set_option maxRecDepth 20000 in
theorem k_X12_typeAt_37 {sc : xm_Sc} : xm_bok (xe_cy (XE sc) 313) b_X12_typeAt_37 := by show xm_bok cX12_typeAt _; unfold xm_bok; decide +kernel
def b_X12_typeAt_42 : List (Nat × Jvm.ClassFile.Instr × Nat) := [(42, .iload_n 2, 1), (43, .ifCond .eq 12, 3)]
set_option maxRecDepth 20000 in
theorem k_X12_typeAt_42 {sc : xm_Sc} : xm_bok (xe_cy (XE sc) 313) b_X12_typeAt_42 := by show xm_bok cX12_typeAt _; unfold xm_bok; decide +kernel
def b_X12_typeAt_46 : List (Nat × Jvm.ClassFile.Instr × Nat) := [(46, .aload_n 0, 1), (47, .getfield 72, 3), (50, .iload_n 1, 1), (51, .iaload, 1), (52, .goto 9, 3)]
set_option maxRecDepth 20000 in
theorem k_X12_typeAt_46 {sc : xm_Sc} : xm_bok (xe_cy (XE sc) 313) b_X12_typeAt_46 := by show xm_bok cX12_typeAt _; unfold xm_bok; decide +kernel
def b_X12_typeAt_55 : List (Nat × Jvm.ClassFile.Instr × Nat) := [(55, .aload_n 0, 1), (56, .getfield 69, 3), (59, .iload_n 1, 1), (60, .iaload, 1)]
set_option maxRecDepth 20000 in
theorem k_X12_typeAt_55 {sc : xm_Sc} : xm_bok (xe_cy (XE sc) 313) b_X12_typeAt_55 := by show xm_bok cX12_typeAt _; unfold xm_bok; decide +kernel
def b_X12_typeAt_61 : List (Nat × Jvm.ClassFile.Instr × Nat) := [(61, .ireturn, 1)]
set_option maxRecDepth 20000 in
theorem k_X12_typeAt_61 {sc : xm_Sc} : xm_bok (xe_cy (XE sc) 313) b_X12_typeAt_61 := by show xm_bok cX12_typeAt _; unfold xm_bok; decide +kernel
set_option maxRecDepth 20000 in
theorem cn_313 {sc : xm_Sc} : xe_cn (XE sc) 313 = 12 := rfl
set_option maxRecDepth 20000 in
theorem ml_313 {sc : xm_Sc} : xe_ml (XE sc) 313 = 3 := rfl
set_option maxRecDepth 20000 in
theorem ry_313 {sc : xm_Sc} : xe_ry (XE sc) 313 = (some .int) := rfl
set_option maxRecDepth 20000 in
theorem is_313 {sc : xm_Sc} : xe_is (XE sc) 313 = false := rfl
set_option maxRecDepth 20000 in
theorem np_313 {sc : xm_Sc} : xe_np (XE sc) 313 = 2 := rfl
/- method 314: X12_typeFor -/
def b_X12_typeFor_0 : List (Nat × Jvm.ClassFile.Instr × Nat) := [(0, .iload_n 2, 1), (1, .bipush 31, 2), (3, .imul, 1), (4, .iload_n 3, 1), (5, .iadd, 1), (6, .iconst 3, 1), (7, .imul, 1), (8, .iload_n 1, 1), (9, .iadd, 1), (10, .sipush 4095, 3), (13, .iand, 1), (14, .istore 4, 2), (16, .aload_n 0, 1), (17, .getfield 112, 3), (20, .iload 4, 2), (22, .iaload, 1), (23, .istore 5, 2)]
set_option maxRecDepth 20000 in
theorem k_X12_typeFor_0 {sc : xm_Sc} : xm_bok (xe_cy (XE sc) 314) b_X12_typeFor_0 := by show xm_bok cX12_typeFor _; unfold xm_bok; decide +kernel
def b_X12_typeFor_25 : List (Nat × Jvm.ClassFile.Instr × Nat) := [(25, .iload 5, 2), (27, .ifCond .lt 51, 3)]
set_option maxRecDepth 20000 in
theorem k_X12_typeFor_25 {sc : xm_Sc} : xm_bok (xe_cy (XE sc) 314) b_X12_typeFor_25 := by show xm_bok cX12_typeFor _; unfold xm_bok; decide +kernel
def b_X12_typeFor_30 : List (Nat × Jvm.ClassFile.Instr × Nat) := [(30, .aload_n 0, 1), (31, .getfield 91, 3), (34, .iload 5, 2), (36, .iaload, 1), (37, .iload_n 1, 1), (38, .if_icmp .ne 28, 3)]
set_option maxRecDepth 20000 in
theorem k_X12_typeFor_30 {sc : xm_Sc} : xm_bok (xe_cy (XE sc) 314) b_X12_typeFor_30 := by show xm_bok cX12_typeFor _; unfold xm_bok; decide +kernel
def b_X12_typeFor_41 : List (Nat × Jvm.ClassFile.Instr × Nat) := [(41, .aload_n 0, 1), (42, .getfield 94, 3), (45, .iload 5, 2), (47, .iaload, 1), (48, .iload_n 2, 1), (49, .if_icmp .ne 17, 3)]
set_option maxRecDepth 20000 in
theorem k_X12_typeFor_41 {sc : xm_Sc} : xm_bok (xe_cy (XE sc) 314) b_X12_typeFor_41 := by show xm_bok cX12_typeFor _; unfold xm_bok; decide +kernel
def b_X12_typeFor_52 : List (Nat × Jvm.ClassFile.Instr × Nat) := [(52, .aload_n 0, 1), (53, .getfield 97, 3), (56, .iload 5, 2), (58, .iaload, 1), (59, .iload_n 3, 1), (60, .if_icmp .ne 6, 3)]
set_option maxRecDepth 20000 in
theorem k_X12_typeFor_52 {sc : xm_Sc} : xm_bok (xe_cy (XE sc) 314) b_X12_typeFor_52 := by show xm_bok cX12_typeFor _; unfold xm_bok; decide +kernel
def b_X12_typeFor_63 : List (Nat × Jvm.ClassFile.Instr × Nat) := [(63, .iload 5, 2), (65, .ireturn, 1)]
set_option maxRecDepth 20000 in
theorem k_X12_typeFor_63 {sc : xm_Sc} : xm_bok (xe_cy (XE sc) 314) b_X12_typeFor_63 := by show xm_bok cX12_typeFor _; unfold xm_bok; decide +kernel
def b_X12_typeFor_66 : List (Nat × Jvm.ClassFile.Instr × Nat) := [(66, .aload_n 0, 1), (67, .getfield 109, 3), (70, .iload 5, 2), (72, .iaload, 1), (73, .istore 5, 2), (75, .goto (-50), 3)]
set_option maxRecDepth 20000 in
theorem k_X12_typeFor_66 {sc : xm_Sc} : xm_bok (xe_cy (XE sc) 314) b_X12_typeFor_66 := by show xm_bok cX12_typeFor _; unfold xm_bok; decide +kernel
def b_X12_typeFor_78 : List (Nat × Jvm.ClassFile.Instr × Nat) := [(78, .aload_n 0, 1), (79, .getfield 262, 3), (82, .istore 5, 2), (84, .aload_n 0, 1), (85, .dup, 1), (86, .getfield 262, 3), (89, .iconst 1, 1), (90, .iadd, 1), (91, .putfield 262, 3), (94, .aload_n 0, 1), (95, .getfield 91, 3), (98, .iload 5, 2), (100, .iload_n 1, 1), (101, .iastore, 1), (102, .aload_n 0, 1), (103, .getfield 94, 3), (106, .iload 5, 2), (108, .iload_n 2, 1), (109, .iastore, 1), (110, .aload_n 0, 1), (111, .getfield 97, 3), (114, .iload 5, 2), (116, .iload_n 3, 1), (117, .iastore, 1), (118, .iload_n 1, 1), (119, .iconst 2, 1), (120, .if_icmp .ne 23, 3)]
set_option maxRecDepth 20000 in
theorem k_X12_typeFor_78 {sc : xm_Sc} : xm_bok (xe_cy (XE sc) 314) b_X12_typeFor_78 := by show xm_bok cX12_typeFor _; unfold xm_bok; decide +kernel
def b_X12_typeFor_123 : List (Nat × Jvm.ClassFile.Instr × Nat) := [(123, .iconst 1, 1), (124, .aload_n 0, 1), (125, .getfield 100, 3), (128, .iload_n 2, 1), (129, .iaload, 1), (130, .aload_n 0, 1), (131, .getfield 100, 3), (134, .iload_n 3, 1), (135, .iaload, 1), (136, .invokestatic 265, 3)]
set_option maxRecDepth 20000 in
theorem k_X12_typeFor_123 {sc : xm_Sc} : xm_bok (xe_cy (XE sc) 314) b_X12_typeFor_123 := by show xm_bok cX12_typeFor _; unfold xm_bok; decide +kernel
def b_X12_typeFor_139 : List (Nat × Jvm.ClassFile.Instr × Nat) := [(139, .iadd, 1), (140, .goto 16, 3)]
set_option maxRecDepth 20000 in
theorem k_X12_typeFor_139 {sc : xm_Sc} : xm_bok (xe_cy (XE sc) 314) b_X12_typeFor_139 := by show xm_bok cX12_typeFor _; unfold xm_bok; decide +kernel
def b_X12_typeFor_143 : List (Nat × Jvm.ClassFile.Instr × Nat) := [(143, .aload_n 0, 1), (144, .getfield 100, 3), (147, .iload_n 2, 1), (148, .iaload, 1), (149, .aload_n 0, 1), (150, .getfield 100, 3), (153, .iload_n 3, 1), (154, .iaload, 1), (155, .iadd, 1)]
set_option maxRecDepth 20000 in
theorem k_X12_typeFor_143 {sc : xm_Sc} : xm_bok (xe_cy (XE sc) 314) b_X12_typeFor_143 := by show xm_bok cX12_typeFor _; unfold xm_bok; decide +kernel
def b_X12_typeFor_156 : List (Nat × Jvm.ClassFile.Instr × Nat) := [(156, .istore 6, 2), (158, .aload_n 0, 1), (159, .getfield 100, 3), (162, .iload 5, 2), (164, .iload 6, 2), (166, .sipush 4096, 3), (169, .if_icmp .le 9, 3)]
set_option maxRecDepth 20000 in
theorem k_X12_typeFor_156 {sc : xm_Sc} : xm_bok (xe_cy (XE sc) 314) b_X12_typeFor_156 := by show xm_bok cX12_typeFor _; unfold xm_bok; decide +kernel
def b_X12_typeFor_172 : List (Nat × Jvm.ClassFile.Instr × Nat) := [(172, .sipush 4096, 3), (175, .goto 5, 3)]
set_option maxRecDepth 20000 in
theorem k_X12_typeFor_172 {sc : xm_Sc} : xm_bok (xe_cy (XE sc) 314) b_X12_typeFor_172 := by show xm_bok cX12_typeFor _; unfold xm_bok; decide +kernel
def b_X12_typeFor_178 : List (Nat × Jvm.ClassFile.Instr × Nat) := [(178, .iload 6, 2)]
set_option maxRecDepth 20000 in
theorem k_X12_typeFor_178 {sc : xm_Sc} : xm_bok (xe_cy (XE sc) 314) b_X12_typeFor_178 := by show xm_bok cX12_typeFor _; unfold xm_bok; decide +kernel
def b_X12_typeFor_180 : List (Nat × Jvm.ClassFile.Instr × Nat) := [(180, .iastore, 1), (181, .aload_n 0, 1), (182, .getfield 103, 3), (185, .iload 5, 2), (187, .iload_n 1, 1), (188, .iconst 2, 1), (189, .if_icmp .ne 25, 3)]
set_option maxRecDepth 20000 in
theorem k_X12_typeFor_180 {sc : xm_Sc} : xm_bok (xe_cy (XE sc) 314) b_X12_typeFor_180 := by show xm_bok cX12_typeFor _; unfold xm_bok; decide +kernel
def b_X12_typeFor_192 : List (Nat × Jvm.ClassFile.Instr × Nat) := [(192, .iload_n 2, 1), (193, .sipush 3200, 3), (196, .if_icmp .ne 14, 3)]
set_option maxRecDepth 20000 in
theorem k_X12_typeFor_192 {sc : xm_Sc} : xm_bok (xe_cy (XE sc) 314) b_X12_typeFor_192 := by show xm_bok cX12_typeFor _; unfold xm_bok; decide +kernel
def b_X12_typeFor_199 : List (Nat × Jvm.ClassFile.Instr × Nat) := [(199, .iload_n 3, 1), (200, .sipush 3200, 3), (203, .if_icmp .ne 7, 3)]
set_option maxRecDepth 20000 in
theorem k_X12_typeFor_199 {sc : xm_Sc} : xm_bok (xe_cy (XE sc) 314) b_X12_typeFor_199 := by show xm_bok cX12_typeFor _; unfold xm_bok; decide +kernel
def b_X12_typeFor_206 : List (Nat × Jvm.ClassFile.Instr × Nat) := [(206, .iconst 1, 1), (207, .goto 32, 3)]
set_option maxRecDepth 20000 in
theorem k_X12_typeFor_206 {sc : xm_Sc} : xm_bok (xe_cy (XE sc) 314) b_X12_typeFor_206 := by show xm_bok cX12_typeFor _; unfold xm_bok; decide +kernel
def b_X12_typeFor_210 : List (Nat × Jvm.ClassFile.Instr × Nat) := [(210, .iconst 0, 1), (211, .goto 28, 3)]
set_option maxRecDepth 20000 in
theorem k_X12_typeFor_210 {sc : xm_Sc} : xm_bok (xe_cy (XE sc) 314) b_X12_typeFor_210 := by show xm_bok cX12_typeFor _; unfold xm_bok; decide +kernel
def b_X12_typeFor_214 : List (Nat × Jvm.ClassFile.Instr × Nat) := [(214, .iload_n 2, 1), (215, .iload_n 3, 1), (216, .if_icmp .ne 22, 3)]
set_option maxRecDepth 20000 in
theorem k_X12_typeFor_214 {sc : xm_Sc} : xm_bok (xe_cy (XE sc) 314) b_X12_typeFor_214 := by show xm_bok cX12_typeFor _; unfold xm_bok; decide +kernel
def b_X12_typeFor_219 : List (Nat × Jvm.ClassFile.Instr × Nat) := [(219, .iload 6, 2), (221, .sipush 2048, 3), (224, .if_icmp .gt 14, 3)]
set_option maxRecDepth 20000 in
theorem k_X12_typeFor_219 {sc : xm_Sc} : xm_bok (xe_cy (XE sc) 314) b_X12_typeFor_219 := by show xm_bok cX12_typeFor _; unfold xm_bok; decide +kernel
def b_X12_typeFor_227 : List (Nat × Jvm.ClassFile.Instr × Nat) := [(227, .iconst 2, 1), (228, .aload_n 0, 1), (229, .getfield 103, 3), (232, .iload_n 2, 1), (233, .iaload, 1), (234, .imul, 1), (235, .goto 4, 3)]
set_option maxRecDepth 20000 in
theorem k_X12_typeFor_227 {sc : xm_Sc} : xm_bok (xe_cy (XE sc) 314) b_X12_typeFor_227 := by show xm_bok cX12_typeFor _; unfold xm_bok; decide +kernel
def b_X12_typeFor_238 : List (Nat × Jvm.ClassFile.Instr × Nat) := [(238, .iconst 0, 1)]
set_option maxRecDepth 20000 in
theorem k_X12_typeFor_238 {sc : xm_Sc} : xm_bok (xe_cy (XE sc) 314) b_X12_typeFor_238 := by show xm_bok cX12_typeFor _; unfold xm_bok; decide +kernel
def b_X12_typeFor_239 : List (Nat × Jvm.ClassFile.Instr × Nat) := [(239, .iastore, 1), (240, .iconst 3, 1), (241, .aload_n 0, 1), (242, .getfield 106, 3), (245, .iload_n 2, 1), (246, .iaload, 1), (247, .iadd, 1), (248, .aload_n 0, 1), (249, .getfield 106, 3), (252, .iload_n 3, 1), (253, .iaload, 1), (254, .iadd, 1), (255, .istore 7, 2), (257, .aload_n 0, 1), (258, .getfield 106, 3), (261, .iload 5, 2), (263, .iload 7, 2), (265, .sipush 1000, 3), (268, .if_icmp .le 9, 3)]
set_option maxRecDepth 20000 in
theorem k_X12_typeFor_239 {sc : xm_Sc} : xm_bok (xe_cy (XE sc) 314) b_X12_typeFor_239 := by show xm_bok cX12_typeFor _; unfold xm_bok; decide +kernel
def b_X12_typeFor_271 : List (Nat × Jvm.ClassFile.Instr × Nat) := [(271, .sipush 1000, 3), (274, .goto 5, 3)]
set_option maxRecDepth 20000 in
theorem k_X12_typeFor_271 {sc : xm_Sc} : xm_bok (xe_cy (XE sc) 314) b_X12_typeFor_271 := by show xm_bok cX12_typeFor _; unfold xm_bok; decide +kernel
def b_X12_typeFor_277 : List (Nat × Jvm.ClassFile.Instr × Nat) := [(277, .iload 7, 2)]
set_option maxRecDepth 20000 in
theorem k_X12_typeFor_277 {sc : xm_Sc} : xm_bok (xe_cy (XE sc) 314) b_X12_typeFor_277 := by show xm_bok cX12_typeFor _; unfold xm_bok; decide +kernel
def b_X12_typeFor_279 : List (Nat × Jvm.ClassFile.Instr × Nat) := [(279, .iastore, 1), (280, .aload_n 0, 1), (281, .getfield 109, 3), (284, .iload 5, 2), (286, .aload_n 0, 1), (287, .getfield 112, 3), (290, .iload 4, 2), (292, .iaload, 1), (293, .iastore, 1), (294, .aload_n 0, 1), (295, .getfield 112, 3), (298, .iload 4, 2), (300, .iload 5, 2), (302, .iastore, 1), (303, .iload 5, 2), (305, .ireturn, 1)]
set_option maxRecDepth 20000 in
theorem k_X12_typeFor_279 {sc : xm_Sc} : xm_bok (xe_cy (XE sc) 314) b_X12_typeFor_279 := by show xm_bok cX12_typeFor _; unfold xm_bok; decide +kernel
set_option maxRecDepth 20000 in
theorem cn_314 {sc : xm_Sc} : xe_cn (XE sc) 314 = 12 := rfl
set_option maxRecDepth 20000 in
theorem ml_314 {sc : xm_Sc} : xe_ml (XE sc) 314 = 8 := rfl
set_option maxRecDepth 20000 in
theorem ry_314 {sc : xm_Sc} : xe_ry (XE sc) 314 = (some .int) := rfl
set_option maxRecDepth 20000 in
theorem is_314 {sc : xm_Sc} : xe_is (XE sc) 314 = false := rfl
set_option maxRecDepth 20000 in
theorem np_314 {sc : xm_Sc} : xe_np (XE sc) 314 = 3 := rfl
/- method 315: X12_typeRoot -/
def b_X12_typeRoot_0 : List (Nat × Jvm.ClassFile.Instr × Nat) := [(0, .aload_n 0, 1), (1, .aload_n 0, 1), (2, .iload_n 1, 1), (3, .invokevirtual 561, 3)]
set_option maxRecDepth 20000 in
theorem k_X12_typeRoot_0 {sc : xm_Sc} : xm_bok (xe_cy (XE sc) 315) b_X12_typeRoot_0 := by show xm_bok cX12_typeRoot _; unfold xm_bok; decide +kernel
def b_X12_typeRoot_6 : List (Nat × Jvm.ClassFile.Instr × Nat) := [(6, .ifCond .eq 17, 3)]
set_option maxRecDepth 20000 in
theorem k_X12_typeRoot_6 {sc : xm_Sc} : xm_bok (xe_cy (XE sc) 315) b_X12_typeRoot_6 := by show xm_bok cX12_typeRoot _; unfold xm_bok; decide +kernel
def b_X12_typeRoot_9 : List (Nat × Jvm.ClassFile.Instr × Nat) := [(9, .iload_n 3, 1), (10, .iconst 0, 1), (11, .bipush 7, 2), (13, .invokestatic 211, 3)]
set_option maxRecDepth 20000 in
theorem k_X12_typeRoot_9 {sc : xm_Sc} : xm_bok (xe_cy (XE sc) 315) b_X12_typeRoot_9 := by show xm_bok cX12_typeRoot _; unfold xm_bok; decide +kernel
def b_X12_typeRoot_16 : List (Nat × Jvm.ClassFile.Instr × Nat) := [(16, .ifCond .eq 7, 3)]
set_option maxRecDepth 20000 in
theorem k_X12_typeRoot_16 {sc : xm_Sc} : xm_bok (xe_cy (XE sc) 315) b_X12_typeRoot_16 := by show xm_bok cX12_typeRoot _; unfold xm_bok; decide +kernel
def b_X12_typeRoot_19 : List (Nat × Jvm.ClassFile.Instr × Nat) := [(19, .iconst 0, 1), (20, .goto 4, 3)]
set_option maxRecDepth 20000 in
theorem k_X12_typeRoot_19 {sc : xm_Sc} : xm_bok (xe_cy (XE sc) 315) b_X12_typeRoot_19 := by show xm_bok cX12_typeRoot _; unfold xm_bok; decide +kernel
def b_X12_typeRoot_23 : List (Nat × Jvm.ClassFile.Instr × Nat) := [(23, .iconst 1, 1)]
set_option maxRecDepth 20000 in
theorem k_X12_typeRoot_23 {sc : xm_Sc} : xm_bok (xe_cy (XE sc) 315) b_X12_typeRoot_23 := by show xm_bok cX12_typeRoot _; unfold xm_bok; decide +kernel
def b_X12_typeRoot_24 : List (Nat × Jvm.ClassFile.Instr × Nat) := [(24, .putfield 205, 3), (27, .aload_n 0, 1), (28, .getfield 205, 3), (31, .ifCond .gt 14, 3)]
set_option maxRecDepth 20000 in
theorem k_X12_typeRoot_24 {sc : xm_Sc} : xm_bok (xe_cy (XE sc) 315) b_X12_typeRoot_24 := by show xm_bok cX12_typeRoot _; unfold xm_bok; decide +kernel
def b_X12_typeRoot_34 : List (Nat × Jvm.ClassFile.Instr × Nat) := [(34, .aload_n 0, 1), (35, .getfield 54, 3), (38, .iload_n 1, 1), (39, .iaload, 1), (40, .bipush 11, 2), (42, .if_icmp .ne 5, 3)]
set_option maxRecDepth 20000 in
theorem k_X12_typeRoot_34 {sc : xm_Sc} : xm_bok (xe_cy (XE sc) 315) b_X12_typeRoot_34 := by show xm_bok cX12_typeRoot _; unfold xm_bok; decide +kernel
def b_X12_typeRoot_45 : List (Nat × Jvm.ClassFile.Instr × Nat) := [(45, .lconst 0, 1), (46, .lreturn, 1)]
set_option maxRecDepth 20000 in
theorem k_X12_typeRoot_45 {sc : xm_Sc} : xm_bok (xe_cy (XE sc) 315) b_X12_typeRoot_45 := by show xm_bok cX12_typeRoot _; unfold xm_bok; decide +kernel
def b_X12_typeRoot_47 : List (Nat × Jvm.ClassFile.Instr × Nat) := [(47, .aload_n 0, 1), (48, .getfield 115, 3), (51, .bipush 8, 2), (53, .iload_n 2, 1), (54, .ifCond .eq 12, 3)]
set_option maxRecDepth 20000 in
theorem k_X12_typeRoot_47 {sc : xm_Sc} : xm_bok (xe_cy (XE sc) 315) b_X12_typeRoot_47 := by show xm_bok cX12_typeRoot _; unfold xm_bok; decide +kernel
def b_X12_typeRoot_57 : List (Nat × Jvm.ClassFile.Instr × Nat) := [(57, .aload_n 0, 1), (58, .getfield 72, 3), (61, .iload_n 1, 1), (62, .iaload, 1), (63, .goto 9, 3)]
set_option maxRecDepth 20000 in
theorem k_X12_typeRoot_57 {sc : xm_Sc} : xm_bok (xe_cy (XE sc) 315) b_X12_typeRoot_57 := by show xm_bok cX12_typeRoot _; unfold xm_bok; decide +kernel
def b_X12_typeRoot_66 : List (Nat × Jvm.ClassFile.Instr × Nat) := [(66, .aload_n 0, 1), (67, .getfield 69, 3), (70, .iload_n 1, 1), (71, .iaload, 1)]
set_option maxRecDepth 20000 in
theorem k_X12_typeRoot_66 {sc : xm_Sc} : xm_bok (xe_cy (XE sc) 315) b_X12_typeRoot_66 := by show xm_bok cX12_typeRoot _; unfold xm_bok; decide +kernel
def b_X12_typeRoot_72 : List (Nat × Jvm.ClassFile.Instr × Nat) := [(72, .imul, 1), (73, .iload_n 3, 1), (74, .iadd, 1), (75, .iaload, 1), (76, .i2l, 1), (77, .ldc2_w 430, 3), (80, .land, 1), (81, .lreturn, 1)]
set_option maxRecDepth 20000 in
theorem k_X12_typeRoot_72 {sc : xm_Sc} : xm_bok (xe_cy (XE sc) 315) b_X12_typeRoot_72 := by show xm_bok cX12_typeRoot _; unfold xm_bok; decide +kernel
set_option maxRecDepth 20000 in
theorem cn_315 {sc : xm_Sc} : xe_cn (XE sc) 315 = 12 := rfl
set_option maxRecDepth 20000 in
theorem ml_315 {sc : xm_Sc} : xe_ml (XE sc) 315 = 4 := rfl
set_option maxRecDepth 20000 in
theorem ry_315 {sc : xm_Sc} : xe_ry (XE sc) 315 = (some .long) := rfl
set_option maxRecDepth 20000 in
theorem is_315 {sc : xm_Sc} : xe_is (XE sc) 315 = false := rfl
set_option maxRecDepth 20000 in
theorem np_315 {sc : xm_Sc} : xe_np (XE sc) 315 = 3 := rfl
/- method 316: X12_typesOf -/
def b_X12_typesOf_0 : List (Nat × Jvm.ClassFile.Instr × Nat) := [(0, .aload_n 0, 1), (1, .getfield 19, 3), (4, .iload_n 1, 1), (5, .iaload, 1), (6, .istore_n 2, 1), (7, .aload_n 0, 1), (8, .getfield 22, 3), (11, .iload_n 1, 1), (12, .iaload, 1), (13, .istore_n 3, 1), (14, .aload_n 0, 1), (15, .getfield 16, 3), (18, .iload_n 1, 1), (19, .iaload, 1), (20, .tableswitch 365 0 12 #[68, 109, 115, 167, 167, 230, 230, 293, 317, 336, 336, 365, 358], 68)]
set_option maxRecDepth 20000 in
theorem k_X12_typesOf_0 {sc : xm_Sc} : xm_bok (xe_cy (XE sc) 316) b_X12_typesOf_0 := by show xm_bok cX12_typesOf _; unfold xm_bok; decide +kernel
def b_X12_typesOf_88 : List (Nat × Jvm.ClassFile.Instr × Nat) := [(88, .aload_n 0, 1), (89, .getfield 34, 3), (92, .iload_n 1, 1), (93, .aload_n 0, 1), (94, .getfield 34, 3), (97, .iload_n 2, 1), (98, .iaload, 1), (99, .iastore, 1), (100, .aload_n 0, 1), (101, .getfield 37, 3), (104, .iload_n 1, 1), (105, .aload_n 0, 1), (106, .getfield 37, 3), (109, .iload_n 3, 1), (110, .iaload, 1), (111, .iastore, 1), (112, .aload_n 0, 1), (113, .aload_n 0, 1), (114, .getfield 37, 3), (117, .iload_n 2, 1), (118, .iaload, 1), (119, .aload_n 0, 1), (120, .getfield 34, 3), (123, .iload_n 3, 1), (124, .iaload, 1), (125, .invokevirtual 250, 3)]
set_option maxRecDepth 20000 in
theorem k_X12_typesOf_88 {sc : xm_Sc} : xm_bok (xe_cy (XE sc) 316) b_X12_typesOf_88 := by show xm_bok cX12_typesOf _; unfold xm_bok; decide +kernel
def b_X12_typesOf_128 : List (Nat × Jvm.ClassFile.Instr × Nat) := [(128, .ireturn, 1)]
set_option maxRecDepth 20000 in
theorem k_X12_typesOf_128 {sc : xm_Sc} : xm_bok (xe_cy (XE sc) 316) b_X12_typesOf_128 := by show xm_bok cX12_typesOf _; unfold xm_bok; decide +kernel
def b_X12_typesOf_129 : List (Nat × Jvm.ClassFile.Instr × Nat) := [(129, .aload_n 0, 1), (130, .iload_n 1, 1), (131, .invokevirtual 254, 3)]
set_option maxRecDepth 20000 in
theorem k_X12_typesOf_129 {sc : xm_Sc} : xm_bok (xe_cy (XE sc) 316) b_X12_typesOf_129 := by show xm_bok cX12_typesOf _; unfold xm_bok; decide +kernel
def b_X12_typesOf_134 : List (Nat × Jvm.ClassFile.Instr × Nat) := [(134, .ireturn, 1)]
set_option maxRecDepth 20000 in
theorem k_X12_typesOf_134 {sc : xm_Sc} : xm_bok (xe_cy (XE sc) 316) b_X12_typesOf_134 := by show xm_bok cX12_typesOf _; unfold xm_bok; decide +kernel
def b_X12_typesOf_135 : List (Nat × Jvm.ClassFile.Instr × Nat) := [(135, .aload_n 0, 1), (136, .getfield 34, 3), (139, .iload_n 1, 1), (140, .aload_n 0, 1), (141, .getfield 34, 3), (144, .iload_n 2, 1), (145, .iaload, 1), (146, .iastore, 1), (147, .aload_n 0, 1), (148, .getfield 37, 3), (151, .iload_n 1, 1), (152, .aload_n 0, 1), (153, .iconst 3, 1), (154, .aload_n 0, 1), (155, .getfield 37, 3), (158, .iload_n 2, 1), (159, .iaload, 1), (160, .aload_n 0, 1), (161, .getfield 37, 3), (164, .iload_n 3, 1), (165, .iaload, 1), (166, .invokevirtual 236, 3)]
set_option maxRecDepth 20000 in
theorem k_X12_typesOf_135 {sc : xm_Sc} : xm_bok (xe_cy (XE sc) 316) b_X12_typesOf_135 := by show xm_bok cX12_typesOf _; unfold xm_bok; decide +kernel
def b_X12_typesOf_169 : List (Nat × Jvm.ClassFile.Instr × Nat) := [(169, .iastore, 1), (170, .aload_n 0, 1), (171, .aload_n 0, 1), (172, .getfield 34, 3), (175, .iload_n 2, 1), (176, .iaload, 1), (177, .aload_n 0, 1), (178, .getfield 34, 3), (181, .iload_n 3, 1), (182, .iaload, 1), (183, .invokevirtual 250, 3)]
set_option maxRecDepth 20000 in
theorem k_X12_typesOf_169 {sc : xm_Sc} : xm_bok (xe_cy (XE sc) 316) b_X12_typesOf_169 := by show xm_bok cX12_typesOf _; unfold xm_bok; decide +kernel
def b_X12_typesOf_186 : List (Nat × Jvm.ClassFile.Instr × Nat) := [(186, .ireturn, 1)]
set_option maxRecDepth 20000 in
theorem k_X12_typesOf_186 {sc : xm_Sc} : xm_bok (xe_cy (XE sc) 316) b_X12_typesOf_186 := by show xm_bok cX12_typesOf _; unfold xm_bok; decide +kernel
def b_X12_typesOf_187 : List (Nat × Jvm.ClassFile.Instr × Nat) := [(187, .aload_n 0, 1), (188, .getfield 34, 3), (191, .iload_n 1, 1), (192, .aload_n 0, 1), (193, .getfield 34, 3), (196, .iload_n 2, 1), (197, .iaload, 1), (198, .iastore, 1), (199, .aload_n 0, 1), (200, .getfield 37, 3), (203, .iload_n 1, 1), (204, .aload_n 0, 1), (205, .getfield 16, 3), (208, .iload_n 1, 1), (209, .iaload, 1), (210, .iconst 3, 1), (211, .if_icmp .ne 21, 3)]
set_option maxRecDepth 20000 in
theorem k_X12_typesOf_187 {sc : xm_Sc} : xm_bok (xe_cy (XE sc) 316) b_X12_typesOf_187 := by show xm_bok cX12_typesOf _; unfold xm_bok; decide +kernel
def b_X12_typesOf_214 : List (Nat × Jvm.ClassFile.Instr × Nat) := [(214, .aload_n 0, 1), (215, .iconst 2, 1), (216, .aload_n 0, 1), (217, .getfield 37, 3), (220, .iload_n 2, 1), (221, .iaload, 1), (222, .aload_n 0, 1), (223, .invokevirtual 246, 3)]
set_option maxRecDepth 20000 in
theorem k_X12_typesOf_214 {sc : xm_Sc} : xm_bok (xe_cy (XE sc) 316) b_X12_typesOf_214 := by show xm_bok cX12_typesOf _; unfold xm_bok; decide +kernel
def b_X12_typesOf_226 : List (Nat × Jvm.ClassFile.Instr × Nat) := [(226, .invokevirtual 236, 3)]
set_option maxRecDepth 20000 in
theorem k_X12_typesOf_226 {sc : xm_Sc} : xm_bok (xe_cy (XE sc) 316) b_X12_typesOf_226 := by show xm_bok cX12_typesOf _; unfold xm_bok; decide +kernel
def b_X12_typesOf_229 : List (Nat × Jvm.ClassFile.Instr × Nat) := [(229, .goto 18, 3)]
set_option maxRecDepth 20000 in
theorem k_X12_typesOf_229 {sc : xm_Sc} : xm_bok (xe_cy (XE sc) 316) b_X12_typesOf_229 := by show xm_bok cX12_typesOf _; unfold xm_bok; decide +kernel
def b_X12_typesOf_232 : List (Nat × Jvm.ClassFile.Instr × Nat) := [(232, .aload_n 0, 1), (233, .iconst 2, 1), (234, .aload_n 0, 1), (235, .invokevirtual 246, 3)]
set_option maxRecDepth 20000 in
theorem k_X12_typesOf_232 {sc : xm_Sc} : xm_bok (xe_cy (XE sc) 316) b_X12_typesOf_232 := by show xm_bok cX12_typesOf _; unfold xm_bok; decide +kernel
def b_X12_typesOf_238 : List (Nat × Jvm.ClassFile.Instr × Nat) := [(238, .aload_n 0, 1), (239, .getfield 37, 3), (242, .iload_n 2, 1), (243, .iaload, 1), (244, .invokevirtual 236, 3)]
set_option maxRecDepth 20000 in
theorem k_X12_typesOf_238 {sc : xm_Sc} : xm_bok (xe_cy (XE sc) 316) b_X12_typesOf_238 := by show xm_bok cX12_typesOf _; unfold xm_bok; decide +kernel
def b_X12_typesOf_247 : List (Nat × Jvm.ClassFile.Instr × Nat) := [(247, .iastore, 1), (248, .iconst 1, 1), (249, .ireturn, 1)]
set_option maxRecDepth 20000 in
theorem k_X12_typesOf_247 {sc : xm_Sc} : xm_bok (xe_cy (XE sc) 316) b_X12_typesOf_247 := by show xm_bok cX12_typesOf _; unfold xm_bok; decide +kernel
def b_X12_typesOf_250 : List (Nat × Jvm.ClassFile.Instr × Nat) := [(250, .aload_n 0, 1), (251, .getfield 34, 3), (254, .iload_n 1, 1), (255, .aload_n 0, 1), (256, .getfield 16, 3), (259, .iload_n 1, 1), (260, .iaload, 1), (261, .iconst 5, 1), (262, .if_icmp .ne 21, 3)]
set_option maxRecDepth 20000 in
theorem k_X12_typesOf_250 {sc : xm_Sc} : xm_bok (xe_cy (XE sc) 316) b_X12_typesOf_250 := by show xm_bok cX12_typesOf _; unfold xm_bok; decide +kernel
def b_X12_typesOf_265 : List (Nat × Jvm.ClassFile.Instr × Nat) := [(265, .aload_n 0, 1), (266, .iconst 3, 1), (267, .aload_n 0, 1), (268, .getfield 34, 3), (271, .iload_n 2, 1), (272, .iaload, 1), (273, .aload_n 0, 1), (274, .invokevirtual 246, 3)]
set_option maxRecDepth 20000 in
theorem k_X12_typesOf_265 {sc : xm_Sc} : xm_bok (xe_cy (XE sc) 316) b_X12_typesOf_265 := by show xm_bok cX12_typesOf _; unfold xm_bok; decide +kernel
def b_X12_typesOf_277 : List (Nat × Jvm.ClassFile.Instr × Nat) := [(277, .invokevirtual 236, 3)]
set_option maxRecDepth 20000 in
theorem k_X12_typesOf_277 {sc : xm_Sc} : xm_bok (xe_cy (XE sc) 316) b_X12_typesOf_277 := by show xm_bok cX12_typesOf _; unfold xm_bok; decide +kernel
def b_X12_typesOf_280 : List (Nat × Jvm.ClassFile.Instr × Nat) := [(280, .goto 18, 3)]
set_option maxRecDepth 20000 in
theorem k_X12_typesOf_280 {sc : xm_Sc} : xm_bok (xe_cy (XE sc) 316) b_X12_typesOf_280 := by show xm_bok cX12_typesOf _; unfold xm_bok; decide +kernel
def b_X12_typesOf_283 : List (Nat × Jvm.ClassFile.Instr × Nat) := [(283, .aload_n 0, 1), (284, .iconst 3, 1), (285, .aload_n 0, 1), (286, .invokevirtual 246, 3)]
set_option maxRecDepth 20000 in
theorem k_X12_typesOf_283 {sc : xm_Sc} : xm_bok (xe_cy (XE sc) 316) b_X12_typesOf_283 := by show xm_bok cX12_typesOf _; unfold xm_bok; decide +kernel
def b_X12_typesOf_289 : List (Nat × Jvm.ClassFile.Instr × Nat) := [(289, .aload_n 0, 1), (290, .getfield 34, 3), (293, .iload_n 2, 1), (294, .iaload, 1), (295, .invokevirtual 236, 3)]
set_option maxRecDepth 20000 in
theorem k_X12_typesOf_289 {sc : xm_Sc} : xm_bok (xe_cy (XE sc) 316) b_X12_typesOf_289 := by show xm_bok cX12_typesOf _; unfold xm_bok; decide +kernel
def b_X12_typesOf_298 : List (Nat × Jvm.ClassFile.Instr × Nat) := [(298, .iastore, 1), (299, .aload_n 0, 1), (300, .getfield 37, 3), (303, .iload_n 1, 1), (304, .aload_n 0, 1), (305, .getfield 37, 3), (308, .iload_n 2, 1), (309, .iaload, 1), (310, .iastore, 1), (311, .iconst 1, 1), (312, .ireturn, 1)]
set_option maxRecDepth 20000 in
theorem k_X12_typesOf_298 {sc : xm_Sc} : xm_bok (xe_cy (XE sc) 316) b_X12_typesOf_298 := by show xm_bok cX12_typesOf _; unfold xm_bok; decide +kernel
def b_X12_typesOf_313 : List (Nat × Jvm.ClassFile.Instr × Nat) := [(313, .aload_n 0, 1), (314, .getfield 34, 3), (317, .iload_n 1, 1), (318, .aload_n 0, 1), (319, .invokevirtual 246, 3)]
set_option maxRecDepth 20000 in
theorem k_X12_typesOf_313 {sc : xm_Sc} : xm_bok (xe_cy (XE sc) 316) b_X12_typesOf_313 := by show xm_bok cX12_typesOf _; unfold xm_bok; decide +kernel
def b_X12_typesOf_322 : List (Nat × Jvm.ClassFile.Instr × Nat) := [(322, .iastore, 1), (323, .aload_n 0, 1), (324, .getfield 37, 3), (327, .iload_n 1, 1), (328, .aload_n 0, 1), (329, .getfield 34, 3), (332, .iload_n 1, 1), (333, .iaload, 1), (334, .iastore, 1), (335, .iconst 1, 1), (336, .ireturn, 1)]
set_option maxRecDepth 20000 in
theorem k_X12_typesOf_322 {sc : xm_Sc} : xm_bok (xe_cy (XE sc) 316) b_X12_typesOf_322 := by show xm_bok cX12_typesOf _; unfold xm_bok; decide +kernel
def b_X12_typesOf_337 : List (Nat × Jvm.ClassFile.Instr × Nat) := [(337, .aload_n 0, 1), (338, .getfield 34, 3), (341, .iload_n 1, 1), (342, .aload_n 0, 1), (343, .invokevirtual 246, 3)]
set_option maxRecDepth 20000 in
theorem k_X12_typesOf_337 {sc : xm_Sc} : xm_bok (xe_cy (XE sc) 316) b_X12_typesOf_337 := by show xm_bok cX12_typesOf _; unfold xm_bok; decide +kernel
def b_X12_typesOf_346 : List (Nat × Jvm.ClassFile.Instr × Nat) := [(346, .iastore, 1), (347, .aload_n 0, 1), (348, .getfield 37, 3), (351, .iload_n 1, 1), (352, .iconst 0, 1), (353, .iastore, 1), (354, .iconst 1, 1), (355, .ireturn, 1)]
set_option maxRecDepth 20000 in
theorem k_X12_typesOf_346 {sc : xm_Sc} : xm_bok (xe_cy (XE sc) 316) b_X12_typesOf_346 := by show xm_bok cX12_typesOf _; unfold xm_bok; decide +kernel
def b_X12_typesOf_356 : List (Nat × Jvm.ClassFile.Instr × Nat) := [(356, .aload_n 0, 1), (357, .getfield 34, 3), (360, .iload_n 1, 1), (361, .aload_n 0, 1), (362, .invokevirtual 246, 3)]
set_option maxRecDepth 20000 in
theorem k_X12_typesOf_356 {sc : xm_Sc} : xm_bok (xe_cy (XE sc) 316) b_X12_typesOf_356 := by show xm_bok cX12_typesOf _; unfold xm_bok; decide +kernel
def b_X12_typesOf_365 : List (Nat × Jvm.ClassFile.Instr × Nat) := [(365, .iastore, 1), (366, .aload_n 0, 1), (367, .getfield 37, 3), (370, .iload_n 1, 1), (371, .aload_n 0, 1), (372, .invokevirtual 246, 3)]
set_option maxRecDepth 20000 in
theorem k_X12_typesOf_365 {sc : xm_Sc} : xm_bok (xe_cy (XE sc) 316) b_X12_typesOf_365 := by show xm_bok cX12_typesOf _; unfold xm_bok; decide +kernel
def b_X12_typesOf_375 : List (Nat × Jvm.ClassFile.Instr × Nat) := [(375, .iastore, 1), (376, .iconst 1, 1), (377, .ireturn, 1)]
set_option maxRecDepth 20000 in
theorem k_X12_typesOf_375 {sc : xm_Sc} : xm_bok (xe_cy (XE sc) 316) b_X12_typesOf_375 := by show xm_bok cX12_typesOf _; unfold xm_bok; decide +kernel
def b_X12_typesOf_378 : List (Nat × Jvm.ClassFile.Instr × Nat) := [(378, .aload_n 0, 1), (379, .iload_n 1, 1), (380, .invokevirtual 258, 3)]
set_option maxRecDepth 20000 in
theorem k_X12_typesOf_378 {sc : xm_Sc} : xm_bok (xe_cy (XE sc) 316) b_X12_typesOf_378 := by show xm_bok cX12_typesOf _; unfold xm_bok; decide +kernel
def b_X12_typesOf_383 : List (Nat × Jvm.ClassFile.Instr × Nat) := [(383, .iconst 1, 1), (384, .ireturn, 1)]
set_option maxRecDepth 20000 in
theorem k_X12_typesOf_383 {sc : xm_Sc} : xm_bok (xe_cy (XE sc) 316) b_X12_typesOf_383 := by show xm_bok cX12_typesOf _; unfold xm_bok; decide +kernel
def b_X12_typesOf_385 : List (Nat × Jvm.ClassFile.Instr × Nat) := [(385, .iconst 1, 1), (386, .ireturn, 1)]
set_option maxRecDepth 20000 in
theorem k_X12_typesOf_385 {sc : xm_Sc} : xm_bok (xe_cy (XE sc) 316) b_X12_typesOf_385 := by show xm_bok cX12_typesOf _; unfold xm_bok; decide +kernel
set_option maxRecDepth 20000 in
theorem cn_316 {sc : xm_Sc} : xe_cn (XE sc) 316 = 12 := rfl
set_option maxRecDepth 20000 in
theorem ml_316 {sc : xm_Sc} : xe_ml (XE sc) 316 = 4 := rfl
set_option maxRecDepth 20000 in
theorem ry_316 {sc : xm_Sc} : xe_ry (XE sc) 316 = (some .boolean) := rfl
set_option maxRecDepth 20000 in
theorem is_316 {sc : xm_Sc} : xe_is (XE sc) 316 = false := rfl
set_option maxRecDepth 20000 in
theorem np_316 {sc : xm_Sc} : xe_np (XE sc) 316 = 1 := rfl
/- method 317: X12_value -/
def b_X12_value_0 : List (Nat × Jvm.ClassFile.Instr × Nat) := [(0, .aload_n 0, 1), (1, .iload_n 1, 1), (2, .iload_n 2, 1), (3, .invokevirtual 564, 3)]
set_option maxRecDepth 20000 in
theorem k_X12_value_0 {sc : xm_Sc} : xm_bok (xe_cy (XE sc) 317) b_X12_value_0 := by show xm_bok cX12_value _; unfold xm_bok; decide +kernel
def b_X12_value_6 : List (Nat × Jvm.ClassFile.Instr × Nat) := [(6, .istore_n 3, 1), (7, .aload_n 0, 1), (8, .getfield 205, 3), (11, .ifCond .le 5, 3)]
set_option maxRecDepth 20000 in
theorem k_X12_value_6 {sc : xm_Sc} : xm_bok (xe_cy (XE sc) 317) b_X12_value_6 := by show xm_bok cX12_value _; unfold xm_bok; decide +kernel
def b_X12_value_14 : List (Nat × Jvm.ClassFile.Instr × Nat) := [(14, .iconst 0, 1), (15, .ireturn, 1)]
set_option maxRecDepth 20000 in
theorem k_X12_value_14 {sc : xm_Sc} : xm_bok (xe_cy (XE sc) 317) b_X12_value_14 := by show xm_bok cX12_value _; unfold xm_bok; decide +kernel
def b_X12_value_16 : List (Nat × Jvm.ClassFile.Instr × Nat) := [(16, .iload_n 3, 1), (17, .ifCond .lt 23, 3)]
set_option maxRecDepth 20000 in
theorem k_X12_value_16 {sc : xm_Sc} : xm_bok (xe_cy (XE sc) 317) b_X12_value_16 := by show xm_bok cX12_value _; unfold xm_bok; decide +kernel
def b_X12_value_20 : List (Nat × Jvm.ClassFile.Instr × Nat) := [(20, .aload_n 0, 1), (21, .iload_n 3, 1), (22, .ifCond .ge 7, 3)]
set_option maxRecDepth 20000 in
theorem k_X12_value_20 {sc : xm_Sc} : xm_bok (xe_cy (XE sc) 317) b_X12_value_20 := by show xm_bok cX12_value _; unfold xm_bok; decide +kernel
def b_X12_value_25 : List (Nat × Jvm.ClassFile.Instr × Nat) := [(25, .iconst 0, 1), (26, .goto 4, 3)]
set_option maxRecDepth 20000 in
theorem k_X12_value_25 {sc : xm_Sc} : xm_bok (xe_cy (XE sc) 317) b_X12_value_25 := by show xm_bok cX12_value _; unfold xm_bok; decide +kernel
def b_X12_value_29 : List (Nat × Jvm.ClassFile.Instr × Nat) := [(29, .iload_n 3, 1)]
set_option maxRecDepth 20000 in
theorem k_X12_value_29 {sc : xm_Sc} : xm_bok (xe_cy (XE sc) 317) b_X12_value_29 := by show xm_bok cX12_value _; unfold xm_bok; decide +kernel
def b_X12_value_30 : List (Nat × Jvm.ClassFile.Instr × Nat) := [(30, .invokevirtual 532, 3)]
set_option maxRecDepth 20000 in
theorem k_X12_value_30 {sc : xm_Sc} : xm_bok (xe_cy (XE sc) 317) b_X12_value_30 := by show xm_bok cX12_value _; unfold xm_bok; decide +kernel
def b_X12_value_33 : List (Nat × Jvm.ClassFile.Instr × Nat) := [(33, .ifCond .eq 7, 3)]
set_option maxRecDepth 20000 in
theorem k_X12_value_33 {sc : xm_Sc} : xm_bok (xe_cy (XE sc) 317) b_X12_value_33 := by show xm_bok cX12_value _; unfold xm_bok; decide +kernel
def b_X12_value_36 : List (Nat × Jvm.ClassFile.Instr × Nat) := [(36, .iconst 1, 1), (37, .goto 4, 3)]
set_option maxRecDepth 20000 in
theorem k_X12_value_36 {sc : xm_Sc} : xm_bok (xe_cy (XE sc) 317) b_X12_value_36 := by show xm_bok cX12_value _; unfold xm_bok; decide +kernel
def b_X12_value_40 : List (Nat × Jvm.ClassFile.Instr × Nat) := [(40, .iconst 0, 1)]
set_option maxRecDepth 20000 in
theorem k_X12_value_40 {sc : xm_Sc} : xm_bok (xe_cy (XE sc) 317) b_X12_value_40 := by show xm_bok cX12_value _; unfold xm_bok; decide +kernel
def b_X12_value_41 : List (Nat × Jvm.ClassFile.Instr × Nat) := [(41, .istore 4, 2), (43, .aload_n 0, 1), (44, .iconst 0, 1), (45, .putfield 215, 3), (48, .iload_n 3, 1), (49, .ifCond .ge 6, 3)]
set_option maxRecDepth 20000 in
theorem k_X12_value_41 {sc : xm_Sc} : xm_bok (xe_cy (XE sc) 317) b_X12_value_41 := by show xm_bok cX12_value _; unfold xm_bok; decide +kernel
def b_X12_value_52 : List (Nat × Jvm.ClassFile.Instr × Nat) := [(52, .bipush (-2), 2), (54, .ireturn, 1)]
set_option maxRecDepth 20000 in
theorem k_X12_value_52 {sc : xm_Sc} : xm_bok (xe_cy (XE sc) 317) b_X12_value_52 := by show xm_bok cX12_value _; unfold xm_bok; decide +kernel
def b_X12_value_55 : List (Nat × Jvm.ClassFile.Instr × Nat) := [(55, .iload 4, 2), (57, .ifCond .ne 6, 3)]
set_option maxRecDepth 20000 in
theorem k_X12_value_55 {sc : xm_Sc} : xm_bok (xe_cy (XE sc) 317) b_X12_value_55 := by show xm_bok cX12_value _; unfold xm_bok; decide +kernel
def b_X12_value_60 : List (Nat × Jvm.ClassFile.Instr × Nat) := [(60, .bipush (-4), 2), (62, .ireturn, 1)]
set_option maxRecDepth 20000 in
theorem k_X12_value_60 {sc : xm_Sc} : xm_bok (xe_cy (XE sc) 317) b_X12_value_60 := by show xm_bok cX12_value _; unfold xm_bok; decide +kernel
def b_X12_value_63 : List (Nat × Jvm.ClassFile.Instr × Nat) := [(63, .aload_n 0, 1), (64, .iload_n 3, 1), (65, .invokevirtual 571, 3)]
set_option maxRecDepth 20000 in
theorem k_X12_value_63 {sc : xm_Sc} : xm_bok (xe_cy (XE sc) 317) b_X12_value_63 := by show xm_bok cX12_value _; unfold xm_bok; decide +kernel
def b_X12_value_68 : List (Nat × Jvm.ClassFile.Instr × Nat) := [(68, .aload_n 0, 1), (69, .invokevirtual 292, 3)]
set_option maxRecDepth 20000 in
theorem k_X12_value_68 {sc : xm_Sc} : xm_bok (xe_cy (XE sc) 317) b_X12_value_68 := by show xm_bok cX12_value _; unfold xm_bok; decide +kernel
def b_X12_value_72 : List (Nat × Jvm.ClassFile.Instr × Nat) := [(72, .ifCond .eq 7, 3)]
set_option maxRecDepth 20000 in
theorem k_X12_value_72 {sc : xm_Sc} : xm_bok (xe_cy (XE sc) 317) b_X12_value_72 := by show xm_bok cX12_value _; unfold xm_bok; decide +kernel
def b_X12_value_75 : List (Nat × Jvm.ClassFile.Instr × Nat) := [(75, .iconst (-1), 1), (76, .goto 7, 3)]
set_option maxRecDepth 20000 in
theorem k_X12_value_75 {sc : xm_Sc} : xm_bok (xe_cy (XE sc) 317) b_X12_value_75 := by show xm_bok cX12_value _; unfold xm_bok; decide +kernel
def b_X12_value_79 : List (Nat × Jvm.ClassFile.Instr × Nat) := [(79, .aload_n 0, 1), (80, .invokevirtual 568, 3)]
set_option maxRecDepth 20000 in
theorem k_X12_value_79 {sc : xm_Sc} : xm_bok (xe_cy (XE sc) 317) b_X12_value_79 := by show xm_bok cX12_value _; unfold xm_bok; decide +kernel
def b_X12_value_83 : List (Nat × Jvm.ClassFile.Instr × Nat) := [(83, .ireturn, 1)]
set_option maxRecDepth 20000 in
theorem k_X12_value_83 {sc : xm_Sc} : xm_bok (xe_cy (XE sc) 317) b_X12_value_83 := by show xm_bok cX12_value _; unfold xm_bok; decide +kernel
set_option maxRecDepth 20000 in
theorem cn_317 {sc : xm_Sc} : xe_cn (XE sc) 317 = 12 := rfl
set_option maxRecDepth 20000 in
theorem ml_317 {sc : xm_Sc} : xe_ml (XE sc) 317 = 5 := rfl
set_option maxRecDepth 20000 in
theorem ry_317 {sc : xm_Sc} : xe_ry (XE sc) 317 = (some .int) := rfl
set_option maxRecDepth 20000 in
theorem is_317 {sc : xm_Sc} : xe_is (XE sc) 317 = false := rfl
set_option maxRecDepth 20000 in
theorem np_317 {sc : xm_Sc} : xe_np (XE sc) 317 = 2 := rfl
/- method 318: X12_wipe -/
def b_X12_wipe_0 : List (Nat × Jvm.ClassFile.Instr × Nat) := [(0, .aload_n 0, 1), (1, .iconst 0, 1), (2, .putfield 205, 3), (5, .aload_n 0, 1), (6, .getfield 215, 3), (9, .istore_n 1, 1), (10, .aload_n 0, 1), (11, .iconst 0, 1), (12, .putfield 215, 3), (15, .iload_n 1, 1), (16, .ireturn, 1)]
set_option maxRecDepth 20000 in
theorem k_X12_wipe_0 {sc : xm_Sc} : xm_bok (xe_cy (XE sc) 318) b_X12_wipe_0 := by show xm_bok cX12_wipe _; unfold xm_bok; decide +kernel
set_option maxRecDepth 20000 in
theorem cn_318 {sc : xm_Sc} : xe_cn (XE sc) 318 = 12 := rfl
set_option maxRecDepth 20000 in
theorem ml_318 {sc : xm_Sc} : xe_ml (XE sc) 318 = 2 := rfl
set_option maxRecDepth 20000 in
theorem ry_318 {sc : xm_Sc} : xe_ry (XE sc) 318 = (some .int) := rfl
set_option maxRecDepth 20000 in
theorem is_318 {sc : xm_Sc} : xe_is (XE sc) 318 = false := rfl
set_option maxRecDepth 20000 in
theorem np_318 {sc : xm_Sc} : xe_np (XE sc) 318 = 0 := rfl
/- method 319: X12_within -/
def b_X12_within_0 : List (Nat × Jvm.ClassFile.Instr × Nat) := [(0, .iload_n 0, 1), (1, .iload_n 1, 1), (2, .if_icmp .lt 12, 3)]
set_option maxRecDepth 20000 in
theorem k_X12_within_0 {sc : xm_Sc} : xm_bok (xe_cy (XE sc) 319) b_X12_within_0 := by show xm_bok cX12_within _; unfold xm_bok; decide +kernel
def b_X12_within_5 : List (Nat × Jvm.ClassFile.Instr × Nat) := [(5, .iload_n 0, 1), (6, .iload_n 2, 1), (7, .if_icmp .gt 7, 3)]
set_option maxRecDepth 20000 in
theorem k_X12_within_5 {sc : xm_Sc} : xm_bok (xe_cy (XE sc) 319) b_X12_within_5 := by show xm_bok cX12_within _; unfold xm_bok; decide +kernel
def b_X12_within_10 : List (Nat × Jvm.ClassFile.Instr × Nat) := [(10, .iconst 1, 1), (11, .goto 4, 3)]
set_option maxRecDepth 20000 in
theorem k_X12_within_10 {sc : xm_Sc} : xm_bok (xe_cy (XE sc) 319) b_X12_within_10 := by show xm_bok cX12_within _; unfold xm_bok; decide +kernel
def b_X12_within_14 : List (Nat × Jvm.ClassFile.Instr × Nat) := [(14, .iconst 0, 1)]
set_option maxRecDepth 20000 in
theorem k_X12_within_14 {sc : xm_Sc} : xm_bok (xe_cy (XE sc) 319) b_X12_within_14 := by show xm_bok cX12_within _; unfold xm_bok; decide +kernel
def b_X12_within_15 : List (Nat × Jvm.ClassFile.Instr × Nat) := [(15, .ireturn, 1)]
set_option maxRecDepth 20000 in
theorem k_X12_within_15 {sc : xm_Sc} : xm_bok (xe_cy (XE sc) 319) b_X12_within_15 := by show xm_bok cX12_within _; unfold xm_bok; decide +kernel
set_option maxRecDepth 20000 in
theorem cn_319 {sc : xm_Sc} : xe_cn (XE sc) 319 = 12 := rfl
set_option maxRecDepth 20000 in
theorem ml_319 {sc : xm_Sc} : xe_ml (XE sc) 319 = 3 := rfl
set_option maxRecDepth 20000 in
theorem ry_319 {sc : xm_Sc} : xe_ry (XE sc) 319 = (some .boolean) := rfl
set_option maxRecDepth 20000 in
theorem is_319 {sc : xm_Sc} : xe_is (XE sc) 319 = true := rfl
set_option maxRecDepth 20000 in
theorem np_319 {sc : xm_Sc} : xe_np (XE sc) 319 = 3 := rfl
/- method 320: X12_witnessFault -/
def b_X12_witnessFault_0 : List (Nat × Jvm.ClassFile.Instr × Nat) := [(0, .iconst 0, 1), (1, .istore_n 1, 1)]
set_option maxRecDepth 20000 in
theorem k_X12_witnessFault_0 {sc : xm_Sc} : xm_bok (xe_cy (XE sc) 320) b_X12_witnessFault_0 := by show xm_bok cX12_witnessFault _; unfold xm_bok; decide +kernel
def b_X12_witnessFault_2 : List (Nat × Jvm.ClassFile.Instr × Nat) := [(2, .iload_n 1, 1), (3, .aload_n 0, 1), (4, .getfield 226, 3), (7, .if_icmp .ge 58, 3)]
set_option maxRecDepth 20000 in
theorem k_X12_witnessFault_2 {sc : xm_Sc} : xm_bok (xe_cy (XE sc) 320) b_X12_witnessFault_2 := by show xm_bok cX12_witnessFault _; unfold xm_bok; decide +kernel
def b_X12_witnessFault_10 : List (Nat × Jvm.ClassFile.Instr × Nat) := [(10, .aload_n 0, 1), (11, .getfield 16, 3), (14, .aload_n 0, 1), (15, .getfield 40, 3), (18, .iload_n 1, 1), (19, .iaload, 1), (20, .iaload, 1), (21, .bipush 10, 2), (23, .if_icmp .ne 36, 3)]
set_option maxRecDepth 20000 in
theorem k_X12_witnessFault_10 {sc : xm_Sc} : xm_bok (xe_cy (XE sc) 320) b_X12_witnessFault_10 := by show xm_bok cX12_witnessFault _; unfold xm_bok; decide +kernel
def b_X12_witnessFault_26 : List (Nat × Jvm.ClassFile.Instr × Nat) := [(26, .aload_n 0, 1), (27, .getfield 28, 3), (30, .aload_n 0, 1), (31, .getfield 40, 3), (34, .iload_n 1, 1), (35, .iaload, 1), (36, .iaload, 1), (37, .aload_n 0, 1), (38, .getfield 100, 3), (41, .aload_n 0, 1), (42, .getfield 37, 3), (45, .aload_n 0, 1), (46, .getfield 40, 3), (49, .iload_n 1, 1), (50, .iaload, 1), (51, .iaload, 1), (52, .iaload, 1), (53, .if_icmp .eq 6, 3)]
set_option maxRecDepth 20000 in
theorem k_X12_witnessFault_26 {sc : xm_Sc} : xm_bok (xe_cy (XE sc) 320) b_X12_witnessFault_26 := by show xm_bok cX12_witnessFault _; unfold xm_bok; decide +kernel
def b_X12_witnessFault_56 : List (Nat × Jvm.ClassFile.Instr × Nat) := [(56, .bipush 10, 2), (58, .ireturn, 1)]
set_option maxRecDepth 20000 in
theorem k_X12_witnessFault_56 {sc : xm_Sc} : xm_bok (xe_cy (XE sc) 320) b_X12_witnessFault_56 := by show xm_bok cX12_witnessFault _; unfold xm_bok; decide +kernel
def b_X12_witnessFault_59 : List (Nat × Jvm.ClassFile.Instr × Nat) := [(59, .iinc 1 1, 3), (62, .goto (-60), 3)]
set_option maxRecDepth 20000 in
theorem k_X12_witnessFault_59 {sc : xm_Sc} : xm_bok (xe_cy (XE sc) 320) b_X12_witnessFault_59 := by show xm_bok cX12_witnessFault _; unfold xm_bok; decide +kernel
def b_X12_witnessFault_65 : List (Nat × Jvm.ClassFile.Instr × Nat) := [(65, .iconst 0, 1), (66, .istore_n 1, 1)]
set_option maxRecDepth 20000 in
theorem k_X12_witnessFault_65 {sc : xm_Sc} : xm_bok (xe_cy (XE sc) 320) b_X12_witnessFault_65 := by show xm_bok cX12_witnessFault _; unfold xm_bok; decide +kernel
def b_X12_witnessFault_67 : List (Nat × Jvm.ClassFile.Instr × Nat) := [(67, .iload_n 1, 1), (68, .aload_n 0, 1), (69, .getfield 226, 3), (72, .if_icmp .ge 88, 3)]
set_option maxRecDepth 20000 in
theorem k_X12_witnessFault_67 {sc : xm_Sc} : xm_bok (xe_cy (XE sc) 320) b_X12_witnessFault_67 := by show xm_bok cX12_witnessFault _; unfold xm_bok; decide +kernel
def b_X12_witnessFault_75 : List (Nat × Jvm.ClassFile.Instr × Nat) := [(75, .aload_n 0, 1), (76, .getfield 40, 3), (79, .iload_n 1, 1), (80, .iaload, 1), (81, .istore_n 2, 1), (82, .aload_n 0, 1), (83, .getfield 16, 3), (86, .iload_n 2, 1), (87, .iaload, 1), (88, .bipush 10, 2), (90, .if_icmp .eq 6, 3)]
set_option maxRecDepth 20000 in
theorem k_X12_witnessFault_75 {sc : xm_Sc} : xm_bok (xe_cy (XE sc) 320) b_X12_witnessFault_75 := by show xm_bok cX12_witnessFault _; unfold xm_bok; decide +kernel
def b_X12_witnessFault_93 : List (Nat × Jvm.ClassFile.Instr × Nat) := [(93, .goto 61, 3)]
set_option maxRecDepth 20000 in
theorem k_X12_witnessFault_93 {sc : xm_Sc} : xm_bok (xe_cy (XE sc) 320) b_X12_witnessFault_93 := by show xm_bok cX12_witnessFault _; unfold xm_bok; decide +kernel
def b_X12_witnessFault_96 : List (Nat × Jvm.ClassFile.Instr × Nat) := [(96, .iconst 0, 1), (97, .istore_n 3, 1)]
set_option maxRecDepth 20000 in
theorem k_X12_witnessFault_96 {sc : xm_Sc} : xm_bok (xe_cy (XE sc) 320) b_X12_witnessFault_96 := by show xm_bok cX12_witnessFault _; unfold xm_bok; decide +kernel
def b_X12_witnessFault_98 : List (Nat × Jvm.ClassFile.Instr × Nat) := [(98, .iload_n 3, 1), (99, .aload_n 0, 1), (100, .getfield 28, 3), (103, .iload_n 2, 1), (104, .iaload, 1), (105, .if_icmp .ge 32, 3)]
set_option maxRecDepth 20000 in
theorem k_X12_witnessFault_98 {sc : xm_Sc} : xm_bok (xe_cy (XE sc) 320) b_X12_witnessFault_98 := by show xm_bok cX12_witnessFault _; unfold xm_bok; decide +kernel
def b_X12_witnessFault_108 : List (Nat × Jvm.ClassFile.Instr × Nat) := [(108, .aload_n 0, 1), (109, .getfield 141, 3), (112, .iload_n 3, 1), (113, .aload_n 0, 1), (114, .getfield 7, 3), (117, .aload_n 0, 1), (118, .getfield 25, 3), (121, .iload_n 2, 1), (122, .iaload, 1), (123, .iload_n 3, 1), (124, .iadd, 1), (125, .iaload, 1), (126, .bipush 48, 2), (128, .isub, 1), (129, .i2b, 1), (130, .bastore, 1), (131, .iinc 3 1, 3), (134, .goto (-36), 3)]
set_option maxRecDepth 20000 in
theorem k_X12_witnessFault_108 {sc : xm_Sc} : xm_bok (xe_cy (XE sc) 320) b_X12_witnessFault_108 := by show xm_bok cX12_witnessFault _; unfold xm_bok; decide +kernel
def b_X12_witnessFault_137 : List (Nat × Jvm.ClassFile.Instr × Nat) := [(137, .aload_n 0, 1), (138, .aload_n 0, 1), (139, .getfield 37, 3), (142, .iload_n 2, 1), (143, .iaload, 1), (144, .iconst 0, 1), (145, .invokevirtual 286, 3)]
set_option maxRecDepth 20000 in
theorem k_X12_witnessFault_137 {sc : xm_Sc} : xm_bok (xe_cy (XE sc) 320) b_X12_witnessFault_137 := by show xm_bok cX12_witnessFault _; unfold xm_bok; decide +kernel
def b_X12_witnessFault_148 : List (Nat × Jvm.ClassFile.Instr × Nat) := [(148, .ifCond .ne 6, 3)]
set_option maxRecDepth 20000 in
theorem k_X12_witnessFault_148 {sc : xm_Sc} : xm_bok (xe_cy (XE sc) 320) b_X12_witnessFault_148 := by show xm_bok cX12_witnessFault _; unfold xm_bok; decide +kernel
def b_X12_witnessFault_151 : List (Nat × Jvm.ClassFile.Instr × Nat) := [(151, .bipush 11, 2), (153, .ireturn, 1)]
set_option maxRecDepth 20000 in
theorem k_X12_witnessFault_151 {sc : xm_Sc} : xm_bok (xe_cy (XE sc) 320) b_X12_witnessFault_151 := by show xm_bok cX12_witnessFault _; unfold xm_bok; decide +kernel
def b_X12_witnessFault_154 : List (Nat × Jvm.ClassFile.Instr × Nat) := [(154, .iinc 1 1, 3), (157, .goto (-90), 3)]
set_option maxRecDepth 20000 in
theorem k_X12_witnessFault_154 {sc : xm_Sc} : xm_bok (xe_cy (XE sc) 320) b_X12_witnessFault_154 := by show xm_bok cX12_witnessFault _; unfold xm_bok; decide +kernel
def b_X12_witnessFault_160 : List (Nat × Jvm.ClassFile.Instr × Nat) := [(160, .iconst 0, 1), (161, .ireturn, 1)]
set_option maxRecDepth 20000 in
theorem k_X12_witnessFault_160 {sc : xm_Sc} : xm_bok (xe_cy (XE sc) 320) b_X12_witnessFault_160 := by show xm_bok cX12_witnessFault _; unfold xm_bok; decide +kernel
set_option maxRecDepth 20000 in
theorem cn_320 {sc : xm_Sc} : xe_cn (XE sc) 320 = 12 := rfl
set_option maxRecDepth 20000 in
theorem ml_320 {sc : xm_Sc} : xe_ml (XE sc) 320 = 4 := rfl
set_option maxRecDepth 20000 in
theorem ry_320 {sc : xm_Sc} : xe_ry (XE sc) 320 = (some .int) := rfl
set_option maxRecDepth 20000 in
theorem is_320 {sc : xm_Sc} : xe_is (XE sc) 320 = false := rfl
set_option maxRecDepth 20000 in
theorem np_320 {sc : xm_Sc} : xe_np (XE sc) 320 = 0 := rfl
/- method 321: X12_worth -/
def b_X12_worth_0 : List (Nat × Jvm.ClassFile.Instr × Nat) := [(0, .aload_n 0, 1), (1, .iload_n 1, 1), (2, .iload_n 2, 1), (3, .invokevirtual 564, 3)]
set_option maxRecDepth 20000 in
theorem k_X12_worth_0 {sc : xm_Sc} : xm_bok (xe_cy (XE sc) 321) b_X12_worth_0 := by show xm_bok cX12_worth _; unfold xm_bok; decide +kernel
def b_X12_worth_6 : List (Nat × Jvm.ClassFile.Instr × Nat) := [(6, .istore_n 3, 1), (7, .aload_n 0, 1), (8, .getfield 205, 3), (11, .ifCond .le 5, 3)]
set_option maxRecDepth 20000 in
theorem k_X12_worth_6 {sc : xm_Sc} : xm_bok (xe_cy (XE sc) 321) b_X12_worth_6 := by show xm_bok cX12_worth _; unfold xm_bok; decide +kernel
def b_X12_worth_14 : List (Nat × Jvm.ClassFile.Instr × Nat) := [(14, .iconst 0, 1), (15, .ireturn, 1)]
set_option maxRecDepth 20000 in
theorem k_X12_worth_14 {sc : xm_Sc} : xm_bok (xe_cy (XE sc) 321) b_X12_worth_14 := by show xm_bok cX12_worth _; unfold xm_bok; decide +kernel
def b_X12_worth_16 : List (Nat × Jvm.ClassFile.Instr × Nat) := [(16, .iload_n 3, 1), (17, .ifCond .lt 23, 3)]
set_option maxRecDepth 20000 in
theorem k_X12_worth_16 {sc : xm_Sc} : xm_bok (xe_cy (XE sc) 321) b_X12_worth_16 := by show xm_bok cX12_worth _; unfold xm_bok; decide +kernel
def b_X12_worth_20 : List (Nat × Jvm.ClassFile.Instr × Nat) := [(20, .aload_n 0, 1), (21, .iload_n 3, 1), (22, .ifCond .ge 7, 3)]
set_option maxRecDepth 20000 in
theorem k_X12_worth_20 {sc : xm_Sc} : xm_bok (xe_cy (XE sc) 321) b_X12_worth_20 := by show xm_bok cX12_worth _; unfold xm_bok; decide +kernel
def b_X12_worth_25 : List (Nat × Jvm.ClassFile.Instr × Nat) := [(25, .iconst 0, 1), (26, .goto 4, 3)]
set_option maxRecDepth 20000 in
theorem k_X12_worth_25 {sc : xm_Sc} : xm_bok (xe_cy (XE sc) 321) b_X12_worth_25 := by show xm_bok cX12_worth _; unfold xm_bok; decide +kernel
def b_X12_worth_29 : List (Nat × Jvm.ClassFile.Instr × Nat) := [(29, .iload_n 3, 1)]
set_option maxRecDepth 20000 in
theorem k_X12_worth_29 {sc : xm_Sc} : xm_bok (xe_cy (XE sc) 321) b_X12_worth_29 := by show xm_bok cX12_worth _; unfold xm_bok; decide +kernel
def b_X12_worth_30 : List (Nat × Jvm.ClassFile.Instr × Nat) := [(30, .invokevirtual 574, 3)]
set_option maxRecDepth 20000 in
theorem k_X12_worth_30 {sc : xm_Sc} : xm_bok (xe_cy (XE sc) 321) b_X12_worth_30 := by show xm_bok cX12_worth _; unfold xm_bok; decide +kernel
def b_X12_worth_33 : List (Nat × Jvm.ClassFile.Instr × Nat) := [(33, .ifCond .eq 7, 3)]
set_option maxRecDepth 20000 in
theorem k_X12_worth_33 {sc : xm_Sc} : xm_bok (xe_cy (XE sc) 321) b_X12_worth_33 := by show xm_bok cX12_worth _; unfold xm_bok; decide +kernel
def b_X12_worth_36 : List (Nat × Jvm.ClassFile.Instr × Nat) := [(36, .iconst 1, 1), (37, .goto 4, 3)]
set_option maxRecDepth 20000 in
theorem k_X12_worth_36 {sc : xm_Sc} : xm_bok (xe_cy (XE sc) 321) b_X12_worth_36 := by show xm_bok cX12_worth _; unfold xm_bok; decide +kernel
def b_X12_worth_40 : List (Nat × Jvm.ClassFile.Instr × Nat) := [(40, .iconst 0, 1)]
set_option maxRecDepth 20000 in
theorem k_X12_worth_40 {sc : xm_Sc} : xm_bok (xe_cy (XE sc) 321) b_X12_worth_40 := by show xm_bok cX12_worth _; unfold xm_bok; decide +kernel
def b_X12_worth_41 : List (Nat × Jvm.ClassFile.Instr × Nat) := [(41, .istore 4, 2), (43, .aload_n 0, 1), (44, .iconst 0, 1), (45, .putfield 215, 3), (48, .iload_n 3, 1), (49, .ifCond .ge 6, 3)]
set_option maxRecDepth 20000 in
theorem k_X12_worth_41 {sc : xm_Sc} : xm_bok (xe_cy (XE sc) 321) b_X12_worth_41 := by show xm_bok cX12_worth _; unfold xm_bok; decide +kernel
def b_X12_worth_52 : List (Nat × Jvm.ClassFile.Instr × Nat) := [(52, .bipush (-2), 2), (54, .ireturn, 1)]
set_option maxRecDepth 20000 in
theorem k_X12_worth_52 {sc : xm_Sc} : xm_bok (xe_cy (XE sc) 321) b_X12_worth_52 := by show xm_bok cX12_worth _; unfold xm_bok; decide +kernel
def b_X12_worth_55 : List (Nat × Jvm.ClassFile.Instr × Nat) := [(55, .iload 4, 2), (57, .ifCond .eq 17, 3)]
set_option maxRecDepth 20000 in
theorem k_X12_worth_55 {sc : xm_Sc} : xm_bok (xe_cy (XE sc) 321) b_X12_worth_55 := by show xm_bok cX12_worth _; unfold xm_bok; decide +kernel
def b_X12_worth_60 : List (Nat × Jvm.ClassFile.Instr × Nat) := [(60, .aload_n 0, 1), (61, .iconst 0, 1), (62, .aload_n 0, 1), (63, .getfield 100, 3), (66, .iload_n 3, 1), (67, .iaload, 1), (68, .invokevirtual 558, 3)]
set_option maxRecDepth 20000 in
theorem k_X12_worth_60 {sc : xm_Sc} : xm_bok (xe_cy (XE sc) 321) b_X12_worth_60 := by show xm_bok cX12_worth _; unfold xm_bok; decide +kernel
def b_X12_worth_71 : List (Nat × Jvm.ClassFile.Instr × Nat) := [(71, .goto 5, 3)]
set_option maxRecDepth 20000 in
theorem k_X12_worth_71 {sc : xm_Sc} : xm_bok (xe_cy (XE sc) 321) b_X12_worth_71 := by show xm_bok cX12_worth _; unfold xm_bok; decide +kernel
def b_X12_worth_74 : List (Nat × Jvm.ClassFile.Instr × Nat) := [(74, .bipush (-4), 2)]
set_option maxRecDepth 20000 in
theorem k_X12_worth_74 {sc : xm_Sc} : xm_bok (xe_cy (XE sc) 321) b_X12_worth_74 := by show xm_bok cX12_worth _; unfold xm_bok; decide +kernel
def b_X12_worth_76 : List (Nat × Jvm.ClassFile.Instr × Nat) := [(76, .ireturn, 1)]
set_option maxRecDepth 20000 in
theorem k_X12_worth_76 {sc : xm_Sc} : xm_bok (xe_cy (XE sc) 321) b_X12_worth_76 := by show xm_bok cX12_worth _; unfold xm_bok; decide +kernel
set_option maxRecDepth 20000 in
theorem cn_321 {sc : xm_Sc} : xe_cn (XE sc) 321 = 12 := rfl
set_option maxRecDepth 20000 in
theorem ml_321 {sc : xm_Sc} : xe_ml (XE sc) 321 = 5 := rfl
set_option maxRecDepth 20000 in
theorem ry_321 {sc : xm_Sc} : xe_ry (XE sc) 321 = (some .int) := rfl
set_option maxRecDepth 20000 in
theorem is_321 {sc : xm_Sc} : xe_is (XE sc) 321 = false := rfl
set_option maxRecDepth 20000 in
theorem np_321 {sc : xm_Sc} : xe_np (XE sc) 321 = 2 := rfl
/- method 322: X12_write -/
def b_X12_write_0 : List (Nat × Jvm.ClassFile.Instr × Nat) := [(0, .aload_n 0, 1), (1, .aload_n 0, 1), (2, .getfield 378, 3), (5, .ifCond .le 7, 3)]
set_option maxRecDepth 20000 in
theorem k_X12_write_0 {sc : xm_Sc} : xm_bok (xe_cy (XE sc) 322) b_X12_write_0 := by show xm_bok cX12_write _; unfold xm_bok; decide +kernel
def b_X12_write_8 : List (Nat × Jvm.ClassFile.Instr × Nat) := [(8, .iconst 0, 1), (9, .goto 4, 3)]
set_option maxRecDepth 20000 in
theorem k_X12_write_8 {sc : xm_Sc} : xm_bok (xe_cy (XE sc) 322) b_X12_write_8 := by show xm_bok cX12_write _; unfold xm_bok; decide +kernel
def b_X12_write_12 : List (Nat × Jvm.ClassFile.Instr × Nat) := [(12, .iconst 1, 1)]
set_option maxRecDepth 20000 in
theorem k_X12_write_12 {sc : xm_Sc} : xm_bok (xe_cy (XE sc) 322) b_X12_write_12 := by show xm_bok cX12_write _; unfold xm_bok; decide +kernel
def b_X12_write_13 : List (Nat × Jvm.ClassFile.Instr × Nat) := [(13, .putfield 205, 3), (16, .aload_n 0, 1), (17, .getfield 205, 3), (20, .ifCond .le 5, 3)]
set_option maxRecDepth 20000 in
theorem k_X12_write_13 {sc : xm_Sc} : xm_bok (xe_cy (XE sc) 322) b_X12_write_13 := by show xm_bok cX12_write _; unfold xm_bok; decide +kernel
def b_X12_write_23 : List (Nat × Jvm.ClassFile.Instr × Nat) := [(23, .iconst 0, 1), (24, .ireturn, 1)]
set_option maxRecDepth 20000 in
theorem k_X12_write_23 {sc : xm_Sc} : xm_bok (xe_cy (XE sc) 322) b_X12_write_23 := by show xm_bok cX12_write _; unfold xm_bok; decide +kernel
def b_X12_write_25 : List (Nat × Jvm.ClassFile.Instr × Nat) := [(25, .iconst 0, 1), (26, .istore_n 1, 1)]
set_option maxRecDepth 20000 in
theorem k_X12_write_25 {sc : xm_Sc} : xm_bok (xe_cy (XE sc) 322) b_X12_write_25 := by show xm_bok cX12_write _; unfold xm_bok; decide +kernel
def b_X12_write_27 : List (Nat × Jvm.ClassFile.Instr × Nat) := [(27, .iload_n 1, 1), (28, .aload_n 0, 1), (29, .getfield 381, 3), (32, .if_icmp .ge 21, 3)]
set_option maxRecDepth 20000 in
theorem k_X12_write_27 {sc : xm_Sc} : xm_bok (xe_cy (XE sc) 322) b_X12_write_27 := by show xm_bok cX12_write _; unfold xm_bok; decide +kernel
def b_X12_write_35 : List (Nat × Jvm.ClassFile.Instr × Nat) := [(35, .aload_n 0, 1), (36, .getfield 13, 3), (39, .iload_n 1, 1), (40, .aload_n 0, 1), (41, .getfield 88, 3), (44, .iload_n 1, 1), (45, .iaload, 1), (46, .iastore, 1), (47, .iinc 1 1, 3), (50, .goto (-23), 3)]
set_option maxRecDepth 20000 in
theorem k_X12_write_35 {sc : xm_Sc} : xm_bok (xe_cy (XE sc) 322) b_X12_write_35 := by show xm_bok cX12_write _; unfold xm_bok; decide +kernel
def b_X12_write_53 : List (Nat × Jvm.ClassFile.Instr × Nat) := [(53, .aload_n 0, 1), (54, .aload_n 0, 1), (55, .getfield 381, 3), (58, .putfield 220, 3), (61, .aload_n 0, 1), (62, .getfield 220, 3), (65, .ireturn, 1)]
set_option maxRecDepth 20000 in
theorem k_X12_write_53 {sc : xm_Sc} : xm_bok (xe_cy (XE sc) 322) b_X12_write_53 := by show xm_bok cX12_write _; unfold xm_bok; decide +kernel
set_option maxRecDepth 20000 in
theorem cn_322 {sc : xm_Sc} : xe_cn (XE sc) 322 = 12 := rfl
set_option maxRecDepth 20000 in
theorem ml_322 {sc : xm_Sc} : xe_ml (XE sc) 322 = 2 := rfl
set_option maxRecDepth 20000 in
theorem ry_322 {sc : xm_Sc} : xe_ry (XE sc) 322 = (some .int) := rfl
set_option maxRecDepth 20000 in
theorem is_322 {sc : xm_Sc} : xe_is (XE sc) 322 = false := rfl
set_option maxRecDepth 20000 in
theorem np_322 {sc : xm_Sc} : xe_np (XE sc) 322 = 0 := rfl
/- method 323: X12_writeBit -/
def b_X12_writeBit_0 : List (Nat × Jvm.ClassFile.Instr × Nat) := [(0, .aload_n 0, 1), (1, .getfield 656, 3), (4, .ldc_w 659, 3), (7, .if_icmp .ge 54, 3)]
set_option maxRecDepth 20000 in
theorem k_X12_writeBit_0 {sc : xm_Sc} : xm_bok (xe_cy (XE sc) 323) b_X12_writeBit_0 := by show xm_bok cX12_writeBit _; unfold xm_bok; decide +kernel
def b_X12_writeBit_10 : List (Nat × Jvm.ClassFile.Instr × Nat) := [(10, .aload_n 0, 1), (11, .getfield 148, 3), (14, .aload_n 0, 1), (15, .getfield 656, 3), (18, .bipush 8, 2), (20, .idiv, 1), (21, .aload_n 0, 1), (22, .getfield 656, 3), (25, .bipush 8, 2), (27, .irem, 1), (28, .ifCond .ne 7, 3)]
set_option maxRecDepth 20000 in
theorem k_X12_writeBit_10 {sc : xm_Sc} : xm_bok (xe_cy (XE sc) 323) b_X12_writeBit_10 := by show xm_bok cX12_writeBit _; unfold xm_bok; decide +kernel
def b_X12_writeBit_31 : List (Nat × Jvm.ClassFile.Instr × Nat) := [(31, .iconst 0, 1), (32, .goto 15, 3)]
set_option maxRecDepth 20000 in
theorem k_X12_writeBit_31 {sc : xm_Sc} : xm_bok (xe_cy (XE sc) 323) b_X12_writeBit_31 := by show xm_bok cX12_writeBit _; unfold xm_bok; decide +kernel
def b_X12_writeBit_35 : List (Nat × Jvm.ClassFile.Instr × Nat) := [(35, .aload_n 0, 1), (36, .getfield 148, 3), (39, .aload_n 0, 1), (40, .getfield 656, 3), (43, .bipush 8, 2), (45, .idiv, 1), (46, .iaload, 1)]
set_option maxRecDepth 20000 in
theorem k_X12_writeBit_35 {sc : xm_Sc} : xm_bok (xe_cy (XE sc) 323) b_X12_writeBit_35 := by show xm_bok cX12_writeBit _; unfold xm_bok; decide +kernel
def b_X12_writeBit_47 : List (Nat × Jvm.ClassFile.Instr × Nat) := [(47, .iload_n 1, 1), (48, .bipush 7, 2), (50, .aload_n 0, 1), (51, .getfield 656, 3), (54, .bipush 8, 2), (56, .irem, 1), (57, .isub, 1), (58, .ishl, 1), (59, .ior, 1), (60, .iastore, 1)]
set_option maxRecDepth 20000 in
theorem k_X12_writeBit_47 {sc : xm_Sc} : xm_bok (xe_cy (XE sc) 323) b_X12_writeBit_47 := by show xm_bok cX12_writeBit _; unfold xm_bok; decide +kernel
def b_X12_writeBit_61 : List (Nat × Jvm.ClassFile.Instr × Nat) := [(61, .aload_n 0, 1), (62, .dup, 1), (63, .getfield 656, 3), (66, .iconst 1, 1), (67, .iadd, 1), (68, .putfield 656, 3), (71, .return_, 1)]
set_option maxRecDepth 20000 in
theorem k_X12_writeBit_61 {sc : xm_Sc} : xm_bok (xe_cy (XE sc) 323) b_X12_writeBit_61 := by show xm_bok cX12_writeBit _; unfold xm_bok; decide +kernel
set_option maxRecDepth 20000 in
theorem cn_323 {sc : xm_Sc} : xe_cn (XE sc) 323 = 12 := rfl
set_option maxRecDepth 20000 in
theorem ml_323 {sc : xm_Sc} : xe_ml (XE sc) 323 = 2 := rfl
set_option maxRecDepth 20000 in
theorem ry_323 {sc : xm_Sc} : xe_ry (XE sc) 323 = none := rfl
set_option maxRecDepth 20000 in
theorem is_323 {sc : xm_Sc} : xe_is (XE sc) 323 = false := rfl
set_option maxRecDepth 20000 in
theorem np_323 {sc : xm_Sc} : xe_np (XE sc) 323 = 1 := rfl
/- method 324: X12_writeBits -/
def b_X12_writeBits_0 : List (Nat × Jvm.ClassFile.Instr × Nat) := [(0, .iload_n 2, 1), (1, .iconst 1, 1), (2, .isub, 1), (3, .istore_n 3, 1)]
set_option maxRecDepth 20000 in
theorem k_X12_writeBits_0 {sc : xm_Sc} : xm_bok (xe_cy (XE sc) 324) b_X12_writeBits_0 := by show xm_bok cX12_writeBits _; unfold xm_bok; decide +kernel
def b_X12_writeBits_4 : List (Nat × Jvm.ClassFile.Instr × Nat) := [(4, .iload_n 3, 1), (5, .ifCond .lt 18, 3)]
set_option maxRecDepth 20000 in
theorem k_X12_writeBits_4 {sc : xm_Sc} : xm_bok (xe_cy (XE sc) 324) b_X12_writeBits_4 := by show xm_bok cX12_writeBits _; unfold xm_bok; decide +kernel
def b_X12_writeBits_8 : List (Nat × Jvm.ClassFile.Instr × Nat) := [(8, .aload_n 0, 1), (9, .iload_n 1, 1), (10, .iload_n 3, 1), (11, .ishr, 1), (12, .iconst 1, 1), (13, .iand, 1), (14, .invokevirtual 660, 3)]
set_option maxRecDepth 20000 in
theorem k_X12_writeBits_8 {sc : xm_Sc} : xm_bok (xe_cy (XE sc) 324) b_X12_writeBits_8 := by show xm_bok cX12_writeBits _; unfold xm_bok; decide +kernel
def b_X12_writeBits_17 : List (Nat × Jvm.ClassFile.Instr × Nat) := [(17, .iinc 3 (-1), 3), (20, .goto (-16), 3)]
set_option maxRecDepth 20000 in
theorem k_X12_writeBits_17 {sc : xm_Sc} : xm_bok (xe_cy (XE sc) 324) b_X12_writeBits_17 := by show xm_bok cX12_writeBits _; unfold xm_bok; decide +kernel
def b_X12_writeBits_23 : List (Nat × Jvm.ClassFile.Instr × Nat) := [(23, .return_, 1)]
set_option maxRecDepth 20000 in
theorem k_X12_writeBits_23 {sc : xm_Sc} : xm_bok (xe_cy (XE sc) 324) b_X12_writeBits_23 := by show xm_bok cX12_writeBits _; unfold xm_bok; decide +kernel
set_option maxRecDepth 20000 in
theorem cn_324 {sc : xm_Sc} : xe_cn (XE sc) 324 = 12 := rfl
set_option maxRecDepth 20000 in
theorem ml_324 {sc : xm_Sc} : xe_ml (XE sc) 324 = 4 := rfl
set_option maxRecDepth 20000 in
theorem ry_324 {sc : xm_Sc} : xe_ry (XE sc) 324 = none := rfl
set_option maxRecDepth 20000 in
theorem is_324 {sc : xm_Sc} : xe_is (XE sc) 324 = false := rfl
set_option maxRecDepth 20000 in
theorem np_324 {sc : xm_Sc} : xe_np (XE sc) 324 = 2 := rfl
/- method 325: X12_writeNatural -/
def b_X12_writeNatural_0 : List (Nat × Jvm.ClassFile.Instr × Nat) := [(0, .iconst 0, 1), (1, .istore_n 2, 1), (2, .aload_n 0, 1), (3, .getfield 193, 3), (6, .iconst 0, 1), (7, .iload_n 1, 1), (8, .iastore, 1)]
set_option maxRecDepth 20000 in
theorem k_X12_writeNatural_0 {sc : xm_Sc} : xm_bok (xe_cy (XE sc) 325) b_X12_writeNatural_0 := by show xm_bok cX12_writeNatural _; unfold xm_bok; decide +kernel
def b_X12_writeNatural_9 : List (Nat × Jvm.ClassFile.Instr × Nat) := [(9, .aload_n 0, 1), (10, .getfield 193, 3), (13, .iload_n 2, 1), (14, .iaload, 1), (15, .iconst 1, 1), (16, .if_icmp .le 26, 3)]
set_option maxRecDepth 20000 in
theorem k_X12_writeNatural_9 {sc : xm_Sc} : xm_bok (xe_cy (XE sc) 325) b_X12_writeNatural_9 := by show xm_bok cX12_writeNatural _; unfold xm_bok; decide +kernel
def b_X12_writeNatural_19 : List (Nat × Jvm.ClassFile.Instr × Nat) := [(19, .aload_n 0, 1), (20, .getfield 193, 3), (23, .iload_n 2, 1), (24, .iconst 1, 1), (25, .iadd, 1), (26, .aload_n 0, 1), (27, .getfield 193, 3), (30, .iload_n 2, 1), (31, .iaload, 1), (32, .invokestatic 663, 3)]
set_option maxRecDepth 20000 in
theorem k_X12_writeNatural_19 {sc : xm_Sc} : xm_bok (xe_cy (XE sc) 325) b_X12_writeNatural_19 := by show xm_bok cX12_writeNatural _; unfold xm_bok; decide +kernel
def b_X12_writeNatural_35 : List (Nat × Jvm.ClassFile.Instr × Nat) := [(35, .iastore, 1), (36, .iinc 2 1, 3), (39, .goto (-30), 3)]
set_option maxRecDepth 20000 in
theorem k_X12_writeNatural_35 {sc : xm_Sc} : xm_bok (xe_cy (XE sc) 325) b_X12_writeNatural_35 := by show xm_bok cX12_writeNatural _; unfold xm_bok; decide +kernel
def b_X12_writeNatural_42 : List (Nat × Jvm.ClassFile.Instr × Nat) := [(42, .iconst 0, 1), (43, .istore_n 3, 1)]
set_option maxRecDepth 20000 in
theorem k_X12_writeNatural_42 {sc : xm_Sc} : xm_bok (xe_cy (XE sc) 325) b_X12_writeNatural_42 := by show xm_bok cX12_writeNatural _; unfold xm_bok; decide +kernel
def b_X12_writeNatural_44 : List (Nat × Jvm.ClassFile.Instr × Nat) := [(44, .iload_n 3, 1), (45, .iload_n 2, 1), (46, .if_icmp .ge 14, 3)]
set_option maxRecDepth 20000 in
theorem k_X12_writeNatural_44 {sc : xm_Sc} : xm_bok (xe_cy (XE sc) 325) b_X12_writeNatural_44 := by show xm_bok cX12_writeNatural _; unfold xm_bok; decide +kernel
def b_X12_writeNatural_49 : List (Nat × Jvm.ClassFile.Instr × Nat) := [(49, .aload_n 0, 1), (50, .iconst 1, 1), (51, .invokevirtual 660, 3)]
set_option maxRecDepth 20000 in
theorem k_X12_writeNatural_49 {sc : xm_Sc} : xm_bok (xe_cy (XE sc) 325) b_X12_writeNatural_49 := by show xm_bok cX12_writeNatural _; unfold xm_bok; decide +kernel
def b_X12_writeNatural_54 : List (Nat × Jvm.ClassFile.Instr × Nat) := [(54, .iinc 3 1, 3), (57, .goto (-13), 3)]
set_option maxRecDepth 20000 in
theorem k_X12_writeNatural_54 {sc : xm_Sc} : xm_bok (xe_cy (XE sc) 325) b_X12_writeNatural_54 := by show xm_bok cX12_writeNatural _; unfold xm_bok; decide +kernel
def b_X12_writeNatural_60 : List (Nat × Jvm.ClassFile.Instr × Nat) := [(60, .aload_n 0, 1), (61, .iconst 0, 1), (62, .invokevirtual 660, 3)]
set_option maxRecDepth 20000 in
theorem k_X12_writeNatural_60 {sc : xm_Sc} : xm_bok (xe_cy (XE sc) 325) b_X12_writeNatural_60 := by show xm_bok cX12_writeNatural _; unfold xm_bok; decide +kernel
def b_X12_writeNatural_65 : List (Nat × Jvm.ClassFile.Instr × Nat) := [(65, .iload_n 2, 1), (66, .iconst 1, 1), (67, .isub, 1), (68, .istore_n 3, 1)]
set_option maxRecDepth 20000 in
theorem k_X12_writeNatural_65 {sc : xm_Sc} : xm_bok (xe_cy (XE sc) 325) b_X12_writeNatural_65 := by show xm_bok cX12_writeNatural _; unfold xm_bok; decide +kernel
def b_X12_writeNatural_69 : List (Nat × Jvm.ClassFile.Instr × Nat) := [(69, .iload_n 3, 1), (70, .ifCond .lt 27, 3)]
set_option maxRecDepth 20000 in
theorem k_X12_writeNatural_69 {sc : xm_Sc} : xm_bok (xe_cy (XE sc) 325) b_X12_writeNatural_69 := by show xm_bok cX12_writeNatural _; unfold xm_bok; decide +kernel
def b_X12_writeNatural_73 : List (Nat × Jvm.ClassFile.Instr × Nat) := [(73, .aload_n 0, 1), (74, .aload_n 0, 1), (75, .getfield 193, 3), (78, .iload_n 3, 1), (79, .iaload, 1), (80, .aload_n 0, 1), (81, .getfield 193, 3), (84, .iload_n 3, 1), (85, .iconst 1, 1), (86, .iadd, 1), (87, .iaload, 1), (88, .invokevirtual 666, 3)]
set_option maxRecDepth 20000 in
theorem k_X12_writeNatural_73 {sc : xm_Sc} : xm_bok (xe_cy (XE sc) 325) b_X12_writeNatural_73 := by show xm_bok cX12_writeNatural _; unfold xm_bok; decide +kernel
def b_X12_writeNatural_91 : List (Nat × Jvm.ClassFile.Instr × Nat) := [(91, .iinc 3 (-1), 3), (94, .goto (-25), 3)]
set_option maxRecDepth 20000 in
theorem k_X12_writeNatural_91 {sc : xm_Sc} : xm_bok (xe_cy (XE sc) 325) b_X12_writeNatural_91 := by show xm_bok cX12_writeNatural _; unfold xm_bok; decide +kernel
def b_X12_writeNatural_97 : List (Nat × Jvm.ClassFile.Instr × Nat) := [(97, .return_, 1)]
set_option maxRecDepth 20000 in
theorem k_X12_writeNatural_97 {sc : xm_Sc} : xm_bok (xe_cy (XE sc) 325) b_X12_writeNatural_97 := by show xm_bok cX12_writeNatural _; unfold xm_bok; decide +kernel
set_option maxRecDepth 20000 in
theorem cn_325 {sc : xm_Sc} : xe_cn (XE sc) 325 = 12 := rfl
set_option maxRecDepth 20000 in
theorem ml_325 {sc : xm_Sc} : xe_ml (XE sc) 325 = 4 := rfl
set_option maxRecDepth 20000 in
theorem ry_325 {sc : xm_Sc} : xe_ry (XE sc) 325 = none := rfl
set_option maxRecDepth 20000 in
theorem is_325 {sc : xm_Sc} : xe_is (XE sc) 325 = false := rfl
set_option maxRecDepth 20000 in
theorem np_325 {sc : xm_Sc} : xe_np (XE sc) 325 = 1 := rfl
/- method 326: X12_writeNodes -/
def b_X12_writeNodes_0 : List (Nat × Jvm.ClassFile.Instr × Nat) := [(0, .aload_n 0, 1), (1, .aload_n 0, 1), (2, .getfield 226, 3), (5, .invokevirtual 670, 3)]
set_option maxRecDepth 20000 in
theorem k_X12_writeNodes_0 {sc : xm_Sc} : xm_bok (xe_cy (XE sc) 326) b_X12_writeNodes_0 := by show xm_bok cX12_writeNodes _; unfold xm_bok; decide +kernel
def b_X12_writeNodes_8 : List (Nat × Jvm.ClassFile.Instr × Nat) := [(8, .iconst 0, 1), (9, .istore_n 1, 1)]
set_option maxRecDepth 20000 in
theorem k_X12_writeNodes_8 {sc : xm_Sc} : xm_bok (xe_cy (XE sc) 326) b_X12_writeNodes_8 := by show xm_bok cX12_writeNodes _; unfold xm_bok; decide +kernel
def b_X12_writeNodes_10 : List (Nat × Jvm.ClassFile.Instr × Nat) := [(10, .iload_n 1, 1), (11, .aload_n 0, 1), (12, .getfield 226, 3), (15, .if_icmp .ge 151, 3)]
set_option maxRecDepth 20000 in
theorem k_X12_writeNodes_10 {sc : xm_Sc} : xm_bok (xe_cy (XE sc) 326) b_X12_writeNodes_10 := by show xm_bok cX12_writeNodes _; unfold xm_bok; decide +kernel
def b_X12_writeNodes_18 : List (Nat × Jvm.ClassFile.Instr × Nat) := [(18, .aload_n 0, 1), (19, .getfield 40, 3), (22, .iload_n 1, 1), (23, .iaload, 1), (24, .istore_n 2, 1), (25, .aload_n 0, 1), (26, .getfield 190, 3), (29, .iload_n 2, 1), (30, .iload_n 1, 1), (31, .iastore, 1), (32, .aload_n 0, 1), (33, .aload_n 0, 1), (34, .getfield 16, 3), (37, .iload_n 2, 1), (38, .iaload, 1), (39, .iconst 5, 1), (40, .invokevirtual 666, 3)]
set_option maxRecDepth 20000 in
theorem k_X12_writeNodes_18 {sc : xm_Sc} : xm_bok (xe_cy (XE sc) 326) b_X12_writeNodes_18 := by show xm_bok cX12_writeNodes _; unfold xm_bok; decide +kernel
def b_X12_writeNodes_43 : List (Nat × Jvm.ClassFile.Instr × Nat) := [(43, .aload_n 0, 1), (44, .iload_n 2, 1), (45, .iconst 0, 1), (46, .invokevirtual 229, 3)]
set_option maxRecDepth 20000 in
theorem k_X12_writeNodes_43 {sc : xm_Sc} : xm_bok (xe_cy (XE sc) 326) b_X12_writeNodes_43 := by show xm_bok cX12_writeNodes _; unfold xm_bok; decide +kernel
def b_X12_writeNodes_49 : List (Nat × Jvm.ClassFile.Instr × Nat) := [(49, .ifCond .lt 20, 3)]
set_option maxRecDepth 20000 in
theorem k_X12_writeNodes_49 {sc : xm_Sc} : xm_bok (xe_cy (XE sc) 326) b_X12_writeNodes_49 := by show xm_bok cX12_writeNodes _; unfold xm_bok; decide +kernel
def b_X12_writeNodes_52 : List (Nat × Jvm.ClassFile.Instr × Nat) := [(52, .aload_n 0, 1), (53, .iload_n 1, 1), (54, .aload_n 0, 1), (55, .getfield 190, 3), (58, .aload_n 0, 1), (59, .getfield 19, 3), (62, .iload_n 2, 1), (63, .iaload, 1), (64, .iaload, 1), (65, .isub, 1), (66, .invokevirtual 670, 3)]
set_option maxRecDepth 20000 in
theorem k_X12_writeNodes_52 {sc : xm_Sc} : xm_bok (xe_cy (XE sc) 326) b_X12_writeNodes_52 := by show xm_bok cX12_writeNodes _; unfold xm_bok; decide +kernel
def b_X12_writeNodes_69 : List (Nat × Jvm.ClassFile.Instr × Nat) := [(69, .aload_n 0, 1), (70, .iload_n 2, 1), (71, .iconst 1, 1), (72, .invokevirtual 229, 3)]
set_option maxRecDepth 20000 in
theorem k_X12_writeNodes_69 {sc : xm_Sc} : xm_bok (xe_cy (XE sc) 326) b_X12_writeNodes_69 := by show xm_bok cX12_writeNodes _; unfold xm_bok; decide +kernel
def b_X12_writeNodes_75 : List (Nat × Jvm.ClassFile.Instr × Nat) := [(75, .ifCond .lt 20, 3)]
set_option maxRecDepth 20000 in
theorem k_X12_writeNodes_75 {sc : xm_Sc} : xm_bok (xe_cy (XE sc) 326) b_X12_writeNodes_75 := by show xm_bok cX12_writeNodes _; unfold xm_bok; decide +kernel
def b_X12_writeNodes_78 : List (Nat × Jvm.ClassFile.Instr × Nat) := [(78, .aload_n 0, 1), (79, .iload_n 1, 1), (80, .aload_n 0, 1), (81, .getfield 190, 3), (84, .aload_n 0, 1), (85, .getfield 22, 3), (88, .iload_n 2, 1), (89, .iaload, 1), (90, .iaload, 1), (91, .isub, 1), (92, .invokevirtual 670, 3)]
set_option maxRecDepth 20000 in
theorem k_X12_writeNodes_78 {sc : xm_Sc} : xm_bok (xe_cy (XE sc) 326) b_X12_writeNodes_78 := by show xm_bok cX12_writeNodes _; unfold xm_bok; decide +kernel
def b_X12_writeNodes_95 : List (Nat × Jvm.ClassFile.Instr × Nat) := [(95, .iconst 0, 1), (96, .istore_n 3, 1)]
set_option maxRecDepth 20000 in
theorem k_X12_writeNodes_95 {sc : xm_Sc} : xm_bok (xe_cy (XE sc) 326) b_X12_writeNodes_95 := by show xm_bok cX12_writeNodes _; unfold xm_bok; decide +kernel
def b_X12_writeNodes_97 : List (Nat × Jvm.ClassFile.Instr × Nat) := [(97, .aload_n 0, 1), (98, .getfield 16, 3), (101, .iload_n 2, 1), (102, .iaload, 1), (103, .bipush 11, 2), (105, .if_icmp .ne 32, 3)]
set_option maxRecDepth 20000 in
theorem k_X12_writeNodes_97 {sc : xm_Sc} : xm_bok (xe_cy (XE sc) 326) b_X12_writeNodes_97 := by show xm_bok cX12_writeNodes _; unfold xm_bok; decide +kernel
def b_X12_writeNodes_108 : List (Nat × Jvm.ClassFile.Instr × Nat) := [(108, .iload_n 3, 1), (109, .bipush 8, 2), (111, .if_icmp .ge 26, 3)]
set_option maxRecDepth 20000 in
theorem k_X12_writeNodes_108 {sc : xm_Sc} : xm_bok (xe_cy (XE sc) 326) b_X12_writeNodes_108 := by show xm_bok cX12_writeNodes _; unfold xm_bok; decide +kernel
def b_X12_writeNodes_114 : List (Nat × Jvm.ClassFile.Instr × Nat) := [(114, .aload_n 0, 1), (115, .aload_n 0, 1), (116, .getfield 31, 3), (119, .bipush 8, 2), (121, .iload_n 2, 1), (122, .imul, 1), (123, .iload_n 3, 1), (124, .iadd, 1), (125, .iaload, 1), (126, .bipush 32, 2), (128, .invokevirtual 666, 3)]
set_option maxRecDepth 20000 in
theorem k_X12_writeNodes_114 {sc : xm_Sc} : xm_bok (xe_cy (XE sc) 326) b_X12_writeNodes_114 := by show xm_bok cX12_writeNodes _; unfold xm_bok; decide +kernel
def b_X12_writeNodes_131 : List (Nat × Jvm.ClassFile.Instr × Nat) := [(131, .iinc 3 1, 3), (134, .goto (-37), 3)]
set_option maxRecDepth 20000 in
theorem k_X12_writeNodes_131 {sc : xm_Sc} : xm_bok (xe_cy (XE sc) 326) b_X12_writeNodes_131 := by show xm_bok cX12_writeNodes _; unfold xm_bok; decide +kernel
def b_X12_writeNodes_137 : List (Nat × Jvm.ClassFile.Instr × Nat) := [(137, .aload_n 0, 1), (138, .getfield 16, 3), (141, .iload_n 2, 1), (142, .iaload, 1), (143, .bipush 12, 2), (145, .if_icmp .ne 15, 3)]
set_option maxRecDepth 20000 in
theorem k_X12_writeNodes_137 {sc : xm_Sc} : xm_bok (xe_cy (XE sc) 326) b_X12_writeNodes_137 := by show xm_bok cX12_writeNodes _; unfold xm_bok; decide +kernel
def b_X12_writeNodes_148 : List (Nat × Jvm.ClassFile.Instr × Nat) := [(148, .aload_n 0, 1), (149, .aload_n 0, 1), (150, .getfield 25, 3), (153, .iload_n 2, 1), (154, .iaload, 1), (155, .bipush 8, 2), (157, .invokevirtual 666, 3)]
set_option maxRecDepth 20000 in
theorem k_X12_writeNodes_148 {sc : xm_Sc} : xm_bok (xe_cy (XE sc) 326) b_X12_writeNodes_148 := by show xm_bok cX12_writeNodes _; unfold xm_bok; decide +kernel
def b_X12_writeNodes_160 : List (Nat × Jvm.ClassFile.Instr × Nat) := [(160, .iinc 1 1, 3), (163, .goto (-153), 3)]
set_option maxRecDepth 20000 in
theorem k_X12_writeNodes_160 {sc : xm_Sc} : xm_bok (xe_cy (XE sc) 326) b_X12_writeNodes_160 := by show xm_bok cX12_writeNodes _; unfold xm_bok; decide +kernel
def b_X12_writeNodes_166 : List (Nat × Jvm.ClassFile.Instr × Nat) := [(166, .return_, 1)]
set_option maxRecDepth 20000 in
theorem k_X12_writeNodes_166 {sc : xm_Sc} : xm_bok (xe_cy (XE sc) 326) b_X12_writeNodes_166 := by show xm_bok cX12_writeNodes _; unfold xm_bok; decide +kernel
set_option maxRecDepth 20000 in
theorem cn_326 {sc : xm_Sc} : xe_cn (XE sc) 326 = 12 := rfl
set_option maxRecDepth 20000 in
theorem ml_326 {sc : xm_Sc} : xe_ml (XE sc) 326 = 4 := rfl
set_option maxRecDepth 20000 in
theorem ry_326 {sc : xm_Sc} : xe_ry (XE sc) 326 = none := rfl
set_option maxRecDepth 20000 in
theorem is_326 {sc : xm_Sc} : xe_is (XE sc) 326 = false := rfl
set_option maxRecDepth 20000 in
theorem np_326 {sc : xm_Sc} : xe_np (XE sc) 326 = 0 := rfl
/- method 327: X12_writeProgram -/
def b_X12_writeProgram_0 : List (Nat × Jvm.ClassFile.Instr × Nat) := [(0, .aload_n 0, 1), (1, .iconst 0, 1), (2, .putfield 656, 3), (5, .aload_n 0, 1), (6, .invokevirtual 673, 3)]
set_option maxRecDepth 20000 in
theorem k_X12_writeProgram_0 {sc : xm_Sc} : xm_bok (xe_cy (XE sc) 327) b_X12_writeProgram_0 := by show xm_bok cX12_writeProgram _; unfold xm_bok; decide +kernel
def b_X12_writeProgram_9 : List (Nat × Jvm.ClassFile.Instr × Nat) := [(9, .iconst 0, 1), (10, .istore_n 1, 1), (11, .iconst 0, 1), (12, .istore_n 2, 1)]
set_option maxRecDepth 20000 in
theorem k_X12_writeProgram_9 {sc : xm_Sc} : xm_bok (xe_cy (XE sc) 327) b_X12_writeProgram_9 := by show xm_bok cX12_writeProgram _; unfold xm_bok; decide +kernel
def b_X12_writeProgram_13 : List (Nat × Jvm.ClassFile.Instr × Nat) := [(13, .iload_n 2, 1), (14, .aload_n 0, 1), (15, .getfield 226, 3), (18, .if_icmp .ge 43, 3)]
set_option maxRecDepth 20000 in
theorem k_X12_writeProgram_13 {sc : xm_Sc} : xm_bok (xe_cy (XE sc) 327) b_X12_writeProgram_13 := by show xm_bok cX12_writeProgram _; unfold xm_bok; decide +kernel
def b_X12_writeProgram_21 : List (Nat × Jvm.ClassFile.Instr × Nat) := [(21, .iload_n 1, 1), (22, .aload_n 0, 1), (23, .getfield 16, 3), (26, .aload_n 0, 1), (27, .getfield 40, 3), (30, .iload_n 2, 1), (31, .iaload, 1), (32, .iaload, 1), (33, .bipush 10, 2), (35, .if_icmp .ne 17, 3)]
set_option maxRecDepth 20000 in
theorem k_X12_writeProgram_21 {sc : xm_Sc} : xm_bok (xe_cy (XE sc) 327) b_X12_writeProgram_21 := by show xm_bok cX12_writeProgram _; unfold xm_bok; decide +kernel
def b_X12_writeProgram_38 : List (Nat × Jvm.ClassFile.Instr × Nat) := [(38, .aload_n 0, 1), (39, .getfield 28, 3), (42, .aload_n 0, 1), (43, .getfield 40, 3), (46, .iload_n 2, 1), (47, .iaload, 1), (48, .iaload, 1), (49, .goto 4, 3)]
set_option maxRecDepth 20000 in
theorem k_X12_writeProgram_38 {sc : xm_Sc} : xm_bok (xe_cy (XE sc) 327) b_X12_writeProgram_38 := by show xm_bok cX12_writeProgram _; unfold xm_bok; decide +kernel
def b_X12_writeProgram_52 : List (Nat × Jvm.ClassFile.Instr × Nat) := [(52, .iconst 0, 1)]
set_option maxRecDepth 20000 in
theorem k_X12_writeProgram_52 {sc : xm_Sc} : xm_bok (xe_cy (XE sc) 327) b_X12_writeProgram_52 := by show xm_bok cX12_writeProgram _; unfold xm_bok; decide +kernel
def b_X12_writeProgram_53 : List (Nat × Jvm.ClassFile.Instr × Nat) := [(53, .iadd, 1), (54, .istore_n 1, 1), (55, .iinc 2 1, 3), (58, .goto (-45), 3)]
set_option maxRecDepth 20000 in
theorem k_X12_writeProgram_53 {sc : xm_Sc} : xm_bok (xe_cy (XE sc) 327) b_X12_writeProgram_53 := by show xm_bok cX12_writeProgram _; unfold xm_bok; decide +kernel
def b_X12_writeProgram_61 : List (Nat × Jvm.ClassFile.Instr × Nat) := [(61, .aload_n 0, 1), (62, .iload_n 1, 1), (63, .iconst 1, 1), (64, .iadd, 1), (65, .invokevirtual 670, 3)]
set_option maxRecDepth 20000 in
theorem k_X12_writeProgram_61 {sc : xm_Sc} : xm_bok (xe_cy (XE sc) 327) b_X12_writeProgram_61 := by show xm_bok cX12_writeProgram _; unfold xm_bok; decide +kernel
def b_X12_writeProgram_68 : List (Nat × Jvm.ClassFile.Instr × Nat) := [(68, .iconst 0, 1), (69, .istore_n 2, 1)]
set_option maxRecDepth 20000 in
theorem k_X12_writeProgram_68 {sc : xm_Sc} : xm_bok (xe_cy (XE sc) 327) b_X12_writeProgram_68 := by show xm_bok cX12_writeProgram _; unfold xm_bok; decide +kernel
def b_X12_writeProgram_70 : List (Nat × Jvm.ClassFile.Instr × Nat) := [(70, .iload_n 2, 1), (71, .aload_n 0, 1), (72, .getfield 226, 3), (75, .if_icmp .ge 68, 3)]
set_option maxRecDepth 20000 in
theorem k_X12_writeProgram_70 {sc : xm_Sc} : xm_bok (xe_cy (XE sc) 327) b_X12_writeProgram_70 := by show xm_bok cX12_writeProgram _; unfold xm_bok; decide +kernel
def b_X12_writeProgram_78 : List (Nat × Jvm.ClassFile.Instr × Nat) := [(78, .aload_n 0, 1), (79, .getfield 40, 3), (82, .iload_n 2, 1), (83, .iaload, 1), (84, .istore_n 3, 1), (85, .iconst 0, 1), (86, .istore 4, 2)]
set_option maxRecDepth 20000 in
theorem k_X12_writeProgram_78 {sc : xm_Sc} : xm_bok (xe_cy (XE sc) 327) b_X12_writeProgram_78 := by show xm_bok cX12_writeProgram _; unfold xm_bok; decide +kernel
def b_X12_writeProgram_88 : List (Nat × Jvm.ClassFile.Instr × Nat) := [(88, .aload_n 0, 1), (89, .getfield 16, 3), (92, .iload_n 3, 1), (93, .iaload, 1), (94, .bipush 10, 2), (96, .if_icmp .ne 41, 3)]
set_option maxRecDepth 20000 in
theorem k_X12_writeProgram_88 {sc : xm_Sc} : xm_bok (xe_cy (XE sc) 327) b_X12_writeProgram_88 := by show xm_bok cX12_writeProgram _; unfold xm_bok; decide +kernel
def b_X12_writeProgram_99 : List (Nat × Jvm.ClassFile.Instr × Nat) := [(99, .iload 4, 2), (101, .aload_n 0, 1), (102, .getfield 28, 3), (105, .iload_n 3, 1), (106, .iaload, 1), (107, .if_icmp .ge 30, 3)]
set_option maxRecDepth 20000 in
theorem k_X12_writeProgram_99 {sc : xm_Sc} : xm_bok (xe_cy (XE sc) 327) b_X12_writeProgram_99 := by show xm_bok cX12_writeProgram _; unfold xm_bok; decide +kernel
def b_X12_writeProgram_110 : List (Nat × Jvm.ClassFile.Instr × Nat) := [(110, .aload_n 0, 1), (111, .aload_n 0, 1), (112, .getfield 7, 3), (115, .aload_n 0, 1), (116, .getfield 25, 3), (119, .iload_n 3, 1), (120, .iaload, 1), (121, .iload 4, 2), (123, .iadd, 1), (124, .iaload, 1), (125, .bipush 48, 2), (127, .isub, 1), (128, .invokevirtual 660, 3)]
set_option maxRecDepth 20000 in
theorem k_X12_writeProgram_110 {sc : xm_Sc} : xm_bok (xe_cy (XE sc) 327) b_X12_writeProgram_110 := by show xm_bok cX12_writeProgram _; unfold xm_bok; decide +kernel
def b_X12_writeProgram_131 : List (Nat × Jvm.ClassFile.Instr × Nat) := [(131, .iinc 4 1, 3), (134, .goto (-46), 3)]
set_option maxRecDepth 20000 in
theorem k_X12_writeProgram_131 {sc : xm_Sc} : xm_bok (xe_cy (XE sc) 327) b_X12_writeProgram_131 := by show xm_bok cX12_writeProgram _; unfold xm_bok; decide +kernel
def b_X12_writeProgram_137 : List (Nat × Jvm.ClassFile.Instr × Nat) := [(137, .iinc 2 1, 3), (140, .goto (-70), 3)]
set_option maxRecDepth 20000 in
theorem k_X12_writeProgram_137 {sc : xm_Sc} : xm_bok (xe_cy (XE sc) 327) b_X12_writeProgram_137 := by show xm_bok cX12_writeProgram _; unfold xm_bok; decide +kernel
def b_X12_writeProgram_143 : List (Nat × Jvm.ClassFile.Instr × Nat) := [(143, .return_, 1)]
set_option maxRecDepth 20000 in
theorem k_X12_writeProgram_143 {sc : xm_Sc} : xm_bok (xe_cy (XE sc) 327) b_X12_writeProgram_143 := by show xm_bok cX12_writeProgram _; unfold xm_bok; decide +kernel
set_option maxRecDepth 20000 in
theorem cn_327 {sc : xm_Sc} : xe_cn (XE sc) 327 = 12 := rfl
set_option maxRecDepth 20000 in
theorem ml_327 {sc : xm_Sc} : xe_ml (XE sc) 327 = 5 := rfl
set_option maxRecDepth 20000 in
theorem ry_327 {sc : xm_Sc} : xe_ry (XE sc) 327 = none := rfl
set_option maxRecDepth 20000 in
theorem is_327 {sc : xm_Sc} : xe_is (XE sc) 327 = false := rfl
set_option maxRecDepth 20000 in
theorem np_327 {sc : xm_Sc} : xe_np (XE sc) 327 = 0 := rfl
/- method 328: X12_wrong -/
def b_X12_wrong_0 : List (Nat × Jvm.ClassFile.Instr × Nat) := [(0, .aload_n 0, 1), (1, .getfield 592, 3), (4, .ifCond .ne 13, 3)]
set_option maxRecDepth 20000 in
theorem k_X12_wrong_0 {sc : xm_Sc} : xm_bok (xe_cy (XE sc) 328) b_X12_wrong_0 := by show xm_bok cX12_wrong _; unfold xm_bok; decide +kernel
def b_X12_wrong_7 : List (Nat × Jvm.ClassFile.Instr × Nat) := [(7, .aload_n 0, 1), (8, .iload_n 1, 1), (9, .putfield 592, 3), (12, .aload_n 0, 1), (13, .iload_n 2, 1), (14, .putfield 577, 3)]
set_option maxRecDepth 20000 in
theorem k_X12_wrong_7 {sc : xm_Sc} : xm_bok (xe_cy (XE sc) 328) b_X12_wrong_7 := by show xm_bok cX12_wrong _; unfold xm_bok; decide +kernel
def b_X12_wrong_17 : List (Nat × Jvm.ClassFile.Instr × Nat) := [(17, .iconst (-1), 1), (18, .ireturn, 1)]
set_option maxRecDepth 20000 in
theorem k_X12_wrong_17 {sc : xm_Sc} : xm_bok (xe_cy (XE sc) 328) b_X12_wrong_17 := by show xm_bok cX12_wrong _; unfold xm_bok; decide +kernel
set_option maxRecDepth 20000 in
theorem cn_328 {sc : xm_Sc} : xe_cn (XE sc) 328 = 12 := rfl
set_option maxRecDepth 20000 in
theorem ml_328 {sc : xm_Sc} : xe_ml (XE sc) 328 = 3 := rfl
set_option maxRecDepth 20000 in
theorem ry_328 {sc : xm_Sc} : xe_ry (XE sc) 328 = (some .int) := rfl
set_option maxRecDepth 20000 in
theorem is_328 {sc : xm_Sc} : xe_is (XE sc) 328 = false := rfl
set_option maxRecDepth 20000 in
theorem np_328 {sc : xm_Sc} : xe_np (XE sc) 328 = 2 := rfl
set_option maxRecDepth 20000 in
theorem fl_12_7 {sc : xm_Sc} : xe_fl (XE sc) 12 7 = some (12, 1) := rfl
set_option maxRecDepth 20000 in
theorem fl_12_13 {sc : xm_Sc} : xe_fl (XE sc) 12 13 = some (12, 3) := rfl
set_option maxRecDepth 20000 in
theorem fl_12_16 {sc : xm_Sc} : xe_fl (XE sc) 12 16 = some (12, 6) := rfl
set_option maxRecDepth 20000 in
theorem fl_12_19 {sc : xm_Sc} : xe_fl (XE sc) 12 19 = some (12, 7) := rfl
set_option maxRecDepth 20000 in
theorem fl_12_22 {sc : xm_Sc} : xe_fl (XE sc) 12 22 = some (12, 8) := rfl
set_option maxRecDepth 20000 in
theorem fl_12_25 {sc : xm_Sc} : xe_fl (XE sc) 12 25 = some (12, 9) := rfl
set_option maxRecDepth 20000 in
theorem fl_12_28 {sc : xm_Sc} : xe_fl (XE sc) 12 28 = some (12, 10) := rfl
set_option maxRecDepth 20000 in
theorem fl_12_31 {sc : xm_Sc} : xe_fl (XE sc) 12 31 = some (12, 11) := rfl
set_option maxRecDepth 20000 in
theorem fl_12_34 {sc : xm_Sc} : xe_fl (XE sc) 12 34 = some (12, 12) := rfl
set_option maxRecDepth 20000 in
theorem fl_12_37 {sc : xm_Sc} : xe_fl (XE sc) 12 37 = some (12, 13) := rfl
set_option maxRecDepth 20000 in
theorem fl_12_40 {sc : xm_Sc} : xe_fl (XE sc) 12 40 = some (12, 15) := rfl
set_option maxRecDepth 20000 in
theorem fl_12_43 {sc : xm_Sc} : xe_fl (XE sc) 12 43 = some (12, 16) := rfl
set_option maxRecDepth 20000 in
theorem fl_12_48 {sc : xm_Sc} : xe_fl (XE sc) 12 48 = some (12, 17) := rfl
set_option maxRecDepth 20000 in
theorem fl_12_51 {sc : xm_Sc} : xe_fl (XE sc) 12 51 = some (12, 18) := rfl
set_option maxRecDepth 20000 in
theorem fl_12_54 {sc : xm_Sc} : xe_fl (XE sc) 12 54 = some (12, 20) := rfl
set_option maxRecDepth 20000 in
theorem fl_12_57 {sc : xm_Sc} : xe_fl (XE sc) 12 57 = some (12, 21) := rfl
set_option maxRecDepth 20000 in
theorem fl_12_60 {sc : xm_Sc} : xe_fl (XE sc) 12 60 = some (12, 22) := rfl
set_option maxRecDepth 20000 in
theorem fl_12_63 {sc : xm_Sc} : xe_fl (XE sc) 12 63 = some (12, 23) := rfl
set_option maxRecDepth 20000 in
theorem fl_12_66 {sc : xm_Sc} : xe_fl (XE sc) 12 66 = some (12, 24) := rfl
set_option maxRecDepth 20000 in
theorem fl_12_69 {sc : xm_Sc} : xe_fl (XE sc) 12 69 = some (12, 25) := rfl
set_option maxRecDepth 20000 in
theorem fl_12_72 {sc : xm_Sc} : xe_fl (XE sc) 12 72 = some (12, 26) := rfl
set_option maxRecDepth 20000 in
theorem fl_12_75 {sc : xm_Sc} : xe_fl (XE sc) 12 75 = some (12, 27) := rfl
set_option maxRecDepth 20000 in
theorem fl_12_78 {sc : xm_Sc} : xe_fl (XE sc) 12 78 = some (12, 28) := rfl
set_option maxRecDepth 20000 in
theorem fl_12_82 {sc : xm_Sc} : xe_fl (XE sc) 12 82 = some (12, 29) := rfl
set_option maxRecDepth 20000 in
theorem fl_12_85 {sc : xm_Sc} : xe_fl (XE sc) 12 85 = some (12, 30) := rfl
set_option maxRecDepth 20000 in
theorem fl_12_88 {sc : xm_Sc} : xe_fl (XE sc) 12 88 = some (12, 31) := rfl
set_option maxRecDepth 20000 in
theorem fl_12_91 {sc : xm_Sc} : xe_fl (XE sc) 12 91 = some (12, 41) := rfl
set_option maxRecDepth 20000 in
theorem fl_12_94 {sc : xm_Sc} : xe_fl (XE sc) 12 94 = some (12, 42) := rfl
set_option maxRecDepth 20000 in
theorem fl_12_97 {sc : xm_Sc} : xe_fl (XE sc) 12 97 = some (12, 43) := rfl
set_option maxRecDepth 20000 in
theorem fl_12_100 {sc : xm_Sc} : xe_fl (XE sc) 12 100 = some (12, 44) := rfl
set_option maxRecDepth 20000 in
theorem fl_12_103 {sc : xm_Sc} : xe_fl (XE sc) 12 103 = some (12, 45) := rfl
set_option maxRecDepth 20000 in
theorem fl_12_106 {sc : xm_Sc} : xe_fl (XE sc) 12 106 = some (12, 46) := rfl
set_option maxRecDepth 20000 in
theorem fl_12_109 {sc : xm_Sc} : xe_fl (XE sc) 12 109 = some (12, 47) := rfl
set_option maxRecDepth 20000 in
theorem fl_12_112 {sc : xm_Sc} : xe_fl (XE sc) 12 112 = some (12, 48) := rfl
set_option maxRecDepth 20000 in
theorem fl_12_115 {sc : xm_Sc} : xe_fl (XE sc) 12 115 = some (12, 49) := rfl
set_option maxRecDepth 20000 in
theorem fl_12_118 {sc : xm_Sc} : xe_fl (XE sc) 12 118 = some (12, 51) := rfl
set_option maxRecDepth 20000 in
theorem fl_12_121 {sc : xm_Sc} : xe_fl (XE sc) 12 121 = some (12, 52) := rfl
set_option maxRecDepth 20000 in
theorem fl_12_124 {sc : xm_Sc} : xe_fl (XE sc) 12 124 = some (12, 53) := rfl
set_option maxRecDepth 20000 in
theorem fl_12_127 {sc : xm_Sc} : xe_fl (XE sc) 12 127 = some (12, 54) := rfl
set_option maxRecDepth 20000 in
theorem fl_12_130 {sc : xm_Sc} : xe_fl (XE sc) 12 130 = some (12, 55) := rfl
set_option maxRecDepth 20000 in
theorem fl_12_134 {sc : xm_Sc} : xe_fl (XE sc) 12 134 = some (12, 56) := rfl
set_option maxRecDepth 20000 in
theorem fl_12_137 {sc : xm_Sc} : xe_fl (XE sc) 12 137 = some (12, 57) := rfl
set_option maxRecDepth 20000 in
theorem fl_12_141 {sc : xm_Sc} : xe_fl (XE sc) 12 141 = some (12, 58) := rfl
set_option maxRecDepth 20000 in
theorem fl_12_145 {sc : xm_Sc} : xe_fl (XE sc) 12 145 = some (12, 59) := rfl
set_option maxRecDepth 20000 in
theorem fl_12_148 {sc : xm_Sc} : xe_fl (XE sc) 12 148 = some (12, 60) := rfl
set_option maxRecDepth 20000 in
theorem fl_12_151 {sc : xm_Sc} : xe_fl (XE sc) 12 151 = some (12, 62) := rfl
set_option maxRecDepth 20000 in
theorem fl_12_154 {sc : xm_Sc} : xe_fl (XE sc) 12 154 = some (12, 63) := rfl
set_option maxRecDepth 20000 in
theorem fl_12_157 {sc : xm_Sc} : xe_fl (XE sc) 12 157 = some (12, 64) := rfl
set_option maxRecDepth 20000 in
theorem fl_12_160 {sc : xm_Sc} : xe_fl (XE sc) 12 160 = some (12, 68) := rfl
set_option maxRecDepth 20000 in
theorem fl_12_163 {sc : xm_Sc} : xe_fl (XE sc) 12 163 = some (12, 69) := rfl
set_option maxRecDepth 20000 in
theorem fl_12_166 {sc : xm_Sc} : xe_fl (XE sc) 12 166 = some (12, 70) := rfl
set_option maxRecDepth 20000 in
theorem fl_12_169 {sc : xm_Sc} : xe_fl (XE sc) 12 169 = some (12, 71) := rfl
set_option maxRecDepth 20000 in
theorem fl_12_172 {sc : xm_Sc} : xe_fl (XE sc) 12 172 = some (12, 72) := rfl
set_option maxRecDepth 20000 in
theorem fl_12_175 {sc : xm_Sc} : xe_fl (XE sc) 12 175 = some (12, 73) := rfl
set_option maxRecDepth 20000 in
theorem fl_12_178 {sc : xm_Sc} : xe_fl (XE sc) 12 178 = some (12, 86) := rfl
set_option maxRecDepth 20000 in
theorem fl_12_181 {sc : xm_Sc} : xe_fl (XE sc) 12 181 = some (12, 87) := rfl
set_option maxRecDepth 20000 in
theorem fl_12_184 {sc : xm_Sc} : xe_fl (XE sc) 12 184 = some (12, 89) := rfl
set_option maxRecDepth 20000 in
theorem fl_12_187 {sc : xm_Sc} : xe_fl (XE sc) 12 187 = some (12, 90) := rfl
set_option maxRecDepth 20000 in
theorem fl_12_190 {sc : xm_Sc} : xe_fl (XE sc) 12 190 = some (12, 91) := rfl
set_option maxRecDepth 20000 in
theorem fl_12_193 {sc : xm_Sc} : xe_fl (XE sc) 12 193 = some (12, 93) := rfl
set_option maxRecDepth 20000 in
theorem fl_12_205 {sc : xm_Sc} : xe_fl (XE sc) 12 205 = some (12, 0) := rfl
set_option maxRecDepth 20000 in
theorem fl_12_215 {sc : xm_Sc} : xe_fl (XE sc) 12 215 = some (12, 2) := rfl
set_option maxRecDepth 20000 in
theorem fl_12_220 {sc : xm_Sc} : xe_fl (XE sc) 12 220 = some (12, 4) := rfl
set_option maxRecDepth 20000 in
theorem fl_12_223 {sc : xm_Sc} : xe_fl (XE sc) 12 223 = some (12, 5) := rfl
set_option maxRecDepth 20000 in
theorem fl_12_226 {sc : xm_Sc} : xe_fl (XE sc) 12 226 = some (12, 14) := rfl
set_option maxRecDepth 20000 in
theorem fl_12_233 {sc : xm_Sc} : xe_fl (XE sc) 12 233 = some (12, 50) := rfl
set_option maxRecDepth 20000 in
theorem fl_12_262 {sc : xm_Sc} : xe_fl (XE sc) 12 262 = some (12, 40) := rfl
set_option maxRecDepth 20000 in
theorem fl_12_289 {sc : xm_Sc} : xe_fl (XE sc) 12 289 = some (12, 61) := rfl
set_option maxRecDepth 20000 in
theorem fl_12_330 {sc : xm_Sc} : xe_fl (XE sc) 12 330 = some (12, 67) := rfl
set_option maxRecDepth 20000 in
theorem fl_12_333 {sc : xm_Sc} : xe_fl (XE sc) 12 333 = some (12, 65) := rfl
set_option maxRecDepth 20000 in
theorem fl_12_336 {sc : xm_Sc} : xe_fl (XE sc) 12 336 = some (12, 66) := rfl
set_option maxRecDepth 20000 in
theorem fl_12_357 {sc : xm_Sc} : xe_fl (XE sc) 12 357 = some (12, 33) := rfl
set_option maxRecDepth 20000 in
theorem fl_12_378 {sc : xm_Sc} : xe_fl (XE sc) 12 378 = some (12, 19) := rfl
set_option maxRecDepth 20000 in
theorem fl_12_381 {sc : xm_Sc} : xe_fl (XE sc) 12 381 = some (12, 32) := rfl
set_option maxRecDepth 20000 in
theorem fl_12_413 {sc : xm_Sc} : xe_fl (XE sc) 12 413 = some (12, 34) := rfl
set_option maxRecDepth 20000 in
theorem fl_12_494 {sc : xm_Sc} : xe_fl (XE sc) 12 494 = some (12, 74) := rfl
set_option maxRecDepth 20000 in
theorem fl_12_497 {sc : xm_Sc} : xe_fl (XE sc) 12 497 = some (12, 80) := rfl
set_option maxRecDepth 20000 in
theorem fl_12_501 {sc : xm_Sc} : xe_fl (XE sc) 12 501 = some (12, 76) := rfl
set_option maxRecDepth 20000 in
theorem fl_12_504 {sc : xm_Sc} : xe_fl (XE sc) 12 504 = some (12, 78) := rfl
set_option maxRecDepth 20000 in
theorem fl_12_507 {sc : xm_Sc} : xe_fl (XE sc) 12 507 = some (12, 77) := rfl
set_option maxRecDepth 20000 in
theorem fl_12_510 {sc : xm_Sc} : xe_fl (XE sc) 12 510 = some (12, 79) := rfl
set_option maxRecDepth 20000 in
theorem fl_12_513 {sc : xm_Sc} : xe_fl (XE sc) 12 513 = some (12, 75) := rfl
set_option maxRecDepth 20000 in
theorem fl_12_544 {sc : xm_Sc} : xe_fl (XE sc) 12 544 = some (12, 35) := rfl
set_option maxRecDepth 20000 in
theorem fl_12_547 {sc : xm_Sc} : xe_fl (XE sc) 12 547 = some (12, 37) := rfl
set_option maxRecDepth 20000 in
theorem fl_12_552 {sc : xm_Sc} : xe_fl (XE sc) 12 552 = some (12, 38) := rfl
set_option maxRecDepth 20000 in
theorem fl_12_555 {sc : xm_Sc} : xe_fl (XE sc) 12 555 = some (12, 39) := rfl
set_option maxRecDepth 20000 in
theorem fl_12_577 {sc : xm_Sc} : xe_fl (XE sc) 12 577 = some (12, 36) := rfl
set_option maxRecDepth 20000 in
theorem fl_12_592 {sc : xm_Sc} : xe_fl (XE sc) 12 592 = some (12, 81) := rfl
set_option maxRecDepth 20000 in
theorem fl_12_595 {sc : xm_Sc} : xe_fl (XE sc) 12 595 = some (12, 82) := rfl
set_option maxRecDepth 20000 in
theorem fl_12_598 {sc : xm_Sc} : xe_fl (XE sc) 12 598 = some (12, 84) := rfl
set_option maxRecDepth 20000 in
theorem fl_12_601 {sc : xm_Sc} : xe_fl (XE sc) 12 601 = some (12, 83) := rfl
set_option maxRecDepth 20000 in
theorem fl_12_610 {sc : xm_Sc} : xe_fl (XE sc) 12 610 = some (12, 85) := rfl
set_option maxRecDepth 20000 in
theorem fl_12_629 {sc : xm_Sc} : xe_fl (XE sc) 12 629 = some (12, 88) := rfl
set_option maxRecDepth 20000 in
theorem fl_12_656 {sc : xm_Sc} : xe_fl (XE sc) 12 656 = some (12, 92) := rfl
set_option maxRecDepth 20000 in
theorem ki_12_659 {sc : xm_Sc} : xe_kI (XE sc) 12 659 = some 65536 := rfl
set_option maxRecDepth 20000 in
theorem kl_12_199 {sc : xm_Sc} : xe_kL (XE sc) 12 199 = some 64 := rfl
set_option maxRecDepth 20000 in
theorem kl_12_209 {sc : xm_Sc} : xe_kL (XE sc) 12 209 = some 2147483647 := rfl
set_option maxRecDepth 20000 in
theorem kl_12_218 {sc : xm_Sc} : xe_kL (XE sc) 12 218 = some 255 := rfl
set_option maxRecDepth 20000 in
theorem kl_12_419 {sc : xm_Sc} : xe_kL (XE sc) 12 419 = some (-9223372036854775808) := rfl
set_option maxRecDepth 20000 in
theorem kl_12_428 {sc : xm_Sc} : xe_kL (XE sc) 12 428 = some (-1) := rfl
set_option maxRecDepth 20000 in
theorem kl_12_430 {sc : xm_Sc} : xe_kL (XE sc) 12 430 = some 4294967295 := rfl
set_option maxRecDepth 20000 in
theorem kl_12_535 {sc : xm_Sc} : xe_kL (XE sc) 12 535 = some 1000000 := rfl
set_option maxRecDepth 20000 in
theorem kl_12_550 {sc : xm_Sc} : xe_kL (XE sc) 12 550 = some 2 := rfl
set_option maxRecDepth 20000 in
theorem gs_12_196 {sc : xm_Sc} : xe_gs (XE sc) 12 196 = some 205 := rfl
set_option maxRecDepth 20000 in
theorem gs_12_314 {sc : xm_Sc} : xe_gs (XE sc) 12 314 = some 206 := rfl
set_option maxRecDepth 20000 in
theorem gs_12_317 {sc : xm_Sc} : xe_gs (XE sc) 12 317 = some 207 := rfl
set_option maxRecDepth 20000 in
theorem lk_12_201 {sc : xm_Sc} : xe_lk (XE sc) 12 201 = some 250 := rfl
set_option maxRecDepth 20000 in
theorem lk_12_211 {sc : xm_Sc} : xe_lk (XE sc) 12 211 = some 319 := rfl
set_option maxRecDepth 20000 in
theorem lk_12_229 {sc : xm_Sc} : xe_lk (XE sc) 12 229 = some 214 := rfl
set_option maxRecDepth 20000 in
theorem lk_12_236 {sc : xm_Sc} : xe_lk (XE sc) 12 236 = some 213 := rfl
set_option maxRecDepth 20000 in
theorem lk_12_240 {sc : xm_Sc} : xe_lk (XE sc) 12 240 = some 223 := rfl
set_option maxRecDepth 20000 in
theorem lk_12_243 {sc : xm_Sc} : xe_lk (XE sc) 12 243 = some 209 := rfl
set_option maxRecDepth 20000 in
theorem lk_12_246 {sc : xm_Sc} : xe_lk (XE sc) 12 246 = some 273 := rfl
set_option maxRecDepth 20000 in
theorem lk_12_250 {sc : xm_Sc} : xe_lk (XE sc) 12 250 = some 242 := rfl
set_option maxRecDepth 20000 in
theorem lk_12_254 {sc : xm_Sc} : xe_lk (XE sc) 12 254 = some 212 := rfl
set_option maxRecDepth 20000 in
theorem lk_12_258 {sc : xm_Sc} : xe_lk (XE sc) 12 258 = some 241 := rfl
set_option maxRecDepth 20000 in
theorem lk_12_265 {sc : xm_Sc} : xe_lk (XE sc) 12 265 = some 227 := rfl
set_option maxRecDepth 20000 in
theorem lk_12_268 {sc : xm_Sc} : xe_lk (XE sc) 12 268 = some 314 := rfl
set_option maxRecDepth 20000 in
theorem lk_12_271 {sc : xm_Sc} : xe_lk (XE sc) 12 271 = some 204 := rfl
set_option maxRecDepth 20000 in
theorem lk_12_274 {sc : xm_Sc} : xe_lk (XE sc) 12 274 = some 205 := rfl
set_option maxRecDepth 20000 in
theorem lk_12_277 {sc : xm_Sc} : xe_lk (XE sc) 12 277 = some 316 := rfl
set_option maxRecDepth 20000 in
theorem lk_12_280 {sc : xm_Sc} : xe_lk (XE sc) 12 280 = some 292 := rfl
set_option maxRecDepth 20000 in
theorem lk_12_283 {sc : xm_Sc} : xe_lk (XE sc) 12 283 = some 305 := rfl
set_option maxRecDepth 20000 in
theorem lk_12_286 {sc : xm_Sc} : xe_lk (XE sc) 12 286 = some 237 := rfl
set_option maxRecDepth 20000 in
theorem lk_12_292 {sc : xm_Sc} : xe_lk (XE sc) 12 292 = some 236 := rfl
set_option maxRecDepth 20000 in
theorem lk_12_296 {sc : xm_Sc} : xe_lk (XE sc) 12 296 = some 254 := rfl
set_option maxRecDepth 20000 in
theorem lk_12_299 {sc : xm_Sc} : xe_lk (XE sc) 12 299 = some 217 := rfl
set_option maxRecDepth 20000 in
theorem lk_12_302 {sc : xm_Sc} : xe_lk (XE sc) 12 302 = some 276 := rfl
set_option maxRecDepth 20000 in
theorem lk_12_305 {sc : xm_Sc} : xe_lk (XE sc) 12 305 = some 300 := rfl
set_option maxRecDepth 20000 in
theorem lk_12_308 {sc : xm_Sc} : xe_lk (XE sc) 12 308 = some 218 := rfl
set_option maxRecDepth 20000 in
theorem lk_12_311 {sc : xm_Sc} : xe_lk (XE sc) 12 311 = some 311 := rfl
set_option maxRecDepth 20000 in
theorem lk_12_320 {sc : xm_Sc} : xe_lk (XE sc) 12 320 = some 263 := rfl
set_option maxRecDepth 20000 in
theorem lk_12_323 {sc : xm_Sc} : xe_lk (XE sc) 12 323 = some 248 := rfl
set_option maxRecDepth 20000 in
theorem lk_12_326 {sc : xm_Sc} : xe_lk (XE sc) 12 326 = some 222 := rfl
set_option maxRecDepth 20000 in
theorem lk_12_339 {sc : xm_Sc} : xe_lk (XE sc) 12 339 = some 208 := rfl
set_option maxRecDepth 20000 in
theorem lk_12_342 {sc : xm_Sc} : xe_lk (XE sc) 12 342 = some 210 := rfl
set_option maxRecDepth 20000 in
theorem lk_12_345 {sc : xm_Sc} : xe_lk (XE sc) 12 345 = some 266 := rfl
set_option maxRecDepth 20000 in
theorem lk_12_348 {sc : xm_Sc} : xe_lk (XE sc) 12 348 = some 281 := rfl
set_option maxRecDepth 20000 in
theorem lk_12_351 {sc : xm_Sc} : xe_lk (XE sc) 12 351 = some 225 := rfl
set_option maxRecDepth 20000 in
theorem lk_12_354 {sc : xm_Sc} : xe_lk (XE sc) 12 354 = some 234 := rfl
set_option maxRecDepth 20000 in
theorem lk_12_360 {sc : xm_Sc} : xe_lk (XE sc) 12 360 = some 282 := rfl
set_option maxRecDepth 20000 in
theorem lk_12_363 {sc : xm_Sc} : xe_lk (XE sc) 12 363 = some 231 := rfl
set_option maxRecDepth 20000 in
theorem lk_12_366 {sc : xm_Sc} : xe_lk (XE sc) 12 366 = some 238 := rfl
set_option maxRecDepth 20000 in
theorem lk_12_369 {sc : xm_Sc} : xe_lk (XE sc) 12 369 = some 224 := rfl
set_option maxRecDepth 20000 in
theorem lk_12_372 {sc : xm_Sc} : xe_lk (XE sc) 12 372 = some 228 := rfl
set_option maxRecDepth 20000 in
theorem lk_12_375 {sc : xm_Sc} : xe_lk (XE sc) 12 375 = some 284 := rfl
set_option maxRecDepth 20000 in
theorem lk_12_384 {sc : xm_Sc} : xe_lk (XE sc) 12 384 = some 245 := rfl
set_option maxRecDepth 20000 in
theorem lk_12_387 {sc : xm_Sc} : xe_lk (XE sc) 12 387 = some 289 := rfl
set_option maxRecDepth 20000 in
theorem lk_12_390 {sc : xm_Sc} : xe_lk (XE sc) 12 390 = some 288 := rfl
set_option maxRecDepth 20000 in
theorem lk_12_393 {sc : xm_Sc} : xe_lk (XE sc) 12 393 = some 211 := rfl
set_option maxRecDepth 20000 in
theorem lk_12_396 {sc : xm_Sc} : xe_lk (XE sc) 12 396 = some 247 := rfl
set_option maxRecDepth 20000 in
theorem lk_12_400 {sc : xm_Sc} : xe_lk (XE sc) 12 400 = some 306 := rfl
set_option maxRecDepth 20000 in
theorem lk_12_403 {sc : xm_Sc} : xe_lk (XE sc) 12 403 = some 295 := rfl
set_option maxRecDepth 20000 in
theorem lk_12_406 {sc : xm_Sc} : xe_lk (XE sc) 12 406 = some 202 := rfl
set_option maxRecDepth 20000 in
theorem lk_12_410 {sc : xm_Sc} : xe_lk (XE sc) 12 410 = some 283 := rfl
set_option maxRecDepth 20000 in
theorem lk_12_416 {sc : xm_Sc} : xe_lk (XE sc) 12 416 = some 244 := rfl
set_option maxRecDepth 20000 in
theorem lk_12_421 {sc : xm_Sc} : xe_lk (XE sc) 12 421 = some 207 := rfl
set_option maxRecDepth 20000 in
theorem lk_12_425 {sc : xm_Sc} : xe_lk (XE sc) 12 425 = some 280 := rfl
set_option maxRecDepth 20000 in
theorem lk_12_432 {sc : xm_Sc} : xe_lk (XE sc) 12 432 = some 260 := rfl
set_option maxRecDepth 20000 in
theorem lk_12_436 {sc : xm_Sc} : xe_lk (XE sc) 12 436 = some 279 := rfl
set_option maxRecDepth 20000 in
theorem lk_12_440 {sc : xm_Sc} : xe_lk (XE sc) 12 440 = some 229 := rfl
set_option maxRecDepth 20000 in
theorem lk_12_443 {sc : xm_Sc} : xe_lk (XE sc) 12 443 = some 286 := rfl
set_option maxRecDepth 20000 in
theorem lk_12_446 {sc : xm_Sc} : xe_lk (XE sc) 12 446 = some 293 := rfl
set_option maxRecDepth 20000 in
theorem lk_12_450 {sc : xm_Sc} : xe_lk (XE sc) 12 450 = some 299 := rfl
set_option maxRecDepth 20000 in
theorem lk_12_454 {sc : xm_Sc} : xe_lk (XE sc) 12 454 = some 262 := rfl
set_option maxRecDepth 20000 in
theorem lk_12_458 {sc : xm_Sc} : xe_lk (XE sc) 12 458 = some 264 := rfl
set_option maxRecDepth 20000 in
theorem lk_12_462 {sc : xm_Sc} : xe_lk (XE sc) 12 462 = some 272 := rfl
set_option maxRecDepth 20000 in
theorem lk_12_465 {sc : xm_Sc} : xe_lk (XE sc) 12 465 = some 201 := rfl
set_option maxRecDepth 20000 in
theorem lk_12_468 {sc : xm_Sc} : xe_lk (XE sc) 12 468 = some 269 := rfl
set_option maxRecDepth 20000 in
theorem lk_12_471 {sc : xm_Sc} : xe_lk (XE sc) 12 471 = some 298 := rfl
set_option maxRecDepth 20000 in
theorem lk_12_475 {sc : xm_Sc} : xe_lk (XE sc) 12 475 = some 277 := rfl
set_option maxRecDepth 20000 in
theorem lk_12_479 {sc : xm_Sc} : xe_lk (XE sc) 12 479 = some 271 := rfl
set_option maxRecDepth 20000 in
theorem lk_12_483 {sc : xm_Sc} : xe_lk (XE sc) 12 483 = some 235 := rfl
set_option maxRecDepth 20000 in
theorem lk_12_487 {sc : xm_Sc} : xe_lk (XE sc) 12 487 = some 270 := rfl
set_option maxRecDepth 20000 in
theorem lk_12_491 {sc : xm_Sc} : xe_lk (XE sc) 12 491 = some 294 := rfl
set_option maxRecDepth 20000 in
theorem lk_12_516 {sc : xm_Sc} : xe_lk (XE sc) 12 516 = some 203 := rfl
set_option maxRecDepth 20000 in
theorem lk_12_520 {sc : xm_Sc} : xe_lk (XE sc) 12 520 = some 215 := rfl
set_option maxRecDepth 20000 in
theorem lk_12_523 {sc : xm_Sc} : xe_lk (XE sc) 12 523 = some 230 := rfl
set_option maxRecDepth 20000 in
theorem lk_12_526 {sc : xm_Sc} : xe_lk (XE sc) 12 526 = some 249 := rfl
set_option maxRecDepth 20000 in
theorem lk_12_529 {sc : xm_Sc} : xe_lk (XE sc) 12 529 = some 239 := rfl
set_option maxRecDepth 20000 in
theorem lk_12_532 {sc : xm_Sc} : xe_lk (XE sc) 12 532 = some 304 := rfl
set_option maxRecDepth 20000 in
theorem lk_12_537 {sc : xm_Sc} : xe_lk (XE sc) 12 537 = some 278 := rfl
set_option maxRecDepth 20000 in
theorem lk_12_541 {sc : xm_Sc} : xe_lk (XE sc) 12 541 = some 226 := rfl
set_option maxRecDepth 20000 in
theorem lk_12_558 {sc : xm_Sc} : xe_lk (XE sc) 12 558 = some 307 := rfl
set_option maxRecDepth 20000 in
theorem lk_12_561 {sc : xm_Sc} : xe_lk (XE sc) 12 561 = some 232 := rfl
set_option maxRecDepth 20000 in
theorem lk_12_564 {sc : xm_Sc} : xe_lk (XE sc) 12 564 = some 313 := rfl
set_option maxRecDepth 20000 in
theorem lk_12_568 {sc : xm_Sc} : xe_lk (XE sc) 12 568 = some 308 := rfl
set_option maxRecDepth 20000 in
theorem lk_12_571 {sc : xm_Sc} : xe_lk (XE sc) 12 571 = some 258 := rfl
set_option maxRecDepth 20000 in
theorem lk_12_574 {sc : xm_Sc} : xe_lk (XE sc) 12 574 = some 303 := rfl
set_option maxRecDepth 20000 in
theorem lk_12_580 {sc : xm_Sc} : xe_lk (XE sc) 12 580 = some 257 := rfl
set_option maxRecDepth 20000 in
theorem lk_12_583 {sc : xm_Sc} : xe_lk (XE sc) 12 583 = some 256 := rfl
set_option maxRecDepth 20000 in
theorem lk_12_586 {sc : xm_Sc} : xe_lk (XE sc) 12 586 = some 259 := rfl
set_option maxRecDepth 20000 in
theorem lk_12_589 {sc : xm_Sc} : xe_lk (XE sc) 12 589 = some 255 := rfl
set_option maxRecDepth 20000 in
theorem lk_12_604 {sc : xm_Sc} : xe_lk (XE sc) 12 604 = some 328 := rfl
set_option maxRecDepth 20000 in
theorem lk_12_607 {sc : xm_Sc} : xe_lk (XE sc) 12 607 = some 233 := rfl
set_option maxRecDepth 20000 in
theorem lk_12_613 {sc : xm_Sc} : xe_lk (XE sc) 12 613 = some 267 := rfl
set_option maxRecDepth 20000 in
theorem lk_12_616 {sc : xm_Sc} : xe_lk (XE sc) 12 616 = some 275 := rfl
set_option maxRecDepth 20000 in
theorem lk_12_619 {sc : xm_Sc} : xe_lk (XE sc) 12 619 = some 310 := rfl
set_option maxRecDepth 20000 in
theorem lk_12_623 {sc : xm_Sc} : xe_lk (XE sc) 12 623 = some 265 := rfl
set_option maxRecDepth 20000 in
theorem lk_12_626 {sc : xm_Sc} : xe_lk (XE sc) 12 626 = some 253 := rfl
set_option maxRecDepth 20000 in
theorem lk_12_632 {sc : xm_Sc} : xe_lk (XE sc) 12 632 = some 240 := rfl
set_option maxRecDepth 20000 in
theorem lk_12_635 {sc : xm_Sc} : xe_lk (XE sc) 12 635 = some 302 := rfl
set_option maxRecDepth 20000 in
theorem lk_12_638 {sc : xm_Sc} : xe_lk (XE sc) 12 638 = some 301 := rfl
set_option maxRecDepth 20000 in
theorem lk_12_641 {sc : xm_Sc} : xe_lk (XE sc) 12 641 = some 285 := rfl
set_option maxRecDepth 20000 in
theorem lk_12_644 {sc : xm_Sc} : xe_lk (XE sc) 12 644 = some 246 := rfl
set_option maxRecDepth 20000 in
theorem lk_12_647 {sc : xm_Sc} : xe_lk (XE sc) 12 647 = some 206 := rfl
set_option maxRecDepth 20000 in
theorem lk_12_650 {sc : xm_Sc} : xe_lk (XE sc) 12 650 = some 243 := rfl
set_option maxRecDepth 20000 in
theorem lk_12_653 {sc : xm_Sc} : xe_lk (XE sc) 12 653 = some 220 := rfl
set_option maxRecDepth 20000 in
theorem lk_12_660 {sc : xm_Sc} : xe_lk (XE sc) 12 660 = some 323 := rfl
set_option maxRecDepth 20000 in
theorem lk_12_663 {sc : xm_Sc} : xe_lk (XE sc) 12 663 = some 219 := rfl
set_option maxRecDepth 20000 in
theorem lk_12_666 {sc : xm_Sc} : xe_lk (XE sc) 12 666 = some 324 := rfl
set_option maxRecDepth 20000 in
theorem lk_12_670 {sc : xm_Sc} : xe_lk (XE sc) 12 670 = some 325 := rfl
set_option maxRecDepth 20000 in
theorem lk_12_673 {sc : xm_Sc} : xe_lk (XE sc) 12 673 = some 326 := rfl
set_option maxRecDepth 20000 in
theorem lk_12_676 {sc : xm_Sc} : xe_lk (XE sc) 12 676 = some 216 := rfl
set_option maxRecDepth 20000 in
theorem lk_12_679 {sc : xm_Sc} : xe_lk (XE sc) 12 679 = some 261 := rfl
set_option maxRecDepth 20000 in
theorem lk_12_682 {sc : xm_Sc} : xe_lk (XE sc) 12 682 = some 320 := rfl
set_option maxRecDepth 20000 in
theorem lk_12_685 {sc : xm_Sc} : xe_lk (XE sc) 12 685 = some 327 := rfl
set_option maxRecDepth 20000 in
theorem lk_12_688 {sc : xm_Sc} : xe_lk (XE sc) 12 688 = some 297 := rfl
