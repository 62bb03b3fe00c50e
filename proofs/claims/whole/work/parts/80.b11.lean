/- method 178: X11_again -/
def b_X11_again_0 : List (Nat × Jvm.ClassFile.Instr × Nat) := [(0, .aload_n 0, 1), (1, .getfield 10, 3), (4, .aload_n 0, 1), (5, .getfield 16, 3), (8, .invokevirtual 197, 3)]
set_option maxRecDepth 20000 in
theorem k_X11_again_0 {sc : xm_Sc} : xm_bok (xe_cy (XE sc) 178) b_X11_again_0 := by show xm_bok cX11_again _; unfold xm_bok; decide +kernel
def b_X11_again_11 : List (Nat × Jvm.ClassFile.Instr × Nat) := [(11, .aload_n 0, 1), (12, .getfield 10, 3), (15, .getfield 85, 3), (18, .ireturn, 1)]
set_option maxRecDepth 20000 in
theorem k_X11_again_11 {sc : xm_Sc} : xm_bok (xe_cy (XE sc) 178) b_X11_again_11 := by show xm_bok cX11_again _; unfold xm_bok; decide +kernel
set_option maxRecDepth 20000 in
theorem cn_178 {sc : xm_Sc} : xe_cn (XE sc) 178 = 11 := rfl
set_option maxRecDepth 20000 in
theorem ml_178 {sc : xm_Sc} : xe_ml (XE sc) 178 = 1 := rfl
set_option maxRecDepth 20000 in
theorem ry_178 {sc : xm_Sc} : xe_ry (XE sc) 178 = (some .int) := rfl
set_option maxRecDepth 20000 in
theorem is_178 {sc : xm_Sc} : xe_is (XE sc) 178 = false := rfl
set_option maxRecDepth 20000 in
theorem np_178 {sc : xm_Sc} : xe_np (XE sc) 178 = 0 := rfl
/- method 179: X11_feed -/
def b_X11_feed_0 : List (Nat × Jvm.ClassFile.Instr × Nat) := [(0, .iload_n 1, 1), (1, .iconst 1, 1), (2, .if_icmp .lt 9, 3)]
set_option maxRecDepth 20000 in
theorem k_X11_feed_0 {sc : xm_Sc} : xm_bok (xe_cy (XE sc) 179) b_X11_feed_0 := by show xm_bok cX11_feed _; unfold xm_bok; decide +kernel
def b_X11_feed_5 : List (Nat × Jvm.ClassFile.Instr × Nat) := [(5, .iload_n 1, 1), (6, .bipush 8, 2), (8, .if_icmp .le 13, 3)]
set_option maxRecDepth 20000 in
theorem k_X11_feed_5 {sc : xm_Sc} : xm_bok (xe_cy (XE sc) 179) b_X11_feed_5 := by show xm_bok cX11_feed _; unfold xm_bok; decide +kernel
def b_X11_feed_21 : List (Nat × Jvm.ClassFile.Instr × Nat) := [(21, .aload_n 0, 1), (22, .getfield 10, 3), (25, .getfield 85, 3), (28, .iload_n 1, 1), (29, .iadd, 1), (30, .sipush 8192, 3), (33, .if_icmp .le 13, 3)]
set_option maxRecDepth 20000 in
theorem k_X11_feed_21 {sc : xm_Sc} : xm_bok (xe_cy (XE sc) 179) b_X11_feed_21 := by show xm_bok cX11_feed _; unfold xm_bok; decide +kernel
def b_X11_feed_46 : List (Nat × Jvm.ClassFile.Instr × Nat) := [(46, .iconst 0, 1), (47, .istore 4, 2)]
set_option maxRecDepth 20000 in
theorem k_X11_feed_46 {sc : xm_Sc} : xm_bok (xe_cy (XE sc) 179) b_X11_feed_46 := by show xm_bok cX11_feed _; unfold xm_bok; decide +kernel
def b_X11_feed_49 : List (Nat × Jvm.ClassFile.Instr × Nat) := [(49, .iload 4, 2), (51, .iload_n 1, 1), (52, .if_icmp .ge 28, 3)]
set_option maxRecDepth 20000 in
theorem k_X11_feed_49 {sc : xm_Sc} : xm_bok (xe_cy (XE sc) 179) b_X11_feed_49 := by show xm_bok cX11_feed _; unfold xm_bok; decide +kernel
def b_X11_feed_55 : List (Nat × Jvm.ClassFile.Instr × Nat) := [(55, .aload_n 0, 1), (56, .getfield 10, 3), (59, .lload_n 2, 1), (60, .bipush 8, 2), (62, .iload 4, 2), (64, .imul, 1), (65, .lushr, 1), (66, .l2i, 1), (67, .sipush 255, 3), (70, .iand, 1), (71, .invokevirtual 94, 3)]
set_option maxRecDepth 20000 in
theorem k_X11_feed_55 {sc : xm_Sc} : xm_bok (xe_cy (XE sc) 179) b_X11_feed_55 := by show xm_bok cX11_feed _; unfold xm_bok; decide +kernel
def b_X11_feed_74 : List (Nat × Jvm.ClassFile.Instr × Nat) := [(74, .iinc 4 1, 3), (77, .goto (-28), 3)]
set_option maxRecDepth 20000 in
theorem k_X11_feed_74 {sc : xm_Sc} : xm_bok (xe_cy (XE sc) 179) b_X11_feed_74 := by show xm_bok cX11_feed _; unfold xm_bok; decide +kernel
def b_X11_feed_80 : List (Nat × Jvm.ClassFile.Instr × Nat) := [(80, .aload_n 0, 1), (81, .getfield 10, 3), (84, .getfield 85, 3), (87, .ireturn, 1)]
set_option maxRecDepth 20000 in
theorem k_X11_feed_80 {sc : xm_Sc} : xm_bok (xe_cy (XE sc) 179) b_X11_feed_80 := by show xm_bok cX11_feed _; unfold xm_bok; decide +kernel
set_option maxRecDepth 20000 in
theorem cn_179 {sc : xm_Sc} : xe_cn (XE sc) 179 = 11 := rfl
set_option maxRecDepth 20000 in
theorem ml_179 {sc : xm_Sc} : xe_ml (XE sc) 179 = 5 := rfl
set_option maxRecDepth 20000 in
theorem ry_179 {sc : xm_Sc} : xe_ry (XE sc) 179 = (some .int) := rfl
set_option maxRecDepth 20000 in
theorem is_179 {sc : xm_Sc} : xe_is (XE sc) 179 = false := rfl
set_option maxRecDepth 20000 in
theorem np_179 {sc : xm_Sc} : xe_np (XE sc) 179 = 2 := rfl
/- method 180: X11_isNode -/
def b_X11_isNode_0 : List (Nat × Jvm.ClassFile.Instr × Nat) := [(0, .iload_n 1, 1), (1, .ifCond .lt 18, 3)]
set_option maxRecDepth 20000 in
theorem k_X11_isNode_0 {sc : xm_Sc} : xm_bok (xe_cy (XE sc) 180) b_X11_isNode_0 := by show xm_bok cX11_isNode _; unfold xm_bok; decide +kernel
def b_X11_isNode_4 : List (Nat × Jvm.ClassFile.Instr × Nat) := [(4, .iload_n 1, 1), (5, .aload_n 0, 1), (6, .getfield 71, 3), (9, .getfield 119, 3), (12, .if_icmp .ge 7, 3)]
set_option maxRecDepth 20000 in
theorem k_X11_isNode_4 {sc : xm_Sc} : xm_bok (xe_cy (XE sc) 180) b_X11_isNode_4 := by show xm_bok cX11_isNode _; unfold xm_bok; decide +kernel
def b_X11_isNode_15 : List (Nat × Jvm.ClassFile.Instr × Nat) := [(15, .iconst 1, 1), (16, .goto 4, 3)]
set_option maxRecDepth 20000 in
theorem k_X11_isNode_15 {sc : xm_Sc} : xm_bok (xe_cy (XE sc) 180) b_X11_isNode_15 := by show xm_bok cX11_isNode _; unfold xm_bok; decide +kernel
def b_X11_isNode_19 : List (Nat × Jvm.ClassFile.Instr × Nat) := [(19, .iconst 0, 1)]
set_option maxRecDepth 20000 in
theorem k_X11_isNode_19 {sc : xm_Sc} : xm_bok (xe_cy (XE sc) 180) b_X11_isNode_19 := by show xm_bok cX11_isNode _; unfold xm_bok; decide +kernel
def b_X11_isNode_20 : List (Nat × Jvm.ClassFile.Instr × Nat) := [(20, .ireturn, 1)]
set_option maxRecDepth 20000 in
theorem k_X11_isNode_20 {sc : xm_Sc} : xm_bok (xe_cy (XE sc) 180) b_X11_isNode_20 := by show xm_bok cX11_isNode _; unfold xm_bok; decide +kernel
set_option maxRecDepth 20000 in
theorem cn_180 {sc : xm_Sc} : xe_cn (XE sc) 180 = 11 := rfl
set_option maxRecDepth 20000 in
theorem ml_180 {sc : xm_Sc} : xe_ml (XE sc) 180 = 2 := rfl
set_option maxRecDepth 20000 in
theorem ry_180 {sc : xm_Sc} : xe_ry (XE sc) 180 = (some .boolean) := rfl
set_option maxRecDepth 20000 in
theorem is_180 {sc : xm_Sc} : xe_is (XE sc) 180 = false := rfl
set_option maxRecDepth 20000 in
theorem np_180 {sc : xm_Sc} : xe_np (XE sc) 180 = 1 := rfl
/- method 181: X11_load -/
def b_X11_load_0 : List (Nat × Jvm.ClassFile.Instr × Nat) := [(0, .aload_n 0, 1), (1, .aload_n 0, 1), (2, .getfield 57, 3), (5, .aload_n 0, 1), (6, .getfield 10, 3), (9, .aload_n 0, 1), (10, .getfield 75, 3), (13, .invokevirtual 101, 3)]
set_option maxRecDepth 20000 in
theorem k_X11_load_0 {sc : xm_Sc} : xm_bok (xe_cy (XE sc) 181) b_X11_load_0 := by show xm_bok cX11_load _; unfold xm_bok; decide +kernel
def b_X11_load_16 : List (Nat × Jvm.ClassFile.Instr × Nat) := [(16, .putfield 105, 3), (19, .aload_n 0, 1), (20, .getfield 10, 3), (23, .invokevirtual 98, 3)]
set_option maxRecDepth 20000 in
theorem k_X11_load_16 {sc : xm_Sc} : xm_bok (xe_cy (XE sc) 181) b_X11_load_16 := by show xm_bok cX11_load _; unfold xm_bok; decide +kernel
def b_X11_load_26 : List (Nat × Jvm.ClassFile.Instr × Nat) := [(26, .aload_n 0, 1), (27, .getfield 105, 3), (30, .ifCond .ne 46, 3)]
set_option maxRecDepth 20000 in
theorem k_X11_load_26 {sc : xm_Sc} : xm_bok (xe_cy (XE sc) 181) b_X11_load_26 := by show xm_bok cX11_load _; unfold xm_bok; decide +kernel
def b_X11_load_33 : List (Nat × Jvm.ClassFile.Instr × Nat) := [(33, .aload_n 0, 1), (34, .getfield 71, 3), (37, .astore_n 1, 1), (38, .aload_n 0, 1), (39, .aload_n 0, 1), (40, .getfield 75, 3), (43, .putfield 71, 3), (46, .aload_n 0, 1), (47, .aload_n 1, 1), (48, .putfield 75, 3), (51, .aload_n 0, 1), (52, .getfield 71, 3), (55, .invokevirtual 108, 3)]
set_option maxRecDepth 20000 in
theorem k_X11_load_33 {sc : xm_Sc} : xm_bok (xe_cy (XE sc) 181) b_X11_load_33 := by show xm_bok cX11_load _; unfold xm_bok; decide +kernel
def b_X11_load_58 : List (Nat × Jvm.ClassFile.Instr × Nat) := [(58, .aload_n 0, 1), (59, .getfield 71, 3), (62, .aload_n 0, 1), (63, .getfield 32, 3), (66, .invokevirtual 111, 3)]
set_option maxRecDepth 20000 in
theorem k_X11_load_58 {sc : xm_Sc} : xm_bok (xe_cy (XE sc) 181) b_X11_load_58 := by show xm_bok cX11_load _; unfold xm_bok; decide +kernel
def b_X11_load_69 : List (Nat × Jvm.ClassFile.Instr × Nat) := [(69, .aload_n 0, 1), (70, .getfield 48, 3), (73, .invokevirtual 114, 3)]
set_option maxRecDepth 20000 in
theorem k_X11_load_69 {sc : xm_Sc} : xm_bok (xe_cy (XE sc) 181) b_X11_load_69 := by show xm_bok cX11_load _; unfold xm_bok; decide +kernel
def b_X11_load_76 : List (Nat × Jvm.ClassFile.Instr × Nat) := [(76, .aload_n 0, 1), (77, .getfield 105, 3), (80, .ireturn, 1)]
set_option maxRecDepth 20000 in
theorem k_X11_load_76 {sc : xm_Sc} : xm_bok (xe_cy (XE sc) 181) b_X11_load_76 := by show xm_bok cX11_load _; unfold xm_bok; decide +kernel
set_option maxRecDepth 20000 in
theorem cn_181 {sc : xm_Sc} : xe_cn (XE sc) 181 = 11 := rfl
set_option maxRecDepth 20000 in
theorem ml_181 {sc : xm_Sc} : xe_ml (XE sc) 181 = 2 := rfl
set_option maxRecDepth 20000 in
theorem ry_181 {sc : xm_Sc} : xe_ry (XE sc) 181 = (some .int) := rfl
set_option maxRecDepth 20000 in
theorem is_181 {sc : xm_Sc} : xe_is (XE sc) 181 = false := rfl
set_option maxRecDepth 20000 in
theorem np_181 {sc : xm_Sc} : xe_np (XE sc) 181 = 0 := rfl
/- method 182: X11_look -/
def b_X11_look_0 : List (Nat × Jvm.ClassFile.Instr × Nat) := [(0, .iload_n 1, 1), (1, .ifCond .lt 9, 3)]
set_option maxRecDepth 20000 in
theorem k_X11_look_0 {sc : xm_Sc} : xm_bok (xe_cy (XE sc) 182) b_X11_look_0 := by show xm_bok cX11_look _; unfold xm_bok; decide +kernel
def b_X11_look_4 : List (Nat × Jvm.ClassFile.Instr × Nat) := [(4, .iload_n 1, 1), (5, .bipush 14, 2), (7, .if_icmp .le 14, 3)]
set_option maxRecDepth 20000 in
theorem k_X11_look_4 {sc : xm_Sc} : xm_bok (xe_cy (XE sc) 182) b_X11_look_4 := by show xm_bok cX11_look _; unfold xm_bok; decide +kernel
def b_X11_look_21 : List (Nat × Jvm.ClassFile.Instr × Nat) := [(21, .iload_n 1, 1), (22, .tableswitch 92 7 14 #[46, 54, 62, 67, 72, 77, 82, 87], 46)]
set_option maxRecDepth 20000 in
theorem k_X11_look_21 {sc : xm_Sc} : xm_bok (xe_cy (XE sc) 182) b_X11_look_21 := by show xm_bok cX11_look _; unfold xm_bok; decide +kernel
def b_X11_look_68 : List (Nat × Jvm.ClassFile.Instr × Nat) := [(68, .aload_n 0, 1), (69, .getfield 10, 3), (72, .getfield 85, 3), (75, .ireturn, 1)]
set_option maxRecDepth 20000 in
theorem k_X11_look_68 {sc : xm_Sc} : xm_bok (xe_cy (XE sc) 182) b_X11_look_68 := by show xm_bok cX11_look _; unfold xm_bok; decide +kernel
def b_X11_look_76 : List (Nat × Jvm.ClassFile.Instr × Nat) := [(76, .aload_n 0, 1), (77, .getfield 16, 3), (80, .getfield 85, 3), (83, .ireturn, 1)]
set_option maxRecDepth 20000 in
theorem k_X11_look_76 {sc : xm_Sc} : xm_bok (xe_cy (XE sc) 182) b_X11_look_76 := by show xm_bok cX11_look _; unfold xm_bok; decide +kernel
def b_X11_look_84 : List (Nat × Jvm.ClassFile.Instr × Nat) := [(84, .aload_n 0, 1), (85, .getfield 105, 3), (88, .ireturn, 1)]
set_option maxRecDepth 20000 in
theorem k_X11_look_84 {sc : xm_Sc} : xm_bok (xe_cy (XE sc) 182) b_X11_look_84 := by show xm_bok cX11_look _; unfold xm_bok; decide +kernel
def b_X11_look_89 : List (Nat × Jvm.ClassFile.Instr × Nat) := [(89, .aload_n 0, 1), (90, .getfield 173, 3), (93, .ireturn, 1)]
set_option maxRecDepth 20000 in
theorem k_X11_look_89 {sc : xm_Sc} : xm_bok (xe_cy (XE sc) 182) b_X11_look_89 := by show xm_bok cX11_look _; unfold xm_bok; decide +kernel
def b_X11_look_94 : List (Nat × Jvm.ClassFile.Instr × Nat) := [(94, .aload_n 0, 1), (95, .getfield 179, 3), (98, .ireturn, 1)]
set_option maxRecDepth 20000 in
theorem k_X11_look_94 {sc : xm_Sc} : xm_bok (xe_cy (XE sc) 182) b_X11_look_94 := by show xm_bok cX11_look _; unfold xm_bok; decide +kernel
def b_X11_look_99 : List (Nat × Jvm.ClassFile.Instr × Nat) := [(99, .aload_n 0, 1), (100, .getfield 185, 3), (103, .ireturn, 1)]
set_option maxRecDepth 20000 in
theorem k_X11_look_99 {sc : xm_Sc} : xm_bok (xe_cy (XE sc) 182) b_X11_look_99 := by show xm_bok cX11_look _; unfold xm_bok; decide +kernel
def b_X11_look_104 : List (Nat × Jvm.ClassFile.Instr × Nat) := [(104, .aload_n 0, 1), (105, .getfield 191, 3), (108, .ireturn, 1)]
set_option maxRecDepth 20000 in
theorem k_X11_look_104 {sc : xm_Sc} : xm_bok (xe_cy (XE sc) 182) b_X11_look_104 := by show xm_bok cX11_look _; unfold xm_bok; decide +kernel
def b_X11_look_109 : List (Nat × Jvm.ClassFile.Instr × Nat) := [(109, .aload_n 0, 1), (110, .getfield 254, 3), (113, .ireturn, 1)]
set_option maxRecDepth 20000 in
theorem k_X11_look_109 {sc : xm_Sc} : xm_bok (xe_cy (XE sc) 182) b_X11_look_109 := by show xm_bok cX11_look _; unfold xm_bok; decide +kernel
def b_X11_look_114 : List (Nat × Jvm.ClassFile.Instr × Nat) := [(114, .aload_n 0, 1), (115, .getfield 71, 3), (118, .getfield 119, 3), (121, .ifCond .ne 7, 3)]
set_option maxRecDepth 20000 in
theorem k_X11_look_114 {sc : xm_Sc} : xm_bok (xe_cy (XE sc) 182) b_X11_look_114 := by show xm_bok cX11_look _; unfold xm_bok; decide +kernel
def b_X11_look_124 : List (Nat × Jvm.ClassFile.Instr × Nat) := [(124, .iconst 0, 1), (125, .goto 8, 3)]
set_option maxRecDepth 20000 in
theorem k_X11_look_124 {sc : xm_Sc} : xm_bok (xe_cy (XE sc) 182) b_X11_look_124 := by show xm_bok cX11_look _; unfold xm_bok; decide +kernel
def b_X11_look_128 : List (Nat × Jvm.ClassFile.Instr × Nat) := [(128, .aload_n 0, 1), (129, .iload_n 1, 1), (130, .invokevirtual 286, 3)]
set_option maxRecDepth 20000 in
theorem k_X11_look_128 {sc : xm_Sc} : xm_bok (xe_cy (XE sc) 182) b_X11_look_128 := by show xm_bok cX11_look _; unfold xm_bok; decide +kernel
def b_X11_look_133 : List (Nat × Jvm.ClassFile.Instr × Nat) := [(133, .ireturn, 1)]
set_option maxRecDepth 20000 in
theorem k_X11_look_133 {sc : xm_Sc} : xm_bok (xe_cy (XE sc) 182) b_X11_look_133 := by show xm_bok cX11_look _; unfold xm_bok; decide +kernel
set_option maxRecDepth 20000 in
theorem cn_182 {sc : xm_Sc} : xe_cn (XE sc) 182 = 11 := rfl
set_option maxRecDepth 20000 in
theorem ml_182 {sc : xm_Sc} : xe_ml (XE sc) 182 = 2 := rfl
set_option maxRecDepth 20000 in
theorem ry_182 {sc : xm_Sc} : xe_ry (XE sc) 182 = (some .int) := rfl
set_option maxRecDepth 20000 in
theorem is_182 {sc : xm_Sc} : xe_is (XE sc) 182 = false := rfl
set_option maxRecDepth 20000 in
theorem np_182 {sc : xm_Sc} : xe_np (XE sc) 182 = 1 := rfl
/- method 183: X11_lookAtProgram -/
def b_X11_lookAtProgram_0 : List (Nat × Jvm.ClassFile.Instr × Nat) := [(0, .iload_n 1, 1), (1, .tableswitch 105 0 5 #[39, 47, 64, 81, 89, 97], 39)]
set_option maxRecDepth 20000 in
theorem k_X11_lookAtProgram_0 {sc : xm_Sc} : xm_bok (xe_cy (XE sc) 183) b_X11_lookAtProgram_0 := by show xm_bok cX11_lookAtProgram _; unfold xm_bok; decide +kernel
def b_X11_lookAtProgram_40 : List (Nat × Jvm.ClassFile.Instr × Nat) := [(40, .aload_n 0, 1), (41, .getfield 71, 3), (44, .getfield 119, 3), (47, .ireturn, 1)]
set_option maxRecDepth 20000 in
theorem k_X11_lookAtProgram_40 {sc : xm_Sc} : xm_bok (xe_cy (XE sc) 183) b_X11_lookAtProgram_40 := by show xm_bok cX11_lookAtProgram _; unfold xm_bok; decide +kernel
def b_X11_lookAtProgram_48 : List (Nat × Jvm.ClassFile.Instr × Nat) := [(48, .aload_n 0, 1), (49, .getfield 71, 3), (52, .aload_n 0, 1), (53, .getfield 71, 3), (56, .getfield 119, 3), (59, .iconst 1, 1), (60, .isub, 1), (61, .invokevirtual 162, 3)]
set_option maxRecDepth 20000 in
theorem k_X11_lookAtProgram_48 {sc : xm_Sc} : xm_bok (xe_cy (XE sc) 183) b_X11_lookAtProgram_48 := by show xm_bok cX11_lookAtProgram _; unfold xm_bok; decide +kernel
def b_X11_lookAtProgram_64 : List (Nat × Jvm.ClassFile.Instr × Nat) := [(64, .ireturn, 1)]
set_option maxRecDepth 20000 in
theorem k_X11_lookAtProgram_64 {sc : xm_Sc} : xm_bok (xe_cy (XE sc) 183) b_X11_lookAtProgram_64 := by show xm_bok cX11_lookAtProgram _; unfold xm_bok; decide +kernel
def b_X11_lookAtProgram_65 : List (Nat × Jvm.ClassFile.Instr × Nat) := [(65, .aload_n 0, 1), (66, .getfield 71, 3), (69, .aload_n 0, 1), (70, .getfield 71, 3), (73, .getfield 119, 3), (76, .iconst 1, 1), (77, .isub, 1), (78, .invokevirtual 166, 3)]
set_option maxRecDepth 20000 in
theorem k_X11_lookAtProgram_65 {sc : xm_Sc} : xm_bok (xe_cy (XE sc) 183) b_X11_lookAtProgram_65 := by show xm_bok cX11_lookAtProgram _; unfold xm_bok; decide +kernel
def b_X11_lookAtProgram_81 : List (Nat × Jvm.ClassFile.Instr × Nat) := [(81, .ireturn, 1)]
set_option maxRecDepth 20000 in
theorem k_X11_lookAtProgram_81 {sc : xm_Sc} : xm_bok (xe_cy (XE sc) 183) b_X11_lookAtProgram_81 := by show xm_bok cX11_lookAtProgram _; unfold xm_bok; decide +kernel
def b_X11_lookAtProgram_82 : List (Nat × Jvm.ClassFile.Instr × Nat) := [(82, .aload_n 0, 1), (83, .getfield 71, 3), (86, .invokevirtual 147, 3)]
set_option maxRecDepth 20000 in
theorem k_X11_lookAtProgram_82 {sc : xm_Sc} : xm_bok (xe_cy (XE sc) 183) b_X11_lookAtProgram_82 := by show xm_bok cX11_lookAtProgram _; unfold xm_bok; decide +kernel
def b_X11_lookAtProgram_89 : List (Nat × Jvm.ClassFile.Instr × Nat) := [(89, .ireturn, 1)]
set_option maxRecDepth 20000 in
theorem k_X11_lookAtProgram_89 {sc : xm_Sc} : xm_bok (xe_cy (XE sc) 183) b_X11_lookAtProgram_89 := by show xm_bok cX11_lookAtProgram _; unfold xm_bok; decide +kernel
def b_X11_lookAtProgram_90 : List (Nat × Jvm.ClassFile.Instr × Nat) := [(90, .aload_n 0, 1), (91, .getfield 71, 3), (94, .invokevirtual 289, 3)]
set_option maxRecDepth 20000 in
theorem k_X11_lookAtProgram_90 {sc : xm_Sc} : xm_bok (xe_cy (XE sc) 183) b_X11_lookAtProgram_90 := by show xm_bok cX11_lookAtProgram _; unfold xm_bok; decide +kernel
def b_X11_lookAtProgram_97 : List (Nat × Jvm.ClassFile.Instr × Nat) := [(97, .ireturn, 1)]
set_option maxRecDepth 20000 in
theorem k_X11_lookAtProgram_97 {sc : xm_Sc} : xm_bok (xe_cy (XE sc) 183) b_X11_lookAtProgram_97 := by show xm_bok cX11_lookAtProgram _; unfold xm_bok; decide +kernel
def b_X11_lookAtProgram_98 : List (Nat × Jvm.ClassFile.Instr × Nat) := [(98, .aload_n 0, 1), (99, .getfield 71, 3), (102, .invokevirtual 142, 3)]
set_option maxRecDepth 20000 in
theorem k_X11_lookAtProgram_98 {sc : xm_Sc} : xm_bok (xe_cy (XE sc) 183) b_X11_lookAtProgram_98 := by show xm_bok cX11_lookAtProgram _; unfold xm_bok; decide +kernel
def b_X11_lookAtProgram_105 : List (Nat × Jvm.ClassFile.Instr × Nat) := [(105, .ireturn, 1)]
set_option maxRecDepth 20000 in
theorem k_X11_lookAtProgram_105 {sc : xm_Sc} : xm_bok (xe_cy (XE sc) 183) b_X11_lookAtProgram_105 := by show xm_bok cX11_lookAtProgram _; unfold xm_bok; decide +kernel
def b_X11_lookAtProgram_106 : List (Nat × Jvm.ClassFile.Instr × Nat) := [(106, .aload_n 0, 1), (107, .getfield 71, 3), (110, .getfield 292, 3), (113, .ireturn, 1)]
set_option maxRecDepth 20000 in
theorem k_X11_lookAtProgram_106 {sc : xm_Sc} : xm_bok (xe_cy (XE sc) 183) b_X11_lookAtProgram_106 := by show xm_bok cX11_lookAtProgram _; unfold xm_bok; decide +kernel
set_option maxRecDepth 20000 in
theorem cn_183 {sc : xm_Sc} : xe_cn (XE sc) 183 = 11 := rfl
set_option maxRecDepth 20000 in
theorem ml_183 {sc : xm_Sc} : xe_ml (XE sc) 183 = 2 := rfl
set_option maxRecDepth 20000 in
theorem ry_183 {sc : xm_Sc} : xe_ry (XE sc) 183 = (some .int) := rfl
set_option maxRecDepth 20000 in
theorem is_183 {sc : xm_Sc} : xe_is (XE sc) 183 = false := rfl
set_option maxRecDepth 20000 in
theorem np_183 {sc : xm_Sc} : xe_np (XE sc) 183 = 1 := rfl
/- method 184: X11_node -/
def b_X11_node_0 : List (Nat × Jvm.ClassFile.Instr × Nat) := [(0, .aload_n 0, 1), (1, .iload_n 1, 1), (2, .invokevirtual 201, 3)]
set_option maxRecDepth 20000 in
theorem k_X11_node_0 {sc : xm_Sc} : xm_bok (xe_cy (XE sc) 184) b_X11_node_0 := by show xm_bok cX11_node _; unfold xm_bok; decide +kernel
def b_X11_node_5 : List (Nat × Jvm.ClassFile.Instr × Nat) := [(5, .ifCond .eq 13, 3)]
set_option maxRecDepth 20000 in
theorem k_X11_node_5 {sc : xm_Sc} : xm_bok (xe_cy (XE sc) 184) b_X11_node_5 := by show xm_bok cX11_node _; unfold xm_bok; decide +kernel
def b_X11_node_8 : List (Nat × Jvm.ClassFile.Instr × Nat) := [(8, .iload_n 2, 1), (9, .ifCond .lt 9, 3)]
set_option maxRecDepth 20000 in
theorem k_X11_node_8 {sc : xm_Sc} : xm_bok (xe_cy (XE sc) 184) b_X11_node_8 := by show xm_bok cX11_node _; unfold xm_bok; decide +kernel
def b_X11_node_12 : List (Nat × Jvm.ClassFile.Instr × Nat) := [(12, .iload_n 2, 1), (13, .bipush 7, 2), (15, .if_icmp .le 13, 3)]
set_option maxRecDepth 20000 in
theorem k_X11_node_12 {sc : xm_Sc} : xm_bok (xe_cy (XE sc) 184) b_X11_node_12 := by show xm_bok cX11_node _; unfold xm_bok; decide +kernel
def b_X11_node_28 : List (Nat × Jvm.ClassFile.Instr × Nat) := [(28, .iload_n 2, 1), (29, .tableswitch 137 0 6 #[43, 53, 89, 99, 108, 117, 127], 43)]
set_option maxRecDepth 20000 in
theorem k_X11_node_28 {sc : xm_Sc} : xm_bok (xe_cy (XE sc) 184) b_X11_node_28 := by show xm_bok cX11_node _; unfold xm_bok; decide +kernel
def b_X11_node_72 : List (Nat × Jvm.ClassFile.Instr × Nat) := [(72, .aload_n 0, 1), (73, .getfield 71, 3), (76, .getfield 150, 3), (79, .iload_n 1, 1), (80, .iaload, 1), (81, .ireturn, 1)]
set_option maxRecDepth 20000 in
theorem k_X11_node_72 {sc : xm_Sc} : xm_bok (xe_cy (XE sc) 184) b_X11_node_72 := by show xm_bok cX11_node _; unfold xm_bok; decide +kernel
def b_X11_node_82 : List (Nat × Jvm.ClassFile.Instr × Nat) := [(82, .aload_n 0, 1), (83, .getfield 71, 3), (86, .getfield 150, 3), (89, .iload_n 1, 1), (90, .iaload, 1), (91, .bipush 12, 2), (93, .if_icmp .ne 15, 3)]
set_option maxRecDepth 20000 in
theorem k_X11_node_82 {sc : xm_Sc} : xm_bok (xe_cy (XE sc) 184) b_X11_node_82 := by show xm_bok cX11_node _; unfold xm_bok; decide +kernel
def b_X11_node_96 : List (Nat × Jvm.ClassFile.Instr × Nat) := [(96, .aload_n 0, 1), (97, .getfield 71, 3), (100, .getfield 152, 3), (103, .iload_n 1, 1), (104, .iaload, 1), (105, .goto 12, 3)]
set_option maxRecDepth 20000 in
theorem k_X11_node_96 {sc : xm_Sc} : xm_bok (xe_cy (XE sc) 184) b_X11_node_96 := by show xm_bok cX11_node _; unfold xm_bok; decide +kernel
def b_X11_node_108 : List (Nat × Jvm.ClassFile.Instr × Nat) := [(108, .aload_n 0, 1), (109, .getfield 71, 3), (112, .getfield 210, 3), (115, .iload_n 1, 1), (116, .iaload, 1)]
set_option maxRecDepth 20000 in
theorem k_X11_node_108 {sc : xm_Sc} : xm_bok (xe_cy (XE sc) 184) b_X11_node_108 := by show xm_bok cX11_node _; unfold xm_bok; decide +kernel
def b_X11_node_117 : List (Nat × Jvm.ClassFile.Instr × Nat) := [(117, .ireturn, 1)]
set_option maxRecDepth 20000 in
theorem k_X11_node_117 {sc : xm_Sc} : xm_bok (xe_cy (XE sc) 184) b_X11_node_117 := by show xm_bok cX11_node _; unfold xm_bok; decide +kernel
def b_X11_node_118 : List (Nat × Jvm.ClassFile.Instr × Nat) := [(118, .aload_n 0, 1), (119, .getfield 71, 3), (122, .getfield 213, 3), (125, .iload_n 1, 1), (126, .iaload, 1), (127, .ireturn, 1)]
set_option maxRecDepth 20000 in
theorem k_X11_node_118 {sc : xm_Sc} : xm_bok (xe_cy (XE sc) 184) b_X11_node_118 := by show xm_bok cX11_node _; unfold xm_bok; decide +kernel
def b_X11_node_128 : List (Nat × Jvm.ClassFile.Instr × Nat) := [(128, .aload_n 0, 1), (129, .getfield 71, 3), (132, .iload_n 1, 1), (133, .invokevirtual 162, 3)]
set_option maxRecDepth 20000 in
theorem k_X11_node_128 {sc : xm_Sc} : xm_bok (xe_cy (XE sc) 184) b_X11_node_128 := by show xm_bok cX11_node _; unfold xm_bok; decide +kernel
def b_X11_node_136 : List (Nat × Jvm.ClassFile.Instr × Nat) := [(136, .ireturn, 1)]
set_option maxRecDepth 20000 in
theorem k_X11_node_136 {sc : xm_Sc} : xm_bok (xe_cy (XE sc) 184) b_X11_node_136 := by show xm_bok cX11_node _; unfold xm_bok; decide +kernel
def b_X11_node_137 : List (Nat × Jvm.ClassFile.Instr × Nat) := [(137, .aload_n 0, 1), (138, .getfield 71, 3), (141, .iload_n 1, 1), (142, .invokevirtual 166, 3)]
set_option maxRecDepth 20000 in
theorem k_X11_node_137 {sc : xm_Sc} : xm_bok (xe_cy (XE sc) 184) b_X11_node_137 := by show xm_bok cX11_node _; unfold xm_bok; decide +kernel
def b_X11_node_145 : List (Nat × Jvm.ClassFile.Instr × Nat) := [(145, .ireturn, 1)]
set_option maxRecDepth 20000 in
theorem k_X11_node_145 {sc : xm_Sc} : xm_bok (xe_cy (XE sc) 184) b_X11_node_145 := by show xm_bok cX11_node _; unfold xm_bok; decide +kernel
def b_X11_node_146 : List (Nat × Jvm.ClassFile.Instr × Nat) := [(146, .aload_n 0, 1), (147, .getfield 71, 3), (150, .getfield 216, 3), (153, .iload_n 1, 1), (154, .iaload, 1), (155, .ireturn, 1)]
set_option maxRecDepth 20000 in
theorem k_X11_node_146 {sc : xm_Sc} : xm_bok (xe_cy (XE sc) 184) b_X11_node_146 := by show xm_bok cX11_node _; unfold xm_bok; decide +kernel
def b_X11_node_156 : List (Nat × Jvm.ClassFile.Instr × Nat) := [(156, .aload_n 0, 1), (157, .getfield 71, 3), (160, .getfield 219, 3), (163, .iload_n 1, 1), (164, .iaload, 1), (165, .ireturn, 1)]
set_option maxRecDepth 20000 in
theorem k_X11_node_156 {sc : xm_Sc} : xm_bok (xe_cy (XE sc) 184) b_X11_node_156 := by show xm_bok cX11_node _; unfold xm_bok; decide +kernel
def b_X11_node_166 : List (Nat × Jvm.ClassFile.Instr × Nat) := [(166, .aload_n 0, 1), (167, .getfield 71, 3), (170, .getfield 222, 3), (173, .iload_n 1, 1), (174, .iaload, 1), (175, .ireturn, 1)]
set_option maxRecDepth 20000 in
theorem k_X11_node_166 {sc : xm_Sc} : xm_bok (xe_cy (XE sc) 184) b_X11_node_166 := by show xm_bok cX11_node _; unfold xm_bok; decide +kernel
set_option maxRecDepth 20000 in
theorem cn_184 {sc : xm_Sc} : xe_cn (XE sc) 184 = 11 := rfl
set_option maxRecDepth 20000 in
theorem ml_184 {sc : xm_Sc} : xe_ml (XE sc) 184 = 3 := rfl
set_option maxRecDepth 20000 in
theorem ry_184 {sc : xm_Sc} : xe_ry (XE sc) 184 = (some .int) := rfl
set_option maxRecDepth 20000 in
theorem is_184 {sc : xm_Sc} : xe_is (XE sc) 184 = false := rfl
set_option maxRecDepth 20000 in
theorem np_184 {sc : xm_Sc} : xe_np (XE sc) 184 = 2 := rfl
/- method 185: X11_out -/
def b_X11_out_0 : List (Nat × Jvm.ClassFile.Instr × Nat) := [(0, .iload_n 1, 1), (1, .ifCond .lt 14, 3)]
set_option maxRecDepth 20000 in
theorem k_X11_out_0 {sc : xm_Sc} : xm_bok (xe_cy (XE sc) 185) b_X11_out_0 := by show xm_bok cX11_out _; unfold xm_bok; decide +kernel
def b_X11_out_4 : List (Nat × Jvm.ClassFile.Instr × Nat) := [(4, .iload_n 1, 1), (5, .aload_n 0, 1), (6, .getfield 16, 3), (9, .getfield 85, 3), (12, .if_icmp .lt 14, 3)]
set_option maxRecDepth 20000 in
theorem k_X11_out_4 {sc : xm_Sc} : xm_bok (xe_cy (XE sc) 185) b_X11_out_4 := by show xm_bok cX11_out _; unfold xm_bok; decide +kernel
def b_X11_out_26 : List (Nat × Jvm.ClassFile.Instr × Nat) := [(26, .lconst 0, 1), (27, .lstore_n 2, 1), (28, .bipush 7, 2), (30, .istore 4, 2)]
set_option maxRecDepth 20000 in
theorem k_X11_out_26 {sc : xm_Sc} : xm_bok (xe_cy (XE sc) 185) b_X11_out_26 := by show xm_bok cX11_out _; unfold xm_bok; decide +kernel
def b_X11_out_32 : List (Nat × Jvm.ClassFile.Instr × Nat) := [(32, .iload 4, 2), (34, .ifCond .lt 27, 3)]
set_option maxRecDepth 20000 in
theorem k_X11_out_32 {sc : xm_Sc} : xm_bok (xe_cy (XE sc) 185) b_X11_out_32 := by show xm_bok cX11_out _; unfold xm_bok; decide +kernel
def b_X11_out_37 : List (Nat × Jvm.ClassFile.Instr × Nat) := [(37, .lload_n 2, 1), (38, .bipush 8, 2), (40, .lshl, 1), (41, .aload_n 0, 1), (42, .getfield 16, 3), (45, .iload_n 1, 1), (46, .iload 4, 2), (48, .iadd, 1), (49, .invokevirtual 281, 3)]
set_option maxRecDepth 20000 in
theorem k_X11_out_37 {sc : xm_Sc} : xm_bok (xe_cy (XE sc) 185) b_X11_out_37 := by show xm_bok cX11_out _; unfold xm_bok; decide +kernel
def b_X11_out_52 : List (Nat × Jvm.ClassFile.Instr × Nat) := [(52, .i2l, 1), (53, .lor, 1), (54, .lstore_n 2, 1), (55, .iinc 4 (-1), 3), (58, .goto (-26), 3)]
set_option maxRecDepth 20000 in
theorem k_X11_out_52 {sc : xm_Sc} : xm_bok (xe_cy (XE sc) 185) b_X11_out_52 := by show xm_bok cX11_out _; unfold xm_bok; decide +kernel
def b_X11_out_61 : List (Nat × Jvm.ClassFile.Instr × Nat) := [(61, .lload_n 2, 1), (62, .lreturn, 1)]
set_option maxRecDepth 20000 in
theorem k_X11_out_61 {sc : xm_Sc} : xm_bok (xe_cy (XE sc) 185) b_X11_out_61 := by show xm_bok cX11_out _; unfold xm_bok; decide +kernel
set_option maxRecDepth 20000 in
theorem cn_185 {sc : xm_Sc} : xe_cn (XE sc) 185 = 11 := rfl
set_option maxRecDepth 20000 in
theorem ml_185 {sc : xm_Sc} : xe_ml (XE sc) 185 = 5 := rfl
set_option maxRecDepth 20000 in
theorem ry_185 {sc : xm_Sc} : xe_ry (XE sc) 185 = (some .long) := rfl
set_option maxRecDepth 20000 in
theorem is_185 {sc : xm_Sc} : xe_is (XE sc) 185 = false := rfl
set_option maxRecDepth 20000 in
theorem np_185 {sc : xm_Sc} : xe_np (XE sc) 185 = 1 := rfl
/- method 186: X11_publish -/
def b_X11_publish_0 : List (Nat × Jvm.ClassFile.Instr × Nat) := [(0, .aload_n 0, 1), (1, .getfield 16, 3), (4, .aload_n 0, 1), (5, .getfield 19, 3), (8, .invokevirtual 197, 3)]
set_option maxRecDepth 20000 in
theorem k_X11_publish_0 {sc : xm_Sc} : xm_bok (xe_cy (XE sc) 186) b_X11_publish_0 := by show xm_bok cX11_publish _; unfold xm_bok; decide +kernel
def b_X11_publish_11 : List (Nat × Jvm.ClassFile.Instr × Nat) := [(11, .aload_n 0, 1), (12, .getfield 16, 3), (15, .getfield 85, 3), (18, .ireturn, 1)]
set_option maxRecDepth 20000 in
theorem k_X11_publish_11 {sc : xm_Sc} : xm_bok (xe_cy (XE sc) 186) b_X11_publish_11 := by show xm_bok cX11_publish _; unfold xm_bok; decide +kernel
set_option maxRecDepth 20000 in
theorem cn_186 {sc : xm_Sc} : xe_cn (XE sc) 186 = 11 := rfl
set_option maxRecDepth 20000 in
theorem ml_186 {sc : xm_Sc} : xe_ml (XE sc) 186 = 1 := rfl
set_option maxRecDepth 20000 in
theorem ry_186 {sc : xm_Sc} : xe_ry (XE sc) 186 = (some .int) := rfl
set_option maxRecDepth 20000 in
theorem is_186 {sc : xm_Sc} : xe_is (XE sc) 186 = false := rfl
set_option maxRecDepth 20000 in
theorem np_186 {sc : xm_Sc} : xe_np (XE sc) 186 = 0 := rfl
/- method 187: X11_root -/
def b_X11_root_0 : List (Nat × Jvm.ClassFile.Instr × Nat) := [(0, .aload_n 0, 1), (1, .iload_n 1, 1), (2, .invokevirtual 201, 3)]
set_option maxRecDepth 20000 in
theorem k_X11_root_0 {sc : xm_Sc} : xm_bok (xe_cy (XE sc) 187) b_X11_root_0 := by show xm_bok cX11_root _; unfold xm_bok; decide +kernel
def b_X11_root_5 : List (Nat × Jvm.ClassFile.Instr × Nat) := [(5, .ifCond .eq 13, 3)]
set_option maxRecDepth 20000 in
theorem k_X11_root_5 {sc : xm_Sc} : xm_bok (xe_cy (XE sc) 187) b_X11_root_5 := by show xm_bok cX11_root _; unfold xm_bok; decide +kernel
def b_X11_root_8 : List (Nat × Jvm.ClassFile.Instr × Nat) := [(8, .iload_n 2, 1), (9, .ifCond .lt 9, 3)]
set_option maxRecDepth 20000 in
theorem k_X11_root_8 {sc : xm_Sc} : xm_bok (xe_cy (XE sc) 187) b_X11_root_8 := by show xm_bok cX11_root _; unfold xm_bok; decide +kernel
def b_X11_root_12 : List (Nat × Jvm.ClassFile.Instr × Nat) := [(12, .iload_n 2, 1), (13, .bipush 7, 2), (15, .if_icmp .le 13, 3)]
set_option maxRecDepth 20000 in
theorem k_X11_root_12 {sc : xm_Sc} : xm_bok (xe_cy (XE sc) 187) b_X11_root_12 := by show xm_bok cX11_root _; unfold xm_bok; decide +kernel
def b_X11_root_28 : List (Nat × Jvm.ClassFile.Instr × Nat) := [(28, .aload_n 0, 1), (29, .getfield 48, 3), (32, .aload_n 0, 1), (33, .getfield 71, 3), (36, .iload_n 1, 1), (37, .iload_n 2, 1), (38, .invokevirtual 227, 3)]
set_option maxRecDepth 20000 in
theorem k_X11_root_28 {sc : xm_Sc} : xm_bok (xe_cy (XE sc) 187) b_X11_root_28 := by show xm_bok cX11_root _; unfold xm_bok; decide +kernel
def b_X11_root_41 : List (Nat × Jvm.ClassFile.Instr × Nat) := [(41, .lreturn, 1)]
set_option maxRecDepth 20000 in
theorem k_X11_root_41 {sc : xm_Sc} : xm_bok (xe_cy (XE sc) 187) b_X11_root_41 := by show xm_bok cX11_root _; unfold xm_bok; decide +kernel
set_option maxRecDepth 20000 in
theorem cn_187 {sc : xm_Sc} : xe_cn (XE sc) 187 = 11 := rfl
set_option maxRecDepth 20000 in
theorem ml_187 {sc : xm_Sc} : xe_ml (XE sc) 187 = 3 := rfl
set_option maxRecDepth 20000 in
theorem ry_187 {sc : xm_Sc} : xe_ry (XE sc) 187 = (some .long) := rfl
set_option maxRecDepth 20000 in
theorem is_187 {sc : xm_Sc} : xe_is (XE sc) 187 = false := rfl
set_option maxRecDepth 20000 in
theorem np_187 {sc : xm_Sc} : xe_np (XE sc) 187 = 2 := rfl
/- method 188: X11_run -/
def b_X11_run_0 : List (Nat × Jvm.ClassFile.Instr × Nat) := [(0, .iload_n 1, 1), (1, .iconst 1, 1), (2, .if_icmp .lt 8, 3)]
set_option maxRecDepth 20000 in
theorem k_X11_run_0 {sc : xm_Sc} : xm_bok (xe_cy (XE sc) 188) b_X11_run_0 := by show xm_bok cX11_run _; unfold xm_bok; decide +kernel
def b_X11_run_5 : List (Nat × Jvm.ClassFile.Instr × Nat) := [(5, .iload_n 2, 1), (6, .iconst 1, 1), (7, .if_icmp .ge 13, 3)]
set_option maxRecDepth 20000 in
theorem k_X11_run_5 {sc : xm_Sc} : xm_bok (xe_cy (XE sc) 188) b_X11_run_5 := by show xm_bok cX11_run _; unfold xm_bok; decide +kernel
def b_X11_run_20 : List (Nat × Jvm.ClassFile.Instr × Nat) := [(20, .aload_n 0, 1), (21, .getfield 71, 3), (24, .getfield 119, 3), (27, .ifCond .ne 13, 3)]
set_option maxRecDepth 20000 in
theorem k_X11_run_20 {sc : xm_Sc} : xm_bok (xe_cy (XE sc) 188) b_X11_run_20 := by show xm_bok cX11_run _; unfold xm_bok; decide +kernel
def b_X11_run_40 : List (Nat × Jvm.ClassFile.Instr × Nat) := [(40, .aload_n 0, 1), (41, .iload_n 1, 1), (42, .iload_n 2, 1), (43, .iload_n 3, 1), (44, .invokevirtual 124, 3)]
set_option maxRecDepth 20000 in
theorem k_X11_run_40 {sc : xm_Sc} : xm_bok (xe_cy (XE sc) 188) b_X11_run_40 := by show xm_bok cX11_run _; unfold xm_bok; decide +kernel
def b_X11_run_47 : List (Nat × Jvm.ClassFile.Instr × Nat) := [(47, .istore 4, 2), (49, .aload_n 0, 1), (50, .getfield 10, 3), (53, .invokevirtual 98, 3)]
set_option maxRecDepth 20000 in
theorem k_X11_run_47 {sc : xm_Sc} : xm_bok (xe_cy (XE sc) 188) b_X11_run_47 := by show xm_bok cX11_run _; unfold xm_bok; decide +kernel
def b_X11_run_56 : List (Nat × Jvm.ClassFile.Instr × Nat) := [(56, .iload 4, 2), (58, .ireturn, 1)]
set_option maxRecDepth 20000 in
theorem k_X11_run_56 {sc : xm_Sc} : xm_bok (xe_cy (XE sc) 188) b_X11_run_56 := by show xm_bok cX11_run _; unfold xm_bok; decide +kernel
set_option maxRecDepth 20000 in
theorem cn_188 {sc : xm_Sc} : xe_cn (XE sc) 188 = 11 := rfl
set_option maxRecDepth 20000 in
theorem ml_188 {sc : xm_Sc} : xe_ml (XE sc) 188 = 5 := rfl
set_option maxRecDepth 20000 in
theorem ry_188 {sc : xm_Sc} : xe_ry (XE sc) 188 = (some .int) := rfl
set_option maxRecDepth 20000 in
theorem is_188 {sc : xm_Sc} : xe_is (XE sc) 188 = false := rfl
set_option maxRecDepth 20000 in
theorem np_188 {sc : xm_Sc} : xe_np (XE sc) 188 = 3 := rfl
/- method 189: X11_say -/
def b_X11_say_0 : List (Nat × Jvm.ClassFile.Instr × Nat) := [(0, .aload_n 0, 1), (1, .getfield 64, 3), (4, .aload_n 0, 1), (5, .getfield 10, 3), (8, .aload_n 0, 1), (9, .getfield 75, 3), (12, .aload_n 0, 1), (13, .getfield 19, 3), (16, .invokevirtual 247, 3)]
set_option maxRecDepth 20000 in
theorem k_X11_say_0 {sc : xm_Sc} : xm_bok (xe_cy (XE sc) 189) b_X11_say_0 := by show xm_bok cX11_say _; unfold xm_bok; decide +kernel
def b_X11_say_19 : List (Nat × Jvm.ClassFile.Instr × Nat) := [(19, .istore_n 1, 1), (20, .aload_n 0, 1), (21, .aload_n 0, 1), (22, .getfield 64, 3), (25, .getfield 251, 3), (28, .putfield 254, 3), (31, .aload_n 0, 1), (32, .getfield 10, 3), (35, .invokevirtual 98, 3)]
set_option maxRecDepth 20000 in
theorem k_X11_say_19 {sc : xm_Sc} : xm_bok (xe_cy (XE sc) 189) b_X11_say_19 := by show xm_bok cX11_say _; unfold xm_bok; decide +kernel
def b_X11_say_38 : List (Nat × Jvm.ClassFile.Instr × Nat) := [(38, .iload_n 1, 1), (39, .ifCond .ne 8, 3)]
set_option maxRecDepth 20000 in
theorem k_X11_say_38 {sc : xm_Sc} : xm_bok (xe_cy (XE sc) 189) b_X11_say_38 := by show xm_bok cX11_say _; unfold xm_bok; decide +kernel
def b_X11_say_42 : List (Nat × Jvm.ClassFile.Instr × Nat) := [(42, .aload_n 0, 1), (43, .invokevirtual 194, 3)]
set_option maxRecDepth 20000 in
theorem k_X11_say_42 {sc : xm_Sc} : xm_bok (xe_cy (XE sc) 189) b_X11_say_42 := by show xm_bok cX11_say _; unfold xm_bok; decide +kernel
def b_X11_say_46 : List (Nat × Jvm.ClassFile.Instr × Nat) := [(46, .pop, 1)]
set_option maxRecDepth 20000 in
theorem k_X11_say_46 {sc : xm_Sc} : xm_bok (xe_cy (XE sc) 189) b_X11_say_46 := by show xm_bok cX11_say _; unfold xm_bok; decide +kernel
def b_X11_say_47 : List (Nat × Jvm.ClassFile.Instr × Nat) := [(47, .iload_n 1, 1), (48, .ireturn, 1)]
set_option maxRecDepth 20000 in
theorem k_X11_say_47 {sc : xm_Sc} : xm_bok (xe_cy (XE sc) 189) b_X11_say_47 := by show xm_bok cX11_say _; unfold xm_bok; decide +kernel
set_option maxRecDepth 20000 in
theorem cn_189 {sc : xm_Sc} : xe_cn (XE sc) 189 = 11 := rfl
set_option maxRecDepth 20000 in
theorem ml_189 {sc : xm_Sc} : xe_ml (XE sc) 189 = 2 := rfl
set_option maxRecDepth 20000 in
theorem ry_189 {sc : xm_Sc} : xe_ry (XE sc) 189 = (some .int) := rfl
set_option maxRecDepth 20000 in
theorem is_189 {sc : xm_Sc} : xe_is (XE sc) 189 = false := rfl
set_option maxRecDepth 20000 in
theorem np_189 {sc : xm_Sc} : xe_np (XE sc) 189 = 0 := rfl
/- method 190: X11_speak -/
def b_X11_speak_0 : List (Nat × Jvm.ClassFile.Instr × Nat) := [(0, .aload_n 0, 1), (1, .getfield 71, 3), (4, .getfield 119, 3), (7, .ifCond .ne 13, 3)]
set_option maxRecDepth 20000 in
theorem k_X11_speak_0 {sc : xm_Sc} : xm_bok (xe_cy (XE sc) 190) b_X11_speak_0 := by show xm_bok cX11_speak _; unfold xm_bok; decide +kernel
def b_X11_speak_20 : List (Nat × Jvm.ClassFile.Instr × Nat) := [(20, .aload_n 0, 1), (21, .getfield 19, 3), (24, .invokevirtual 98, 3)]
set_option maxRecDepth 20000 in
theorem k_X11_speak_20 {sc : xm_Sc} : xm_bok (xe_cy (XE sc) 190) b_X11_speak_20 := by show xm_bok cX11_speak _; unfold xm_bok; decide +kernel
def b_X11_speak_27 : List (Nat × Jvm.ClassFile.Instr × Nat) := [(27, .iconst 0, 1), (28, .istore_n 1, 1)]
set_option maxRecDepth 20000 in
theorem k_X11_speak_27 {sc : xm_Sc} : xm_bok (xe_cy (XE sc) 190) b_X11_speak_27 := by show xm_bok cX11_speak _; unfold xm_bok; decide +kernel
def b_X11_speak_29 : List (Nat × Jvm.ClassFile.Instr × Nat) := [(29, .iload_n 1, 1), (30, .aload_n 0, 1), (31, .getfield 71, 3), (34, .getfield 119, 3), (37, .if_icmp .ge 31, 3)]
set_option maxRecDepth 20000 in
theorem k_X11_speak_29 {sc : xm_Sc} : xm_bok (xe_cy (XE sc) 190) b_X11_speak_29 := by show xm_bok cX11_speak _; unfold xm_bok; decide +kernel
def b_X11_speak_40 : List (Nat × Jvm.ClassFile.Instr × Nat) := [(40, .aload_n 0, 1), (41, .getfield 19, 3), (44, .getfield 255, 3), (47, .ifCond .ne 21, 3)]
set_option maxRecDepth 20000 in
theorem k_X11_speak_40 {sc : xm_Sc} : xm_bok (xe_cy (XE sc) 190) b_X11_speak_40 := by show xm_bok cX11_speak _; unfold xm_bok; decide +kernel
def b_X11_speak_50 : List (Nat × Jvm.ClassFile.Instr × Nat) := [(50, .aload_n 0, 1), (51, .getfield 71, 3), (54, .iload_n 1, 1), (55, .aload_n 0, 1), (56, .getfield 19, 3), (59, .invokevirtual 259, 3)]
set_option maxRecDepth 20000 in
theorem k_X11_speak_50 {sc : xm_Sc} : xm_bok (xe_cy (XE sc) 190) b_X11_speak_50 := by show xm_bok cX11_speak _; unfold xm_bok; decide +kernel
def b_X11_speak_62 : List (Nat × Jvm.ClassFile.Instr × Nat) := [(62, .iinc 1 1, 3), (65, .goto (-36), 3)]
set_option maxRecDepth 20000 in
theorem k_X11_speak_62 {sc : xm_Sc} : xm_bok (xe_cy (XE sc) 190) b_X11_speak_62 := by show xm_bok cX11_speak _; unfold xm_bok; decide +kernel
def b_X11_speak_68 : List (Nat × Jvm.ClassFile.Instr × Nat) := [(68, .aload_n 0, 1), (69, .getfield 19, 3), (72, .getfield 255, 3), (75, .ifCond .eq 7, 3)]
set_option maxRecDepth 20000 in
theorem k_X11_speak_68 {sc : xm_Sc} : xm_bok (xe_cy (XE sc) 190) b_X11_speak_68 := by show xm_bok cX11_speak _; unfold xm_bok; decide +kernel
def b_X11_speak_78 : List (Nat × Jvm.ClassFile.Instr × Nat) := [(78, .iconst (-1), 1), (79, .goto 7, 3)]
set_option maxRecDepth 20000 in
theorem k_X11_speak_78 {sc : xm_Sc} : xm_bok (xe_cy (XE sc) 190) b_X11_speak_78 := by show xm_bok cX11_speak _; unfold xm_bok; decide +kernel
def b_X11_speak_82 : List (Nat × Jvm.ClassFile.Instr × Nat) := [(82, .aload_n 0, 1), (83, .invokevirtual 194, 3)]
set_option maxRecDepth 20000 in
theorem k_X11_speak_82 {sc : xm_Sc} : xm_bok (xe_cy (XE sc) 190) b_X11_speak_82 := by show xm_bok cX11_speak _; unfold xm_bok; decide +kernel
def b_X11_speak_86 : List (Nat × Jvm.ClassFile.Instr × Nat) := [(86, .ireturn, 1)]
set_option maxRecDepth 20000 in
theorem k_X11_speak_86 {sc : xm_Sc} : xm_bok (xe_cy (XE sc) 190) b_X11_speak_86 := by show xm_bok cX11_speak _; unfold xm_bok; decide +kernel
set_option maxRecDepth 20000 in
theorem cn_190 {sc : xm_Sc} : xe_cn (XE sc) 190 = 11 := rfl
set_option maxRecDepth 20000 in
theorem ml_190 {sc : xm_Sc} : xe_ml (XE sc) 190 = 2 := rfl
set_option maxRecDepth 20000 in
theorem ry_190 {sc : xm_Sc} : xe_ry (XE sc) 190 = (some .int) := rfl
set_option maxRecDepth 20000 in
theorem is_190 {sc : xm_Sc} : xe_is (XE sc) 190 = false := rfl
set_option maxRecDepth 20000 in
theorem np_190 {sc : xm_Sc} : xe_np (XE sc) 190 = 0 := rfl
/- method 191: X11_tellValue -/
def b_X11_tellValue_0 : List (Nat × Jvm.ClassFile.Instr × Nat) := [(0, .iload_n 1, 1), (1, .ifCond .ge 6, 3)]
set_option maxRecDepth 20000 in
theorem k_X11_tellValue_0 {sc : xm_Sc} : xm_bok (xe_cy (XE sc) 191) b_X11_tellValue_0 := by show xm_bok cX11_tellValue _; unfold xm_bok; decide +kernel
def b_X11_tellValue_4 : List (Nat × Jvm.ClassFile.Instr × Nat) := [(4, .bipush (-2), 2), (6, .ireturn, 1)]
set_option maxRecDepth 20000 in
theorem k_X11_tellValue_4 {sc : xm_Sc} : xm_bok (xe_cy (XE sc) 191) b_X11_tellValue_4 := by show xm_bok cX11_tellValue _; unfold xm_bok; decide +kernel
def b_X11_tellValue_7 : List (Nat × Jvm.ClassFile.Instr × Nat) := [(7, .aload_n 0, 1), (8, .getfield 71, 3), (11, .getfield 128, 3), (14, .aload_n 0, 1), (15, .getfield 10, 3), (18, .iload_n 1, 1), (19, .invokevirtual 136, 3)]
set_option maxRecDepth 20000 in
theorem k_X11_tellValue_7 {sc : xm_Sc} : xm_bok (xe_cy (XE sc) 191) b_X11_tellValue_7 := by show xm_bok cX11_tellValue _; unfold xm_bok; decide +kernel
def b_X11_tellValue_22 : List (Nat × Jvm.ClassFile.Instr × Nat) := [(22, .ifCond .ne 6, 3)]
set_option maxRecDepth 20000 in
theorem k_X11_tellValue_22 {sc : xm_Sc} : xm_bok (xe_cy (XE sc) 191) b_X11_tellValue_22 := by show xm_bok cX11_tellValue _; unfold xm_bok; decide +kernel
def b_X11_tellValue_25 : List (Nat × Jvm.ClassFile.Instr × Nat) := [(25, .bipush (-4), 2), (27, .ireturn, 1)]
set_option maxRecDepth 20000 in
theorem k_X11_tellValue_25 {sc : xm_Sc} : xm_bok (xe_cy (XE sc) 191) b_X11_tellValue_25 := by show xm_bok cX11_tellValue _; unfold xm_bok; decide +kernel
def b_X11_tellValue_28 : List (Nat × Jvm.ClassFile.Instr × Nat) := [(28, .aload_n 0, 1), (29, .getfield 19, 3), (32, .invokevirtual 98, 3)]
set_option maxRecDepth 20000 in
theorem k_X11_tellValue_28 {sc : xm_Sc} : xm_bok (xe_cy (XE sc) 191) b_X11_tellValue_28 := by show xm_bok cX11_tellValue _; unfold xm_bok; decide +kernel
def b_X11_tellValue_35 : List (Nat × Jvm.ClassFile.Instr × Nat) := [(35, .aload_n 0, 1), (36, .getfield 71, 3), (39, .getfield 128, 3), (42, .aload_n 0, 1), (43, .getfield 10, 3), (46, .iload_n 1, 1), (47, .aload_n 0, 1), (48, .getfield 19, 3), (51, .invokevirtual 265, 3)]
set_option maxRecDepth 20000 in
theorem k_X11_tellValue_35 {sc : xm_Sc} : xm_bok (xe_cy (XE sc) 191) b_X11_tellValue_35 := by show xm_bok cX11_tellValue _; unfold xm_bok; decide +kernel
def b_X11_tellValue_54 : List (Nat × Jvm.ClassFile.Instr × Nat) := [(54, .aload_n 0, 1), (55, .getfield 19, 3), (58, .getfield 255, 3), (61, .ifCond .eq 7, 3)]
set_option maxRecDepth 20000 in
theorem k_X11_tellValue_54 {sc : xm_Sc} : xm_bok (xe_cy (XE sc) 191) b_X11_tellValue_54 := by show xm_bok cX11_tellValue _; unfold xm_bok; decide +kernel
def b_X11_tellValue_64 : List (Nat × Jvm.ClassFile.Instr × Nat) := [(64, .iconst (-1), 1), (65, .goto 7, 3)]
set_option maxRecDepth 20000 in
theorem k_X11_tellValue_64 {sc : xm_Sc} : xm_bok (xe_cy (XE sc) 191) b_X11_tellValue_64 := by show xm_bok cX11_tellValue _; unfold xm_bok; decide +kernel
def b_X11_tellValue_68 : List (Nat × Jvm.ClassFile.Instr × Nat) := [(68, .aload_n 0, 1), (69, .invokevirtual 194, 3)]
set_option maxRecDepth 20000 in
theorem k_X11_tellValue_68 {sc : xm_Sc} : xm_bok (xe_cy (XE sc) 191) b_X11_tellValue_68 := by show xm_bok cX11_tellValue _; unfold xm_bok; decide +kernel
def b_X11_tellValue_72 : List (Nat × Jvm.ClassFile.Instr × Nat) := [(72, .ireturn, 1)]
set_option maxRecDepth 20000 in
theorem k_X11_tellValue_72 {sc : xm_Sc} : xm_bok (xe_cy (XE sc) 191) b_X11_tellValue_72 := by show xm_bok cX11_tellValue _; unfold xm_bok; decide +kernel
set_option maxRecDepth 20000 in
theorem cn_191 {sc : xm_Sc} : xe_cn (XE sc) 191 = 11 := rfl
set_option maxRecDepth 20000 in
theorem ml_191 {sc : xm_Sc} : xe_ml (XE sc) 191 = 2 := rfl
set_option maxRecDepth 20000 in
theorem ry_191 {sc : xm_Sc} : xe_ry (XE sc) 191 = (some .int) := rfl
set_option maxRecDepth 20000 in
theorem is_191 {sc : xm_Sc} : xe_is (XE sc) 191 = false := rfl
set_option maxRecDepth 20000 in
theorem np_191 {sc : xm_Sc} : xe_np (XE sc) 191 = 1 := rfl
/- method 192: X11_tellWorth -/
def b_X11_tellWorth_0 : List (Nat × Jvm.ClassFile.Instr × Nat) := [(0, .iload_n 1, 1), (1, .ifCond .ge 6, 3)]
set_option maxRecDepth 20000 in
theorem k_X11_tellWorth_0 {sc : xm_Sc} : xm_bok (xe_cy (XE sc) 192) b_X11_tellWorth_0 := by show xm_bok cX11_tellWorth _; unfold xm_bok; decide +kernel
def b_X11_tellWorth_4 : List (Nat × Jvm.ClassFile.Instr × Nat) := [(4, .bipush (-2), 2), (6, .ireturn, 1)]
set_option maxRecDepth 20000 in
theorem k_X11_tellWorth_4 {sc : xm_Sc} : xm_bok (xe_cy (XE sc) 192) b_X11_tellWorth_4 := by show xm_bok cX11_tellWorth _; unfold xm_bok; decide +kernel
def b_X11_tellWorth_7 : List (Nat × Jvm.ClassFile.Instr × Nat) := [(7, .aload_n 0, 1), (8, .getfield 19, 3), (11, .invokevirtual 98, 3)]
set_option maxRecDepth 20000 in
theorem k_X11_tellWorth_7 {sc : xm_Sc} : xm_bok (xe_cy (XE sc) 192) b_X11_tellWorth_7 := by show xm_bok cX11_tellWorth _; unfold xm_bok; decide +kernel
def b_X11_tellWorth_14 : List (Nat × Jvm.ClassFile.Instr × Nat) := [(14, .aload_n 0, 1), (15, .getfield 71, 3), (18, .getfield 128, 3), (21, .aload_n 0, 1), (22, .getfield 10, 3), (25, .iload_n 1, 1), (26, .aload_n 0, 1), (27, .getfield 19, 3), (30, .invokevirtual 272, 3)]
set_option maxRecDepth 20000 in
theorem k_X11_tellWorth_14 {sc : xm_Sc} : xm_bok (xe_cy (XE sc) 192) b_X11_tellWorth_14 := by show xm_bok cX11_tellWorth _; unfold xm_bok; decide +kernel
def b_X11_tellWorth_33 : List (Nat × Jvm.ClassFile.Instr × Nat) := [(33, .ifCond .eq 10, 3)]
set_option maxRecDepth 20000 in
theorem k_X11_tellWorth_33 {sc : xm_Sc} : xm_bok (xe_cy (XE sc) 192) b_X11_tellWorth_33 := by show xm_bok cX11_tellWorth _; unfold xm_bok; decide +kernel
def b_X11_tellWorth_36 : List (Nat × Jvm.ClassFile.Instr × Nat) := [(36, .aload_n 0, 1), (37, .invokevirtual 194, 3)]
set_option maxRecDepth 20000 in
theorem k_X11_tellWorth_36 {sc : xm_Sc} : xm_bok (xe_cy (XE sc) 192) b_X11_tellWorth_36 := by show xm_bok cX11_tellWorth _; unfold xm_bok; decide +kernel
def b_X11_tellWorth_40 : List (Nat × Jvm.ClassFile.Instr × Nat) := [(40, .goto 5, 3)]
set_option maxRecDepth 20000 in
theorem k_X11_tellWorth_40 {sc : xm_Sc} : xm_bok (xe_cy (XE sc) 192) b_X11_tellWorth_40 := by show xm_bok cX11_tellWorth _; unfold xm_bok; decide +kernel
def b_X11_tellWorth_43 : List (Nat × Jvm.ClassFile.Instr × Nat) := [(43, .bipush (-4), 2)]
set_option maxRecDepth 20000 in
theorem k_X11_tellWorth_43 {sc : xm_Sc} : xm_bok (xe_cy (XE sc) 192) b_X11_tellWorth_43 := by show xm_bok cX11_tellWorth _; unfold xm_bok; decide +kernel
def b_X11_tellWorth_45 : List (Nat × Jvm.ClassFile.Instr × Nat) := [(45, .ireturn, 1)]
set_option maxRecDepth 20000 in
theorem k_X11_tellWorth_45 {sc : xm_Sc} : xm_bok (xe_cy (XE sc) 192) b_X11_tellWorth_45 := by show xm_bok cX11_tellWorth _; unfold xm_bok; decide +kernel
set_option maxRecDepth 20000 in
theorem cn_192 {sc : xm_Sc} : xe_cn (XE sc) 192 = 11 := rfl
set_option maxRecDepth 20000 in
theorem ml_192 {sc : xm_Sc} : xe_ml (XE sc) 192 = 2 := rfl
set_option maxRecDepth 20000 in
theorem ry_192 {sc : xm_Sc} : xe_ry (XE sc) 192 = (some .int) := rfl
set_option maxRecDepth 20000 in
theorem is_192 {sc : xm_Sc} : xe_is (XE sc) 192 = false := rfl
set_option maxRecDepth 20000 in
theorem np_192 {sc : xm_Sc} : xe_np (XE sc) 192 = 1 := rfl
/- method 193: X11_type -/
def b_X11_type_0 : List (Nat × Jvm.ClassFile.Instr × Nat) := [(0, .aload_n 0, 1), (1, .iload_n 1, 1), (2, .invokevirtual 201, 3)]
set_option maxRecDepth 20000 in
theorem k_X11_type_0 {sc : xm_Sc} : xm_bok (xe_cy (XE sc) 193) b_X11_type_0 := by show xm_bok cX11_type _; unfold xm_bok; decide +kernel
def b_X11_type_5 : List (Nat × Jvm.ClassFile.Instr × Nat) := [(5, .ifCond .ne 13, 3)]
set_option maxRecDepth 20000 in
theorem k_X11_type_5 {sc : xm_Sc} : xm_bok (xe_cy (XE sc) 193) b_X11_type_5 := by show xm_bok cX11_type _; unfold xm_bok; decide +kernel
def b_X11_type_18 : List (Nat × Jvm.ClassFile.Instr × Nat) := [(18, .aload_n 0, 1), (19, .getfield 71, 3), (22, .iload_n 1, 1), (23, .iload_n 2, 1), (24, .invokevirtual 231, 3)]
set_option maxRecDepth 20000 in
theorem k_X11_type_18 {sc : xm_Sc} : xm_bok (xe_cy (XE sc) 193) b_X11_type_18 := by show xm_bok cX11_type _; unfold xm_bok; decide +kernel
def b_X11_type_27 : List (Nat × Jvm.ClassFile.Instr × Nat) := [(27, .istore_n 3, 1), (28, .iload_n 3, 1), (29, .ifCond .ge 6, 3)]
set_option maxRecDepth 20000 in
theorem k_X11_type_27 {sc : xm_Sc} : xm_bok (xe_cy (XE sc) 193) b_X11_type_27 := by show xm_bok cX11_type _; unfold xm_bok; decide +kernel
def b_X11_type_32 : List (Nat × Jvm.ClassFile.Instr × Nat) := [(32, .bipush (-2), 2), (34, .ireturn, 1)]
set_option maxRecDepth 20000 in
theorem k_X11_type_32 {sc : xm_Sc} : xm_bok (xe_cy (XE sc) 193) b_X11_type_32 := by show xm_bok cX11_type _; unfold xm_bok; decide +kernel
def b_X11_type_35 : List (Nat × Jvm.ClassFile.Instr × Nat) := [(35, .aload_n 0, 1), (36, .getfield 71, 3), (39, .getfield 128, 3), (42, .getfield 240, 3), (45, .iload_n 3, 1), (46, .iaload, 1), (47, .sipush 300, 3), (50, .if_icmp .le 5, 3)]
set_option maxRecDepth 20000 in
theorem k_X11_type_35 {sc : xm_Sc} : xm_bok (xe_cy (XE sc) 193) b_X11_type_35 := by show xm_bok cX11_type _; unfold xm_bok; decide +kernel
def b_X11_type_53 : List (Nat × Jvm.ClassFile.Instr × Nat) := [(53, .iconst (-1), 1), (54, .ireturn, 1)]
set_option maxRecDepth 20000 in
theorem k_X11_type_53 {sc : xm_Sc} : xm_bok (xe_cy (XE sc) 193) b_X11_type_53 := by show xm_bok cX11_type _; unfold xm_bok; decide +kernel
def b_X11_type_55 : List (Nat × Jvm.ClassFile.Instr × Nat) := [(55, .aload_n 0, 1), (56, .getfield 19, 3), (59, .invokevirtual 98, 3)]
set_option maxRecDepth 20000 in
theorem k_X11_type_55 {sc : xm_Sc} : xm_bok (xe_cy (XE sc) 193) b_X11_type_55 := by show xm_bok cX11_type _; unfold xm_bok; decide +kernel
def b_X11_type_62 : List (Nat × Jvm.ClassFile.Instr × Nat) := [(62, .aload_n 0, 1), (63, .getfield 71, 3), (66, .getfield 128, 3), (69, .iload_n 3, 1), (70, .aload_n 0, 1), (71, .getfield 19, 3), (74, .invokevirtual 243, 3)]
set_option maxRecDepth 20000 in
theorem k_X11_type_62 {sc : xm_Sc} : xm_bok (xe_cy (XE sc) 193) b_X11_type_62 := by show xm_bok cX11_type _; unfold xm_bok; decide +kernel
def b_X11_type_77 : List (Nat × Jvm.ClassFile.Instr × Nat) := [(77, .aload_n 0, 1), (78, .invokevirtual 194, 3)]
set_option maxRecDepth 20000 in
theorem k_X11_type_77 {sc : xm_Sc} : xm_bok (xe_cy (XE sc) 193) b_X11_type_77 := by show xm_bok cX11_type _; unfold xm_bok; decide +kernel
def b_X11_type_81 : List (Nat × Jvm.ClassFile.Instr × Nat) := [(81, .ireturn, 1)]
set_option maxRecDepth 20000 in
theorem k_X11_type_81 {sc : xm_Sc} : xm_bok (xe_cy (XE sc) 193) b_X11_type_81 := by show xm_bok cX11_type _; unfold xm_bok; decide +kernel
set_option maxRecDepth 20000 in
theorem cn_193 {sc : xm_Sc} : xe_cn (XE sc) 193 = 11 := rfl
set_option maxRecDepth 20000 in
theorem ml_193 {sc : xm_Sc} : xe_ml (XE sc) 193 = 4 := rfl
set_option maxRecDepth 20000 in
theorem ry_193 {sc : xm_Sc} : xe_ry (XE sc) 193 = (some .int) := rfl
set_option maxRecDepth 20000 in
theorem is_193 {sc : xm_Sc} : xe_is (XE sc) 193 = false := rfl
set_option maxRecDepth 20000 in
theorem np_193 {sc : xm_Sc} : xe_np (XE sc) 193 = 2 := rfl
/- method 194: X11_typeRoot -/
def b_X11_typeRoot_0 : List (Nat × Jvm.ClassFile.Instr × Nat) := [(0, .aload_n 0, 1), (1, .iload_n 1, 1), (2, .invokevirtual 201, 3)]
set_option maxRecDepth 20000 in
theorem k_X11_typeRoot_0 {sc : xm_Sc} : xm_bok (xe_cy (XE sc) 194) b_X11_typeRoot_0 := by show xm_bok cX11_typeRoot _; unfold xm_bok; decide +kernel
def b_X11_typeRoot_5 : List (Nat × Jvm.ClassFile.Instr × Nat) := [(5, .ifCond .eq 13, 3)]
set_option maxRecDepth 20000 in
theorem k_X11_typeRoot_5 {sc : xm_Sc} : xm_bok (xe_cy (XE sc) 194) b_X11_typeRoot_5 := by show xm_bok cX11_typeRoot _; unfold xm_bok; decide +kernel
def b_X11_typeRoot_8 : List (Nat × Jvm.ClassFile.Instr × Nat) := [(8, .iload_n 3, 1), (9, .ifCond .lt 9, 3)]
set_option maxRecDepth 20000 in
theorem k_X11_typeRoot_8 {sc : xm_Sc} : xm_bok (xe_cy (XE sc) 194) b_X11_typeRoot_8 := by show xm_bok cX11_typeRoot _; unfold xm_bok; decide +kernel
def b_X11_typeRoot_12 : List (Nat × Jvm.ClassFile.Instr × Nat) := [(12, .iload_n 3, 1), (13, .bipush 7, 2), (15, .if_icmp .le 13, 3)]
set_option maxRecDepth 20000 in
theorem k_X11_typeRoot_12 {sc : xm_Sc} : xm_bok (xe_cy (XE sc) 194) b_X11_typeRoot_12 := by show xm_bok cX11_typeRoot _; unfold xm_bok; decide +kernel
def b_X11_typeRoot_28 : List (Nat × Jvm.ClassFile.Instr × Nat) := [(28, .aload_n 0, 1), (29, .getfield 71, 3), (32, .iload_n 1, 1), (33, .iload_n 2, 1), (34, .invokevirtual 231, 3)]
set_option maxRecDepth 20000 in
theorem k_X11_typeRoot_28 {sc : xm_Sc} : xm_bok (xe_cy (XE sc) 194) b_X11_typeRoot_28 := by show xm_bok cX11_typeRoot _; unfold xm_bok; decide +kernel
def b_X11_typeRoot_37 : List (Nat × Jvm.ClassFile.Instr × Nat) := [(37, .istore 4, 2), (39, .iload 4, 2), (41, .ifCond .ge 7, 3)]
set_option maxRecDepth 20000 in
theorem k_X11_typeRoot_37 {sc : xm_Sc} : xm_bok (xe_cy (XE sc) 194) b_X11_typeRoot_37 := by show xm_bok cX11_typeRoot _; unfold xm_bok; decide +kernel
def b_X11_typeRoot_44 : List (Nat × Jvm.ClassFile.Instr × Nat) := [(44, .lconst 0, 1), (45, .goto 17, 3)]
set_option maxRecDepth 20000 in
theorem k_X11_typeRoot_44 {sc : xm_Sc} : xm_bok (xe_cy (XE sc) 194) b_X11_typeRoot_44 := by show xm_bok cX11_typeRoot _; unfold xm_bok; decide +kernel
def b_X11_typeRoot_48 : List (Nat × Jvm.ClassFile.Instr × Nat) := [(48, .aload_n 0, 1), (49, .getfield 48, 3), (52, .aload_n 0, 1), (53, .getfield 71, 3), (56, .iload 4, 2), (58, .iload_n 3, 1), (59, .invokevirtual 235, 3)]
set_option maxRecDepth 20000 in
theorem k_X11_typeRoot_48 {sc : xm_Sc} : xm_bok (xe_cy (XE sc) 194) b_X11_typeRoot_48 := by show xm_bok cX11_typeRoot _; unfold xm_bok; decide +kernel
def b_X11_typeRoot_62 : List (Nat × Jvm.ClassFile.Instr × Nat) := [(62, .lreturn, 1)]
set_option maxRecDepth 20000 in
theorem k_X11_typeRoot_62 {sc : xm_Sc} : xm_bok (xe_cy (XE sc) 194) b_X11_typeRoot_62 := by show xm_bok cX11_typeRoot _; unfold xm_bok; decide +kernel
set_option maxRecDepth 20000 in
theorem cn_194 {sc : xm_Sc} : xe_cn (XE sc) 194 = 11 := rfl
set_option maxRecDepth 20000 in
theorem ml_194 {sc : xm_Sc} : xe_ml (XE sc) 194 = 5 := rfl
set_option maxRecDepth 20000 in
theorem ry_194 {sc : xm_Sc} : xe_ry (XE sc) 194 = (some .long) := rfl
set_option maxRecDepth 20000 in
theorem is_194 {sc : xm_Sc} : xe_is (XE sc) 194 = false := rfl
set_option maxRecDepth 20000 in
theorem np_194 {sc : xm_Sc} : xe_np (XE sc) 194 = 3 := rfl
/- method 195: X11_value -/
def b_X11_value_0 : List (Nat × Jvm.ClassFile.Instr × Nat) := [(0, .aload_n 0, 1), (1, .iload_n 1, 1), (2, .invokevirtual 201, 3)]
set_option maxRecDepth 20000 in
theorem k_X11_value_0 {sc : xm_Sc} : xm_bok (xe_cy (XE sc) 195) b_X11_value_0 := by show xm_bok cX11_value _; unfold xm_bok; decide +kernel
def b_X11_value_5 : List (Nat × Jvm.ClassFile.Instr × Nat) := [(5, .ifCond .ne 13, 3)]
set_option maxRecDepth 20000 in
theorem k_X11_value_5 {sc : xm_Sc} : xm_bok (xe_cy (XE sc) 195) b_X11_value_5 := by show xm_bok cX11_value _; unfold xm_bok; decide +kernel
def b_X11_value_18 : List (Nat × Jvm.ClassFile.Instr × Nat) := [(18, .aload_n 0, 1), (19, .aload_n 0, 1), (20, .getfield 71, 3), (23, .iload_n 1, 1), (24, .iload_n 2, 1), (25, .invokevirtual 231, 3)]
set_option maxRecDepth 20000 in
theorem k_X11_value_18 {sc : xm_Sc} : xm_bok (xe_cy (XE sc) 195) b_X11_value_18 := by show xm_bok cX11_value _; unfold xm_bok; decide +kernel
def b_X11_value_28 : List (Nat × Jvm.ClassFile.Instr × Nat) := [(28, .invokevirtual 262, 3)]
set_option maxRecDepth 20000 in
theorem k_X11_value_28 {sc : xm_Sc} : xm_bok (xe_cy (XE sc) 195) b_X11_value_28 := by show xm_bok cX11_value _; unfold xm_bok; decide +kernel
def b_X11_value_31 : List (Nat × Jvm.ClassFile.Instr × Nat) := [(31, .istore_n 3, 1), (32, .aload_n 0, 1), (33, .getfield 10, 3), (36, .invokevirtual 98, 3)]
set_option maxRecDepth 20000 in
theorem k_X11_value_31 {sc : xm_Sc} : xm_bok (xe_cy (XE sc) 195) b_X11_value_31 := by show xm_bok cX11_value _; unfold xm_bok; decide +kernel
def b_X11_value_39 : List (Nat × Jvm.ClassFile.Instr × Nat) := [(39, .iload_n 3, 1), (40, .ireturn, 1)]
set_option maxRecDepth 20000 in
theorem k_X11_value_39 {sc : xm_Sc} : xm_bok (xe_cy (XE sc) 195) b_X11_value_39 := by show xm_bok cX11_value _; unfold xm_bok; decide +kernel
set_option maxRecDepth 20000 in
theorem cn_195 {sc : xm_Sc} : xe_cn (XE sc) 195 = 11 := rfl
set_option maxRecDepth 20000 in
theorem ml_195 {sc : xm_Sc} : xe_ml (XE sc) 195 = 4 := rfl
set_option maxRecDepth 20000 in
theorem ry_195 {sc : xm_Sc} : xe_ry (XE sc) 195 = (some .int) := rfl
set_option maxRecDepth 20000 in
theorem is_195 {sc : xm_Sc} : xe_is (XE sc) 195 = false := rfl
set_option maxRecDepth 20000 in
theorem np_195 {sc : xm_Sc} : xe_np (XE sc) 195 = 2 := rfl
/- method 196: X11_wipe -/
def b_X11_wipe_0 : List (Nat × Jvm.ClassFile.Instr × Nat) := [(0, .aload_n 0, 1), (1, .getfield 10, 3), (4, .getfield 85, 3), (7, .istore_n 1, 1), (8, .aload_n 0, 1), (9, .getfield 10, 3), (12, .invokevirtual 98, 3)]
set_option maxRecDepth 20000 in
theorem k_X11_wipe_0 {sc : xm_Sc} : xm_bok (xe_cy (XE sc) 196) b_X11_wipe_0 := by show xm_bok cX11_wipe _; unfold xm_bok; decide +kernel
def b_X11_wipe_15 : List (Nat × Jvm.ClassFile.Instr × Nat) := [(15, .iload_n 1, 1), (16, .ireturn, 1)]
set_option maxRecDepth 20000 in
theorem k_X11_wipe_15 {sc : xm_Sc} : xm_bok (xe_cy (XE sc) 196) b_X11_wipe_15 := by show xm_bok cX11_wipe _; unfold xm_bok; decide +kernel
set_option maxRecDepth 20000 in
theorem cn_196 {sc : xm_Sc} : xe_cn (XE sc) 196 = 11 := rfl
set_option maxRecDepth 20000 in
theorem ml_196 {sc : xm_Sc} : xe_ml (XE sc) 196 = 2 := rfl
set_option maxRecDepth 20000 in
theorem ry_196 {sc : xm_Sc} : xe_ry (XE sc) 196 = (some .int) := rfl
set_option maxRecDepth 20000 in
theorem is_196 {sc : xm_Sc} : xe_is (XE sc) 196 = false := rfl
set_option maxRecDepth 20000 in
theorem np_196 {sc : xm_Sc} : xe_np (XE sc) 196 = 0 := rfl
/- method 197: X11_workTape -/
def b_X11_workTape_0 : List (Nat × Jvm.ClassFile.Instr × Nat) := [(0, .aload_n 0, 1), (1, .getfield 71, 3), (4, .getfield 119, 3), (7, .iconst 1, 1), (8, .isub, 1), (9, .istore 4, 2), (11, .aload_n 0, 1), (12, .getfield 71, 3), (15, .getfield 128, 3), (18, .aload_n 0, 1), (19, .getfield 10, 3), (22, .aload_n 0, 1), (23, .getfield 71, 3), (26, .getfield 132, 3), (29, .iload 4, 2), (31, .iaload, 1), (32, .invokevirtual 136, 3)]
set_option maxRecDepth 20000 in
theorem k_X11_workTape_0 {sc : xm_Sc} : xm_bok (xe_cy (XE sc) 197) b_X11_workTape_0 := by show xm_bok cX11_workTape _; unfold xm_bok; decide +kernel
def b_X11_workTape_35 : List (Nat × Jvm.ClassFile.Instr × Nat) := [(35, .ifCond .ne 6, 3)]
set_option maxRecDepth 20000 in
theorem k_X11_workTape_35 {sc : xm_Sc} : xm_bok (xe_cy (XE sc) 197) b_X11_workTape_35 := by show xm_bok cX11_workTape _; unfold xm_bok; decide +kernel
def b_X11_workTape_38 : List (Nat × Jvm.ClassFile.Instr × Nat) := [(38, .bipush (-4), 2), (40, .ireturn, 1)]
set_option maxRecDepth 20000 in
theorem k_X11_workTape_38 {sc : xm_Sc} : xm_bok (xe_cy (XE sc) 197) b_X11_workTape_38 := by show xm_bok cX11_workTape _; unfold xm_bok; decide +kernel
def b_X11_workTape_41 : List (Nat × Jvm.ClassFile.Instr × Nat) := [(41, .aload_n 0, 1), (42, .getfield 71, 3), (45, .invokevirtual 142, 3)]
set_option maxRecDepth 20000 in
theorem k_X11_workTape_41 {sc : xm_Sc} : xm_bok (xe_cy (XE sc) 197) b_X11_workTape_41 := by show xm_bok cX11_workTape _; unfold xm_bok; decide +kernel
def b_X11_workTape_48 : List (Nat × Jvm.ClassFile.Instr × Nat) := [(48, .istore 5, 2), (50, .iload 5, 2), (52, .iload_n 1, 1), (53, .if_icmp .gt 21, 3)]
set_option maxRecDepth 20000 in
theorem k_X11_workTape_48 {sc : xm_Sc} : xm_bok (xe_cy (XE sc) 197) b_X11_workTape_48 := by show xm_bok cX11_workTape _; unfold xm_bok; decide +kernel
def b_X11_workTape_56 : List (Nat × Jvm.ClassFile.Instr × Nat) := [(56, .iload 5, 2), (58, .ldc 146, 2), (60, .if_icmp .gt 14, 3)]
set_option maxRecDepth 20000 in
theorem k_X11_workTape_56 {sc : xm_Sc} : xm_bok (xe_cy (XE sc) 197) b_X11_workTape_56 := by show xm_bok cX11_workTape _; unfold xm_bok; decide +kernel
def b_X11_workTape_63 : List (Nat × Jvm.ClassFile.Instr × Nat) := [(63, .aload_n 0, 1), (64, .getfield 71, 3), (67, .invokevirtual 147, 3)]
set_option maxRecDepth 20000 in
theorem k_X11_workTape_63 {sc : xm_Sc} : xm_bok (xe_cy (XE sc) 197) b_X11_workTape_63 := by show xm_bok cX11_workTape _; unfold xm_bok; decide +kernel
def b_X11_workTape_70 : List (Nat × Jvm.ClassFile.Instr × Nat) := [(70, .iload_n 2, 1), (71, .if_icmp .le 6, 3)]
set_option maxRecDepth 20000 in
theorem k_X11_workTape_70 {sc : xm_Sc} : xm_bok (xe_cy (XE sc) 197) b_X11_workTape_70 := by show xm_bok cX11_workTape _; unfold xm_bok; decide +kernel
def b_X11_workTape_74 : List (Nat × Jvm.ClassFile.Instr × Nat) := [(74, .bipush (-2), 2), (76, .ireturn, 1)]
set_option maxRecDepth 20000 in
theorem k_X11_workTape_74 {sc : xm_Sc} : xm_bok (xe_cy (XE sc) 197) b_X11_workTape_74 := by show xm_bok cX11_workTape _; unfold xm_bok; decide +kernel
def b_X11_workTape_77 : List (Nat × Jvm.ClassFile.Instr × Nat) := [(77, .iconst 0, 1), (78, .istore 6, 2)]
set_option maxRecDepth 20000 in
theorem k_X11_workTape_77 {sc : xm_Sc} : xm_bok (xe_cy (XE sc) 197) b_X11_workTape_77 := by show xm_bok cX11_workTape _; unfold xm_bok; decide +kernel
def b_X11_workTape_80 : List (Nat × Jvm.ClassFile.Instr × Nat) := [(80, .iload 6, 2), (82, .aload_n 0, 1), (83, .getfield 71, 3), (86, .getfield 119, 3), (89, .if_icmp .ge 45, 3)]
set_option maxRecDepth 20000 in
theorem k_X11_workTape_80 {sc : xm_Sc} : xm_bok (xe_cy (XE sc) 197) b_X11_workTape_80 := by show xm_bok cX11_workTape _; unfold xm_bok; decide +kernel
def b_X11_workTape_92 : List (Nat × Jvm.ClassFile.Instr × Nat) := [(92, .iload_n 3, 1), (93, .ifCond .eq 41, 3)]
set_option maxRecDepth 20000 in
theorem k_X11_workTape_92 {sc : xm_Sc} : xm_bok (xe_cy (XE sc) 197) b_X11_workTape_92 := by show xm_bok cX11_workTape _; unfold xm_bok; decide +kernel
def b_X11_workTape_96 : List (Nat × Jvm.ClassFile.Instr × Nat) := [(96, .aload_n 0, 1), (97, .getfield 71, 3), (100, .getfield 150, 3), (103, .iload 6, 2), (105, .iaload, 1), (106, .bipush 12, 2), (108, .if_icmp .ne 20, 3)]
set_option maxRecDepth 20000 in
theorem k_X11_workTape_96 {sc : xm_Sc} : xm_bok (xe_cy (XE sc) 197) b_X11_workTape_96 := by show xm_bok cX11_workTape _; unfold xm_bok; decide +kernel
def b_X11_workTape_111 : List (Nat × Jvm.ClassFile.Instr × Nat) := [(111, .aload_n 0, 1), (112, .getfield 32, 3), (115, .aload_n 0, 1), (116, .getfield 71, 3), (119, .getfield 152, 3), (122, .iload 6, 2), (124, .iaload, 1), (125, .invokevirtual 155, 3)]
set_option maxRecDepth 20000 in
theorem k_X11_workTape_111 {sc : xm_Sc} : xm_bok (xe_cy (XE sc) 197) b_X11_workTape_111 := by show xm_bok cX11_workTape _; unfold xm_bok; decide +kernel
def b_X11_workTape_128 : List (Nat × Jvm.ClassFile.Instr × Nat) := [(128, .iinc 6 1, 3), (131, .goto (-51), 3)]
set_option maxRecDepth 20000 in
theorem k_X11_workTape_128 {sc : xm_Sc} : xm_bok (xe_cy (XE sc) 197) b_X11_workTape_128 := by show xm_bok cX11_workTape _; unfold xm_bok; decide +kernel
def b_X11_workTape_134 : List (Nat × Jvm.ClassFile.Instr × Nat) := [(134, .aload_n 0, 1), (135, .getfield 41, 3), (138, .aload_n 0, 1), (139, .getfield 71, 3), (142, .aload_n 0, 1), (143, .getfield 10, 3), (146, .iload_n 3, 1), (147, .invokevirtual 158, 3)]
set_option maxRecDepth 20000 in
theorem k_X11_workTape_134 {sc : xm_Sc} : xm_bok (xe_cy (XE sc) 197) b_X11_workTape_134 := by show xm_bok cX11_workTape _; unfold xm_bok; decide +kernel
def b_X11_workTape_150 : List (Nat × Jvm.ClassFile.Instr × Nat) := [(150, .ifCond .ne 5, 3)]
set_option maxRecDepth 20000 in
theorem k_X11_workTape_150 {sc : xm_Sc} : xm_bok (xe_cy (XE sc) 197) b_X11_workTape_150 := by show xm_bok cX11_workTape _; unfold xm_bok; decide +kernel
def b_X11_workTape_153 : List (Nat × Jvm.ClassFile.Instr × Nat) := [(153, .iconst (-1), 1), (154, .ireturn, 1)]
set_option maxRecDepth 20000 in
theorem k_X11_workTape_153 {sc : xm_Sc} : xm_bok (xe_cy (XE sc) 197) b_X11_workTape_153 := by show xm_bok cX11_workTape _; unfold xm_bok; decide +kernel
def b_X11_workTape_155 : List (Nat × Jvm.ClassFile.Instr × Nat) := [(155, .aload_n 0, 1), (156, .getfield 19, 3), (159, .invokevirtual 98, 3)]
set_option maxRecDepth 20000 in
theorem k_X11_workTape_155 {sc : xm_Sc} : xm_bok (xe_cy (XE sc) 197) b_X11_workTape_155 := by show xm_bok cX11_workTape _; unfold xm_bok; decide +kernel
def b_X11_workTape_162 : List (Nat × Jvm.ClassFile.Instr × Nat) := [(162, .aload_n 0, 1), (163, .getfield 41, 3), (166, .aload_n 0, 1), (167, .getfield 19, 3), (170, .aload_n 0, 1), (171, .getfield 71, 3), (174, .iload 4, 2), (176, .invokevirtual 162, 3)]
set_option maxRecDepth 20000 in
theorem k_X11_workTape_162 {sc : xm_Sc} : xm_bok (xe_cy (XE sc) 197) b_X11_workTape_162 := by show xm_bok cX11_workTape _; unfold xm_bok; decide +kernel
def b_X11_workTape_179 : List (Nat × Jvm.ClassFile.Instr × Nat) := [(179, .aload_n 0, 1), (180, .getfield 71, 3), (183, .iload 4, 2), (185, .invokevirtual 166, 3)]
set_option maxRecDepth 20000 in
theorem k_X11_workTape_179 {sc : xm_Sc} : xm_bok (xe_cy (XE sc) 197) b_X11_workTape_179 := by show xm_bok cX11_workTape _; unfold xm_bok; decide +kernel
def b_X11_workTape_188 : List (Nat × Jvm.ClassFile.Instr × Nat) := [(188, .invokevirtual 169, 3)]
set_option maxRecDepth 20000 in
theorem k_X11_workTape_188 {sc : xm_Sc} : xm_bok (xe_cy (XE sc) 197) b_X11_workTape_188 := by show xm_bok cX11_workTape _; unfold xm_bok; decide +kernel
def b_X11_workTape_191 : List (Nat × Jvm.ClassFile.Instr × Nat) := [(191, .aload_n 0, 1), (192, .dup, 1), (193, .getfield 173, 3), (196, .iconst 1, 1), (197, .iadd, 1), (198, .putfield 173, 3), (201, .iload_n 3, 1), (202, .ifCond .ne 36, 3)]
set_option maxRecDepth 20000 in
theorem k_X11_workTape_191 {sc : xm_Sc} : xm_bok (xe_cy (XE sc) 197) b_X11_workTape_191 := by show xm_bok cX11_workTape _; unfold xm_bok; decide +kernel
def b_X11_workTape_205 : List (Nat × Jvm.ClassFile.Instr × Nat) := [(205, .aload_n 0, 1), (206, .aload_n 0, 1), (207, .getfield 41, 3), (210, .getfield 176, 3), (213, .putfield 179, 3), (216, .aload_n 0, 1), (217, .aload_n 0, 1), (218, .getfield 41, 3), (221, .getfield 182, 3), (224, .putfield 185, 3), (227, .aload_n 0, 1), (228, .aload_n 0, 1), (229, .getfield 41, 3), (232, .invokevirtual 188, 3)]
set_option maxRecDepth 20000 in
theorem k_X11_workTape_205 {sc : xm_Sc} : xm_bok (xe_cy (XE sc) 197) b_X11_workTape_205 := by show xm_bok cX11_workTape _; unfold xm_bok; decide +kernel
def b_X11_workTape_235 : List (Nat × Jvm.ClassFile.Instr × Nat) := [(235, .putfield 191, 3)]
set_option maxRecDepth 20000 in
theorem k_X11_workTape_235 {sc : xm_Sc} : xm_bok (xe_cy (XE sc) 197) b_X11_workTape_235 := by show xm_bok cX11_workTape _; unfold xm_bok; decide +kernel
def b_X11_workTape_238 : List (Nat × Jvm.ClassFile.Instr × Nat) := [(238, .aload_n 0, 1), (239, .invokevirtual 194, 3)]
set_option maxRecDepth 20000 in
theorem k_X11_workTape_238 {sc : xm_Sc} : xm_bok (xe_cy (XE sc) 197) b_X11_workTape_238 := by show xm_bok cX11_workTape _; unfold xm_bok; decide +kernel
def b_X11_workTape_242 : List (Nat × Jvm.ClassFile.Instr × Nat) := [(242, .ireturn, 1)]
set_option maxRecDepth 20000 in
theorem k_X11_workTape_242 {sc : xm_Sc} : xm_bok (xe_cy (XE sc) 197) b_X11_workTape_242 := by show xm_bok cX11_workTape _; unfold xm_bok; decide +kernel
set_option maxRecDepth 20000 in
theorem cn_197 {sc : xm_Sc} : xe_cn (XE sc) 197 = 11 := rfl
set_option maxRecDepth 20000 in
theorem ml_197 {sc : xm_Sc} : xe_ml (XE sc) 197 = 7 := rfl
set_option maxRecDepth 20000 in
theorem ry_197 {sc : xm_Sc} : xe_ry (XE sc) 197 = (some .int) := rfl
set_option maxRecDepth 20000 in
theorem is_197 {sc : xm_Sc} : xe_is (XE sc) 197 = false := rfl
set_option maxRecDepth 20000 in
theorem np_197 {sc : xm_Sc} : xe_np (XE sc) 197 = 3 := rfl
/- method 198: X11_worth -/
def b_X11_worth_0 : List (Nat × Jvm.ClassFile.Instr × Nat) := [(0, .aload_n 0, 1), (1, .iload_n 1, 1), (2, .invokevirtual 201, 3)]
set_option maxRecDepth 20000 in
theorem k_X11_worth_0 {sc : xm_Sc} : xm_bok (xe_cy (XE sc) 198) b_X11_worth_0 := by show xm_bok cX11_worth _; unfold xm_bok; decide +kernel
def b_X11_worth_5 : List (Nat × Jvm.ClassFile.Instr × Nat) := [(5, .ifCond .ne 13, 3)]
set_option maxRecDepth 20000 in
theorem k_X11_worth_5 {sc : xm_Sc} : xm_bok (xe_cy (XE sc) 198) b_X11_worth_5 := by show xm_bok cX11_worth _; unfold xm_bok; decide +kernel
def b_X11_worth_18 : List (Nat × Jvm.ClassFile.Instr × Nat) := [(18, .aload_n 0, 1), (19, .aload_n 0, 1), (20, .getfield 71, 3), (23, .iload_n 1, 1), (24, .iload_n 2, 1), (25, .invokevirtual 231, 3)]
set_option maxRecDepth 20000 in
theorem k_X11_worth_18 {sc : xm_Sc} : xm_bok (xe_cy (XE sc) 198) b_X11_worth_18 := by show xm_bok cX11_worth _; unfold xm_bok; decide +kernel
def b_X11_worth_28 : List (Nat × Jvm.ClassFile.Instr × Nat) := [(28, .invokevirtual 269, 3)]
set_option maxRecDepth 20000 in
theorem k_X11_worth_28 {sc : xm_Sc} : xm_bok (xe_cy (XE sc) 198) b_X11_worth_28 := by show xm_bok cX11_worth _; unfold xm_bok; decide +kernel
def b_X11_worth_31 : List (Nat × Jvm.ClassFile.Instr × Nat) := [(31, .istore_n 3, 1), (32, .aload_n 0, 1), (33, .getfield 10, 3), (36, .invokevirtual 98, 3)]
set_option maxRecDepth 20000 in
theorem k_X11_worth_31 {sc : xm_Sc} : xm_bok (xe_cy (XE sc) 198) b_X11_worth_31 := by show xm_bok cX11_worth _; unfold xm_bok; decide +kernel
def b_X11_worth_39 : List (Nat × Jvm.ClassFile.Instr × Nat) := [(39, .iload_n 3, 1), (40, .ireturn, 1)]
set_option maxRecDepth 20000 in
theorem k_X11_worth_39 {sc : xm_Sc} : xm_bok (xe_cy (XE sc) 198) b_X11_worth_39 := by show xm_bok cX11_worth _; unfold xm_bok; decide +kernel
set_option maxRecDepth 20000 in
theorem cn_198 {sc : xm_Sc} : xe_cn (XE sc) 198 = 11 := rfl
set_option maxRecDepth 20000 in
theorem ml_198 {sc : xm_Sc} : xe_ml (XE sc) 198 = 4 := rfl
set_option maxRecDepth 20000 in
theorem ry_198 {sc : xm_Sc} : xe_ry (XE sc) 198 = (some .int) := rfl
set_option maxRecDepth 20000 in
theorem is_198 {sc : xm_Sc} : xe_is (XE sc) 198 = false := rfl
set_option maxRecDepth 20000 in
theorem np_198 {sc : xm_Sc} : xe_np (XE sc) 198 = 2 := rfl
/- method 199: X11_write -/
def b_X11_write_0 : List (Nat × Jvm.ClassFile.Instr × Nat) := [(0, .aload_n 0, 1), (1, .getfield 71, 3), (4, .getfield 119, 3), (7, .ifCond .ne 13, 3)]
set_option maxRecDepth 20000 in
theorem k_X11_write_0 {sc : xm_Sc} : xm_bok (xe_cy (XE sc) 199) b_X11_write_0 := by show xm_bok cX11_write _; unfold xm_bok; decide +kernel
def b_X11_write_20 : List (Nat × Jvm.ClassFile.Instr × Nat) := [(20, .aload_n 0, 1), (21, .getfield 16, 3), (24, .aload_n 0, 1), (25, .getfield 71, 3), (28, .getfield 276, 3), (31, .invokevirtual 197, 3)]
set_option maxRecDepth 20000 in
theorem k_X11_write_20 {sc : xm_Sc} : xm_bok (xe_cy (XE sc) 199) b_X11_write_20 := by show xm_bok cX11_write _; unfold xm_bok; decide +kernel
def b_X11_write_34 : List (Nat × Jvm.ClassFile.Instr × Nat) := [(34, .aload_n 0, 1), (35, .getfield 16, 3), (38, .getfield 85, 3), (41, .ireturn, 1)]
set_option maxRecDepth 20000 in
theorem k_X11_write_34 {sc : xm_Sc} : xm_bok (xe_cy (XE sc) 199) b_X11_write_34 := by show xm_bok cX11_write _; unfold xm_bok; decide +kernel
set_option maxRecDepth 20000 in
theorem cn_199 {sc : xm_Sc} : xe_cn (XE sc) 199 = 11 := rfl
set_option maxRecDepth 20000 in
theorem ml_199 {sc : xm_Sc} : xe_ml (XE sc) 199 = 1 := rfl
set_option maxRecDepth 20000 in
theorem ry_199 {sc : xm_Sc} : xe_ry (XE sc) 199 = (some .int) := rfl
set_option maxRecDepth 20000 in
theorem is_199 {sc : xm_Sc} : xe_is (XE sc) 199 = false := rfl
set_option maxRecDepth 20000 in
theorem np_199 {sc : xm_Sc} : xe_np (XE sc) 199 = 0 := rfl
set_option maxRecDepth 20000 in
theorem fl_11_10 {sc : xm_Sc} : xe_fl (XE sc) 11 10 = some (11, 0) := rfl
set_option maxRecDepth 20000 in
theorem fl_11_16 {sc : xm_Sc} : xe_fl (XE sc) 11 16 = some (11, 1) := rfl
set_option maxRecDepth 20000 in
theorem fl_11_19 {sc : xm_Sc} : xe_fl (XE sc) 11 19 = some (11, 2) := rfl
set_option maxRecDepth 20000 in
theorem fl_11_32 {sc : xm_Sc} : xe_fl (XE sc) 11 32 = some (11, 4) := rfl
set_option maxRecDepth 20000 in
theorem fl_11_41 {sc : xm_Sc} : xe_fl (XE sc) 11 41 = some (11, 5) := rfl
set_option maxRecDepth 20000 in
theorem fl_11_48 {sc : xm_Sc} : xe_fl (XE sc) 11 48 = some (11, 6) := rfl
set_option maxRecDepth 20000 in
theorem fl_11_57 {sc : xm_Sc} : xe_fl (XE sc) 11 57 = some (11, 7) := rfl
set_option maxRecDepth 20000 in
theorem fl_11_64 {sc : xm_Sc} : xe_fl (XE sc) 11 64 = some (11, 8) := rfl
set_option maxRecDepth 20000 in
theorem fl_11_71 {sc : xm_Sc} : xe_fl (XE sc) 11 71 = some (11, 9) := rfl
set_option maxRecDepth 20000 in
theorem fl_11_75 {sc : xm_Sc} : xe_fl (XE sc) 11 75 = some (11, 10) := rfl
set_option maxRecDepth 20000 in
theorem fl_11_85 {sc : xm_Sc} : xe_fl (XE sc) 11 85 = some (8, 1) := rfl
set_option maxRecDepth 20000 in
theorem fl_11_105 {sc : xm_Sc} : xe_fl (XE sc) 11 105 = some (11, 11) := rfl
set_option maxRecDepth 20000 in
theorem fl_11_119 {sc : xm_Sc} : xe_fl (XE sc) 11 119 = some (6, 0) := rfl
set_option maxRecDepth 20000 in
theorem fl_11_128 {sc : xm_Sc} : xe_fl (XE sc) 11 128 = some (6, 13) := rfl
set_option maxRecDepth 20000 in
theorem fl_11_132 {sc : xm_Sc} : xe_fl (XE sc) 11 132 = some (6, 6) := rfl
set_option maxRecDepth 20000 in
theorem fl_11_150 {sc : xm_Sc} : xe_fl (XE sc) 11 150 = some (6, 1) := rfl
set_option maxRecDepth 20000 in
theorem fl_11_152 {sc : xm_Sc} : xe_fl (XE sc) 11 152 = some (6, 4) := rfl
set_option maxRecDepth 20000 in
theorem fl_11_173 {sc : xm_Sc} : xe_fl (XE sc) 11 173 = some (11, 12) := rfl
set_option maxRecDepth 20000 in
theorem fl_11_176 {sc : xm_Sc} : xe_fl (XE sc) 11 176 = some (4, 0) := rfl
set_option maxRecDepth 20000 in
theorem fl_11_179 {sc : xm_Sc} : xe_fl (XE sc) 11 179 = some (11, 13) := rfl
set_option maxRecDepth 20000 in
theorem fl_11_182 {sc : xm_Sc} : xe_fl (XE sc) 11 182 = some (4, 1) := rfl
set_option maxRecDepth 20000 in
theorem fl_11_185 {sc : xm_Sc} : xe_fl (XE sc) 11 185 = some (11, 14) := rfl
set_option maxRecDepth 20000 in
theorem fl_11_191 {sc : xm_Sc} : xe_fl (XE sc) 11 191 = some (11, 15) := rfl
set_option maxRecDepth 20000 in
theorem fl_11_210 {sc : xm_Sc} : xe_fl (XE sc) 11 210 = some (6, 2) := rfl
set_option maxRecDepth 20000 in
theorem fl_11_213 {sc : xm_Sc} : xe_fl (XE sc) 11 213 = some (6, 3) := rfl
set_option maxRecDepth 20000 in
theorem fl_11_216 {sc : xm_Sc} : xe_fl (XE sc) 11 216 = some (6, 8) := rfl
set_option maxRecDepth 20000 in
theorem fl_11_219 {sc : xm_Sc} : xe_fl (XE sc) 11 219 = some (6, 9) := rfl
set_option maxRecDepth 20000 in
theorem fl_11_222 {sc : xm_Sc} : xe_fl (XE sc) 11 222 = some (6, 10) := rfl
set_option maxRecDepth 20000 in
theorem fl_11_240 {sc : xm_Sc} : xe_fl (XE sc) 11 240 = some (10, 7) := rfl
set_option maxRecDepth 20000 in
theorem fl_11_251 {sc : xm_Sc} : xe_fl (XE sc) 11 251 = some (9, 0) := rfl
set_option maxRecDepth 20000 in
theorem fl_11_254 {sc : xm_Sc} : xe_fl (XE sc) 11 254 = some (11, 16) := rfl
set_option maxRecDepth 20000 in
theorem fl_11_255 {sc : xm_Sc} : xe_fl (XE sc) 11 255 = some (8, 2) := rfl
set_option maxRecDepth 20000 in
theorem fl_11_276 {sc : xm_Sc} : xe_fl (XE sc) 11 276 = some (6, 12) := rfl
set_option maxRecDepth 20000 in
theorem fl_11_292 {sc : xm_Sc} : xe_fl (XE sc) 11 292 = some (6, 14) := rfl
set_option maxRecDepth 20000 in
theorem ki_11_146 {sc : xm_Sc} : xe_kI (XE sc) 11 146 = some 1000000 := rfl
set_option maxRecDepth 20000 in
theorem lk_11_94 {sc : xm_Sc} : xe_lk (XE sc) 11 94 = some 133 := rfl
set_option maxRecDepth 20000 in
theorem lk_11_98 {sc : xm_Sc} : xe_lk (XE sc) 11 98 = some 128 := rfl
set_option maxRecDepth 20000 in
theorem lk_11_101 {sc : xm_Sc} : xe_lk (XE sc) 11 101 = some 74 := rfl
set_option maxRecDepth 20000 in
theorem lk_11_108 {sc : xm_Sc} : xe_lk (XE sc) 11 108 = some 107 := rfl
set_option maxRecDepth 20000 in
theorem lk_11_111 {sc : xm_Sc} : xe_lk (XE sc) 11 111 = some 106 := rfl
set_option maxRecDepth 20000 in
theorem lk_11_114 {sc : xm_Sc} : xe_lk (XE sc) 11 114 = some 121 := rfl
set_option maxRecDepth 20000 in
theorem lk_11_124 {sc : xm_Sc} : xe_lk (XE sc) 11 124 = some 197 := rfl
set_option maxRecDepth 20000 in
theorem lk_11_136 {sc : xm_Sc} : xe_lk (XE sc) 11 136 = some 168 := rfl
set_option maxRecDepth 20000 in
theorem lk_11_142 {sc : xm_Sc} : xe_lk (XE sc) 11 142 = some 103 := rfl
set_option maxRecDepth 20000 in
theorem lk_11_147 {sc : xm_Sc} : xe_lk (XE sc) 11 147 = some 101 := rfl
set_option maxRecDepth 20000 in
theorem lk_11_155 {sc : xm_Sc} : xe_lk (XE sc) 11 155 = some 9 := rfl
set_option maxRecDepth 20000 in
theorem lk_11_158 {sc : xm_Sc} : xe_lk (XE sc) 11 158 = some 88 := rfl
set_option maxRecDepth 20000 in
theorem lk_11_162 {sc : xm_Sc} : xe_lk (XE sc) 11 162 = some 110 := rfl
set_option maxRecDepth 20000 in
theorem lk_11_166 {sc : xm_Sc} : xe_lk (XE sc) 11 166 = some 111 := rfl
set_option maxRecDepth 20000 in
theorem lk_11_169 {sc : xm_Sc} : xe_lk (XE sc) 11 169 = some 84 := rfl
set_option maxRecDepth 20000 in
theorem lk_11_188 {sc : xm_Sc} : xe_lk (XE sc) 11 188 = some 87 := rfl
set_option maxRecDepth 20000 in
theorem lk_11_194 {sc : xm_Sc} : xe_lk (XE sc) 11 194 = some 186 := rfl
set_option maxRecDepth 20000 in
theorem lk_11_197 {sc : xm_Sc} : xe_lk (XE sc) 11 197 = some 129 := rfl
set_option maxRecDepth 20000 in
theorem lk_11_201 {sc : xm_Sc} : xe_lk (XE sc) 11 201 = some 180 := rfl
set_option maxRecDepth 20000 in
theorem lk_11_227 {sc : xm_Sc} : xe_lk (XE sc) 11 227 = some 123 := rfl
set_option maxRecDepth 20000 in
theorem lk_11_231 {sc : xm_Sc} : xe_lk (XE sc) 11 231 = some 112 := rfl
set_option maxRecDepth 20000 in
theorem lk_11_235 {sc : xm_Sc} : xe_lk (XE sc) 11 235 = some 125 := rfl
set_option maxRecDepth 20000 in
theorem lk_11_243 {sc : xm_Sc} : xe_lk (XE sc) 11 243 = some 176 := rfl
set_option maxRecDepth 20000 in
theorem lk_11_247 {sc : xm_Sc} : xe_lk (XE sc) 11 247 = some 160 := rfl
set_option maxRecDepth 20000 in
theorem lk_11_259 {sc : xm_Sc} : xe_lk (XE sc) 11 259 = some 115 := rfl
set_option maxRecDepth 20000 in
theorem lk_11_262 {sc : xm_Sc} : xe_lk (XE sc) 11 262 = some 191 := rfl
set_option maxRecDepth 20000 in
theorem lk_11_265 {sc : xm_Sc} : xe_lk (XE sc) 11 265 = some 177 := rfl
set_option maxRecDepth 20000 in
theorem lk_11_269 {sc : xm_Sc} : xe_lk (XE sc) 11 269 = some 192 := rfl
set_option maxRecDepth 20000 in
theorem lk_11_272 {sc : xm_Sc} : xe_lk (XE sc) 11 272 = some 174 := rfl
set_option maxRecDepth 20000 in
theorem lk_11_281 {sc : xm_Sc} : xe_lk (XE sc) 11 281 = some 126 := rfl
set_option maxRecDepth 20000 in
theorem lk_11_286 {sc : xm_Sc} : xe_lk (XE sc) 11 286 = some 183 := rfl
set_option maxRecDepth 20000 in
theorem lk_11_289 {sc : xm_Sc} : xe_lk (XE sc) 11 289 = some 102 := rfl
