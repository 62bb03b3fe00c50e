/-! ===== the law and its helpers: blocks, links ===== -/
/- method 330: L_law -/
def b_L_law_23 : List (Nat × Jvm.ClassFile.Instr × Nat) := [(23, .iload 4, 2), (25, .aload_n 0, 1), (26, .arraylength, 1), (27, .iconst 4, 1), (28, .isub, 1), (29, .if_icmp .gt 1022, 3)]
set_option maxRecDepth 20000 in
theorem k_L_law_23 {sc : xm_Sc} : xm_bok (xe_cy (XE sc) 330) b_L_law_23 := by show xm_bok cL_law _; unfold xm_bok; decide +kernel
def b_L_law_32 : List (Nat × Jvm.ClassFile.Instr × Nat) := [(32, .aload_n 0, 1), (33, .iload 4, 2), (35, .iaload, 1), (36, .bipush 15, 2), (38, .iand, 1), (39, .tableswitch 1006 0 15 #[77, 177, 190, 203, 299, 367, 434, 529, 613, 626, 670, 683, 767, 851, 895, 950], 77)]
set_option maxRecDepth 20000 in
theorem k_L_law_32 {sc : xm_Sc} : xm_bok (xe_cy (XE sc) 330) b_L_law_32 := by show xm_bok cL_law _; unfold xm_bok; decide +kernel
def b_L_law_116 : List (Nat × Jvm.ClassFile.Instr × Nat) := [(116, .aload_n 1, 1), (117, .aload_n 0, 1), (118, .iload 4, 2), (120, .iconst 1, 1), (121, .iadd, 1), (122, .iaload, 1), (123, .aload_n 0, 1), (124, .iload 4, 2), (126, .iconst 2, 1), (127, .iadd, 1), (128, .iaload, 1), (129, .i2l, 1), (130, .bipush 32, 2), (132, .lshl, 1), (133, .aload_n 0, 1), (134, .iload 4, 2), (136, .iconst 3, 1), (137, .iadd, 1), (138, .iaload, 1), (139, .i2l, 1), (140, .ldc2_w 64, 3), (143, .land, 1), (144, .lor, 1), (145, .aload_n 3, 1), (146, .invokestatic 66, 3)]
set_option maxRecDepth 20000 in
theorem k_L_law_116 {sc : xm_Sc} : xm_bok (xe_cy (XE sc) 330) b_L_law_116 := by show xm_bok cL_law _; unfold xm_bok; decide +kernel
def b_L_law_116c : List (Nat × Jvm.ClassFile.Instr × Nat) := [(116, .aload_n 1, 1), (117, .aload_n 0, 1), (118, .iload 4, 2), (120, .iconst 1, 1), (121, .iadd, 1), (122, .iaload, 1), (123, .aload_n 0, 1), (124, .iload 4, 2), (126, .iconst 2, 1), (127, .iadd, 1), (128, .iaload, 1), (129, .i2l, 1), (130, .bipush 32, 2), (132, .lshl, 1), (133, .aload_n 0, 1), (134, .iload 4, 2), (136, .iconst 3, 1), (137, .iadd, 1), (138, .iaload, 1), (139, .i2l, 1), (140, .ldc2_w 64, 3), (143, .land, 1), (144, .lor, 1), (145, .aload_n 3, 1)]
set_option maxRecDepth 20000 in
theorem k_L_law_116c {sc : xm_Sc} : xm_bok (xe_cy (XE sc) 330) b_L_law_116c := by show xm_bok cL_law _; unfold xm_bok; decide +kernel
def b_L_law_149 : List (Nat × Jvm.ClassFile.Instr × Nat) := [(149, .istore 5, 2), (151, .aload_n 2, 1), (152, .aload_n 0, 1), (153, .iload 4, 2), (155, .iconst 1, 1), (156, .iadd, 1), (157, .iaload, 1), (158, .aload_n 0, 1), (159, .iload 4, 2), (161, .iconst 2, 1), (162, .iadd, 1), (163, .iaload, 1), (164, .i2l, 1), (165, .bipush 32, 2), (167, .lshl, 1), (168, .aload_n 0, 1), (169, .iload 4, 2), (171, .iconst 3, 1), (172, .iadd, 1), (173, .iaload, 1), (174, .i2l, 1), (175, .ldc2_w 64, 3), (178, .land, 1), (179, .lor, 1), (180, .invokevirtual 71, 3)]
set_option maxRecDepth 20000 in
theorem k_L_law_149 {sc : xm_Sc} : xm_bok (xe_cy (XE sc) 330) b_L_law_149 := by show xm_bok cL_law _; unfold xm_bok; decide +kernel
def b_L_law_183 : List (Nat × Jvm.ClassFile.Instr × Nat) := [(183, .istore 6, 2), (185, .aload_n 2, 1), (186, .invokevirtual 72, 3)]
set_option maxRecDepth 20000 in
theorem k_L_law_183 {sc : xm_Sc} : xm_bok (xe_cy (XE sc) 330) b_L_law_183 := by show xm_bok cL_law _; unfold xm_bok; decide +kernel
def b_L_law_189 : List (Nat × Jvm.ClassFile.Instr × Nat) := [(189, .iload 5, 2), (191, .if_icmp .eq 5, 3)]
set_option maxRecDepth 20000 in
theorem k_L_law_189 {sc : xm_Sc} : xm_bok (xe_cy (XE sc) 330) b_L_law_189 := by show xm_bok cL_law _; unfold xm_bok; decide +kernel
def b_L_law_194 : List (Nat × Jvm.ClassFile.Instr × Nat) := [(194, .iconst 0, 1), (195, .ireturn, 1)]
set_option maxRecDepth 20000 in
theorem k_L_law_194 {sc : xm_Sc} : xm_bok (xe_cy (XE sc) 330) b_L_law_194 := by show xm_bok cL_law _; unfold xm_bok; decide +kernel
def b_L_law_196 : List (Nat × Jvm.ClassFile.Instr × Nat) := [(196, .iload 5, 2), (198, .ifCond .ne 15, 3)]
set_option maxRecDepth 20000 in
theorem k_L_law_196 {sc : xm_Sc} : xm_bok (xe_cy (XE sc) 330) b_L_law_196 := by show xm_bok cL_law _; unfold xm_bok; decide +kernel
def b_L_law_201 : List (Nat × Jvm.ClassFile.Instr × Nat) := [(201, .aload_n 3, 1), (202, .iconst 0, 1), (203, .laload, 1), (204, .iload 6, 2), (206, .i2l, 1), (207, .lcmp, 1), (208, .ifCond .eq 5, 3)]
set_option maxRecDepth 20000 in
theorem k_L_law_201 {sc : xm_Sc} : xm_bok (xe_cy (XE sc) 330) b_L_law_201 := by show xm_bok cL_law _; unfold xm_bok; decide +kernel
def b_L_law_211 : List (Nat × Jvm.ClassFile.Instr × Nat) := [(211, .iconst 0, 1), (212, .ireturn, 1)]
set_option maxRecDepth 20000 in
theorem k_L_law_211 {sc : xm_Sc} : xm_bok (xe_cy (XE sc) 330) b_L_law_211 := by show xm_bok cL_law _; unfold xm_bok; decide +kernel
def b_L_law_213 : List (Nat × Jvm.ClassFile.Instr × Nat) := [(213, .goto 832, 3)]
set_option maxRecDepth 20000 in
theorem k_L_law_213 {sc : xm_Sc} : xm_bok (xe_cy (XE sc) 330) b_L_law_213 := by show xm_bok cL_law _; unfold xm_bok; decide +kernel
def b_L_law_216 : List (Nat × Jvm.ClassFile.Instr × Nat) := [(216, .aload_n 1, 1), (217, .invokevirtual 75, 3)]
set_option maxRecDepth 20000 in
theorem k_L_law_216 {sc : xm_Sc} : xm_bok (xe_cy (XE sc) 330) b_L_law_216 := by show xm_bok cL_law _; unfold xm_bok; decide +kernel
def b_L_law_220 : List (Nat × Jvm.ClassFile.Instr × Nat) := [(220, .aload_n 2, 1), (221, .invokevirtual 78, 3)]
set_option maxRecDepth 20000 in
theorem k_L_law_220 {sc : xm_Sc} : xm_bok (xe_cy (XE sc) 330) b_L_law_220 := by show xm_bok cL_law _; unfold xm_bok; decide +kernel
def b_L_law_224 : List (Nat × Jvm.ClassFile.Instr × Nat) := [(224, .if_icmp .eq 821, 3)]
set_option maxRecDepth 20000 in
theorem k_L_law_224 {sc : xm_Sc} : xm_bok (xe_cy (XE sc) 330) b_L_law_224 := by show xm_bok cL_law _; unfold xm_bok; decide +kernel
def b_L_law_227 : List (Nat × Jvm.ClassFile.Instr × Nat) := [(227, .iconst 0, 1), (228, .ireturn, 1)]
set_option maxRecDepth 20000 in
theorem k_L_law_227 {sc : xm_Sc} : xm_bok (xe_cy (XE sc) 330) b_L_law_227 := by show xm_bok cL_law _; unfold xm_bok; decide +kernel
def b_L_law_229 : List (Nat × Jvm.ClassFile.Instr × Nat) := [(229, .aload_n 1, 1), (230, .invokevirtual 79, 3)]
set_option maxRecDepth 20000 in
theorem k_L_law_229 {sc : xm_Sc} : xm_bok (xe_cy (XE sc) 330) b_L_law_229 := by show xm_bok cL_law _; unfold xm_bok; decide +kernel
def b_L_law_233 : List (Nat × Jvm.ClassFile.Instr × Nat) := [(233, .aload_n 2, 1), (234, .invokevirtual 82, 3)]
set_option maxRecDepth 20000 in
theorem k_L_law_233 {sc : xm_Sc} : xm_bok (xe_cy (XE sc) 330) b_L_law_233 := by show xm_bok cL_law _; unfold xm_bok; decide +kernel
def b_L_law_237 : List (Nat × Jvm.ClassFile.Instr × Nat) := [(237, .if_icmp .eq 808, 3)]
set_option maxRecDepth 20000 in
theorem k_L_law_237 {sc : xm_Sc} : xm_bok (xe_cy (XE sc) 330) b_L_law_237 := by show xm_bok cL_law _; unfold xm_bok; decide +kernel
def b_L_law_240 : List (Nat × Jvm.ClassFile.Instr × Nat) := [(240, .iconst 0, 1), (241, .ireturn, 1)]
set_option maxRecDepth 20000 in
theorem k_L_law_240 {sc : xm_Sc} : xm_bok (xe_cy (XE sc) 330) b_L_law_240 := by show xm_bok cL_law _; unfold xm_bok; decide +kernel
def b_L_law_242 : List (Nat × Jvm.ClassFile.Instr × Nat) := [(242, .aload_n 1, 1), (243, .aload_n 0, 1), (244, .iload 4, 2), (246, .iconst 1, 1), (247, .iadd, 1), (248, .iaload, 1), (249, .aload_n 0, 1), (250, .iload 4, 2), (252, .iconst 2, 1), (253, .iadd, 1), (254, .iaload, 1), (255, .aload_n 0, 1), (256, .iload 4, 2), (258, .iconst 3, 1), (259, .iadd, 1), (260, .iaload, 1), (261, .ifCond .eq 7, 3)]
set_option maxRecDepth 20000 in
theorem k_L_law_242 {sc : xm_Sc} : xm_bok (xe_cy (XE sc) 330) b_L_law_242 := by show xm_bok cL_law _; unfold xm_bok; decide +kernel
def b_L_law_264 : List (Nat × Jvm.ClassFile.Instr × Nat) := [(264, .iconst 1, 1), (265, .goto 4, 3)]
set_option maxRecDepth 20000 in
theorem k_L_law_264 {sc : xm_Sc} : xm_bok (xe_cy (XE sc) 330) b_L_law_264 := by show xm_bok cL_law _; unfold xm_bok; decide +kernel
def b_L_law_268 : List (Nat × Jvm.ClassFile.Instr × Nat) := [(268, .iconst 0, 1)]
set_option maxRecDepth 20000 in
theorem k_L_law_268 {sc : xm_Sc} : xm_bok (xe_cy (XE sc) 330) b_L_law_268 := by show xm_bok cL_law _; unfold xm_bok; decide +kernel
def b_L_law_269 : List (Nat × Jvm.ClassFile.Instr × Nat) := [(269, .aload_n 3, 1), (270, .invokestatic 83, 3)]
set_option maxRecDepth 20000 in
theorem k_L_law_269 {sc : xm_Sc} : xm_bok (xe_cy (XE sc) 330) b_L_law_269 := by show xm_bok cL_law _; unfold xm_bok; decide +kernel
def b_L_law_269c : List (Nat × Jvm.ClassFile.Instr × Nat) := [(269, .aload_n 3, 1)]
set_option maxRecDepth 20000 in
theorem k_L_law_269c {sc : xm_Sc} : xm_bok (xe_cy (XE sc) 330) b_L_law_269c := by show xm_bok cL_law _; unfold xm_bok; decide +kernel
def b_L_law_273 : List (Nat × Jvm.ClassFile.Instr × Nat) := [(273, .istore 5, 2), (275, .aload_n 2, 1), (276, .aload_n 0, 1), (277, .iload 4, 2), (279, .iconst 1, 1), (280, .iadd, 1), (281, .iaload, 1), (282, .aload_n 0, 1), (283, .iload 4, 2), (285, .iconst 2, 1), (286, .iadd, 1), (287, .iaload, 1), (288, .aload_n 0, 1), (289, .iload 4, 2), (291, .iconst 3, 1), (292, .iadd, 1), (293, .iaload, 1), (294, .ifCond .eq 7, 3)]
set_option maxRecDepth 20000 in
theorem k_L_law_273 {sc : xm_Sc} : xm_bok (xe_cy (XE sc) 330) b_L_law_273 := by show xm_bok cL_law _; unfold xm_bok; decide +kernel
def b_L_law_297 : List (Nat × Jvm.ClassFile.Instr × Nat) := [(297, .iconst 1, 1), (298, .goto 4, 3)]
set_option maxRecDepth 20000 in
theorem k_L_law_297 {sc : xm_Sc} : xm_bok (xe_cy (XE sc) 330) b_L_law_297 := by show xm_bok cL_law _; unfold xm_bok; decide +kernel
def b_L_law_301 : List (Nat × Jvm.ClassFile.Instr × Nat) := [(301, .iconst 0, 1)]
set_option maxRecDepth 20000 in
theorem k_L_law_301 {sc : xm_Sc} : xm_bok (xe_cy (XE sc) 330) b_L_law_301 := by show xm_bok cL_law _; unfold xm_bok; decide +kernel
def b_L_law_302 : List (Nat × Jvm.ClassFile.Instr × Nat) := [(302, .invokevirtual 86, 3)]
set_option maxRecDepth 20000 in
theorem k_L_law_302 {sc : xm_Sc} : xm_bok (xe_cy (XE sc) 330) b_L_law_302 := by show xm_bok cL_law _; unfold xm_bok; decide +kernel
def b_L_law_305 : List (Nat × Jvm.ClassFile.Instr × Nat) := [(305, .istore 6, 2), (307, .aload_n 2, 1), (308, .invokevirtual 72, 3)]
set_option maxRecDepth 20000 in
theorem k_L_law_305 {sc : xm_Sc} : xm_bok (xe_cy (XE sc) 330) b_L_law_305 := by show xm_bok cL_law _; unfold xm_bok; decide +kernel
def b_L_law_311 : List (Nat × Jvm.ClassFile.Instr × Nat) := [(311, .iload 5, 2), (313, .if_icmp .eq 5, 3)]
set_option maxRecDepth 20000 in
theorem k_L_law_311 {sc : xm_Sc} : xm_bok (xe_cy (XE sc) 330) b_L_law_311 := by show xm_bok cL_law _; unfold xm_bok; decide +kernel
def b_L_law_316 : List (Nat × Jvm.ClassFile.Instr × Nat) := [(316, .iconst 0, 1), (317, .ireturn, 1)]
set_option maxRecDepth 20000 in
theorem k_L_law_316 {sc : xm_Sc} : xm_bok (xe_cy (XE sc) 330) b_L_law_316 := by show xm_bok cL_law _; unfold xm_bok; decide +kernel
def b_L_law_318 : List (Nat × Jvm.ClassFile.Instr × Nat) := [(318, .iload 5, 2), (320, .ifCond .ne 15, 3)]
set_option maxRecDepth 20000 in
theorem k_L_law_318 {sc : xm_Sc} : xm_bok (xe_cy (XE sc) 330) b_L_law_318 := by show xm_bok cL_law _; unfold xm_bok; decide +kernel
def b_L_law_323 : List (Nat × Jvm.ClassFile.Instr × Nat) := [(323, .aload_n 3, 1), (324, .iconst 0, 1), (325, .laload, 1), (326, .iload 6, 2), (328, .i2l, 1), (329, .lcmp, 1), (330, .ifCond .eq 5, 3)]
set_option maxRecDepth 20000 in
theorem k_L_law_323 {sc : xm_Sc} : xm_bok (xe_cy (XE sc) 330) b_L_law_323 := by show xm_bok cL_law _; unfold xm_bok; decide +kernel
def b_L_law_333 : List (Nat × Jvm.ClassFile.Instr × Nat) := [(333, .iconst 0, 1), (334, .ireturn, 1)]
set_option maxRecDepth 20000 in
theorem k_L_law_333 {sc : xm_Sc} : xm_bok (xe_cy (XE sc) 330) b_L_law_333 := by show xm_bok cL_law _; unfold xm_bok; decide +kernel
def b_L_law_335 : List (Nat × Jvm.ClassFile.Instr × Nat) := [(335, .goto 710, 3)]
set_option maxRecDepth 20000 in
theorem k_L_law_335 {sc : xm_Sc} : xm_bok (xe_cy (XE sc) 330) b_L_law_335 := by show xm_bok cL_law _; unfold xm_bok; decide +kernel
def b_L_law_338 : List (Nat × Jvm.ClassFile.Instr × Nat) := [(338, .aload_n 1, 1), (339, .aload_n 0, 1), (340, .iload 4, 2), (342, .iconst 1, 1), (343, .iadd, 1), (344, .iaload, 1), (345, .aload_n 0, 1), (346, .iload 4, 2), (348, .iconst 2, 1), (349, .iadd, 1), (350, .iaload, 1), (351, .aload_n 3, 1), (352, .invokestatic 87, 3)]
set_option maxRecDepth 20000 in
theorem k_L_law_338 {sc : xm_Sc} : xm_bok (xe_cy (XE sc) 330) b_L_law_338 := by show xm_bok cL_law _; unfold xm_bok; decide +kernel
def b_L_law_338c : List (Nat × Jvm.ClassFile.Instr × Nat) := [(338, .aload_n 1, 1), (339, .aload_n 0, 1), (340, .iload 4, 2), (342, .iconst 1, 1), (343, .iadd, 1), (344, .iaload, 1), (345, .aload_n 0, 1), (346, .iload 4, 2), (348, .iconst 2, 1), (349, .iadd, 1), (350, .iaload, 1), (351, .aload_n 3, 1)]
set_option maxRecDepth 20000 in
theorem k_L_law_338c {sc : xm_Sc} : xm_bok (xe_cy (XE sc) 330) b_L_law_338c := by show xm_bok cL_law _; unfold xm_bok; decide +kernel
def b_L_law_355 : List (Nat × Jvm.ClassFile.Instr × Nat) := [(355, .istore 5, 2), (357, .aload_n 2, 1), (358, .aload_n 0, 1), (359, .iload 4, 2), (361, .iconst 1, 1), (362, .iadd, 1), (363, .iaload, 1), (364, .aload_n 0, 1), (365, .iload 4, 2), (367, .iconst 2, 1), (368, .iadd, 1), (369, .iaload, 1), (370, .invokevirtual 90, 3)]
set_option maxRecDepth 20000 in
theorem k_L_law_355 {sc : xm_Sc} : xm_bok (xe_cy (XE sc) 330) b_L_law_355 := by show xm_bok cL_law _; unfold xm_bok; decide +kernel
def b_L_law_373 : List (Nat × Jvm.ClassFile.Instr × Nat) := [(373, .istore 6, 2), (375, .aload_n 2, 1), (376, .invokevirtual 72, 3)]
set_option maxRecDepth 20000 in
theorem k_L_law_373 {sc : xm_Sc} : xm_bok (xe_cy (XE sc) 330) b_L_law_373 := by show xm_bok cL_law _; unfold xm_bok; decide +kernel
def b_L_law_379 : List (Nat × Jvm.ClassFile.Instr × Nat) := [(379, .iload 5, 2), (381, .if_icmp .eq 5, 3)]
set_option maxRecDepth 20000 in
theorem k_L_law_379 {sc : xm_Sc} : xm_bok (xe_cy (XE sc) 330) b_L_law_379 := by show xm_bok cL_law _; unfold xm_bok; decide +kernel
def b_L_law_384 : List (Nat × Jvm.ClassFile.Instr × Nat) := [(384, .iconst 0, 1), (385, .ireturn, 1)]
set_option maxRecDepth 20000 in
theorem k_L_law_384 {sc : xm_Sc} : xm_bok (xe_cy (XE sc) 330) b_L_law_384 := by show xm_bok cL_law _; unfold xm_bok; decide +kernel
def b_L_law_386 : List (Nat × Jvm.ClassFile.Instr × Nat) := [(386, .iload 5, 2), (388, .ifCond .ne 15, 3)]
set_option maxRecDepth 20000 in
theorem k_L_law_386 {sc : xm_Sc} : xm_bok (xe_cy (XE sc) 330) b_L_law_386 := by show xm_bok cL_law _; unfold xm_bok; decide +kernel
def b_L_law_391 : List (Nat × Jvm.ClassFile.Instr × Nat) := [(391, .aload_n 3, 1), (392, .iconst 0, 1), (393, .laload, 1), (394, .iload 6, 2), (396, .i2l, 1), (397, .lcmp, 1), (398, .ifCond .eq 5, 3)]
set_option maxRecDepth 20000 in
theorem k_L_law_391 {sc : xm_Sc} : xm_bok (xe_cy (XE sc) 330) b_L_law_391 := by show xm_bok cL_law _; unfold xm_bok; decide +kernel
def b_L_law_401 : List (Nat × Jvm.ClassFile.Instr × Nat) := [(401, .iconst 0, 1), (402, .ireturn, 1)]
set_option maxRecDepth 20000 in
theorem k_L_law_401 {sc : xm_Sc} : xm_bok (xe_cy (XE sc) 330) b_L_law_401 := by show xm_bok cL_law _; unfold xm_bok; decide +kernel
def b_L_law_403 : List (Nat × Jvm.ClassFile.Instr × Nat) := [(403, .goto 642, 3)]
set_option maxRecDepth 20000 in
theorem k_L_law_403 {sc : xm_Sc} : xm_bok (xe_cy (XE sc) 330) b_L_law_403 := by show xm_bok cL_law _; unfold xm_bok; decide +kernel
def b_L_law_406 : List (Nat × Jvm.ClassFile.Instr × Nat) := [(406, .aload_n 1, 1), (407, .aload_n 0, 1), (408, .iload 4, 2), (410, .iconst 1, 1), (411, .iadd, 1), (412, .iaload, 1), (413, .aload_n 0, 1), (414, .iload 4, 2), (416, .iconst 2, 1), (417, .iadd, 1), (418, .iaload, 1), (419, .aload_n 3, 1), (420, .invokestatic 91, 3)]
set_option maxRecDepth 20000 in
theorem k_L_law_406 {sc : xm_Sc} : xm_bok (xe_cy (XE sc) 330) b_L_law_406 := by show xm_bok cL_law _; unfold xm_bok; decide +kernel
def b_L_law_406c : List (Nat × Jvm.ClassFile.Instr × Nat) := [(406, .aload_n 1, 1), (407, .aload_n 0, 1), (408, .iload 4, 2), (410, .iconst 1, 1), (411, .iadd, 1), (412, .iaload, 1), (413, .aload_n 0, 1), (414, .iload 4, 2), (416, .iconst 2, 1), (417, .iadd, 1), (418, .iaload, 1), (419, .aload_n 3, 1)]
set_option maxRecDepth 20000 in
theorem k_L_law_406c {sc : xm_Sc} : xm_bok (xe_cy (XE sc) 330) b_L_law_406c := by show xm_bok cL_law _; unfold xm_bok; decide +kernel
def b_L_law_423 : List (Nat × Jvm.ClassFile.Instr × Nat) := [(423, .istore 5, 2), (425, .aload_n 2, 1), (426, .aload_n 0, 1), (427, .iload 4, 2), (429, .iconst 1, 1), (430, .iadd, 1), (431, .iaload, 1), (432, .aload_n 0, 1), (433, .iload 4, 2), (435, .iconst 2, 1), (436, .iadd, 1), (437, .iaload, 1), (438, .invokevirtual 93, 3)]
set_option maxRecDepth 20000 in
theorem k_L_law_423 {sc : xm_Sc} : xm_bok (xe_cy (XE sc) 330) b_L_law_423 := by show xm_bok cL_law _; unfold xm_bok; decide +kernel
def b_L_law_441 : List (Nat × Jvm.ClassFile.Instr × Nat) := [(441, .lstore 6, 2), (443, .aload_n 2, 1), (444, .invokevirtual 72, 3)]
set_option maxRecDepth 20000 in
theorem k_L_law_441 {sc : xm_Sc} : xm_bok (xe_cy (XE sc) 330) b_L_law_441 := by show xm_bok cL_law _; unfold xm_bok; decide +kernel
def b_L_law_447 : List (Nat × Jvm.ClassFile.Instr × Nat) := [(447, .iload 5, 2), (449, .if_icmp .eq 5, 3)]
set_option maxRecDepth 20000 in
theorem k_L_law_447 {sc : xm_Sc} : xm_bok (xe_cy (XE sc) 330) b_L_law_447 := by show xm_bok cL_law _; unfold xm_bok; decide +kernel
def b_L_law_452 : List (Nat × Jvm.ClassFile.Instr × Nat) := [(452, .iconst 0, 1), (453, .ireturn, 1)]
set_option maxRecDepth 20000 in
theorem k_L_law_452 {sc : xm_Sc} : xm_bok (xe_cy (XE sc) 330) b_L_law_452 := by show xm_bok cL_law _; unfold xm_bok; decide +kernel
def b_L_law_454 : List (Nat × Jvm.ClassFile.Instr × Nat) := [(454, .iload 5, 2), (456, .ifCond .ne 14, 3)]
set_option maxRecDepth 20000 in
theorem k_L_law_454 {sc : xm_Sc} : xm_bok (xe_cy (XE sc) 330) b_L_law_454 := by show xm_bok cL_law _; unfold xm_bok; decide +kernel
def b_L_law_459 : List (Nat × Jvm.ClassFile.Instr × Nat) := [(459, .aload_n 3, 1), (460, .iconst 0, 1), (461, .laload, 1), (462, .lload 6, 2), (464, .lcmp, 1), (465, .ifCond .eq 5, 3)]
set_option maxRecDepth 20000 in
theorem k_L_law_459 {sc : xm_Sc} : xm_bok (xe_cy (XE sc) 330) b_L_law_459 := by show xm_bok cL_law _; unfold xm_bok; decide +kernel
def b_L_law_468 : List (Nat × Jvm.ClassFile.Instr × Nat) := [(468, .iconst 0, 1), (469, .ireturn, 1)]
set_option maxRecDepth 20000 in
theorem k_L_law_468 {sc : xm_Sc} : xm_bok (xe_cy (XE sc) 330) b_L_law_468 := by show xm_bok cL_law _; unfold xm_bok; decide +kernel
def b_L_law_470 : List (Nat × Jvm.ClassFile.Instr × Nat) := [(470, .goto 575, 3)]
set_option maxRecDepth 20000 in
theorem k_L_law_470 {sc : xm_Sc} : xm_bok (xe_cy (XE sc) 330) b_L_law_470 := by show xm_bok cL_law _; unfold xm_bok; decide +kernel
def b_L_law_473 : List (Nat × Jvm.ClassFile.Instr × Nat) := [(473, .aload_n 1, 1), (474, .aload_n 0, 1), (475, .iload 4, 2), (477, .iconst 1, 1), (478, .iadd, 1), (479, .iaload, 1), (480, .aload_n 0, 1), (481, .iload 4, 2), (483, .iconst 2, 1), (484, .iadd, 1), (485, .iaload, 1), (486, .ifCond .eq 7, 3)]
set_option maxRecDepth 20000 in
theorem k_L_law_473 {sc : xm_Sc} : xm_bok (xe_cy (XE sc) 330) b_L_law_473 := by show xm_bok cL_law _; unfold xm_bok; decide +kernel
def b_L_law_489 : List (Nat × Jvm.ClassFile.Instr × Nat) := [(489, .iconst 1, 1), (490, .goto 4, 3)]
set_option maxRecDepth 20000 in
theorem k_L_law_489 {sc : xm_Sc} : xm_bok (xe_cy (XE sc) 330) b_L_law_489 := by show xm_bok cL_law _; unfold xm_bok; decide +kernel
def b_L_law_493 : List (Nat × Jvm.ClassFile.Instr × Nat) := [(493, .iconst 0, 1)]
set_option maxRecDepth 20000 in
theorem k_L_law_493 {sc : xm_Sc} : xm_bok (xe_cy (XE sc) 330) b_L_law_493 := by show xm_bok cL_law _; unfold xm_bok; decide +kernel
def b_L_law_494 : List (Nat × Jvm.ClassFile.Instr × Nat) := [(494, .aload_n 0, 1), (495, .iload 4, 2), (497, .iconst 3, 1), (498, .iadd, 1), (499, .iaload, 1), (500, .aload_n 3, 1), (501, .invokestatic 94, 3)]
set_option maxRecDepth 20000 in
theorem k_L_law_494 {sc : xm_Sc} : xm_bok (xe_cy (XE sc) 330) b_L_law_494 := by show xm_bok cL_law _; unfold xm_bok; decide +kernel
def b_L_law_494c : List (Nat × Jvm.ClassFile.Instr × Nat) := [(494, .aload_n 0, 1), (495, .iload 4, 2), (497, .iconst 3, 1), (498, .iadd, 1), (499, .iaload, 1), (500, .aload_n 3, 1)]
set_option maxRecDepth 20000 in
theorem k_L_law_494c {sc : xm_Sc} : xm_bok (xe_cy (XE sc) 330) b_L_law_494c := by show xm_bok cL_law _; unfold xm_bok; decide +kernel
def b_L_law_504 : List (Nat × Jvm.ClassFile.Instr × Nat) := [(504, .istore 5, 2), (506, .aload_n 2, 1), (507, .aload_n 0, 1), (508, .iload 4, 2), (510, .iconst 1, 1), (511, .iadd, 1), (512, .iaload, 1), (513, .aload_n 0, 1), (514, .iload 4, 2), (516, .iconst 2, 1), (517, .iadd, 1), (518, .iaload, 1), (519, .ifCond .eq 7, 3)]
set_option maxRecDepth 20000 in
theorem k_L_law_504 {sc : xm_Sc} : xm_bok (xe_cy (XE sc) 330) b_L_law_504 := by show xm_bok cL_law _; unfold xm_bok; decide +kernel
def b_L_law_522 : List (Nat × Jvm.ClassFile.Instr × Nat) := [(522, .iconst 1, 1), (523, .goto 4, 3)]
set_option maxRecDepth 20000 in
theorem k_L_law_522 {sc : xm_Sc} : xm_bok (xe_cy (XE sc) 330) b_L_law_522 := by show xm_bok cL_law _; unfold xm_bok; decide +kernel
def b_L_law_526 : List (Nat × Jvm.ClassFile.Instr × Nat) := [(526, .iconst 0, 1)]
set_option maxRecDepth 20000 in
theorem k_L_law_526 {sc : xm_Sc} : xm_bok (xe_cy (XE sc) 330) b_L_law_526 := by show xm_bok cL_law _; unfold xm_bok; decide +kernel
def b_L_law_527 : List (Nat × Jvm.ClassFile.Instr × Nat) := [(527, .aload_n 0, 1), (528, .iload 4, 2), (530, .iconst 3, 1), (531, .iadd, 1), (532, .iaload, 1), (533, .invokevirtual 97, 3)]
set_option maxRecDepth 20000 in
theorem k_L_law_527 {sc : xm_Sc} : xm_bok (xe_cy (XE sc) 330) b_L_law_527 := by show xm_bok cL_law _; unfold xm_bok; decide +kernel
def b_L_law_536 : List (Nat × Jvm.ClassFile.Instr × Nat) := [(536, .lstore 6, 2), (538, .aload_n 2, 1), (539, .invokevirtual 72, 3)]
set_option maxRecDepth 20000 in
theorem k_L_law_536 {sc : xm_Sc} : xm_bok (xe_cy (XE sc) 330) b_L_law_536 := by show xm_bok cL_law _; unfold xm_bok; decide +kernel
def b_L_law_542 : List (Nat × Jvm.ClassFile.Instr × Nat) := [(542, .iload 5, 2), (544, .if_icmp .eq 5, 3)]
set_option maxRecDepth 20000 in
theorem k_L_law_542 {sc : xm_Sc} : xm_bok (xe_cy (XE sc) 330) b_L_law_542 := by show xm_bok cL_law _; unfold xm_bok; decide +kernel
def b_L_law_547 : List (Nat × Jvm.ClassFile.Instr × Nat) := [(547, .iconst 0, 1), (548, .ireturn, 1)]
set_option maxRecDepth 20000 in
theorem k_L_law_547 {sc : xm_Sc} : xm_bok (xe_cy (XE sc) 330) b_L_law_547 := by show xm_bok cL_law _; unfold xm_bok; decide +kernel
def b_L_law_549 : List (Nat × Jvm.ClassFile.Instr × Nat) := [(549, .iload 5, 2), (551, .ifCond .ne 14, 3)]
set_option maxRecDepth 20000 in
theorem k_L_law_549 {sc : xm_Sc} : xm_bok (xe_cy (XE sc) 330) b_L_law_549 := by show xm_bok cL_law _; unfold xm_bok; decide +kernel
def b_L_law_554 : List (Nat × Jvm.ClassFile.Instr × Nat) := [(554, .aload_n 3, 1), (555, .iconst 0, 1), (556, .laload, 1), (557, .lload 6, 2), (559, .lcmp, 1), (560, .ifCond .eq 5, 3)]
set_option maxRecDepth 20000 in
theorem k_L_law_554 {sc : xm_Sc} : xm_bok (xe_cy (XE sc) 330) b_L_law_554 := by show xm_bok cL_law _; unfold xm_bok; decide +kernel
def b_L_law_563 : List (Nat × Jvm.ClassFile.Instr × Nat) := [(563, .iconst 0, 1), (564, .ireturn, 1)]
set_option maxRecDepth 20000 in
theorem k_L_law_563 {sc : xm_Sc} : xm_bok (xe_cy (XE sc) 330) b_L_law_563 := by show xm_bok cL_law _; unfold xm_bok; decide +kernel
def b_L_law_565 : List (Nat × Jvm.ClassFile.Instr × Nat) := [(565, .goto 480, 3)]
set_option maxRecDepth 20000 in
theorem k_L_law_565 {sc : xm_Sc} : xm_bok (xe_cy (XE sc) 330) b_L_law_565 := by show xm_bok cL_law _; unfold xm_bok; decide +kernel
def b_L_law_568 : List (Nat × Jvm.ClassFile.Instr × Nat) := [(568, .aload_n 1, 1), (569, .aload_n 0, 1), (570, .iload 4, 2), (572, .iconst 1, 1), (573, .iadd, 1), (574, .iaload, 1), (575, .aload_n 0, 1), (576, .iload 4, 2), (578, .iconst 2, 1), (579, .iadd, 1), (580, .iaload, 1), (581, .ifCond .eq 7, 3)]
set_option maxRecDepth 20000 in
theorem k_L_law_568 {sc : xm_Sc} : xm_bok (xe_cy (XE sc) 330) b_L_law_568 := by show xm_bok cL_law _; unfold xm_bok; decide +kernel
def b_L_law_584 : List (Nat × Jvm.ClassFile.Instr × Nat) := [(584, .iconst 1, 1), (585, .goto 4, 3)]
set_option maxRecDepth 20000 in
theorem k_L_law_584 {sc : xm_Sc} : xm_bok (xe_cy (XE sc) 330) b_L_law_584 := by show xm_bok cL_law _; unfold xm_bok; decide +kernel
def b_L_law_588 : List (Nat × Jvm.ClassFile.Instr × Nat) := [(588, .iconst 0, 1)]
set_option maxRecDepth 20000 in
theorem k_L_law_588 {sc : xm_Sc} : xm_bok (xe_cy (XE sc) 330) b_L_law_588 := by show xm_bok cL_law _; unfold xm_bok; decide +kernel
def b_L_law_589 : List (Nat × Jvm.ClassFile.Instr × Nat) := [(589, .aload_n 3, 1), (590, .invokestatic 98, 3)]
set_option maxRecDepth 20000 in
theorem k_L_law_589 {sc : xm_Sc} : xm_bok (xe_cy (XE sc) 330) b_L_law_589 := by show xm_bok cL_law _; unfold xm_bok; decide +kernel
def b_L_law_589c : List (Nat × Jvm.ClassFile.Instr × Nat) := [(589, .aload_n 3, 1)]
set_option maxRecDepth 20000 in
theorem k_L_law_589c {sc : xm_Sc} : xm_bok (xe_cy (XE sc) 330) b_L_law_589c := by show xm_bok cL_law _; unfold xm_bok; decide +kernel
def b_L_law_593 : List (Nat × Jvm.ClassFile.Instr × Nat) := [(593, .istore 5, 2), (595, .aload_n 2, 1), (596, .aload_n 0, 1), (597, .iload 4, 2), (599, .iconst 1, 1), (600, .iadd, 1), (601, .iaload, 1), (602, .aload_n 0, 1), (603, .iload 4, 2), (605, .iconst 2, 1), (606, .iadd, 1), (607, .iaload, 1), (608, .ifCond .eq 7, 3)]
set_option maxRecDepth 20000 in
theorem k_L_law_593 {sc : xm_Sc} : xm_bok (xe_cy (XE sc) 330) b_L_law_593 := by show xm_bok cL_law _; unfold xm_bok; decide +kernel
def b_L_law_611 : List (Nat × Jvm.ClassFile.Instr × Nat) := [(611, .iconst 1, 1), (612, .goto 4, 3)]
set_option maxRecDepth 20000 in
theorem k_L_law_611 {sc : xm_Sc} : xm_bok (xe_cy (XE sc) 330) b_L_law_611 := by show xm_bok cL_law _; unfold xm_bok; decide +kernel
def b_L_law_615 : List (Nat × Jvm.ClassFile.Instr × Nat) := [(615, .iconst 0, 1)]
set_option maxRecDepth 20000 in
theorem k_L_law_615 {sc : xm_Sc} : xm_bok (xe_cy (XE sc) 330) b_L_law_615 := by show xm_bok cL_law _; unfold xm_bok; decide +kernel
def b_L_law_616 : List (Nat × Jvm.ClassFile.Instr × Nat) := [(616, .invokevirtual 101, 3)]
set_option maxRecDepth 20000 in
theorem k_L_law_616 {sc : xm_Sc} : xm_bok (xe_cy (XE sc) 330) b_L_law_616 := by show xm_bok cL_law _; unfold xm_bok; decide +kernel
def b_L_law_619 : List (Nat × Jvm.ClassFile.Instr × Nat) := [(619, .istore 6, 2), (621, .aload_n 2, 1), (622, .invokevirtual 72, 3)]
set_option maxRecDepth 20000 in
theorem k_L_law_619 {sc : xm_Sc} : xm_bok (xe_cy (XE sc) 330) b_L_law_619 := by show xm_bok cL_law _; unfold xm_bok; decide +kernel
def b_L_law_625 : List (Nat × Jvm.ClassFile.Instr × Nat) := [(625, .iload 5, 2), (627, .if_icmp .eq 5, 3)]
set_option maxRecDepth 20000 in
theorem k_L_law_625 {sc : xm_Sc} : xm_bok (xe_cy (XE sc) 330) b_L_law_625 := by show xm_bok cL_law _; unfold xm_bok; decide +kernel
def b_L_law_630 : List (Nat × Jvm.ClassFile.Instr × Nat) := [(630, .iconst 0, 1), (631, .ireturn, 1)]
set_option maxRecDepth 20000 in
theorem k_L_law_630 {sc : xm_Sc} : xm_bok (xe_cy (XE sc) 330) b_L_law_630 := by show xm_bok cL_law _; unfold xm_bok; decide +kernel
def b_L_law_632 : List (Nat × Jvm.ClassFile.Instr × Nat) := [(632, .iload 5, 2), (634, .ifCond .ne 15, 3)]
set_option maxRecDepth 20000 in
theorem k_L_law_632 {sc : xm_Sc} : xm_bok (xe_cy (XE sc) 330) b_L_law_632 := by show xm_bok cL_law _; unfold xm_bok; decide +kernel
def b_L_law_637 : List (Nat × Jvm.ClassFile.Instr × Nat) := [(637, .aload_n 3, 1), (638, .iconst 0, 1), (639, .laload, 1), (640, .iload 6, 2), (642, .i2l, 1), (643, .lcmp, 1), (644, .ifCond .eq 5, 3)]
set_option maxRecDepth 20000 in
theorem k_L_law_637 {sc : xm_Sc} : xm_bok (xe_cy (XE sc) 330) b_L_law_637 := by show xm_bok cL_law _; unfold xm_bok; decide +kernel
def b_L_law_647 : List (Nat × Jvm.ClassFile.Instr × Nat) := [(647, .iconst 0, 1), (648, .ireturn, 1)]
set_option maxRecDepth 20000 in
theorem k_L_law_647 {sc : xm_Sc} : xm_bok (xe_cy (XE sc) 330) b_L_law_647 := by show xm_bok cL_law _; unfold xm_bok; decide +kernel
def b_L_law_649 : List (Nat × Jvm.ClassFile.Instr × Nat) := [(649, .goto 396, 3)]
set_option maxRecDepth 20000 in
theorem k_L_law_649 {sc : xm_Sc} : xm_bok (xe_cy (XE sc) 330) b_L_law_649 := by show xm_bok cL_law _; unfold xm_bok; decide +kernel
def b_L_law_652 : List (Nat × Jvm.ClassFile.Instr × Nat) := [(652, .aload_n 1, 1), (653, .invokevirtual 102, 3)]
set_option maxRecDepth 20000 in
theorem k_L_law_652 {sc : xm_Sc} : xm_bok (xe_cy (XE sc) 330) b_L_law_652 := by show xm_bok cL_law _; unfold xm_bok; decide +kernel
def b_L_law_656 : List (Nat × Jvm.ClassFile.Instr × Nat) := [(656, .aload_n 2, 1), (657, .invokevirtual 105, 3)]
set_option maxRecDepth 20000 in
theorem k_L_law_656 {sc : xm_Sc} : xm_bok (xe_cy (XE sc) 330) b_L_law_656 := by show xm_bok cL_law _; unfold xm_bok; decide +kernel
def b_L_law_660 : List (Nat × Jvm.ClassFile.Instr × Nat) := [(660, .if_icmp .eq 385, 3)]
set_option maxRecDepth 20000 in
theorem k_L_law_660 {sc : xm_Sc} : xm_bok (xe_cy (XE sc) 330) b_L_law_660 := by show xm_bok cL_law _; unfold xm_bok; decide +kernel
def b_L_law_663 : List (Nat × Jvm.ClassFile.Instr × Nat) := [(663, .iconst 0, 1), (664, .ireturn, 1)]
set_option maxRecDepth 20000 in
theorem k_L_law_663 {sc : xm_Sc} : xm_bok (xe_cy (XE sc) 330) b_L_law_663 := by show xm_bok cL_law _; unfold xm_bok; decide +kernel
def b_L_law_665 : List (Nat × Jvm.ClassFile.Instr × Nat) := [(665, .aload_n 1, 1), (666, .aload_n 3, 1), (667, .invokestatic 106, 3)]
set_option maxRecDepth 20000 in
theorem k_L_law_665 {sc : xm_Sc} : xm_bok (xe_cy (XE sc) 330) b_L_law_665 := by show xm_bok cL_law _; unfold xm_bok; decide +kernel
def b_L_law_665c : List (Nat × Jvm.ClassFile.Instr × Nat) := [(665, .aload_n 1, 1), (666, .aload_n 3, 1)]
set_option maxRecDepth 20000 in
theorem k_L_law_665c {sc : xm_Sc} : xm_bok (xe_cy (XE sc) 330) b_L_law_665c := by show xm_bok cL_law _; unfold xm_bok; decide +kernel
def b_L_law_670 : List (Nat × Jvm.ClassFile.Instr × Nat) := [(670, .istore 5, 2), (672, .aload_n 2, 1), (673, .invokevirtual 109, 3)]
set_option maxRecDepth 20000 in
theorem k_L_law_670 {sc : xm_Sc} : xm_bok (xe_cy (XE sc) 330) b_L_law_670 := by show xm_bok cL_law _; unfold xm_bok; decide +kernel
def b_L_law_676 : List (Nat × Jvm.ClassFile.Instr × Nat) := [(676, .istore 6, 2), (678, .aload_n 2, 1), (679, .invokevirtual 72, 3)]
set_option maxRecDepth 20000 in
theorem k_L_law_676 {sc : xm_Sc} : xm_bok (xe_cy (XE sc) 330) b_L_law_676 := by show xm_bok cL_law _; unfold xm_bok; decide +kernel
def b_L_law_682 : List (Nat × Jvm.ClassFile.Instr × Nat) := [(682, .iload 5, 2), (684, .if_icmp .eq 5, 3)]
set_option maxRecDepth 20000 in
theorem k_L_law_682 {sc : xm_Sc} : xm_bok (xe_cy (XE sc) 330) b_L_law_682 := by show xm_bok cL_law _; unfold xm_bok; decide +kernel
def b_L_law_687 : List (Nat × Jvm.ClassFile.Instr × Nat) := [(687, .iconst 0, 1), (688, .ireturn, 1)]
set_option maxRecDepth 20000 in
theorem k_L_law_687 {sc : xm_Sc} : xm_bok (xe_cy (XE sc) 330) b_L_law_687 := by show xm_bok cL_law _; unfold xm_bok; decide +kernel
def b_L_law_689 : List (Nat × Jvm.ClassFile.Instr × Nat) := [(689, .iload 5, 2), (691, .ifCond .ne 15, 3)]
set_option maxRecDepth 20000 in
theorem k_L_law_689 {sc : xm_Sc} : xm_bok (xe_cy (XE sc) 330) b_L_law_689 := by show xm_bok cL_law _; unfold xm_bok; decide +kernel
def b_L_law_694 : List (Nat × Jvm.ClassFile.Instr × Nat) := [(694, .aload_n 3, 1), (695, .iconst 0, 1), (696, .laload, 1), (697, .iload 6, 2), (699, .i2l, 1), (700, .lcmp, 1), (701, .ifCond .eq 5, 3)]
set_option maxRecDepth 20000 in
theorem k_L_law_694 {sc : xm_Sc} : xm_bok (xe_cy (XE sc) 330) b_L_law_694 := by show xm_bok cL_law _; unfold xm_bok; decide +kernel
def b_L_law_704 : List (Nat × Jvm.ClassFile.Instr × Nat) := [(704, .iconst 0, 1), (705, .ireturn, 1)]
set_option maxRecDepth 20000 in
theorem k_L_law_704 {sc : xm_Sc} : xm_bok (xe_cy (XE sc) 330) b_L_law_704 := by show xm_bok cL_law _; unfold xm_bok; decide +kernel
def b_L_law_706 : List (Nat × Jvm.ClassFile.Instr × Nat) := [(706, .goto 339, 3)]
set_option maxRecDepth 20000 in
theorem k_L_law_706 {sc : xm_Sc} : xm_bok (xe_cy (XE sc) 330) b_L_law_706 := by show xm_bok cL_law _; unfold xm_bok; decide +kernel
def b_L_law_709 : List (Nat × Jvm.ClassFile.Instr × Nat) := [(709, .aload_n 1, 1), (710, .invokevirtual 110, 3)]
set_option maxRecDepth 20000 in
theorem k_L_law_709 {sc : xm_Sc} : xm_bok (xe_cy (XE sc) 330) b_L_law_709 := by show xm_bok cL_law _; unfold xm_bok; decide +kernel
def b_L_law_713 : List (Nat × Jvm.ClassFile.Instr × Nat) := [(713, .aload_n 2, 1), (714, .invokevirtual 113, 3)]
set_option maxRecDepth 20000 in
theorem k_L_law_713 {sc : xm_Sc} : xm_bok (xe_cy (XE sc) 330) b_L_law_713 := by show xm_bok cL_law _; unfold xm_bok; decide +kernel
def b_L_law_717 : List (Nat × Jvm.ClassFile.Instr × Nat) := [(717, .if_icmp .eq 328, 3)]
set_option maxRecDepth 20000 in
theorem k_L_law_717 {sc : xm_Sc} : xm_bok (xe_cy (XE sc) 330) b_L_law_717 := by show xm_bok cL_law _; unfold xm_bok; decide +kernel
def b_L_law_720 : List (Nat × Jvm.ClassFile.Instr × Nat) := [(720, .iconst 0, 1), (721, .ireturn, 1)]
set_option maxRecDepth 20000 in
theorem k_L_law_720 {sc : xm_Sc} : xm_bok (xe_cy (XE sc) 330) b_L_law_720 := by show xm_bok cL_law _; unfold xm_bok; decide +kernel
def b_L_law_722 : List (Nat × Jvm.ClassFile.Instr × Nat) := [(722, .aload_n 1, 1), (723, .aload_n 0, 1), (724, .iload 4, 2), (726, .iconst 1, 1), (727, .iadd, 1), (728, .iaload, 1), (729, .aload_n 0, 1), (730, .iload 4, 2), (732, .iconst 2, 1), (733, .iadd, 1), (734, .iaload, 1), (735, .ifCond .eq 7, 3)]
set_option maxRecDepth 20000 in
theorem k_L_law_722 {sc : xm_Sc} : xm_bok (xe_cy (XE sc) 330) b_L_law_722 := by show xm_bok cL_law _; unfold xm_bok; decide +kernel
def b_L_law_738 : List (Nat × Jvm.ClassFile.Instr × Nat) := [(738, .iconst 1, 1), (739, .goto 4, 3)]
set_option maxRecDepth 20000 in
theorem k_L_law_738 {sc : xm_Sc} : xm_bok (xe_cy (XE sc) 330) b_L_law_738 := by show xm_bok cL_law _; unfold xm_bok; decide +kernel
def b_L_law_742 : List (Nat × Jvm.ClassFile.Instr × Nat) := [(742, .iconst 0, 1)]
set_option maxRecDepth 20000 in
theorem k_L_law_742 {sc : xm_Sc} : xm_bok (xe_cy (XE sc) 330) b_L_law_742 := by show xm_bok cL_law _; unfold xm_bok; decide +kernel
def b_L_law_743 : List (Nat × Jvm.ClassFile.Instr × Nat) := [(743, .aload_n 3, 1), (744, .invokestatic 114, 3)]
set_option maxRecDepth 20000 in
theorem k_L_law_743 {sc : xm_Sc} : xm_bok (xe_cy (XE sc) 330) b_L_law_743 := by show xm_bok cL_law _; unfold xm_bok; decide +kernel
def b_L_law_743c : List (Nat × Jvm.ClassFile.Instr × Nat) := [(743, .aload_n 3, 1)]
set_option maxRecDepth 20000 in
theorem k_L_law_743c {sc : xm_Sc} : xm_bok (xe_cy (XE sc) 330) b_L_law_743c := by show xm_bok cL_law _; unfold xm_bok; decide +kernel
def b_L_law_747 : List (Nat × Jvm.ClassFile.Instr × Nat) := [(747, .istore 5, 2), (749, .aload_n 2, 1), (750, .aload_n 0, 1), (751, .iload 4, 2), (753, .iconst 1, 1), (754, .iadd, 1), (755, .iaload, 1), (756, .aload_n 0, 1), (757, .iload 4, 2), (759, .iconst 2, 1), (760, .iadd, 1), (761, .iaload, 1), (762, .ifCond .eq 7, 3)]
set_option maxRecDepth 20000 in
theorem k_L_law_747 {sc : xm_Sc} : xm_bok (xe_cy (XE sc) 330) b_L_law_747 := by show xm_bok cL_law _; unfold xm_bok; decide +kernel
def b_L_law_765 : List (Nat × Jvm.ClassFile.Instr × Nat) := [(765, .iconst 1, 1), (766, .goto 4, 3)]
set_option maxRecDepth 20000 in
theorem k_L_law_765 {sc : xm_Sc} : xm_bok (xe_cy (XE sc) 330) b_L_law_765 := by show xm_bok cL_law _; unfold xm_bok; decide +kernel
def b_L_law_769 : List (Nat × Jvm.ClassFile.Instr × Nat) := [(769, .iconst 0, 1)]
set_option maxRecDepth 20000 in
theorem k_L_law_769 {sc : xm_Sc} : xm_bok (xe_cy (XE sc) 330) b_L_law_769 := by show xm_bok cL_law _; unfold xm_bok; decide +kernel
def b_L_law_770 : List (Nat × Jvm.ClassFile.Instr × Nat) := [(770, .invokevirtual 116, 3)]
set_option maxRecDepth 20000 in
theorem k_L_law_770 {sc : xm_Sc} : xm_bok (xe_cy (XE sc) 330) b_L_law_770 := by show xm_bok cL_law _; unfold xm_bok; decide +kernel
def b_L_law_773 : List (Nat × Jvm.ClassFile.Instr × Nat) := [(773, .istore 6, 2), (775, .aload_n 2, 1), (776, .invokevirtual 72, 3)]
set_option maxRecDepth 20000 in
theorem k_L_law_773 {sc : xm_Sc} : xm_bok (xe_cy (XE sc) 330) b_L_law_773 := by show xm_bok cL_law _; unfold xm_bok; decide +kernel
def b_L_law_779 : List (Nat × Jvm.ClassFile.Instr × Nat) := [(779, .iload 5, 2), (781, .if_icmp .eq 5, 3)]
set_option maxRecDepth 20000 in
theorem k_L_law_779 {sc : xm_Sc} : xm_bok (xe_cy (XE sc) 330) b_L_law_779 := by show xm_bok cL_law _; unfold xm_bok; decide +kernel
def b_L_law_784 : List (Nat × Jvm.ClassFile.Instr × Nat) := [(784, .iconst 0, 1), (785, .ireturn, 1)]
set_option maxRecDepth 20000 in
theorem k_L_law_784 {sc : xm_Sc} : xm_bok (xe_cy (XE sc) 330) b_L_law_784 := by show xm_bok cL_law _; unfold xm_bok; decide +kernel
def b_L_law_786 : List (Nat × Jvm.ClassFile.Instr × Nat) := [(786, .iload 5, 2), (788, .ifCond .ne 15, 3)]
set_option maxRecDepth 20000 in
theorem k_L_law_786 {sc : xm_Sc} : xm_bok (xe_cy (XE sc) 330) b_L_law_786 := by show xm_bok cL_law _; unfold xm_bok; decide +kernel
def b_L_law_791 : List (Nat × Jvm.ClassFile.Instr × Nat) := [(791, .aload_n 3, 1), (792, .iconst 0, 1), (793, .laload, 1), (794, .iload 6, 2), (796, .i2l, 1), (797, .lcmp, 1), (798, .ifCond .eq 5, 3)]
set_option maxRecDepth 20000 in
theorem k_L_law_791 {sc : xm_Sc} : xm_bok (xe_cy (XE sc) 330) b_L_law_791 := by show xm_bok cL_law _; unfold xm_bok; decide +kernel
def b_L_law_801 : List (Nat × Jvm.ClassFile.Instr × Nat) := [(801, .iconst 0, 1), (802, .ireturn, 1)]
set_option maxRecDepth 20000 in
theorem k_L_law_801 {sc : xm_Sc} : xm_bok (xe_cy (XE sc) 330) b_L_law_801 := by show xm_bok cL_law _; unfold xm_bok; decide +kernel
def b_L_law_803 : List (Nat × Jvm.ClassFile.Instr × Nat) := [(803, .goto 242, 3)]
set_option maxRecDepth 20000 in
theorem k_L_law_803 {sc : xm_Sc} : xm_bok (xe_cy (XE sc) 330) b_L_law_803 := by show xm_bok cL_law _; unfold xm_bok; decide +kernel
def b_L_law_806 : List (Nat × Jvm.ClassFile.Instr × Nat) := [(806, .aload_n 1, 1), (807, .aload_n 0, 1), (808, .iload 4, 2), (810, .iconst 1, 1), (811, .iadd, 1), (812, .iaload, 1), (813, .aload_n 0, 1), (814, .iload 4, 2), (816, .iconst 2, 1), (817, .iadd, 1), (818, .iaload, 1), (819, .ifCond .eq 7, 3)]
set_option maxRecDepth 20000 in
theorem k_L_law_806 {sc : xm_Sc} : xm_bok (xe_cy (XE sc) 330) b_L_law_806 := by show xm_bok cL_law _; unfold xm_bok; decide +kernel
def b_L_law_822 : List (Nat × Jvm.ClassFile.Instr × Nat) := [(822, .iconst 1, 1), (823, .goto 4, 3)]
set_option maxRecDepth 20000 in
theorem k_L_law_822 {sc : xm_Sc} : xm_bok (xe_cy (XE sc) 330) b_L_law_822 := by show xm_bok cL_law _; unfold xm_bok; decide +kernel
def b_L_law_826 : List (Nat × Jvm.ClassFile.Instr × Nat) := [(826, .iconst 0, 1)]
set_option maxRecDepth 20000 in
theorem k_L_law_826 {sc : xm_Sc} : xm_bok (xe_cy (XE sc) 330) b_L_law_826 := by show xm_bok cL_law _; unfold xm_bok; decide +kernel
def b_L_law_827 : List (Nat × Jvm.ClassFile.Instr × Nat) := [(827, .aload_n 3, 1), (828, .invokestatic 117, 3)]
set_option maxRecDepth 20000 in
theorem k_L_law_827 {sc : xm_Sc} : xm_bok (xe_cy (XE sc) 330) b_L_law_827 := by show xm_bok cL_law _; unfold xm_bok; decide +kernel
def b_L_law_827c : List (Nat × Jvm.ClassFile.Instr × Nat) := [(827, .aload_n 3, 1)]
set_option maxRecDepth 20000 in
theorem k_L_law_827c {sc : xm_Sc} : xm_bok (xe_cy (XE sc) 330) b_L_law_827c := by show xm_bok cL_law _; unfold xm_bok; decide +kernel
def b_L_law_831 : List (Nat × Jvm.ClassFile.Instr × Nat) := [(831, .istore 5, 2), (833, .aload_n 2, 1), (834, .aload_n 0, 1), (835, .iload 4, 2), (837, .iconst 1, 1), (838, .iadd, 1), (839, .iaload, 1), (840, .aload_n 0, 1), (841, .iload 4, 2), (843, .iconst 2, 1), (844, .iadd, 1), (845, .iaload, 1), (846, .ifCond .eq 7, 3)]
set_option maxRecDepth 20000 in
theorem k_L_law_831 {sc : xm_Sc} : xm_bok (xe_cy (XE sc) 330) b_L_law_831 := by show xm_bok cL_law _; unfold xm_bok; decide +kernel
def b_L_law_849 : List (Nat × Jvm.ClassFile.Instr × Nat) := [(849, .iconst 1, 1), (850, .goto 4, 3)]
set_option maxRecDepth 20000 in
theorem k_L_law_849 {sc : xm_Sc} : xm_bok (xe_cy (XE sc) 330) b_L_law_849 := by show xm_bok cL_law _; unfold xm_bok; decide +kernel
def b_L_law_853 : List (Nat × Jvm.ClassFile.Instr × Nat) := [(853, .iconst 0, 1)]
set_option maxRecDepth 20000 in
theorem k_L_law_853 {sc : xm_Sc} : xm_bok (xe_cy (XE sc) 330) b_L_law_853 := by show xm_bok cL_law _; unfold xm_bok; decide +kernel
def b_L_law_854 : List (Nat × Jvm.ClassFile.Instr × Nat) := [(854, .invokevirtual 119, 3)]
set_option maxRecDepth 20000 in
theorem k_L_law_854 {sc : xm_Sc} : xm_bok (xe_cy (XE sc) 330) b_L_law_854 := by show xm_bok cL_law _; unfold xm_bok; decide +kernel
def b_L_law_857 : List (Nat × Jvm.ClassFile.Instr × Nat) := [(857, .istore 6, 2), (859, .aload_n 2, 1), (860, .invokevirtual 72, 3)]
set_option maxRecDepth 20000 in
theorem k_L_law_857 {sc : xm_Sc} : xm_bok (xe_cy (XE sc) 330) b_L_law_857 := by show xm_bok cL_law _; unfold xm_bok; decide +kernel
def b_L_law_863 : List (Nat × Jvm.ClassFile.Instr × Nat) := [(863, .iload 5, 2), (865, .if_icmp .eq 5, 3)]
set_option maxRecDepth 20000 in
theorem k_L_law_863 {sc : xm_Sc} : xm_bok (xe_cy (XE sc) 330) b_L_law_863 := by show xm_bok cL_law _; unfold xm_bok; decide +kernel
def b_L_law_868 : List (Nat × Jvm.ClassFile.Instr × Nat) := [(868, .iconst 0, 1), (869, .ireturn, 1)]
set_option maxRecDepth 20000 in
theorem k_L_law_868 {sc : xm_Sc} : xm_bok (xe_cy (XE sc) 330) b_L_law_868 := by show xm_bok cL_law _; unfold xm_bok; decide +kernel
def b_L_law_870 : List (Nat × Jvm.ClassFile.Instr × Nat) := [(870, .iload 5, 2), (872, .ifCond .ne 15, 3)]
set_option maxRecDepth 20000 in
theorem k_L_law_870 {sc : xm_Sc} : xm_bok (xe_cy (XE sc) 330) b_L_law_870 := by show xm_bok cL_law _; unfold xm_bok; decide +kernel
def b_L_law_875 : List (Nat × Jvm.ClassFile.Instr × Nat) := [(875, .aload_n 3, 1), (876, .iconst 0, 1), (877, .laload, 1), (878, .iload 6, 2), (880, .i2l, 1), (881, .lcmp, 1), (882, .ifCond .eq 5, 3)]
set_option maxRecDepth 20000 in
theorem k_L_law_875 {sc : xm_Sc} : xm_bok (xe_cy (XE sc) 330) b_L_law_875 := by show xm_bok cL_law _; unfold xm_bok; decide +kernel
def b_L_law_885 : List (Nat × Jvm.ClassFile.Instr × Nat) := [(885, .iconst 0, 1), (886, .ireturn, 1)]
set_option maxRecDepth 20000 in
theorem k_L_law_885 {sc : xm_Sc} : xm_bok (xe_cy (XE sc) 330) b_L_law_885 := by show xm_bok cL_law _; unfold xm_bok; decide +kernel
def b_L_law_887 : List (Nat × Jvm.ClassFile.Instr × Nat) := [(887, .goto 158, 3)]
set_option maxRecDepth 20000 in
theorem k_L_law_887 {sc : xm_Sc} : xm_bok (xe_cy (XE sc) 330) b_L_law_887 := by show xm_bok cL_law _; unfold xm_bok; decide +kernel
def b_L_law_890 : List (Nat × Jvm.ClassFile.Instr × Nat) := [(890, .aload_n 1, 1), (891, .aload_n 3, 1), (892, .invokestatic 120, 3)]
set_option maxRecDepth 20000 in
theorem k_L_law_890 {sc : xm_Sc} : xm_bok (xe_cy (XE sc) 330) b_L_law_890 := by show xm_bok cL_law _; unfold xm_bok; decide +kernel
def b_L_law_890c : List (Nat × Jvm.ClassFile.Instr × Nat) := [(890, .aload_n 1, 1), (891, .aload_n 3, 1)]
set_option maxRecDepth 20000 in
theorem k_L_law_890c {sc : xm_Sc} : xm_bok (xe_cy (XE sc) 330) b_L_law_890c := by show xm_bok cL_law _; unfold xm_bok; decide +kernel
def b_L_law_895 : List (Nat × Jvm.ClassFile.Instr × Nat) := [(895, .istore 5, 2), (897, .aload_n 2, 1), (898, .invokevirtual 122, 3)]
set_option maxRecDepth 20000 in
theorem k_L_law_895 {sc : xm_Sc} : xm_bok (xe_cy (XE sc) 330) b_L_law_895 := by show xm_bok cL_law _; unfold xm_bok; decide +kernel
def b_L_law_901 : List (Nat × Jvm.ClassFile.Instr × Nat) := [(901, .istore 6, 2), (903, .aload_n 2, 1), (904, .invokevirtual 72, 3)]
set_option maxRecDepth 20000 in
theorem k_L_law_901 {sc : xm_Sc} : xm_bok (xe_cy (XE sc) 330) b_L_law_901 := by show xm_bok cL_law _; unfold xm_bok; decide +kernel
def b_L_law_907 : List (Nat × Jvm.ClassFile.Instr × Nat) := [(907, .iload 5, 2), (909, .if_icmp .eq 5, 3)]
set_option maxRecDepth 20000 in
theorem k_L_law_907 {sc : xm_Sc} : xm_bok (xe_cy (XE sc) 330) b_L_law_907 := by show xm_bok cL_law _; unfold xm_bok; decide +kernel
def b_L_law_912 : List (Nat × Jvm.ClassFile.Instr × Nat) := [(912, .iconst 0, 1), (913, .ireturn, 1)]
set_option maxRecDepth 20000 in
theorem k_L_law_912 {sc : xm_Sc} : xm_bok (xe_cy (XE sc) 330) b_L_law_912 := by show xm_bok cL_law _; unfold xm_bok; decide +kernel
def b_L_law_914 : List (Nat × Jvm.ClassFile.Instr × Nat) := [(914, .iload 5, 2), (916, .ifCond .ne 15, 3)]
set_option maxRecDepth 20000 in
theorem k_L_law_914 {sc : xm_Sc} : xm_bok (xe_cy (XE sc) 330) b_L_law_914 := by show xm_bok cL_law _; unfold xm_bok; decide +kernel
def b_L_law_919 : List (Nat × Jvm.ClassFile.Instr × Nat) := [(919, .aload_n 3, 1), (920, .iconst 0, 1), (921, .laload, 1), (922, .iload 6, 2), (924, .i2l, 1), (925, .lcmp, 1), (926, .ifCond .eq 5, 3)]
set_option maxRecDepth 20000 in
theorem k_L_law_919 {sc : xm_Sc} : xm_bok (xe_cy (XE sc) 330) b_L_law_919 := by show xm_bok cL_law _; unfold xm_bok; decide +kernel
def b_L_law_929 : List (Nat × Jvm.ClassFile.Instr × Nat) := [(929, .iconst 0, 1), (930, .ireturn, 1)]
set_option maxRecDepth 20000 in
theorem k_L_law_929 {sc : xm_Sc} : xm_bok (xe_cy (XE sc) 330) b_L_law_929 := by show xm_bok cL_law _; unfold xm_bok; decide +kernel
def b_L_law_931 : List (Nat × Jvm.ClassFile.Instr × Nat) := [(931, .goto 114, 3)]
set_option maxRecDepth 20000 in
theorem k_L_law_931 {sc : xm_Sc} : xm_bok (xe_cy (XE sc) 330) b_L_law_931 := by show xm_bok cL_law _; unfold xm_bok; decide +kernel
def b_L_law_934 : List (Nat × Jvm.ClassFile.Instr × Nat) := [(934, .aload_n 1, 1), (935, .aload_n 0, 1), (936, .iload 4, 2), (938, .iconst 1, 1), (939, .iadd, 1), (940, .iaload, 1), (941, .aload_n 3, 1), (942, .invokestatic 123, 3)]
set_option maxRecDepth 20000 in
theorem k_L_law_934 {sc : xm_Sc} : xm_bok (xe_cy (XE sc) 330) b_L_law_934 := by show xm_bok cL_law _; unfold xm_bok; decide +kernel
def b_L_law_934c : List (Nat × Jvm.ClassFile.Instr × Nat) := [(934, .aload_n 1, 1), (935, .aload_n 0, 1), (936, .iload 4, 2), (938, .iconst 1, 1), (939, .iadd, 1), (940, .iaload, 1), (941, .aload_n 3, 1)]
set_option maxRecDepth 20000 in
theorem k_L_law_934c {sc : xm_Sc} : xm_bok (xe_cy (XE sc) 330) b_L_law_934c := by show xm_bok cL_law _; unfold xm_bok; decide +kernel
def b_L_law_945 : List (Nat × Jvm.ClassFile.Instr × Nat) := [(945, .istore 5, 2), (947, .aload_n 2, 1), (948, .aload_n 0, 1), (949, .iload 4, 2), (951, .iconst 1, 1), (952, .iadd, 1), (953, .iaload, 1), (954, .invokevirtual 126, 3)]
set_option maxRecDepth 20000 in
theorem k_L_law_945 {sc : xm_Sc} : xm_bok (xe_cy (XE sc) 330) b_L_law_945 := by show xm_bok cL_law _; unfold xm_bok; decide +kernel
def b_L_law_957 : List (Nat × Jvm.ClassFile.Instr × Nat) := [(957, .lstore 6, 2), (959, .aload_n 2, 1), (960, .invokevirtual 72, 3)]
set_option maxRecDepth 20000 in
theorem k_L_law_957 {sc : xm_Sc} : xm_bok (xe_cy (XE sc) 330) b_L_law_957 := by show xm_bok cL_law _; unfold xm_bok; decide +kernel
def b_L_law_963 : List (Nat × Jvm.ClassFile.Instr × Nat) := [(963, .iload 5, 2), (965, .if_icmp .eq 5, 3)]
set_option maxRecDepth 20000 in
theorem k_L_law_963 {sc : xm_Sc} : xm_bok (xe_cy (XE sc) 330) b_L_law_963 := by show xm_bok cL_law _; unfold xm_bok; decide +kernel
def b_L_law_968 : List (Nat × Jvm.ClassFile.Instr × Nat) := [(968, .iconst 0, 1), (969, .ireturn, 1)]
set_option maxRecDepth 20000 in
theorem k_L_law_968 {sc : xm_Sc} : xm_bok (xe_cy (XE sc) 330) b_L_law_968 := by show xm_bok cL_law _; unfold xm_bok; decide +kernel
def b_L_law_970 : List (Nat × Jvm.ClassFile.Instr × Nat) := [(970, .iload 5, 2), (972, .ifCond .ne 14, 3)]
set_option maxRecDepth 20000 in
theorem k_L_law_970 {sc : xm_Sc} : xm_bok (xe_cy (XE sc) 330) b_L_law_970 := by show xm_bok cL_law _; unfold xm_bok; decide +kernel
def b_L_law_975 : List (Nat × Jvm.ClassFile.Instr × Nat) := [(975, .aload_n 3, 1), (976, .iconst 0, 1), (977, .laload, 1), (978, .lload 6, 2), (980, .lcmp, 1), (981, .ifCond .eq 5, 3)]
set_option maxRecDepth 20000 in
theorem k_L_law_975 {sc : xm_Sc} : xm_bok (xe_cy (XE sc) 330) b_L_law_975 := by show xm_bok cL_law _; unfold xm_bok; decide +kernel
def b_L_law_984 : List (Nat × Jvm.ClassFile.Instr × Nat) := [(984, .iconst 0, 1), (985, .ireturn, 1)]
set_option maxRecDepth 20000 in
theorem k_L_law_984 {sc : xm_Sc} : xm_bok (xe_cy (XE sc) 330) b_L_law_984 := by show xm_bok cL_law _; unfold xm_bok; decide +kernel
def b_L_law_986 : List (Nat × Jvm.ClassFile.Instr × Nat) := [(986, .goto 59, 3)]
set_option maxRecDepth 20000 in
theorem k_L_law_986 {sc : xm_Sc} : xm_bok (xe_cy (XE sc) 330) b_L_law_986 := by show xm_bok cL_law _; unfold xm_bok; decide +kernel
def b_L_law_989 : List (Nat × Jvm.ClassFile.Instr × Nat) := [(989, .aload_n 1, 1), (990, .aload_n 0, 1), (991, .iload 4, 2), (993, .iconst 1, 1), (994, .iadd, 1), (995, .iaload, 1), (996, .aload_n 3, 1), (997, .invokestatic 127, 3)]
set_option maxRecDepth 20000 in
theorem k_L_law_989 {sc : xm_Sc} : xm_bok (xe_cy (XE sc) 330) b_L_law_989 := by show xm_bok cL_law _; unfold xm_bok; decide +kernel
def b_L_law_989c : List (Nat × Jvm.ClassFile.Instr × Nat) := [(989, .aload_n 1, 1), (990, .aload_n 0, 1), (991, .iload 4, 2), (993, .iconst 1, 1), (994, .iadd, 1), (995, .iaload, 1), (996, .aload_n 3, 1)]
set_option maxRecDepth 20000 in
theorem k_L_law_989c {sc : xm_Sc} : xm_bok (xe_cy (XE sc) 330) b_L_law_989c := by show xm_bok cL_law _; unfold xm_bok; decide +kernel
def b_L_law_1000 : List (Nat × Jvm.ClassFile.Instr × Nat) := [(1000, .istore 5, 2), (1002, .aload_n 2, 1), (1003, .aload_n 0, 1), (1004, .iload 4, 2), (1006, .iconst 1, 1), (1007, .iadd, 1), (1008, .iaload, 1), (1009, .invokevirtual 129, 3)]
set_option maxRecDepth 20000 in
theorem k_L_law_1000 {sc : xm_Sc} : xm_bok (xe_cy (XE sc) 330) b_L_law_1000 := by show xm_bok cL_law _; unfold xm_bok; decide +kernel
def b_L_law_1012 : List (Nat × Jvm.ClassFile.Instr × Nat) := [(1012, .istore 6, 2), (1014, .aload_n 2, 1), (1015, .invokevirtual 72, 3)]
set_option maxRecDepth 20000 in
theorem k_L_law_1012 {sc : xm_Sc} : xm_bok (xe_cy (XE sc) 330) b_L_law_1012 := by show xm_bok cL_law _; unfold xm_bok; decide +kernel
def b_L_law_1018 : List (Nat × Jvm.ClassFile.Instr × Nat) := [(1018, .iload 5, 2), (1020, .if_icmp .eq 5, 3)]
set_option maxRecDepth 20000 in
theorem k_L_law_1018 {sc : xm_Sc} : xm_bok (xe_cy (XE sc) 330) b_L_law_1018 := by show xm_bok cL_law _; unfold xm_bok; decide +kernel
def b_L_law_1023 : List (Nat × Jvm.ClassFile.Instr × Nat) := [(1023, .iconst 0, 1), (1024, .ireturn, 1)]
set_option maxRecDepth 20000 in
theorem k_L_law_1023 {sc : xm_Sc} : xm_bok (xe_cy (XE sc) 330) b_L_law_1023 := by show xm_bok cL_law _; unfold xm_bok; decide +kernel
def b_L_law_1025 : List (Nat × Jvm.ClassFile.Instr × Nat) := [(1025, .iload 5, 2), (1027, .ifCond .ne 15, 3)]
set_option maxRecDepth 20000 in
theorem k_L_law_1025 {sc : xm_Sc} : xm_bok (xe_cy (XE sc) 330) b_L_law_1025 := by show xm_bok cL_law _; unfold xm_bok; decide +kernel
def b_L_law_1030 : List (Nat × Jvm.ClassFile.Instr × Nat) := [(1030, .aload_n 3, 1), (1031, .iconst 0, 1), (1032, .laload, 1), (1033, .iload 6, 2), (1035, .i2l, 1), (1036, .lcmp, 1), (1037, .ifCond .eq 5, 3)]
set_option maxRecDepth 20000 in
theorem k_L_law_1030 {sc : xm_Sc} : xm_bok (xe_cy (XE sc) 330) b_L_law_1030 := by show xm_bok cL_law _; unfold xm_bok; decide +kernel
def b_L_law_1040 : List (Nat × Jvm.ClassFile.Instr × Nat) := [(1040, .iconst 0, 1), (1041, .ireturn, 1)]
set_option maxRecDepth 20000 in
theorem k_L_law_1040 {sc : xm_Sc} : xm_bok (xe_cy (XE sc) 330) b_L_law_1040 := by show xm_bok cL_law _; unfold xm_bok; decide +kernel
def b_L_law_1042 : List (Nat × Jvm.ClassFile.Instr × Nat) := [(1042, .goto 3, 3)]
set_option maxRecDepth 20000 in
theorem k_L_law_1042 {sc : xm_Sc} : xm_bok (xe_cy (XE sc) 330) b_L_law_1042 := by show xm_bok cL_law _; unfold xm_bok; decide +kernel
def b_L_law_1045 : List (Nat × Jvm.ClassFile.Instr × Nat) := [(1045, .iinc 4 4, 3), (1048, .goto (-1025), 3)]
set_option maxRecDepth 20000 in
theorem k_L_law_1045 {sc : xm_Sc} : xm_bok (xe_cy (XE sc) 330) b_L_law_1045 := by show xm_bok cL_law _; unfold xm_bok; decide +kernel
def b_L_law_1051 : List (Nat × Jvm.ClassFile.Instr × Nat) := [(1051, .iconst 1, 1), (1052, .ireturn, 1)]
set_option maxRecDepth 20000 in
theorem k_L_law_1051 {sc : xm_Sc} : xm_bok (xe_cy (XE sc) 330) b_L_law_1051 := by show xm_bok cL_law _; unfold xm_bok; decide +kernel
theorem cn_330 {sc : xm_Sc} : xe_cn (XE sc) 330 = 14 := rfl
theorem ml_330 {sc : xm_Sc} : xe_ml (XE sc) 330 = 8 := rfl
theorem ry_330 {sc : xm_Sc} : xe_ry (XE sc) 330 = (some .boolean) := rfl
theorem np_330 {sc : xm_Sc} : xe_np (XE sc) 330 = 1 := rfl
/- method 333: L_feed -/
def b_L_feed_0 : List (Nat × Jvm.ClassFile.Instr × Nat) := [(0, .aload 4, 2), (2, .iconst 0, 1), (3, .aload_n 0, 1), (4, .iload_n 1, 1), (5, .lload_n 2, 1), (6, .invokevirtual 7, 3)]
set_option maxRecDepth 20000 in
theorem k_L_feed_0 {sc : xm_Sc} : xm_bok (xe_cy (XE sc) 333) b_L_feed_0 := by show xm_bok cL_feed _; unfold xm_bok; decide +kernel
def b_L_feed_0c : List (Nat × Jvm.ClassFile.Instr × Nat) := [(0, .aload 4, 2), (2, .iconst 0, 1), (3, .aload_n 0, 1), (4, .iload_n 1, 1), (5, .lload_n 2, 1)]
set_option maxRecDepth 20000 in
theorem k_L_feed_0c {sc : xm_Sc} : xm_bok (xe_cy (XE sc) 333) b_L_feed_0c := by show xm_bok cL_feed _; unfold xm_bok; decide +kernel
def b_L_feed_9 : List (Nat × Jvm.ClassFile.Instr × Nat) := [(9, .i2l, 1), (10, .lastore, 1), (11, .goto 11, 3)]
set_option maxRecDepth 20000 in
theorem k_L_feed_9 {sc : xm_Sc} : xm_bok (xe_cy (XE sc) 333) b_L_feed_9 := by show xm_bok cL_feed _; unfold xm_bok; decide +kernel
def b_L_feed_14 : List (Nat × Jvm.ClassFile.Instr × Nat) := [(14, .astore 5, 2)]
set_option maxRecDepth 20000 in
theorem k_L_feed_14 {sc : xm_Sc} : xm_bok (xe_cy (XE sc) 333) b_L_feed_14 := by show xm_bok cL_feed _; unfold xm_bok; decide +kernel
def b_L_feed_16 : List (Nat × Jvm.ClassFile.Instr × Nat) := [(16, .iconst 1, 1), (17, .ireturn, 1)]
set_option maxRecDepth 20000 in
theorem k_L_feed_16 {sc : xm_Sc} : xm_bok (xe_cy (XE sc) 333) b_L_feed_16 := by show xm_bok cL_feed _; unfold xm_bok; decide +kernel
def b_L_feed_18 : List (Nat × Jvm.ClassFile.Instr × Nat) := [(18, .astore 5, 2)]
set_option maxRecDepth 20000 in
theorem k_L_feed_18 {sc : xm_Sc} : xm_bok (xe_cy (XE sc) 333) b_L_feed_18 := by show xm_bok cL_feed _; unfold xm_bok; decide +kernel
def b_L_feed_20 : List (Nat × Jvm.ClassFile.Instr × Nat) := [(20, .iconst 2, 1), (21, .ireturn, 1)]
set_option maxRecDepth 20000 in
theorem k_L_feed_20 {sc : xm_Sc} : xm_bok (xe_cy (XE sc) 333) b_L_feed_20 := by show xm_bok cL_feed _; unfold xm_bok; decide +kernel
def b_L_feed_22 : List (Nat × Jvm.ClassFile.Instr × Nat) := [(22, .iconst 0, 1), (23, .ireturn, 1)]
set_option maxRecDepth 20000 in
theorem k_L_feed_22 {sc : xm_Sc} : xm_bok (xe_cy (XE sc) 333) b_L_feed_22 := by show xm_bok cL_feed _; unfold xm_bok; decide +kernel
theorem cn_333 {sc : xm_Sc} : xe_cn (XE sc) 333 = 14 := rfl
theorem ml_333 {sc : xm_Sc} : xe_ml (XE sc) 333 = 6 := rfl
theorem ry_333 {sc : xm_Sc} : xe_ry (XE sc) 333 = (some .int) := rfl
theorem np_333 {sc : xm_Sc} : xe_np (XE sc) 333 = 4 := rfl
/- method 334: L_run -/
def b_L_run_0 : List (Nat × Jvm.ClassFile.Instr × Nat) := [(0, .aload 4, 2), (2, .iconst 0, 1), (3, .aload_n 0, 1), (4, .iload_n 1, 1), (5, .iload_n 2, 1), (6, .iload_n 3, 1), (7, .invokevirtual 17, 3)]
set_option maxRecDepth 20000 in
theorem k_L_run_0 {sc : xm_Sc} : xm_bok (xe_cy (XE sc) 334) b_L_run_0 := by show xm_bok cL_run _; unfold xm_bok; decide +kernel
def b_L_run_0c : List (Nat × Jvm.ClassFile.Instr × Nat) := [(0, .aload 4, 2), (2, .iconst 0, 1), (3, .aload_n 0, 1), (4, .iload_n 1, 1), (5, .iload_n 2, 1), (6, .iload_n 3, 1)]
set_option maxRecDepth 20000 in
theorem k_L_run_0c {sc : xm_Sc} : xm_bok (xe_cy (XE sc) 334) b_L_run_0c := by show xm_bok cL_run _; unfold xm_bok; decide +kernel
def b_L_run_10 : List (Nat × Jvm.ClassFile.Instr × Nat) := [(10, .i2l, 1), (11, .lastore, 1), (12, .goto 11, 3)]
set_option maxRecDepth 20000 in
theorem k_L_run_10 {sc : xm_Sc} : xm_bok (xe_cy (XE sc) 334) b_L_run_10 := by show xm_bok cL_run _; unfold xm_bok; decide +kernel
def b_L_run_15 : List (Nat × Jvm.ClassFile.Instr × Nat) := [(15, .astore 5, 2)]
set_option maxRecDepth 20000 in
theorem k_L_run_15 {sc : xm_Sc} : xm_bok (xe_cy (XE sc) 334) b_L_run_15 := by show xm_bok cL_run _; unfold xm_bok; decide +kernel
def b_L_run_17 : List (Nat × Jvm.ClassFile.Instr × Nat) := [(17, .iconst 1, 1), (18, .ireturn, 1)]
set_option maxRecDepth 20000 in
theorem k_L_run_17 {sc : xm_Sc} : xm_bok (xe_cy (XE sc) 334) b_L_run_17 := by show xm_bok cL_run _; unfold xm_bok; decide +kernel
def b_L_run_19 : List (Nat × Jvm.ClassFile.Instr × Nat) := [(19, .astore 5, 2)]
set_option maxRecDepth 20000 in
theorem k_L_run_19 {sc : xm_Sc} : xm_bok (xe_cy (XE sc) 334) b_L_run_19 := by show xm_bok cL_run _; unfold xm_bok; decide +kernel
def b_L_run_21 : List (Nat × Jvm.ClassFile.Instr × Nat) := [(21, .iconst 2, 1), (22, .ireturn, 1)]
set_option maxRecDepth 20000 in
theorem k_L_run_21 {sc : xm_Sc} : xm_bok (xe_cy (XE sc) 334) b_L_run_21 := by show xm_bok cL_run _; unfold xm_bok; decide +kernel
def b_L_run_23 : List (Nat × Jvm.ClassFile.Instr × Nat) := [(23, .iconst 0, 1), (24, .ireturn, 1)]
set_option maxRecDepth 20000 in
theorem k_L_run_23 {sc : xm_Sc} : xm_bok (xe_cy (XE sc) 334) b_L_run_23 := by show xm_bok cL_run _; unfold xm_bok; decide +kernel
theorem cn_334 {sc : xm_Sc} : xe_cn (XE sc) 334 = 14 := rfl
theorem ml_334 {sc : xm_Sc} : xe_ml (XE sc) 334 = 6 := rfl
theorem ry_334 {sc : xm_Sc} : xe_ry (XE sc) 334 = (some .int) := rfl
theorem np_334 {sc : xm_Sc} : xe_np (XE sc) 334 = 5 := rfl
/- method 335: L_node -/
def b_L_node_0 : List (Nat × Jvm.ClassFile.Instr × Nat) := [(0, .aload_n 3, 1), (1, .iconst 0, 1), (2, .aload_n 0, 1), (3, .iload_n 1, 1), (4, .iload_n 2, 1), (5, .invokevirtual 21, 3)]
set_option maxRecDepth 20000 in
theorem k_L_node_0 {sc : xm_Sc} : xm_bok (xe_cy (XE sc) 335) b_L_node_0 := by show xm_bok cL_node _; unfold xm_bok; decide +kernel
def b_L_node_0c : List (Nat × Jvm.ClassFile.Instr × Nat) := [(0, .aload_n 3, 1), (1, .iconst 0, 1), (2, .aload_n 0, 1), (3, .iload_n 1, 1), (4, .iload_n 2, 1)]
set_option maxRecDepth 20000 in
theorem k_L_node_0c {sc : xm_Sc} : xm_bok (xe_cy (XE sc) 335) b_L_node_0c := by show xm_bok cL_node _; unfold xm_bok; decide +kernel
def b_L_node_8 : List (Nat × Jvm.ClassFile.Instr × Nat) := [(8, .i2l, 1), (9, .lastore, 1), (10, .goto 7, 3)]
set_option maxRecDepth 20000 in
theorem k_L_node_8 {sc : xm_Sc} : xm_bok (xe_cy (XE sc) 335) b_L_node_8 := by show xm_bok cL_node _; unfold xm_bok; decide +kernel
def b_L_node_13 : List (Nat × Jvm.ClassFile.Instr × Nat) := [(13, .astore 4, 2)]
set_option maxRecDepth 20000 in
theorem k_L_node_13 {sc : xm_Sc} : xm_bok (xe_cy (XE sc) 335) b_L_node_13 := by show xm_bok cL_node _; unfold xm_bok; decide +kernel
def b_L_node_15 : List (Nat × Jvm.ClassFile.Instr × Nat) := [(15, .iconst 1, 1), (16, .ireturn, 1)]
set_option maxRecDepth 20000 in
theorem k_L_node_15 {sc : xm_Sc} : xm_bok (xe_cy (XE sc) 335) b_L_node_15 := by show xm_bok cL_node _; unfold xm_bok; decide +kernel
def b_L_node_17 : List (Nat × Jvm.ClassFile.Instr × Nat) := [(17, .iconst 0, 1), (18, .ireturn, 1)]
set_option maxRecDepth 20000 in
theorem k_L_node_17 {sc : xm_Sc} : xm_bok (xe_cy (XE sc) 335) b_L_node_17 := by show xm_bok cL_node _; unfold xm_bok; decide +kernel
theorem cn_335 {sc : xm_Sc} : xe_cn (XE sc) 335 = 14 := rfl
theorem ml_335 {sc : xm_Sc} : xe_ml (XE sc) 335 = 5 := rfl
theorem ry_335 {sc : xm_Sc} : xe_ry (XE sc) 335 = (some .int) := rfl
theorem np_335 {sc : xm_Sc} : xe_np (XE sc) 335 = 4 := rfl
/- method 336: L_root -/
def b_L_root_0 : List (Nat × Jvm.ClassFile.Instr × Nat) := [(0, .aload_n 3, 1), (1, .iconst 0, 1), (2, .aload_n 0, 1), (3, .iload_n 1, 1), (4, .iload_n 2, 1), (5, .invokevirtual 27, 3)]
set_option maxRecDepth 20000 in
theorem k_L_root_0 {sc : xm_Sc} : xm_bok (xe_cy (XE sc) 336) b_L_root_0 := by show xm_bok cL_root _; unfold xm_bok; decide +kernel
def b_L_root_0c : List (Nat × Jvm.ClassFile.Instr × Nat) := [(0, .aload_n 3, 1), (1, .iconst 0, 1), (2, .aload_n 0, 1), (3, .iload_n 1, 1), (4, .iload_n 2, 1)]
set_option maxRecDepth 20000 in
theorem k_L_root_0c {sc : xm_Sc} : xm_bok (xe_cy (XE sc) 336) b_L_root_0c := by show xm_bok cL_root _; unfold xm_bok; decide +kernel
def b_L_root_8 : List (Nat × Jvm.ClassFile.Instr × Nat) := [(8, .lastore, 1), (9, .goto 7, 3)]
set_option maxRecDepth 20000 in
theorem k_L_root_8 {sc : xm_Sc} : xm_bok (xe_cy (XE sc) 336) b_L_root_8 := by show xm_bok cL_root _; unfold xm_bok; decide +kernel
def b_L_root_12 : List (Nat × Jvm.ClassFile.Instr × Nat) := [(12, .astore 4, 2)]
set_option maxRecDepth 20000 in
theorem k_L_root_12 {sc : xm_Sc} : xm_bok (xe_cy (XE sc) 336) b_L_root_12 := by show xm_bok cL_root _; unfold xm_bok; decide +kernel
def b_L_root_14 : List (Nat × Jvm.ClassFile.Instr × Nat) := [(14, .iconst 1, 1), (15, .ireturn, 1)]
set_option maxRecDepth 20000 in
theorem k_L_root_14 {sc : xm_Sc} : xm_bok (xe_cy (XE sc) 336) b_L_root_14 := by show xm_bok cL_root _; unfold xm_bok; decide +kernel
def b_L_root_16 : List (Nat × Jvm.ClassFile.Instr × Nat) := [(16, .iconst 0, 1), (17, .ireturn, 1)]
set_option maxRecDepth 20000 in
theorem k_L_root_16 {sc : xm_Sc} : xm_bok (xe_cy (XE sc) 336) b_L_root_16 := by show xm_bok cL_root _; unfold xm_bok; decide +kernel
theorem cn_336 {sc : xm_Sc} : xe_cn (XE sc) 336 = 14 := rfl
theorem ml_336 {sc : xm_Sc} : xe_ml (XE sc) 336 = 5 := rfl
theorem ry_336 {sc : xm_Sc} : xe_ry (XE sc) 336 = (some .int) := rfl
theorem np_336 {sc : xm_Sc} : xe_np (XE sc) 336 = 4 := rfl
/- method 337: L_typeRoot -/
def b_L_typeRoot_0 : List (Nat × Jvm.ClassFile.Instr × Nat) := [(0, .aload 4, 2), (2, .iconst 0, 1), (3, .aload_n 0, 1), (4, .iload_n 1, 1), (5, .iload_n 2, 1), (6, .iload_n 3, 1), (7, .invokevirtual 31, 3)]
set_option maxRecDepth 20000 in
theorem k_L_typeRoot_0 {sc : xm_Sc} : xm_bok (xe_cy (XE sc) 337) b_L_typeRoot_0 := by show xm_bok cL_typeRoot _; unfold xm_bok; decide +kernel
def b_L_typeRoot_0c : List (Nat × Jvm.ClassFile.Instr × Nat) := [(0, .aload 4, 2), (2, .iconst 0, 1), (3, .aload_n 0, 1), (4, .iload_n 1, 1), (5, .iload_n 2, 1), (6, .iload_n 3, 1)]
set_option maxRecDepth 20000 in
theorem k_L_typeRoot_0c {sc : xm_Sc} : xm_bok (xe_cy (XE sc) 337) b_L_typeRoot_0c := by show xm_bok cL_typeRoot _; unfold xm_bok; decide +kernel
def b_L_typeRoot_10 : List (Nat × Jvm.ClassFile.Instr × Nat) := [(10, .lastore, 1), (11, .goto 7, 3)]
set_option maxRecDepth 20000 in
theorem k_L_typeRoot_10 {sc : xm_Sc} : xm_bok (xe_cy (XE sc) 337) b_L_typeRoot_10 := by show xm_bok cL_typeRoot _; unfold xm_bok; decide +kernel
def b_L_typeRoot_14 : List (Nat × Jvm.ClassFile.Instr × Nat) := [(14, .astore 5, 2)]
set_option maxRecDepth 20000 in
theorem k_L_typeRoot_14 {sc : xm_Sc} : xm_bok (xe_cy (XE sc) 337) b_L_typeRoot_14 := by show xm_bok cL_typeRoot _; unfold xm_bok; decide +kernel
def b_L_typeRoot_16 : List (Nat × Jvm.ClassFile.Instr × Nat) := [(16, .iconst 1, 1), (17, .ireturn, 1)]
set_option maxRecDepth 20000 in
theorem k_L_typeRoot_16 {sc : xm_Sc} : xm_bok (xe_cy (XE sc) 337) b_L_typeRoot_16 := by show xm_bok cL_typeRoot _; unfold xm_bok; decide +kernel
def b_L_typeRoot_18 : List (Nat × Jvm.ClassFile.Instr × Nat) := [(18, .iconst 0, 1), (19, .ireturn, 1)]
set_option maxRecDepth 20000 in
theorem k_L_typeRoot_18 {sc : xm_Sc} : xm_bok (xe_cy (XE sc) 337) b_L_typeRoot_18 := by show xm_bok cL_typeRoot _; unfold xm_bok; decide +kernel
theorem cn_337 {sc : xm_Sc} : xe_cn (XE sc) 337 = 14 := rfl
theorem ml_337 {sc : xm_Sc} : xe_ml (XE sc) 337 = 6 := rfl
theorem ry_337 {sc : xm_Sc} : xe_ry (XE sc) 337 = (some .int) := rfl
theorem np_337 {sc : xm_Sc} : xe_np (XE sc) 337 = 5 := rfl
/- method 338: L_type -/
def b_L_type_0 : List (Nat × Jvm.ClassFile.Instr × Nat) := [(0, .aload_n 3, 1), (1, .iconst 0, 1), (2, .aload_n 0, 1), (3, .iload_n 1, 1), (4, .iload_n 2, 1), (5, .invokevirtual 35, 3)]
set_option maxRecDepth 20000 in
theorem k_L_type_0 {sc : xm_Sc} : xm_bok (xe_cy (XE sc) 338) b_L_type_0 := by show xm_bok cL_type _; unfold xm_bok; decide +kernel
def b_L_type_0c : List (Nat × Jvm.ClassFile.Instr × Nat) := [(0, .aload_n 3, 1), (1, .iconst 0, 1), (2, .aload_n 0, 1), (3, .iload_n 1, 1), (4, .iload_n 2, 1)]
set_option maxRecDepth 20000 in
theorem k_L_type_0c {sc : xm_Sc} : xm_bok (xe_cy (XE sc) 338) b_L_type_0c := by show xm_bok cL_type _; unfold xm_bok; decide +kernel
def b_L_type_8 : List (Nat × Jvm.ClassFile.Instr × Nat) := [(8, .i2l, 1), (9, .lastore, 1), (10, .goto 7, 3)]
set_option maxRecDepth 20000 in
theorem k_L_type_8 {sc : xm_Sc} : xm_bok (xe_cy (XE sc) 338) b_L_type_8 := by show xm_bok cL_type _; unfold xm_bok; decide +kernel
def b_L_type_13 : List (Nat × Jvm.ClassFile.Instr × Nat) := [(13, .astore 4, 2)]
set_option maxRecDepth 20000 in
theorem k_L_type_13 {sc : xm_Sc} : xm_bok (xe_cy (XE sc) 338) b_L_type_13 := by show xm_bok cL_type _; unfold xm_bok; decide +kernel
def b_L_type_15 : List (Nat × Jvm.ClassFile.Instr × Nat) := [(15, .iconst 1, 1), (16, .ireturn, 1)]
set_option maxRecDepth 20000 in
theorem k_L_type_15 {sc : xm_Sc} : xm_bok (xe_cy (XE sc) 338) b_L_type_15 := by show xm_bok cL_type _; unfold xm_bok; decide +kernel
def b_L_type_17 : List (Nat × Jvm.ClassFile.Instr × Nat) := [(17, .iconst 0, 1), (18, .ireturn, 1)]
set_option maxRecDepth 20000 in
theorem k_L_type_17 {sc : xm_Sc} : xm_bok (xe_cy (XE sc) 338) b_L_type_17 := by show xm_bok cL_type _; unfold xm_bok; decide +kernel
theorem cn_338 {sc : xm_Sc} : xe_cn (XE sc) 338 = 14 := rfl
theorem ml_338 {sc : xm_Sc} : xe_ml (XE sc) 338 = 5 := rfl
theorem ry_338 {sc : xm_Sc} : xe_ry (XE sc) 338 = (some .int) := rfl
theorem np_338 {sc : xm_Sc} : xe_np (XE sc) 338 = 4 := rfl
/- method 339: L_speak -/
def b_L_speak_0 : List (Nat × Jvm.ClassFile.Instr × Nat) := [(0, .aload_n 1, 1), (1, .iconst 0, 1), (2, .aload_n 0, 1), (3, .invokevirtual 39, 3)]
set_option maxRecDepth 20000 in
theorem k_L_speak_0 {sc : xm_Sc} : xm_bok (xe_cy (XE sc) 339) b_L_speak_0 := by show xm_bok cL_speak _; unfold xm_bok; decide +kernel
def b_L_speak_0c : List (Nat × Jvm.ClassFile.Instr × Nat) := [(0, .aload_n 1, 1), (1, .iconst 0, 1), (2, .aload_n 0, 1)]
set_option maxRecDepth 20000 in
theorem k_L_speak_0c {sc : xm_Sc} : xm_bok (xe_cy (XE sc) 339) b_L_speak_0c := by show xm_bok cL_speak _; unfold xm_bok; decide +kernel
def b_L_speak_6 : List (Nat × Jvm.ClassFile.Instr × Nat) := [(6, .i2l, 1), (7, .lastore, 1), (8, .goto 6, 3)]
set_option maxRecDepth 20000 in
theorem k_L_speak_6 {sc : xm_Sc} : xm_bok (xe_cy (XE sc) 339) b_L_speak_6 := by show xm_bok cL_speak _; unfold xm_bok; decide +kernel
def b_L_speak_11 : List (Nat × Jvm.ClassFile.Instr × Nat) := [(11, .astore_n 2, 1)]
set_option maxRecDepth 20000 in
theorem k_L_speak_11 {sc : xm_Sc} : xm_bok (xe_cy (XE sc) 339) b_L_speak_11 := by show xm_bok cL_speak _; unfold xm_bok; decide +kernel
def b_L_speak_12 : List (Nat × Jvm.ClassFile.Instr × Nat) := [(12, .iconst 1, 1), (13, .ireturn, 1)]
set_option maxRecDepth 20000 in
theorem k_L_speak_12 {sc : xm_Sc} : xm_bok (xe_cy (XE sc) 339) b_L_speak_12 := by show xm_bok cL_speak _; unfold xm_bok; decide +kernel
def b_L_speak_14 : List (Nat × Jvm.ClassFile.Instr × Nat) := [(14, .iconst 0, 1), (15, .ireturn, 1)]
set_option maxRecDepth 20000 in
theorem k_L_speak_14 {sc : xm_Sc} : xm_bok (xe_cy (XE sc) 339) b_L_speak_14 := by show xm_bok cL_speak _; unfold xm_bok; decide +kernel
theorem cn_339 {sc : xm_Sc} : xe_cn (XE sc) 339 = 14 := rfl
theorem ml_339 {sc : xm_Sc} : xe_ml (XE sc) 339 = 3 := rfl
theorem ry_339 {sc : xm_Sc} : xe_ry (XE sc) 339 = (some .int) := rfl
theorem np_339 {sc : xm_Sc} : xe_np (XE sc) 339 = 2 := rfl
/- method 340: L_value -/
def b_L_value_0 : List (Nat × Jvm.ClassFile.Instr × Nat) := [(0, .aload_n 3, 1), (1, .iconst 0, 1), (2, .aload_n 0, 1), (3, .iload_n 1, 1), (4, .iload_n 2, 1), (5, .invokevirtual 43, 3)]
set_option maxRecDepth 20000 in
theorem k_L_value_0 {sc : xm_Sc} : xm_bok (xe_cy (XE sc) 340) b_L_value_0 := by show xm_bok cL_value _; unfold xm_bok; decide +kernel
def b_L_value_0c : List (Nat × Jvm.ClassFile.Instr × Nat) := [(0, .aload_n 3, 1), (1, .iconst 0, 1), (2, .aload_n 0, 1), (3, .iload_n 1, 1), (4, .iload_n 2, 1)]
set_option maxRecDepth 20000 in
theorem k_L_value_0c {sc : xm_Sc} : xm_bok (xe_cy (XE sc) 340) b_L_value_0c := by show xm_bok cL_value _; unfold xm_bok; decide +kernel
def b_L_value_8 : List (Nat × Jvm.ClassFile.Instr × Nat) := [(8, .i2l, 1), (9, .lastore, 1), (10, .goto 7, 3)]
set_option maxRecDepth 20000 in
theorem k_L_value_8 {sc : xm_Sc} : xm_bok (xe_cy (XE sc) 340) b_L_value_8 := by show xm_bok cL_value _; unfold xm_bok; decide +kernel
def b_L_value_13 : List (Nat × Jvm.ClassFile.Instr × Nat) := [(13, .astore 4, 2)]
set_option maxRecDepth 20000 in
theorem k_L_value_13 {sc : xm_Sc} : xm_bok (xe_cy (XE sc) 340) b_L_value_13 := by show xm_bok cL_value _; unfold xm_bok; decide +kernel
def b_L_value_15 : List (Nat × Jvm.ClassFile.Instr × Nat) := [(15, .iconst 1, 1), (16, .ireturn, 1)]
set_option maxRecDepth 20000 in
theorem k_L_value_15 {sc : xm_Sc} : xm_bok (xe_cy (XE sc) 340) b_L_value_15 := by show xm_bok cL_value _; unfold xm_bok; decide +kernel
def b_L_value_17 : List (Nat × Jvm.ClassFile.Instr × Nat) := [(17, .iconst 0, 1), (18, .ireturn, 1)]
set_option maxRecDepth 20000 in
theorem k_L_value_17 {sc : xm_Sc} : xm_bok (xe_cy (XE sc) 340) b_L_value_17 := by show xm_bok cL_value _; unfold xm_bok; decide +kernel
theorem cn_340 {sc : xm_Sc} : xe_cn (XE sc) 340 = 14 := rfl
theorem ml_340 {sc : xm_Sc} : xe_ml (XE sc) 340 = 5 := rfl
theorem ry_340 {sc : xm_Sc} : xe_ry (XE sc) 340 = (some .int) := rfl
theorem np_340 {sc : xm_Sc} : xe_np (XE sc) 340 = 4 := rfl
/- method 341: L_worth -/
def b_L_worth_0 : List (Nat × Jvm.ClassFile.Instr × Nat) := [(0, .aload_n 3, 1), (1, .iconst 0, 1), (2, .aload_n 0, 1), (3, .iload_n 1, 1), (4, .iload_n 2, 1), (5, .invokevirtual 46, 3)]
set_option maxRecDepth 20000 in
theorem k_L_worth_0 {sc : xm_Sc} : xm_bok (xe_cy (XE sc) 341) b_L_worth_0 := by show xm_bok cL_worth _; unfold xm_bok; decide +kernel
def b_L_worth_0c : List (Nat × Jvm.ClassFile.Instr × Nat) := [(0, .aload_n 3, 1), (1, .iconst 0, 1), (2, .aload_n 0, 1), (3, .iload_n 1, 1), (4, .iload_n 2, 1)]
set_option maxRecDepth 20000 in
theorem k_L_worth_0c {sc : xm_Sc} : xm_bok (xe_cy (XE sc) 341) b_L_worth_0c := by show xm_bok cL_worth _; unfold xm_bok; decide +kernel
def b_L_worth_8 : List (Nat × Jvm.ClassFile.Instr × Nat) := [(8, .i2l, 1), (9, .lastore, 1), (10, .goto 7, 3)]
set_option maxRecDepth 20000 in
theorem k_L_worth_8 {sc : xm_Sc} : xm_bok (xe_cy (XE sc) 341) b_L_worth_8 := by show xm_bok cL_worth _; unfold xm_bok; decide +kernel
def b_L_worth_13 : List (Nat × Jvm.ClassFile.Instr × Nat) := [(13, .astore 4, 2)]
set_option maxRecDepth 20000 in
theorem k_L_worth_13 {sc : xm_Sc} : xm_bok (xe_cy (XE sc) 341) b_L_worth_13 := by show xm_bok cL_worth _; unfold xm_bok; decide +kernel
def b_L_worth_15 : List (Nat × Jvm.ClassFile.Instr × Nat) := [(15, .iconst 1, 1), (16, .ireturn, 1)]
set_option maxRecDepth 20000 in
theorem k_L_worth_15 {sc : xm_Sc} : xm_bok (xe_cy (XE sc) 341) b_L_worth_15 := by show xm_bok cL_worth _; unfold xm_bok; decide +kernel
def b_L_worth_17 : List (Nat × Jvm.ClassFile.Instr × Nat) := [(17, .iconst 0, 1), (18, .ireturn, 1)]
set_option maxRecDepth 20000 in
theorem k_L_worth_17 {sc : xm_Sc} : xm_bok (xe_cy (XE sc) 341) b_L_worth_17 := by show xm_bok cL_worth _; unfold xm_bok; decide +kernel
theorem cn_341 {sc : xm_Sc} : xe_cn (XE sc) 341 = 14 := rfl
theorem ml_341 {sc : xm_Sc} : xe_ml (XE sc) 341 = 5 := rfl
theorem ry_341 {sc : xm_Sc} : xe_ry (XE sc) 341 = (some .int) := rfl
theorem np_341 {sc : xm_Sc} : xe_np (XE sc) 341 = 4 := rfl
/- method 342: L_write -/
def b_L_write_0 : List (Nat × Jvm.ClassFile.Instr × Nat) := [(0, .aload_n 1, 1), (1, .iconst 0, 1), (2, .aload_n 0, 1), (3, .invokevirtual 49, 3)]
set_option maxRecDepth 20000 in
theorem k_L_write_0 {sc : xm_Sc} : xm_bok (xe_cy (XE sc) 342) b_L_write_0 := by show xm_bok cL_write _; unfold xm_bok; decide +kernel
def b_L_write_0c : List (Nat × Jvm.ClassFile.Instr × Nat) := [(0, .aload_n 1, 1), (1, .iconst 0, 1), (2, .aload_n 0, 1)]
set_option maxRecDepth 20000 in
theorem k_L_write_0c {sc : xm_Sc} : xm_bok (xe_cy (XE sc) 342) b_L_write_0c := by show xm_bok cL_write _; unfold xm_bok; decide +kernel
def b_L_write_6 : List (Nat × Jvm.ClassFile.Instr × Nat) := [(6, .i2l, 1), (7, .lastore, 1), (8, .goto 6, 3)]
set_option maxRecDepth 20000 in
theorem k_L_write_6 {sc : xm_Sc} : xm_bok (xe_cy (XE sc) 342) b_L_write_6 := by show xm_bok cL_write _; unfold xm_bok; decide +kernel
def b_L_write_11 : List (Nat × Jvm.ClassFile.Instr × Nat) := [(11, .astore_n 2, 1)]
set_option maxRecDepth 20000 in
theorem k_L_write_11 {sc : xm_Sc} : xm_bok (xe_cy (XE sc) 342) b_L_write_11 := by show xm_bok cL_write _; unfold xm_bok; decide +kernel
def b_L_write_12 : List (Nat × Jvm.ClassFile.Instr × Nat) := [(12, .iconst 1, 1), (13, .ireturn, 1)]
set_option maxRecDepth 20000 in
theorem k_L_write_12 {sc : xm_Sc} : xm_bok (xe_cy (XE sc) 342) b_L_write_12 := by show xm_bok cL_write _; unfold xm_bok; decide +kernel
def b_L_write_14 : List (Nat × Jvm.ClassFile.Instr × Nat) := [(14, .iconst 0, 1), (15, .ireturn, 1)]
set_option maxRecDepth 20000 in
theorem k_L_write_14 {sc : xm_Sc} : xm_bok (xe_cy (XE sc) 342) b_L_write_14 := by show xm_bok cL_write _; unfold xm_bok; decide +kernel
theorem cn_342 {sc : xm_Sc} : xe_cn (XE sc) 342 = 14 := rfl
theorem ml_342 {sc : xm_Sc} : xe_ml (XE sc) 342 = 3 := rfl
theorem ry_342 {sc : xm_Sc} : xe_ry (XE sc) 342 = (some .int) := rfl
theorem np_342 {sc : xm_Sc} : xe_np (XE sc) 342 = 2 := rfl
/- method 343: L_out -/
def b_L_out_0 : List (Nat × Jvm.ClassFile.Instr × Nat) := [(0, .aload_n 2, 1), (1, .iconst 0, 1), (2, .aload_n 0, 1), (3, .iload_n 1, 1), (4, .invokevirtual 52, 3)]
set_option maxRecDepth 20000 in
theorem k_L_out_0 {sc : xm_Sc} : xm_bok (xe_cy (XE sc) 343) b_L_out_0 := by show xm_bok cL_out _; unfold xm_bok; decide +kernel
def b_L_out_0c : List (Nat × Jvm.ClassFile.Instr × Nat) := [(0, .aload_n 2, 1), (1, .iconst 0, 1), (2, .aload_n 0, 1), (3, .iload_n 1, 1)]
set_option maxRecDepth 20000 in
theorem k_L_out_0c {sc : xm_Sc} : xm_bok (xe_cy (XE sc) 343) b_L_out_0c := by show xm_bok cL_out _; unfold xm_bok; decide +kernel
def b_L_out_7 : List (Nat × Jvm.ClassFile.Instr × Nat) := [(7, .lastore, 1), (8, .goto 6, 3)]
set_option maxRecDepth 20000 in
theorem k_L_out_7 {sc : xm_Sc} : xm_bok (xe_cy (XE sc) 343) b_L_out_7 := by show xm_bok cL_out _; unfold xm_bok; decide +kernel
def b_L_out_11 : List (Nat × Jvm.ClassFile.Instr × Nat) := [(11, .astore_n 3, 1)]
set_option maxRecDepth 20000 in
theorem k_L_out_11 {sc : xm_Sc} : xm_bok (xe_cy (XE sc) 343) b_L_out_11 := by show xm_bok cL_out _; unfold xm_bok; decide +kernel
def b_L_out_12 : List (Nat × Jvm.ClassFile.Instr × Nat) := [(12, .iconst 1, 1), (13, .ireturn, 1)]
set_option maxRecDepth 20000 in
theorem k_L_out_12 {sc : xm_Sc} : xm_bok (xe_cy (XE sc) 343) b_L_out_12 := by show xm_bok cL_out _; unfold xm_bok; decide +kernel
def b_L_out_14 : List (Nat × Jvm.ClassFile.Instr × Nat) := [(14, .iconst 0, 1), (15, .ireturn, 1)]
set_option maxRecDepth 20000 in
theorem k_L_out_14 {sc : xm_Sc} : xm_bok (xe_cy (XE sc) 343) b_L_out_14 := by show xm_bok cL_out _; unfold xm_bok; decide +kernel
theorem cn_343 {sc : xm_Sc} : xe_cn (XE sc) 343 = 14 := rfl
theorem ml_343 {sc : xm_Sc} : xe_ml (XE sc) 343 = 4 := rfl
theorem ry_343 {sc : xm_Sc} : xe_ry (XE sc) 343 = (some .int) := rfl
theorem np_343 {sc : xm_Sc} : xe_np (XE sc) 343 = 3 := rfl
/- method 344: L_look -/
def b_L_look_0 : List (Nat × Jvm.ClassFile.Instr × Nat) := [(0, .aload_n 2, 1), (1, .iconst 0, 1), (2, .aload_n 0, 1), (3, .iload_n 1, 1), (4, .invokevirtual 56, 3)]
set_option maxRecDepth 20000 in
theorem k_L_look_0 {sc : xm_Sc} : xm_bok (xe_cy (XE sc) 344) b_L_look_0 := by show xm_bok cL_look _; unfold xm_bok; decide +kernel
def b_L_look_0c : List (Nat × Jvm.ClassFile.Instr × Nat) := [(0, .aload_n 2, 1), (1, .iconst 0, 1), (2, .aload_n 0, 1), (3, .iload_n 1, 1)]
set_option maxRecDepth 20000 in
theorem k_L_look_0c {sc : xm_Sc} : xm_bok (xe_cy (XE sc) 344) b_L_look_0c := by show xm_bok cL_look _; unfold xm_bok; decide +kernel
def b_L_look_7 : List (Nat × Jvm.ClassFile.Instr × Nat) := [(7, .i2l, 1), (8, .lastore, 1), (9, .goto 6, 3)]
set_option maxRecDepth 20000 in
theorem k_L_look_7 {sc : xm_Sc} : xm_bok (xe_cy (XE sc) 344) b_L_look_7 := by show xm_bok cL_look _; unfold xm_bok; decide +kernel
def b_L_look_12 : List (Nat × Jvm.ClassFile.Instr × Nat) := [(12, .astore_n 3, 1)]
set_option maxRecDepth 20000 in
theorem k_L_look_12 {sc : xm_Sc} : xm_bok (xe_cy (XE sc) 344) b_L_look_12 := by show xm_bok cL_look _; unfold xm_bok; decide +kernel
def b_L_look_13 : List (Nat × Jvm.ClassFile.Instr × Nat) := [(13, .iconst 1, 1), (14, .ireturn, 1)]
set_option maxRecDepth 20000 in
theorem k_L_look_13 {sc : xm_Sc} : xm_bok (xe_cy (XE sc) 344) b_L_look_13 := by show xm_bok cL_look _; unfold xm_bok; decide +kernel
def b_L_look_15 : List (Nat × Jvm.ClassFile.Instr × Nat) := [(15, .iconst 0, 1), (16, .ireturn, 1)]
set_option maxRecDepth 20000 in
theorem k_L_look_15 {sc : xm_Sc} : xm_bok (xe_cy (XE sc) 344) b_L_look_15 := by show xm_bok cL_look _; unfold xm_bok; decide +kernel
theorem cn_344 {sc : xm_Sc} : xe_cn (XE sc) 344 = 14 := rfl
theorem ml_344 {sc : xm_Sc} : xe_ml (XE sc) 344 = 4 := rfl
theorem ry_344 {sc : xm_Sc} : xe_ry (XE sc) 344 = (some .int) := rfl
theorem np_344 {sc : xm_Sc} : xe_np (XE sc) 344 = 3 := rfl
theorem kl_14_64 {sc : xm_Sc} : xe_kL (XE sc) 14 64 = some 4294967295 := rfl
theorem lk_14_7 {sc : xm_Sc} : xe_lk (XE sc) 14 7 = some 179 := rfl
theorem lk_14_17 {sc : xm_Sc} : xe_lk (XE sc) 14 17 = some 188 := rfl
theorem lk_14_21 {sc : xm_Sc} : xe_lk (XE sc) 14 21 = some 184 := rfl
theorem lk_14_27 {sc : xm_Sc} : xe_lk (XE sc) 14 27 = some 187 := rfl
theorem lk_14_31 {sc : xm_Sc} : xe_lk (XE sc) 14 31 = some 194 := rfl
theorem lk_14_35 {sc : xm_Sc} : xe_lk (XE sc) 14 35 = some 193 := rfl
theorem lk_14_39 {sc : xm_Sc} : xe_lk (XE sc) 14 39 = some 190 := rfl
theorem lk_14_43 {sc : xm_Sc} : xe_lk (XE sc) 14 43 = some 195 := rfl
theorem lk_14_46 {sc : xm_Sc} : xe_lk (XE sc) 14 46 = some 198 := rfl
theorem lk_14_49 {sc : xm_Sc} : xe_lk (XE sc) 14 49 = some 199 := rfl
theorem lk_14_52 {sc : xm_Sc} : xe_lk (XE sc) 14 52 = some 185 := rfl
theorem lk_14_56 {sc : xm_Sc} : xe_lk (XE sc) 14 56 = some 182 := rfl
theorem lk_14_66 {sc : xm_Sc} : xe_lk (XE sc) 14 66 = some 333 := rfl
theorem lk_14_71 {sc : xm_Sc} : xe_lk (XE sc) 14 71 = some 221 := rfl
theorem lk_14_72 {sc : xm_Sc} : xe_lk (XE sc) 14 72 = some 309 := rfl
theorem lk_14_75 {sc : xm_Sc} : xe_lk (XE sc) 14 75 = some 196 := rfl
theorem lk_14_78 {sc : xm_Sc} : xe_lk (XE sc) 14 78 = some 318 := rfl
theorem lk_14_79 {sc : xm_Sc} : xe_lk (XE sc) 14 79 = some 181 := rfl
theorem lk_14_82 {sc : xm_Sc} : xe_lk (XE sc) 14 82 = some 251 := rfl
theorem lk_14_83 {sc : xm_Sc} : xe_lk (XE sc) 14 83 = some 334 := rfl
theorem lk_14_86 {sc : xm_Sc} : xe_lk (XE sc) 14 86 = some 290 := rfl
theorem lk_14_87 {sc : xm_Sc} : xe_lk (XE sc) 14 87 = some 335 := rfl
theorem lk_14_90 {sc : xm_Sc} : xe_lk (XE sc) 14 90 = some 268 := rfl
theorem lk_14_91 {sc : xm_Sc} : xe_lk (XE sc) 14 91 = some 336 := rfl
theorem lk_14_93 {sc : xm_Sc} : xe_lk (XE sc) 14 93 = some 287 := rfl
theorem lk_14_94 {sc : xm_Sc} : xe_lk (XE sc) 14 94 = some 337 := rfl
theorem lk_14_97 {sc : xm_Sc} : xe_lk (XE sc) 14 97 = some 315 := rfl
theorem lk_14_98 {sc : xm_Sc} : xe_lk (XE sc) 14 98 = some 338 := rfl
theorem lk_14_101 {sc : xm_Sc} : xe_lk (XE sc) 14 101 = some 312 := rfl
theorem lk_14_102 {sc : xm_Sc} : xe_lk (XE sc) 14 102 = some 189 := rfl
theorem lk_14_105 {sc : xm_Sc} : xe_lk (XE sc) 14 105 = some 291 := rfl
theorem lk_14_106 {sc : xm_Sc} : xe_lk (XE sc) 14 106 = some 339 := rfl
theorem lk_14_109 {sc : xm_Sc} : xe_lk (XE sc) 14 109 = some 296 := rfl
theorem lk_14_110 {sc : xm_Sc} : xe_lk (XE sc) 14 110 = some 178 := rfl
theorem lk_14_113 {sc : xm_Sc} : xe_lk (XE sc) 14 113 = some 200 := rfl
theorem lk_14_114 {sc : xm_Sc} : xe_lk (XE sc) 14 114 = some 340 := rfl
theorem lk_14_116 {sc : xm_Sc} : xe_lk (XE sc) 14 116 = some 317 := rfl
theorem lk_14_117 {sc : xm_Sc} : xe_lk (XE sc) 14 117 = some 341 := rfl
theorem lk_14_119 {sc : xm_Sc} : xe_lk (XE sc) 14 119 = some 321 := rfl
theorem lk_14_120 {sc : xm_Sc} : xe_lk (XE sc) 14 120 = some 342 := rfl
theorem lk_14_122 {sc : xm_Sc} : xe_lk (XE sc) 14 122 = some 322 := rfl
theorem lk_14_123 {sc : xm_Sc} : xe_lk (XE sc) 14 123 = some 343 := rfl
theorem lk_14_126 {sc : xm_Sc} : xe_lk (XE sc) 14 126 = some 274 := rfl
theorem lk_14_127 {sc : xm_Sc} : xe_lk (XE sc) 14 127 = some 344 := rfl
theorem lk_14_129 {sc : xm_Sc} : xe_lk (XE sc) 14 129 = some 252 := rfl
