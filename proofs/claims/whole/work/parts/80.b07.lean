/- method 117: X7_compress -/
def b_X7_compress_0 : List (Nat × Jvm.ClassFile.Instr × Nat) := [(0, .bipush 16, 2), (2, .istore 5, 2)]
set_option maxRecDepth 20000 in
theorem k_X7_compress_0 {sc : xm_Sc} : xm_bok (xe_cy (XE sc) 117) b_X7_compress_0 := by show xm_bok cX7_compress _; unfold xm_bok; decide +kernel
def b_X7_compress_4 : List (Nat × Jvm.ClassFile.Instr × Nat) := [(4, .iload 5, 2), (6, .bipush 64, 2), (8, .if_icmp .ge 103, 3)]
set_option maxRecDepth 20000 in
theorem k_X7_compress_4 {sc : xm_Sc} : xm_bok (xe_cy (XE sc) 117) b_X7_compress_4 := by show xm_bok cX7_compress _; unfold xm_bok; decide +kernel
def b_X7_compress_11 : List (Nat × Jvm.ClassFile.Instr × Nat) := [(11, .aload_n 0, 1), (12, .getfield 21, 3), (15, .iload 5, 2), (17, .bipush 15, 2), (19, .isub, 1), (20, .iaload, 1), (21, .istore 6, 2), (23, .aload_n 0, 1), (24, .getfield 21, 3), (27, .iload 5, 2), (29, .iconst 2, 1), (30, .isub, 1), (31, .iaload, 1), (32, .istore 7, 2), (34, .aload_n 0, 1), (35, .getfield 21, 3), (38, .iload 5, 2), (40, .iload 7, 2), (42, .bipush 17, 2), (44, .invokestatic 101, 3)]
set_option maxRecDepth 20000 in
theorem k_X7_compress_11 {sc : xm_Sc} : xm_bok (xe_cy (XE sc) 117) b_X7_compress_11 := by show xm_bok cX7_compress _; unfold xm_bok; decide +kernel
def b_X7_compress_47 : List (Nat × Jvm.ClassFile.Instr × Nat) := [(47, .iload 7, 2), (49, .bipush 19, 2), (51, .invokestatic 101, 3)]
set_option maxRecDepth 20000 in
theorem k_X7_compress_47 {sc : xm_Sc} : xm_bok (xe_cy (XE sc) 117) b_X7_compress_47 := by show xm_bok cX7_compress _; unfold xm_bok; decide +kernel
def b_X7_compress_54 : List (Nat × Jvm.ClassFile.Instr × Nat) := [(54, .ixor, 1), (55, .iload 7, 2), (57, .bipush 10, 2), (59, .iushr, 1), (60, .ixor, 1), (61, .aload_n 0, 1), (62, .getfield 21, 3), (65, .iload 5, 2), (67, .bipush 7, 2), (69, .isub, 1), (70, .iaload, 1), (71, .iadd, 1), (72, .iload 6, 2), (74, .bipush 7, 2), (76, .invokestatic 101, 3)]
set_option maxRecDepth 20000 in
theorem k_X7_compress_54 {sc : xm_Sc} : xm_bok (xe_cy (XE sc) 117) b_X7_compress_54 := by show xm_bok cX7_compress _; unfold xm_bok; decide +kernel
def b_X7_compress_79 : List (Nat × Jvm.ClassFile.Instr × Nat) := [(79, .iload 6, 2), (81, .bipush 18, 2), (83, .invokestatic 101, 3)]
set_option maxRecDepth 20000 in
theorem k_X7_compress_79 {sc : xm_Sc} : xm_bok (xe_cy (XE sc) 117) b_X7_compress_79 := by show xm_bok cX7_compress _; unfold xm_bok; decide +kernel
def b_X7_compress_86 : List (Nat × Jvm.ClassFile.Instr × Nat) := [(86, .ixor, 1), (87, .iload 6, 2), (89, .iconst 3, 1), (90, .iushr, 1), (91, .ixor, 1), (92, .iadd, 1), (93, .aload_n 0, 1), (94, .getfield 21, 3), (97, .iload 5, 2), (99, .bipush 16, 2), (101, .isub, 1), (102, .iaload, 1), (103, .iadd, 1), (104, .iastore, 1), (105, .iinc 5 1, 3), (108, .goto (-104), 3)]
set_option maxRecDepth 20000 in
theorem k_X7_compress_86 {sc : xm_Sc} : xm_bok (xe_cy (XE sc) 117) b_X7_compress_86 := by show xm_bok cX7_compress _; unfold xm_bok; decide +kernel
def b_X7_compress_111 : List (Nat × Jvm.ClassFile.Instr × Nat) := [(111, .bipush 8, 2), (113, .iload_n 2, 1), (114, .imul, 1), (115, .istore 5, 2), (117, .aload_n 1, 1), (118, .iload 5, 2), (120, .iaload, 1), (121, .istore 6, 2), (123, .aload_n 1, 1), (124, .iload 5, 2), (126, .iconst 1, 1), (127, .iadd, 1), (128, .iaload, 1), (129, .istore 7, 2), (131, .aload_n 1, 1), (132, .iload 5, 2), (134, .iconst 2, 1), (135, .iadd, 1), (136, .iaload, 1), (137, .istore 8, 2), (139, .aload_n 1, 1), (140, .iload 5, 2), (142, .iconst 3, 1), (143, .iadd, 1), (144, .iaload, 1), (145, .istore 9, 2), (147, .aload_n 1, 1), (148, .iload 5, 2), (150, .iconst 4, 1), (151, .iadd, 1), (152, .iaload, 1), (153, .istore 10, 2), (155, .aload_n 1, 1), (156, .iload 5, 2), (158, .iconst 5, 1), (159, .iadd, 1), (160, .iaload, 1), (161, .istore 11, 2), (163, .aload_n 1, 1), (164, .iload 5, 2), (166, .bipush 6, 2), (168, .iadd, 1), (169, .iaload, 1), (170, .istore 12, 2), (172, .aload_n 1, 1), (173, .iload 5, 2), (175, .bipush 7, 2), (177, .iadd, 1), (178, .iaload, 1), (179, .istore 13, 2), (181, .iconst 0, 1), (182, .istore 14, 2)]
set_option maxRecDepth 20000 in
theorem k_X7_compress_111 {sc : xm_Sc} : xm_bok (xe_cy (XE sc) 117) b_X7_compress_111 := by show xm_bok cX7_compress _; unfold xm_bok; decide +kernel
def b_X7_compress_184 : List (Nat × Jvm.ClassFile.Instr × Nat) := [(184, .iload 14, 2), (186, .bipush 64, 2), (188, .if_icmp .ge 146, 3)]
set_option maxRecDepth 20000 in
theorem k_X7_compress_184 {sc : xm_Sc} : xm_bok (xe_cy (XE sc) 117) b_X7_compress_184 := by show xm_bok cX7_compress _; unfold xm_bok; decide +kernel
def b_X7_compress_191 : List (Nat × Jvm.ClassFile.Instr × Nat) := [(191, .iload 13, 2), (193, .iload 10, 2), (195, .bipush 6, 2), (197, .invokestatic 101, 3)]
set_option maxRecDepth 20000 in
theorem k_X7_compress_191 {sc : xm_Sc} : xm_bok (xe_cy (XE sc) 117) b_X7_compress_191 := by show xm_bok cX7_compress _; unfold xm_bok; decide +kernel
def b_X7_compress_200 : List (Nat × Jvm.ClassFile.Instr × Nat) := [(200, .iload 10, 2), (202, .bipush 11, 2), (204, .invokestatic 101, 3)]
set_option maxRecDepth 20000 in
theorem k_X7_compress_200 {sc : xm_Sc} : xm_bok (xe_cy (XE sc) 117) b_X7_compress_200 := by show xm_bok cX7_compress _; unfold xm_bok; decide +kernel
def b_X7_compress_207 : List (Nat × Jvm.ClassFile.Instr × Nat) := [(207, .ixor, 1), (208, .iload 10, 2), (210, .bipush 25, 2), (212, .invokestatic 101, 3)]
set_option maxRecDepth 20000 in
theorem k_X7_compress_207 {sc : xm_Sc} : xm_bok (xe_cy (XE sc) 117) b_X7_compress_207 := by show xm_bok cX7_compress _; unfold xm_bok; decide +kernel
def b_X7_compress_215 : List (Nat × Jvm.ClassFile.Instr × Nat) := [(215, .ixor, 1), (216, .iadd, 1), (217, .iload 10, 2), (219, .iload 11, 2), (221, .iand, 1), (222, .iload 10, 2), (224, .iconst (-1), 1), (225, .ixor, 1), (226, .iload 12, 2), (228, .iand, 1), (229, .ixor, 1), (230, .iadd, 1), (231, .getstatic 105, 3), (234, .iload 14, 2), (236, .iaload, 1), (237, .iadd, 1), (238, .aload_n 0, 1), (239, .getfield 21, 3), (242, .iload 14, 2), (244, .iaload, 1), (245, .iadd, 1), (246, .istore 15, 2), (248, .iload 6, 2), (250, .iconst 2, 1), (251, .invokestatic 101, 3)]
set_option maxRecDepth 20000 in
theorem k_X7_compress_215 {sc : xm_Sc} : xm_bok (xe_cy (XE sc) 117) b_X7_compress_215 := by show xm_bok cX7_compress _; unfold xm_bok; decide +kernel
def b_X7_compress_254 : List (Nat × Jvm.ClassFile.Instr × Nat) := [(254, .iload 6, 2), (256, .bipush 13, 2), (258, .invokestatic 101, 3)]
set_option maxRecDepth 20000 in
theorem k_X7_compress_254 {sc : xm_Sc} : xm_bok (xe_cy (XE sc) 117) b_X7_compress_254 := by show xm_bok cX7_compress _; unfold xm_bok; decide +kernel
def b_X7_compress_261 : List (Nat × Jvm.ClassFile.Instr × Nat) := [(261, .ixor, 1), (262, .iload 6, 2), (264, .bipush 22, 2), (266, .invokestatic 101, 3)]
set_option maxRecDepth 20000 in
theorem k_X7_compress_261 {sc : xm_Sc} : xm_bok (xe_cy (XE sc) 117) b_X7_compress_261 := by show xm_bok cX7_compress _; unfold xm_bok; decide +kernel
def b_X7_compress_269 : List (Nat × Jvm.ClassFile.Instr × Nat) := [(269, .ixor, 1), (270, .iload 6, 2), (272, .iload 7, 2), (274, .iand, 1), (275, .iload 6, 2), (277, .iload 8, 2), (279, .iand, 1), (280, .ixor, 1), (281, .iload 7, 2), (283, .iload 8, 2), (285, .iand, 1), (286, .ixor, 1), (287, .iadd, 1), (288, .istore 16, 2), (290, .iload 12, 2), (292, .istore 13, 2), (294, .iload 11, 2), (296, .istore 12, 2), (298, .iload 10, 2), (300, .istore 11, 2), (302, .iload 9, 2), (304, .iload 15, 2), (306, .iadd, 1), (307, .istore 10, 2), (309, .iload 8, 2), (311, .istore 9, 2), (313, .iload 7, 2), (315, .istore 8, 2), (317, .iload 6, 2), (319, .istore 7, 2), (321, .iload 15, 2), (323, .iload 16, 2), (325, .iadd, 1), (326, .istore 6, 2), (328, .iinc 14 1, 3), (331, .goto (-147), 3)]
set_option maxRecDepth 20000 in
theorem k_X7_compress_269 {sc : xm_Sc} : xm_bok (xe_cy (XE sc) 117) b_X7_compress_269 := by show xm_bok cX7_compress _; unfold xm_bok; decide +kernel
def b_X7_compress_334 : List (Nat × Jvm.ClassFile.Instr × Nat) := [(334, .bipush 8, 2), (336, .iload 4, 2), (338, .imul, 1), (339, .istore 14, 2), (341, .aload_n 3, 1), (342, .iload 14, 2), (344, .aload_n 1, 1), (345, .iload 5, 2), (347, .iaload, 1), (348, .iload 6, 2), (350, .iadd, 1), (351, .iastore, 1), (352, .aload_n 3, 1), (353, .iload 14, 2), (355, .iconst 1, 1), (356, .iadd, 1), (357, .aload_n 1, 1), (358, .iload 5, 2), (360, .iconst 1, 1), (361, .iadd, 1), (362, .iaload, 1), (363, .iload 7, 2), (365, .iadd, 1), (366, .iastore, 1), (367, .aload_n 3, 1), (368, .iload 14, 2), (370, .iconst 2, 1), (371, .iadd, 1), (372, .aload_n 1, 1), (373, .iload 5, 2), (375, .iconst 2, 1), (376, .iadd, 1), (377, .iaload, 1), (378, .iload 8, 2), (380, .iadd, 1), (381, .iastore, 1), (382, .aload_n 3, 1), (383, .iload 14, 2), (385, .iconst 3, 1), (386, .iadd, 1), (387, .aload_n 1, 1), (388, .iload 5, 2), (390, .iconst 3, 1), (391, .iadd, 1), (392, .iaload, 1), (393, .iload 9, 2), (395, .iadd, 1), (396, .iastore, 1), (397, .aload_n 3, 1), (398, .iload 14, 2), (400, .iconst 4, 1), (401, .iadd, 1), (402, .aload_n 1, 1), (403, .iload 5, 2), (405, .iconst 4, 1), (406, .iadd, 1), (407, .iaload, 1), (408, .iload 10, 2), (410, .iadd, 1), (411, .iastore, 1), (412, .aload_n 3, 1), (413, .iload 14, 2), (415, .iconst 5, 1), (416, .iadd, 1), (417, .aload_n 1, 1), (418, .iload 5, 2), (420, .iconst 5, 1), (421, .iadd, 1), (422, .iaload, 1), (423, .iload 11, 2), (425, .iadd, 1), (426, .iastore, 1), (427, .aload_n 3, 1), (428, .iload 14, 2), (430, .bipush 6, 2), (432, .iadd, 1), (433, .aload_n 1, 1), (434, .iload 5, 2), (436, .bipush 6, 2), (438, .iadd, 1), (439, .iaload, 1), (440, .iload 12, 2), (442, .iadd, 1), (443, .iastore, 1), (444, .aload_n 3, 1), (445, .iload 14, 2), (447, .bipush 7, 2), (449, .iadd, 1), (450, .aload_n 1, 1), (451, .iload 5, 2), (453, .bipush 7, 2), (455, .iadd, 1), (456, .iaload, 1), (457, .iload 13, 2), (459, .iadd, 1), (460, .iastore, 1), (461, .return_, 1)]
set_option maxRecDepth 20000 in
theorem k_X7_compress_334 {sc : xm_Sc} : xm_bok (xe_cy (XE sc) 117) b_X7_compress_334 := by show xm_bok cX7_compress _; unfold xm_bok; decide +kernel
set_option maxRecDepth 20000 in
theorem cn_117 {sc : xm_Sc} : xe_cn (XE sc) 117 = 7 := rfl
set_option maxRecDepth 20000 in
theorem ml_117 {sc : xm_Sc} : xe_ml (XE sc) 117 = 17 := rfl
set_option maxRecDepth 20000 in
theorem ry_117 {sc : xm_Sc} : xe_ry (XE sc) 117 = none := rfl
set_option maxRecDepth 20000 in
theorem is_117 {sc : xm_Sc} : xe_is (XE sc) 117 = false := rfl
set_option maxRecDepth 20000 in
theorem np_117 {sc : xm_Sc} : xe_np (XE sc) 117 = 4 := rfl
/- method 118: X7_findLeaves -/
def b_X7_findLeaves_0 : List (Nat × Jvm.ClassFile.Instr × Nat) := [(0, .aload_n 0, 1), (1, .getfield 57, 3), (4, .ifCond .eq 4, 3)]
set_option maxRecDepth 20000 in
theorem k_X7_findLeaves_0 {sc : xm_Sc} : xm_bok (xe_cy (XE sc) 118) b_X7_findLeaves_0 := by show xm_bok cX7_findLeaves _; unfold xm_bok; decide +kernel
def b_X7_findLeaves_7 : List (Nat × Jvm.ClassFile.Instr × Nat) := [(7, .return_, 1)]
set_option maxRecDepth 20000 in
theorem k_X7_findLeaves_7 {sc : xm_Sc} : xm_bok (xe_cy (XE sc) 118) b_X7_findLeaves_7 := by show xm_bok cX7_findLeaves _; unfold xm_bok; decide +kernel
def b_X7_findLeaves_8 : List (Nat × Jvm.ClassFile.Instr × Nat) := [(8, .iconst 0, 1), (9, .istore_n 1, 1)]
set_option maxRecDepth 20000 in
theorem k_X7_findLeaves_8 {sc : xm_Sc} : xm_bok (xe_cy (XE sc) 118) b_X7_findLeaves_8 := by show xm_bok cX7_findLeaves _; unfold xm_bok; decide +kernel
def b_X7_findLeaves_10 : List (Nat × Jvm.ClassFile.Instr × Nat) := [(10, .iload_n 1, 1), (11, .bipush 16, 2), (13, .if_icmp .ge 36, 3)]
set_option maxRecDepth 20000 in
theorem k_X7_findLeaves_10 {sc : xm_Sc} : xm_bok (xe_cy (XE sc) 118) b_X7_findLeaves_10 := by show xm_bok cX7_findLeaves _; unfold xm_bok; decide +kernel
def b_X7_findLeaves_16 : List (Nat × Jvm.ClassFile.Instr × Nat) := [(16, .aload_n 0, 1), (17, .iload_n 1, 1), (18, .bipush 13, 2), (20, .if_icmp .ge 7, 3)]
set_option maxRecDepth 20000 in
theorem k_X7_findLeaves_16 {sc : xm_Sc} : xm_bok (xe_cy (XE sc) 118) b_X7_findLeaves_16 := by show xm_bok cX7_findLeaves _; unfold xm_bok; decide +kernel
def b_X7_findLeaves_23 : List (Nat × Jvm.ClassFile.Instr × Nat) := [(23, .iload_n 1, 1), (24, .goto 11, 3)]
set_option maxRecDepth 20000 in
theorem k_X7_findLeaves_23 {sc : xm_Sc} : xm_bok (xe_cy (XE sc) 118) b_X7_findLeaves_23 := by show xm_bok cX7_findLeaves _; unfold xm_bok; decide +kernel
def b_X7_findLeaves_27 : List (Nat × Jvm.ClassFile.Instr × Nat) := [(27, .sipush 208, 3), (30, .iload_n 1, 1), (31, .iadd, 1), (32, .bipush 13, 2), (34, .isub, 1)]
set_option maxRecDepth 20000 in
theorem k_X7_findLeaves_27 {sc : xm_Sc} : xm_bok (xe_cy (XE sc) 118) b_X7_findLeaves_27 := by show xm_bok cX7_findLeaves _; unfold xm_bok; decide +kernel
def b_X7_findLeaves_35 : List (Nat × Jvm.ClassFile.Instr × Nat) := [(35, .aload_n 0, 1), (36, .getfield 18, 3), (39, .iload_n 1, 1), (40, .invokevirtual 60, 3)]
set_option maxRecDepth 20000 in
theorem k_X7_findLeaves_35 {sc : xm_Sc} : xm_bok (xe_cy (XE sc) 118) b_X7_findLeaves_35 := by show xm_bok cX7_findLeaves _; unfold xm_bok; decide +kernel
def b_X7_findLeaves_43 : List (Nat × Jvm.ClassFile.Instr × Nat) := [(43, .iinc 1 1, 3), (46, .goto (-36), 3)]
set_option maxRecDepth 20000 in
theorem k_X7_findLeaves_43 {sc : xm_Sc} : xm_bok (xe_cy (XE sc) 118) b_X7_findLeaves_43 := by show xm_bok cX7_findLeaves _; unfold xm_bok; decide +kernel
def b_X7_findLeaves_49 : List (Nat × Jvm.ClassFile.Instr × Nat) := [(49, .aload_n 0, 1), (50, .iconst 1, 1), (51, .putfield 57, 3), (54, .return_, 1)]
set_option maxRecDepth 20000 in
theorem k_X7_findLeaves_49 {sc : xm_Sc} : xm_bok (xe_cy (XE sc) 118) b_X7_findLeaves_49 := by show xm_bok cX7_findLeaves _; unfold xm_bok; decide +kernel
set_option maxRecDepth 20000 in
theorem cn_118 {sc : xm_Sc} : xe_cn (XE sc) 118 = 7 := rfl
set_option maxRecDepth 20000 in
theorem ml_118 {sc : xm_Sc} : xe_ml (XE sc) 118 = 2 := rfl
set_option maxRecDepth 20000 in
theorem ry_118 {sc : xm_Sc} : xe_ry (XE sc) 118 = none := rfl
set_option maxRecDepth 20000 in
theorem is_118 {sc : xm_Sc} : xe_is (XE sc) 118 = false := rfl
set_option maxRecDepth 20000 in
theorem np_118 {sc : xm_Sc} : xe_np (XE sc) 118 = 0 := rfl
/- method 119: X7_findNode -/
def b_X7_findNode_0 : List (Nat × Jvm.ClassFile.Instr × Nat) := [(0, .aload_n 1, 1), (1, .getfield 64, 3), (4, .iload_n 2, 1), (5, .iaload, 1), (6, .istore_n 3, 1), (7, .iload_n 3, 1), (8, .bipush 11, 2), (10, .if_icmp .ne 29, 3)]
set_option maxRecDepth 20000 in
theorem k_X7_findNode_0 {sc : xm_Sc} : xm_bok (xe_cy (XE sc) 119) b_X7_findNode_0 := by show xm_bok cX7_findNode _; unfold xm_bok; decide +kernel
def b_X7_findNode_13 : List (Nat × Jvm.ClassFile.Instr × Nat) := [(13, .aload_n 1, 1), (14, .getfield 67, 3), (17, .aload_n 1, 1), (18, .getfield 70, 3), (21, .iload_n 2, 1), (22, .iaload, 1), (23, .aload_n 0, 1), (24, .getfield 9, 3), (27, .bipush 8, 2), (29, .iload_n 2, 1), (30, .imul, 1), (31, .bipush 8, 2), (33, .invokestatic 73, 3)]
set_option maxRecDepth 20000 in
theorem k_X7_findNode_13 {sc : xm_Sc} : xm_bok (xe_cy (XE sc) 119) b_X7_findNode_13 := by show xm_bok cX7_findNode _; unfold xm_bok; decide +kernel
def b_X7_findNode_36 : List (Nat × Jvm.ClassFile.Instr × Nat) := [(36, .goto 191, 3)]
set_option maxRecDepth 20000 in
theorem k_X7_findNode_36 {sc : xm_Sc} : xm_bok (xe_cy (XE sc) 119) b_X7_findNode_36 := by show xm_bok cX7_findNode _; unfold xm_bok; decide +kernel
def b_X7_findNode_39 : List (Nat × Jvm.ClassFile.Instr × Nat) := [(39, .iload_n 3, 1), (40, .bipush 12, 2), (42, .if_icmp .ne 24, 3)]
set_option maxRecDepth 20000 in
theorem k_X7_findNode_39 {sc : xm_Sc} : xm_bok (xe_cy (XE sc) 119) b_X7_findNode_39 := by show xm_bok cX7_findNode _; unfold xm_bok; decide +kernel
def b_X7_findNode_45 : List (Nat × Jvm.ClassFile.Instr × Nat) := [(45, .aload_n 0, 1), (46, .bipush 32, 2), (48, .aload_n 1, 1), (49, .getfield 70, 3), (52, .iload_n 2, 1), (53, .iaload, 1), (54, .iadd, 1), (55, .aload_n 0, 1), (56, .getfield 9, 3), (59, .iload_n 2, 1), (60, .invokevirtual 60, 3)]
set_option maxRecDepth 20000 in
theorem k_X7_findNode_45 {sc : xm_Sc} : xm_bok (xe_cy (XE sc) 119) b_X7_findNode_45 := by show xm_bok cX7_findNode _; unfold xm_bok; decide +kernel
def b_X7_findNode_63 : List (Nat × Jvm.ClassFile.Instr × Nat) := [(63, .goto 164, 3)]
set_option maxRecDepth 20000 in
theorem k_X7_findNode_63 {sc : xm_Sc} : xm_bok (xe_cy (XE sc) 119) b_X7_findNode_63 := by show xm_bok cX7_findNode _; unfold xm_bok; decide +kernel
def b_X7_findNode_66 : List (Nat × Jvm.ClassFile.Instr × Nat) := [(66, .iload_n 3, 1), (67, .bipush 6, 2), (69, .if_icmp .le 27, 3)]
set_option maxRecDepth 20000 in
theorem k_X7_findNode_66 {sc : xm_Sc} : xm_bok (xe_cy (XE sc) 119) b_X7_findNode_66 := by show xm_bok cX7_findNode _; unfold xm_bok; decide +kernel
def b_X7_findNode_72 : List (Nat × Jvm.ClassFile.Instr × Nat) := [(72, .aload_n 0, 1), (73, .getfield 18, 3), (76, .bipush 8, 2), (78, .iload_n 3, 1), (79, .imul, 1), (80, .aload_n 0, 1), (81, .getfield 9, 3), (84, .bipush 8, 2), (86, .iload_n 2, 1), (87, .imul, 1), (88, .bipush 8, 2), (90, .invokestatic 73, 3)]
set_option maxRecDepth 20000 in
theorem k_X7_findNode_72 {sc : xm_Sc} : xm_bok (xe_cy (XE sc) 119) b_X7_findNode_72 := by show xm_bok cX7_findNode _; unfold xm_bok; decide +kernel
def b_X7_findNode_93 : List (Nat × Jvm.ClassFile.Instr × Nat) := [(93, .goto 134, 3)]
set_option maxRecDepth 20000 in
theorem k_X7_findNode_93 {sc : xm_Sc} : xm_bok (xe_cy (XE sc) 119) b_X7_findNode_93 := by show xm_bok cX7_findNode _; unfold xm_bok; decide +kernel
def b_X7_findNode_96 : List (Nat × Jvm.ClassFile.Instr × Nat) := [(96, .iload_n 3, 1), (97, .iconst 2, 1), (98, .if_icmp .le 68, 3)]
set_option maxRecDepth 20000 in
theorem k_X7_findNode_96 {sc : xm_Sc} : xm_bok (xe_cy (XE sc) 119) b_X7_findNode_96 := by show xm_bok cX7_findNode _; unfold xm_bok; decide +kernel
def b_X7_findNode_101 : List (Nat × Jvm.ClassFile.Instr × Nat) := [(101, .iconst 0, 1), (102, .istore 4, 2)]
set_option maxRecDepth 20000 in
theorem k_X7_findNode_101 {sc : xm_Sc} : xm_bok (xe_cy (XE sc) 119) b_X7_findNode_101 := by show xm_bok cX7_findNode _; unfold xm_bok; decide +kernel
def b_X7_findNode_104 : List (Nat × Jvm.ClassFile.Instr × Nat) := [(104, .iload 4, 2), (106, .bipush 8, 2), (108, .if_icmp .ge 17, 3)]
set_option maxRecDepth 20000 in
theorem k_X7_findNode_104 {sc : xm_Sc} : xm_bok (xe_cy (XE sc) 119) b_X7_findNode_104 := by show xm_bok cX7_findNode _; unfold xm_bok; decide +kernel
def b_X7_findNode_111 : List (Nat × Jvm.ClassFile.Instr × Nat) := [(111, .aload_n 0, 1), (112, .getfield 21, 3), (115, .iload 4, 2), (117, .iconst 0, 1), (118, .iastore, 1), (119, .iinc 4 1, 3), (122, .goto (-18), 3)]
set_option maxRecDepth 20000 in
theorem k_X7_findNode_111 {sc : xm_Sc} : xm_bok (xe_cy (XE sc) 119) b_X7_findNode_111 := by show xm_bok cX7_findNode _; unfold xm_bok; decide +kernel
def b_X7_findNode_125 : List (Nat × Jvm.ClassFile.Instr × Nat) := [(125, .aload_n 0, 1), (126, .getfield 9, 3), (129, .bipush 8, 2), (131, .aload_n 1, 1), (132, .getfield 79, 3), (135, .iload_n 2, 1), (136, .iaload, 1), (137, .imul, 1), (138, .aload_n 0, 1), (139, .getfield 21, 3), (142, .bipush 8, 2), (144, .bipush 8, 2), (146, .invokestatic 73, 3)]
set_option maxRecDepth 20000 in
theorem k_X7_findNode_125 {sc : xm_Sc} : xm_bok (xe_cy (XE sc) 119) b_X7_findNode_125 := by show xm_bok cX7_findNode _; unfold xm_bok; decide +kernel
def b_X7_findNode_149 : List (Nat × Jvm.ClassFile.Instr × Nat) := [(149, .aload_n 0, 1), (150, .aload_n 0, 1), (151, .getfield 18, 3), (154, .iload_n 3, 1), (155, .aload_n 0, 1), (156, .getfield 9, 3), (159, .iload_n 2, 1), (160, .invokevirtual 82, 3)]
set_option maxRecDepth 20000 in
theorem k_X7_findNode_149 {sc : xm_Sc} : xm_bok (xe_cy (XE sc) 119) b_X7_findNode_149 := by show xm_bok cX7_findNode _; unfold xm_bok; decide +kernel
def b_X7_findNode_163 : List (Nat × Jvm.ClassFile.Instr × Nat) := [(163, .goto 64, 3)]
set_option maxRecDepth 20000 in
theorem k_X7_findNode_163 {sc : xm_Sc} : xm_bok (xe_cy (XE sc) 119) b_X7_findNode_163 := by show xm_bok cX7_findNode _; unfold xm_bok; decide +kernel
def b_X7_findNode_166 : List (Nat × Jvm.ClassFile.Instr × Nat) := [(166, .aload_n 0, 1), (167, .getfield 9, 3), (170, .bipush 8, 2), (172, .aload_n 1, 1), (173, .getfield 79, 3), (176, .iload_n 2, 1), (177, .iaload, 1), (178, .imul, 1), (179, .aload_n 0, 1), (180, .getfield 21, 3), (183, .iconst 0, 1), (184, .bipush 8, 2), (186, .invokestatic 73, 3)]
set_option maxRecDepth 20000 in
theorem k_X7_findNode_166 {sc : xm_Sc} : xm_bok (xe_cy (XE sc) 119) b_X7_findNode_166 := by show xm_bok cX7_findNode _; unfold xm_bok; decide +kernel
def b_X7_findNode_189 : List (Nat × Jvm.ClassFile.Instr × Nat) := [(189, .aload_n 0, 1), (190, .getfield 9, 3), (193, .bipush 8, 2), (195, .aload_n 1, 1), (196, .getfield 86, 3), (199, .iload_n 2, 1), (200, .iaload, 1), (201, .imul, 1), (202, .aload_n 0, 1), (203, .getfield 21, 3), (206, .bipush 8, 2), (208, .bipush 8, 2), (210, .invokestatic 73, 3)]
set_option maxRecDepth 20000 in
theorem k_X7_findNode_189 {sc : xm_Sc} : xm_bok (xe_cy (XE sc) 119) b_X7_findNode_189 := by show xm_bok cX7_findNode _; unfold xm_bok; decide +kernel
def b_X7_findNode_213 : List (Nat × Jvm.ClassFile.Instr × Nat) := [(213, .aload_n 0, 1), (214, .aload_n 0, 1), (215, .getfield 18, 3), (218, .iload_n 3, 1), (219, .aload_n 0, 1), (220, .getfield 9, 3), (223, .iload_n 2, 1), (224, .invokevirtual 82, 3)]
set_option maxRecDepth 20000 in
theorem k_X7_findNode_213 {sc : xm_Sc} : xm_bok (xe_cy (XE sc) 119) b_X7_findNode_213 := by show xm_bok cX7_findNode _; unfold xm_bok; decide +kernel
def b_X7_findNode_227 : List (Nat × Jvm.ClassFile.Instr × Nat) := [(227, .return_, 1)]
set_option maxRecDepth 20000 in
theorem k_X7_findNode_227 {sc : xm_Sc} : xm_bok (xe_cy (XE sc) 119) b_X7_findNode_227 := by show xm_bok cX7_findNode _; unfold xm_bok; decide +kernel
set_option maxRecDepth 20000 in
theorem cn_119 {sc : xm_Sc} : xe_cn (XE sc) 119 = 7 := rfl
set_option maxRecDepth 20000 in
theorem ml_119 {sc : xm_Sc} : xe_ml (XE sc) 119 = 5 := rfl
set_option maxRecDepth 20000 in
theorem ry_119 {sc : xm_Sc} : xe_ry (XE sc) 119 = none := rfl
set_option maxRecDepth 20000 in
theorem is_119 {sc : xm_Sc} : xe_is (XE sc) 119 = false := rfl
set_option maxRecDepth 20000 in
theorem np_119 {sc : xm_Sc} : xe_np (XE sc) 119 = 2 := rfl
/- method 120: X7_findType -/
def b_X7_findType_0 : List (Nat × Jvm.ClassFile.Instr × Nat) := [(0, .bipush 13, 2), (2, .aload_n 1, 1), (3, .getfield 89, 3), (6, .iload_n 2, 1), (7, .iaload, 1), (8, .iadd, 1), (9, .istore_n 3, 1), (10, .aload_n 1, 1), (11, .getfield 89, 3), (14, .iload_n 2, 1), (15, .iaload, 1), (16, .ifCond .ne 27, 3)]
set_option maxRecDepth 20000 in
theorem k_X7_findType_0 {sc : xm_Sc} : xm_bok (xe_cy (XE sc) 120) b_X7_findType_0 := by show xm_bok cX7_findType _; unfold xm_bok; decide +kernel
def b_X7_findType_19 : List (Nat × Jvm.ClassFile.Instr × Nat) := [(19, .aload_n 0, 1), (20, .getfield 18, 3), (23, .bipush 8, 2), (25, .iload_n 3, 1), (26, .imul, 1), (27, .aload_n 0, 1), (28, .getfield 15, 3), (31, .bipush 8, 2), (33, .iload_n 2, 1), (34, .imul, 1), (35, .bipush 8, 2), (37, .invokestatic 73, 3)]
set_option maxRecDepth 20000 in
theorem k_X7_findType_19 {sc : xm_Sc} : xm_bok (xe_cy (XE sc) 120) b_X7_findType_19 := by show xm_bok cX7_findType _; unfold xm_bok; decide +kernel
def b_X7_findType_40 : List (Nat × Jvm.ClassFile.Instr × Nat) := [(40, .goto 64, 3)]
set_option maxRecDepth 20000 in
theorem k_X7_findType_40 {sc : xm_Sc} : xm_bok (xe_cy (XE sc) 120) b_X7_findType_40 := by show xm_bok cX7_findType _; unfold xm_bok; decide +kernel
def b_X7_findType_43 : List (Nat × Jvm.ClassFile.Instr × Nat) := [(43, .aload_n 0, 1), (44, .getfield 15, 3), (47, .bipush 8, 2), (49, .aload_n 1, 1), (50, .getfield 92, 3), (53, .iload_n 2, 1), (54, .iaload, 1), (55, .imul, 1), (56, .aload_n 0, 1), (57, .getfield 21, 3), (60, .iconst 0, 1), (61, .bipush 8, 2), (63, .invokestatic 73, 3)]
set_option maxRecDepth 20000 in
theorem k_X7_findType_43 {sc : xm_Sc} : xm_bok (xe_cy (XE sc) 120) b_X7_findType_43 := by show xm_bok cX7_findType _; unfold xm_bok; decide +kernel
def b_X7_findType_66 : List (Nat × Jvm.ClassFile.Instr × Nat) := [(66, .aload_n 0, 1), (67, .getfield 15, 3), (70, .bipush 8, 2), (72, .aload_n 1, 1), (73, .getfield 95, 3), (76, .iload_n 2, 1), (77, .iaload, 1), (78, .imul, 1), (79, .aload_n 0, 1), (80, .getfield 21, 3), (83, .bipush 8, 2), (85, .bipush 8, 2), (87, .invokestatic 73, 3)]
set_option maxRecDepth 20000 in
theorem k_X7_findType_66 {sc : xm_Sc} : xm_bok (xe_cy (XE sc) 120) b_X7_findType_66 := by show xm_bok cX7_findType _; unfold xm_bok; decide +kernel
def b_X7_findType_90 : List (Nat × Jvm.ClassFile.Instr × Nat) := [(90, .aload_n 0, 1), (91, .aload_n 0, 1), (92, .getfield 18, 3), (95, .iload_n 3, 1), (96, .aload_n 0, 1), (97, .getfield 15, 3), (100, .iload_n 2, 1), (101, .invokevirtual 82, 3)]
set_option maxRecDepth 20000 in
theorem k_X7_findType_90 {sc : xm_Sc} : xm_bok (xe_cy (XE sc) 120) b_X7_findType_90 := by show xm_bok cX7_findType _; unfold xm_bok; decide +kernel
def b_X7_findType_104 : List (Nat × Jvm.ClassFile.Instr × Nat) := [(104, .return_, 1)]
set_option maxRecDepth 20000 in
theorem k_X7_findType_104 {sc : xm_Sc} : xm_bok (xe_cy (XE sc) 120) b_X7_findType_104 := by show xm_bok cX7_findType _; unfold xm_bok; decide +kernel
set_option maxRecDepth 20000 in
theorem cn_120 {sc : xm_Sc} : xe_cn (XE sc) 120 = 7 := rfl
set_option maxRecDepth 20000 in
theorem ml_120 {sc : xm_Sc} : xe_ml (XE sc) 120 = 4 := rfl
set_option maxRecDepth 20000 in
theorem ry_120 {sc : xm_Sc} : xe_ry (XE sc) 120 = none := rfl
set_option maxRecDepth 20000 in
theorem is_120 {sc : xm_Sc} : xe_is (XE sc) 120 = false := rfl
set_option maxRecDepth 20000 in
theorem np_120 {sc : xm_Sc} : xe_np (XE sc) 120 = 2 := rfl
/- method 121: X7_forget -/
def b_X7_forget_0 : List (Nat × Jvm.ClassFile.Instr × Nat) := [(0, .aload_n 0, 1), (1, .iconst 0, 1), (2, .putfield 24, 3), (5, .aload_n 0, 1), (6, .iconst 0, 1), (7, .putfield 28, 3), (10, .return_, 1)]
set_option maxRecDepth 20000 in
theorem k_X7_forget_0 {sc : xm_Sc} : xm_bok (xe_cy (XE sc) 121) b_X7_forget_0 := by show xm_bok cX7_forget _; unfold xm_bok; decide +kernel
set_option maxRecDepth 20000 in
theorem cn_121 {sc : xm_Sc} : xe_cn (XE sc) 121 = 7 := rfl
set_option maxRecDepth 20000 in
theorem ml_121 {sc : xm_Sc} : xe_ml (XE sc) 121 = 1 := rfl
set_option maxRecDepth 20000 in
theorem ry_121 {sc : xm_Sc} : xe_ry (XE sc) 121 = none := rfl
set_option maxRecDepth 20000 in
theorem is_121 {sc : xm_Sc} : xe_is (XE sc) 121 = false := rfl
set_option maxRecDepth 20000 in
theorem np_121 {sc : xm_Sc} : xe_np (XE sc) 121 = 0 := rfl
/- method 122: X7_leaf -/
def b_X7_leaf_0 : List (Nat × Jvm.ClassFile.Instr × Nat) := [(0, .aload_n 0, 1), (1, .getfield 21, 3), (4, .iconst 0, 1), (5, .iload_n 1, 1), (6, .iastore, 1), (7, .iconst 1, 1), (8, .istore 4, 2)]
set_option maxRecDepth 20000 in
theorem k_X7_leaf_0 {sc : xm_Sc} : xm_bok (xe_cy (XE sc) 122) b_X7_leaf_0 := by show xm_bok cX7_leaf _; unfold xm_bok; decide +kernel
def b_X7_leaf_10 : List (Nat × Jvm.ClassFile.Instr × Nat) := [(10, .iload 4, 2), (12, .bipush 16, 2), (14, .if_icmp .ge 17, 3)]
set_option maxRecDepth 20000 in
theorem k_X7_leaf_10 {sc : xm_Sc} : xm_bok (xe_cy (XE sc) 122) b_X7_leaf_10 := by show xm_bok cX7_leaf _; unfold xm_bok; decide +kernel
def b_X7_leaf_17 : List (Nat × Jvm.ClassFile.Instr × Nat) := [(17, .aload_n 0, 1), (18, .getfield 21, 3), (21, .iload 4, 2), (23, .iconst 0, 1), (24, .iastore, 1), (25, .iinc 4 1, 3), (28, .goto (-18), 3)]
set_option maxRecDepth 20000 in
theorem k_X7_leaf_17 {sc : xm_Sc} : xm_bok (xe_cy (XE sc) 122) b_X7_leaf_17 := by show xm_bok cX7_leaf _; unfold xm_bok; decide +kernel
def b_X7_leaf_31 : List (Nat × Jvm.ClassFile.Instr × Nat) := [(31, .aload_n 0, 1), (32, .getstatic 98, 3), (35, .iconst 0, 1), (36, .aload_n 2, 1), (37, .iload_n 3, 1), (38, .invokevirtual 82, 3)]
set_option maxRecDepth 20000 in
theorem k_X7_leaf_31 {sc : xm_Sc} : xm_bok (xe_cy (XE sc) 122) b_X7_leaf_31 := by show xm_bok cX7_leaf _; unfold xm_bok; decide +kernel
def b_X7_leaf_41 : List (Nat × Jvm.ClassFile.Instr × Nat) := [(41, .return_, 1)]
set_option maxRecDepth 20000 in
theorem k_X7_leaf_41 {sc : xm_Sc} : xm_bok (xe_cy (XE sc) 122) b_X7_leaf_41 := by show xm_bok cX7_leaf _; unfold xm_bok; decide +kernel
set_option maxRecDepth 20000 in
theorem cn_122 {sc : xm_Sc} : xe_cn (XE sc) 122 = 7 := rfl
set_option maxRecDepth 20000 in
theorem ml_122 {sc : xm_Sc} : xe_ml (XE sc) 122 = 5 := rfl
set_option maxRecDepth 20000 in
theorem ry_122 {sc : xm_Sc} : xe_ry (XE sc) 122 = none := rfl
set_option maxRecDepth 20000 in
theorem is_122 {sc : xm_Sc} : xe_is (XE sc) 122 = false := rfl
set_option maxRecDepth 20000 in
theorem np_122 {sc : xm_Sc} : xe_np (XE sc) 122 = 3 := rfl
/- method 123: X7_nodeWord -/
def b_X7_nodeWord_0 : List (Nat × Jvm.ClassFile.Instr × Nat) := [(0, .aload_n 0, 1), (1, .getfield 24, 3), (4, .ifCond .ne 37, 3)]
set_option maxRecDepth 20000 in
theorem k_X7_nodeWord_0 {sc : xm_Sc} : xm_bok (xe_cy (XE sc) 123) b_X7_nodeWord_0 := by show xm_bok cX7_nodeWord _; unfold xm_bok; decide +kernel
def b_X7_nodeWord_7 : List (Nat × Jvm.ClassFile.Instr × Nat) := [(7, .aload_n 0, 1), (8, .invokevirtual 31, 3)]
set_option maxRecDepth 20000 in
theorem k_X7_nodeWord_7 {sc : xm_Sc} : xm_bok (xe_cy (XE sc) 123) b_X7_nodeWord_7 := by show xm_bok cX7_nodeWord _; unfold xm_bok; decide +kernel
def b_X7_nodeWord_11 : List (Nat × Jvm.ClassFile.Instr × Nat) := [(11, .iconst 0, 1), (12, .istore 4, 2)]
set_option maxRecDepth 20000 in
theorem k_X7_nodeWord_11 {sc : xm_Sc} : xm_bok (xe_cy (XE sc) 123) b_X7_nodeWord_11 := by show xm_bok cX7_nodeWord _; unfold xm_bok; decide +kernel
def b_X7_nodeWord_14 : List (Nat × Jvm.ClassFile.Instr × Nat) := [(14, .iload 4, 2), (16, .aload_n 1, 1), (17, .getfield 34, 3), (20, .if_icmp .ge 16, 3)]
set_option maxRecDepth 20000 in
theorem k_X7_nodeWord_14 {sc : xm_Sc} : xm_bok (xe_cy (XE sc) 123) b_X7_nodeWord_14 := by show xm_bok cX7_nodeWord _; unfold xm_bok; decide +kernel
def b_X7_nodeWord_23 : List (Nat × Jvm.ClassFile.Instr × Nat) := [(23, .aload_n 0, 1), (24, .aload_n 1, 1), (25, .iload 4, 2), (27, .invokevirtual 40, 3)]
set_option maxRecDepth 20000 in
theorem k_X7_nodeWord_23 {sc : xm_Sc} : xm_bok (xe_cy (XE sc) 123) b_X7_nodeWord_23 := by show xm_bok cX7_nodeWord _; unfold xm_bok; decide +kernel
def b_X7_nodeWord_30 : List (Nat × Jvm.ClassFile.Instr × Nat) := [(30, .iinc 4 1, 3), (33, .goto (-19), 3)]
set_option maxRecDepth 20000 in
theorem k_X7_nodeWord_30 {sc : xm_Sc} : xm_bok (xe_cy (XE sc) 123) b_X7_nodeWord_30 := by show xm_bok cX7_nodeWord _; unfold xm_bok; decide +kernel
def b_X7_nodeWord_36 : List (Nat × Jvm.ClassFile.Instr × Nat) := [(36, .aload_n 0, 1), (37, .iconst 1, 1), (38, .putfield 24, 3)]
set_option maxRecDepth 20000 in
theorem k_X7_nodeWord_36 {sc : xm_Sc} : xm_bok (xe_cy (XE sc) 123) b_X7_nodeWord_36 := by show xm_bok cX7_nodeWord _; unfold xm_bok; decide +kernel
def b_X7_nodeWord_41 : List (Nat × Jvm.ClassFile.Instr × Nat) := [(41, .aload_n 0, 1), (42, .getfield 9, 3), (45, .bipush 8, 2), (47, .iload_n 2, 1), (48, .imul, 1), (49, .iload_n 3, 1), (50, .iadd, 1), (51, .iaload, 1), (52, .i2l, 1), (53, .ldc2_w 44, 3), (56, .land, 1), (57, .lreturn, 1)]
set_option maxRecDepth 20000 in
theorem k_X7_nodeWord_41 {sc : xm_Sc} : xm_bok (xe_cy (XE sc) 123) b_X7_nodeWord_41 := by show xm_bok cX7_nodeWord _; unfold xm_bok; decide +kernel
set_option maxRecDepth 20000 in
theorem cn_123 {sc : xm_Sc} : xe_cn (XE sc) 123 = 7 := rfl
set_option maxRecDepth 20000 in
theorem ml_123 {sc : xm_Sc} : xe_ml (XE sc) 123 = 5 := rfl
set_option maxRecDepth 20000 in
theorem ry_123 {sc : xm_Sc} : xe_ry (XE sc) 123 = (some .long) := rfl
set_option maxRecDepth 20000 in
theorem is_123 {sc : xm_Sc} : xe_is (XE sc) 123 = false := rfl
set_option maxRecDepth 20000 in
theorem np_123 {sc : xm_Sc} : xe_np (XE sc) 123 = 3 := rfl
/- method 124: X7_turn -/
def b_X7_turn_0 : List (Nat × Jvm.ClassFile.Instr × Nat) := [(0, .iload_n 0, 1), (1, .iload_n 1, 1), (2, .iushr, 1), (3, .iload_n 0, 1), (4, .bipush 32, 2), (6, .iload_n 1, 1), (7, .isub, 1), (8, .ishl, 1), (9, .ior, 1), (10, .ireturn, 1)]
set_option maxRecDepth 20000 in
theorem k_X7_turn_0 {sc : xm_Sc} : xm_bok (xe_cy (XE sc) 124) b_X7_turn_0 := by show xm_bok cX7_turn _; unfold xm_bok; decide +kernel
set_option maxRecDepth 20000 in
theorem cn_124 {sc : xm_Sc} : xe_cn (XE sc) 124 = 7 := rfl
set_option maxRecDepth 20000 in
theorem ml_124 {sc : xm_Sc} : xe_ml (XE sc) 124 = 2 := rfl
set_option maxRecDepth 20000 in
theorem ry_124 {sc : xm_Sc} : xe_ry (XE sc) 124 = (some .int) := rfl
set_option maxRecDepth 20000 in
theorem is_124 {sc : xm_Sc} : xe_is (XE sc) 124 = true := rfl
set_option maxRecDepth 20000 in
theorem np_124 {sc : xm_Sc} : xe_np (XE sc) 124 = 2 := rfl
/- method 125: X7_typeWord -/
def b_X7_typeWord_0 : List (Nat × Jvm.ClassFile.Instr × Nat) := [(0, .aload_n 0, 1), (1, .getfield 28, 3), (4, .ifCond .ne 51, 3)]
set_option maxRecDepth 20000 in
theorem k_X7_typeWord_0 {sc : xm_Sc} : xm_bok (xe_cy (XE sc) 125) b_X7_typeWord_0 := by show xm_bok cX7_typeWord _; unfold xm_bok; decide +kernel
def b_X7_typeWord_7 : List (Nat × Jvm.ClassFile.Instr × Nat) := [(7, .aload_n 0, 1), (8, .invokevirtual 31, 3)]
set_option maxRecDepth 20000 in
theorem k_X7_typeWord_7 {sc : xm_Sc} : xm_bok (xe_cy (XE sc) 125) b_X7_typeWord_7 := by show xm_bok cX7_typeWord _; unfold xm_bok; decide +kernel
def b_X7_typeWord_11 : List (Nat × Jvm.ClassFile.Instr × Nat) := [(11, .iconst 0, 1), (12, .istore 4, 2)]
set_option maxRecDepth 20000 in
theorem k_X7_typeWord_11 {sc : xm_Sc} : xm_bok (xe_cy (XE sc) 125) b_X7_typeWord_11 := by show xm_bok cX7_typeWord _; unfold xm_bok; decide +kernel
def b_X7_typeWord_14 : List (Nat × Jvm.ClassFile.Instr × Nat) := [(14, .iload 4, 2), (16, .aload_n 1, 1), (17, .getfield 46, 3), (20, .getfield 50, 3), (23, .if_icmp .ge 27, 3)]
set_option maxRecDepth 20000 in
theorem k_X7_typeWord_14 {sc : xm_Sc} : xm_bok (xe_cy (XE sc) 125) b_X7_typeWord_14 := by show xm_bok cX7_typeWord _; unfold xm_bok; decide +kernel
def b_X7_typeWord_26 : List (Nat × Jvm.ClassFile.Instr × Nat) := [(26, .iload 4, 2), (28, .sipush 2832, 3), (31, .if_icmp .ge 19, 3)]
set_option maxRecDepth 20000 in
theorem k_X7_typeWord_26 {sc : xm_Sc} : xm_bok (xe_cy (XE sc) 125) b_X7_typeWord_26 := by show xm_bok cX7_typeWord _; unfold xm_bok; decide +kernel
def b_X7_typeWord_34 : List (Nat × Jvm.ClassFile.Instr × Nat) := [(34, .aload_n 0, 1), (35, .aload_n 1, 1), (36, .getfield 46, 3), (39, .iload 4, 2), (41, .invokevirtual 53, 3)]
set_option maxRecDepth 20000 in
theorem k_X7_typeWord_34 {sc : xm_Sc} : xm_bok (xe_cy (XE sc) 125) b_X7_typeWord_34 := by show xm_bok cX7_typeWord _; unfold xm_bok; decide +kernel
def b_X7_typeWord_44 : List (Nat × Jvm.ClassFile.Instr × Nat) := [(44, .iinc 4 1, 3), (47, .goto (-33), 3)]
set_option maxRecDepth 20000 in
theorem k_X7_typeWord_44 {sc : xm_Sc} : xm_bok (xe_cy (XE sc) 125) b_X7_typeWord_44 := by show xm_bok cX7_typeWord _; unfold xm_bok; decide +kernel
def b_X7_typeWord_50 : List (Nat × Jvm.ClassFile.Instr × Nat) := [(50, .aload_n 0, 1), (51, .iconst 1, 1), (52, .putfield 28, 3)]
set_option maxRecDepth 20000 in
theorem k_X7_typeWord_50 {sc : xm_Sc} : xm_bok (xe_cy (XE sc) 125) b_X7_typeWord_50 := by show xm_bok cX7_typeWord _; unfold xm_bok; decide +kernel
def b_X7_typeWord_55 : List (Nat × Jvm.ClassFile.Instr × Nat) := [(55, .iload_n 2, 1), (56, .sipush 2832, 3), (59, .if_icmp .ge 22, 3)]
set_option maxRecDepth 20000 in
theorem k_X7_typeWord_55 {sc : xm_Sc} : xm_bok (xe_cy (XE sc) 125) b_X7_typeWord_55 := by show xm_bok cX7_typeWord _; unfold xm_bok; decide +kernel
def b_X7_typeWord_62 : List (Nat × Jvm.ClassFile.Instr × Nat) := [(62, .aload_n 0, 1), (63, .getfield 15, 3), (66, .bipush 8, 2), (68, .iload_n 2, 1), (69, .imul, 1), (70, .iload_n 3, 1), (71, .iadd, 1), (72, .iaload, 1), (73, .i2l, 1), (74, .ldc2_w 44, 3), (77, .land, 1), (78, .goto 4, 3)]
set_option maxRecDepth 20000 in
theorem k_X7_typeWord_62 {sc : xm_Sc} : xm_bok (xe_cy (XE sc) 125) b_X7_typeWord_62 := by show xm_bok cX7_typeWord _; unfold xm_bok; decide +kernel
def b_X7_typeWord_81 : List (Nat × Jvm.ClassFile.Instr × Nat) := [(81, .lconst 0, 1)]
set_option maxRecDepth 20000 in
theorem k_X7_typeWord_81 {sc : xm_Sc} : xm_bok (xe_cy (XE sc) 125) b_X7_typeWord_81 := by show xm_bok cX7_typeWord _; unfold xm_bok; decide +kernel
def b_X7_typeWord_82 : List (Nat × Jvm.ClassFile.Instr × Nat) := [(82, .lreturn, 1)]
set_option maxRecDepth 20000 in
theorem k_X7_typeWord_82 {sc : xm_Sc} : xm_bok (xe_cy (XE sc) 125) b_X7_typeWord_82 := by show xm_bok cX7_typeWord _; unfold xm_bok; decide +kernel
set_option maxRecDepth 20000 in
theorem cn_125 {sc : xm_Sc} : xe_cn (XE sc) 125 = 7 := rfl
set_option maxRecDepth 20000 in
theorem ml_125 {sc : xm_Sc} : xe_ml (XE sc) 125 = 5 := rfl
set_option maxRecDepth 20000 in
theorem ry_125 {sc : xm_Sc} : xe_ry (XE sc) 125 = (some .long) := rfl
set_option maxRecDepth 20000 in
theorem is_125 {sc : xm_Sc} : xe_is (XE sc) 125 = false := rfl
set_option maxRecDepth 20000 in
theorem np_125 {sc : xm_Sc} : xe_np (XE sc) 125 = 3 := rfl
set_option maxRecDepth 20000 in
theorem fl_7_9 {sc : xm_Sc} : xe_fl (XE sc) 7 9 = some (7, 0) := rfl
set_option maxRecDepth 20000 in
theorem fl_7_15 {sc : xm_Sc} : xe_fl (XE sc) 7 15 = some (7, 1) := rfl
set_option maxRecDepth 20000 in
theorem fl_7_18 {sc : xm_Sc} : xe_fl (XE sc) 7 18 = some (7, 2) := rfl
set_option maxRecDepth 20000 in
theorem fl_7_21 {sc : xm_Sc} : xe_fl (XE sc) 7 21 = some (7, 3) := rfl
set_option maxRecDepth 20000 in
theorem fl_7_24 {sc : xm_Sc} : xe_fl (XE sc) 7 24 = some (7, 5) := rfl
set_option maxRecDepth 20000 in
theorem fl_7_28 {sc : xm_Sc} : xe_fl (XE sc) 7 28 = some (7, 6) := rfl
set_option maxRecDepth 20000 in
theorem fl_7_34 {sc : xm_Sc} : xe_fl (XE sc) 7 34 = some (6, 0) := rfl
set_option maxRecDepth 20000 in
theorem fl_7_46 {sc : xm_Sc} : xe_fl (XE sc) 7 46 = some (6, 13) := rfl
set_option maxRecDepth 20000 in
theorem fl_7_50 {sc : xm_Sc} : xe_fl (XE sc) 7 50 = some (10, 0) := rfl
set_option maxRecDepth 20000 in
theorem fl_7_57 {sc : xm_Sc} : xe_fl (XE sc) 7 57 = some (7, 4) := rfl
set_option maxRecDepth 20000 in
theorem fl_7_64 {sc : xm_Sc} : xe_fl (XE sc) 7 64 = some (6, 1) := rfl
set_option maxRecDepth 20000 in
theorem fl_7_67 {sc : xm_Sc} : xe_fl (XE sc) 7 67 = some (6, 11) := rfl
set_option maxRecDepth 20000 in
theorem fl_7_70 {sc : xm_Sc} : xe_fl (XE sc) 7 70 = some (6, 4) := rfl
set_option maxRecDepth 20000 in
theorem fl_7_79 {sc : xm_Sc} : xe_fl (XE sc) 7 79 = some (6, 2) := rfl
set_option maxRecDepth 20000 in
theorem fl_7_86 {sc : xm_Sc} : xe_fl (XE sc) 7 86 = some (6, 3) := rfl
set_option maxRecDepth 20000 in
theorem fl_7_89 {sc : xm_Sc} : xe_fl (XE sc) 7 89 = some (10, 1) := rfl
set_option maxRecDepth 20000 in
theorem fl_7_92 {sc : xm_Sc} : xe_fl (XE sc) 7 92 = some (10, 2) := rfl
set_option maxRecDepth 20000 in
theorem fl_7_95 {sc : xm_Sc} : xe_fl (XE sc) 7 95 = some (10, 3) := rfl
set_option maxRecDepth 20000 in
theorem kl_7_44 {sc : xm_Sc} : xe_kL (XE sc) 7 44 = some 4294967295 := rfl
set_option maxRecDepth 20000 in
theorem gs_7_98 {sc : xm_Sc} : xe_gs (XE sc) 7 98 = some 202 := rfl
set_option maxRecDepth 20000 in
theorem gs_7_105 {sc : xm_Sc} : xe_gs (XE sc) 7 105 = some 203 := rfl
set_option maxRecDepth 20000 in
theorem lk_7_31 {sc : xm_Sc} : xe_lk (XE sc) 7 31 = some 118 := rfl
set_option maxRecDepth 20000 in
theorem lk_7_40 {sc : xm_Sc} : xe_lk (XE sc) 7 40 = some 119 := rfl
set_option maxRecDepth 20000 in
theorem lk_7_53 {sc : xm_Sc} : xe_lk (XE sc) 7 53 = some 120 := rfl
set_option maxRecDepth 20000 in
theorem lk_7_60 {sc : xm_Sc} : xe_lk (XE sc) 7 60 = some 122 := rfl
set_option maxRecDepth 20000 in
theorem lk_7_73 {sc : xm_Sc} : xe_lk (XE sc) 7 73 = some 330 := rfl
set_option maxRecDepth 20000 in
theorem lk_7_82 {sc : xm_Sc} : xe_lk (XE sc) 7 82 = some 117 := rfl
set_option maxRecDepth 20000 in
theorem lk_7_101 {sc : xm_Sc} : xe_lk (XE sc) 7 101 = some 124 := rfl
