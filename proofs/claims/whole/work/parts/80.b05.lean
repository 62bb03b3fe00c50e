/- method 89: X5_areSame -/
def b_X5_areSame_0 : List (Nat × Jvm.ClassFile.Instr × Nat) := [(0, .aload_n 0, 1), (1, .getfield 55, 3), (4, .iload_n 1, 1), (5, .iaload, 1), (6, .aload_n 0, 1), (7, .getfield 55, 3), (10, .iload_n 2, 1), (11, .iaload, 1), (12, .if_icmp .eq 5, 3)]
set_option maxRecDepth 20000 in
theorem k_X5_areSame_0 {sc : xm_Sc} : xm_bok (xe_cy (XE sc) 89) b_X5_areSame_0 := by show xm_bok cX5_areSame _; unfold xm_bok; decide +kernel
def b_X5_areSame_15 : List (Nat × Jvm.ClassFile.Instr × Nat) := [(15, .iconst 0, 1), (16, .ireturn, 1)]
set_option maxRecDepth 20000 in
theorem k_X5_areSame_15 {sc : xm_Sc} : xm_bok (xe_cy (XE sc) 89) b_X5_areSame_15 := by show xm_bok cX5_areSame _; unfold xm_bok; decide +kernel
def b_X5_areSame_17 : List (Nat × Jvm.ClassFile.Instr × Nat) := [(17, .aload_n 0, 1), (18, .getfield 55, 3), (21, .iload_n 1, 1), (22, .iaload, 1), (23, .bipush 11, 2), (25, .if_icmp .eq 84, 3)]
set_option maxRecDepth 20000 in
theorem k_X5_areSame_17 {sc : xm_Sc} : xm_bok (xe_cy (XE sc) 89) b_X5_areSame_17 := by show xm_bok cX5_areSame _; unfold xm_bok; decide +kernel
def b_X5_areSame_28 : List (Nat × Jvm.ClassFile.Instr × Nat) := [(28, .aload_n 0, 1), (29, .getfield 47, 3), (32, .iload_n 1, 1), (33, .iaload, 1), (34, .aload_n 0, 1), (35, .getfield 47, 3), (38, .iload_n 2, 1), (39, .iaload, 1), (40, .if_icmp .ne 67, 3)]
set_option maxRecDepth 20000 in
theorem k_X5_areSame_28 {sc : xm_Sc} : xm_bok (xe_cy (XE sc) 89) b_X5_areSame_28 := by show xm_bok cX5_areSame _; unfold xm_bok; decide +kernel
def b_X5_areSame_43 : List (Nat × Jvm.ClassFile.Instr × Nat) := [(43, .aload_n 0, 1), (44, .getfield 52, 3), (47, .iload_n 1, 1), (48, .iaload, 1), (49, .aload_n 0, 1), (50, .getfield 52, 3), (53, .iload_n 2, 1), (54, .iaload, 1), (55, .if_icmp .ne 52, 3)]
set_option maxRecDepth 20000 in
theorem k_X5_areSame_43 {sc : xm_Sc} : xm_bok (xe_cy (XE sc) 89) b_X5_areSame_43 := by show xm_bok cX5_areSame _; unfold xm_bok; decide +kernel
def b_X5_areSame_58 : List (Nat × Jvm.ClassFile.Instr × Nat) := [(58, .aload_n 0, 1), (59, .getfield 87, 3), (62, .iload_n 1, 1), (63, .iaload, 1), (64, .aload_n 0, 1), (65, .getfield 87, 3), (68, .iload_n 2, 1), (69, .iaload, 1), (70, .if_icmp .ne 37, 3)]
set_option maxRecDepth 20000 in
theorem k_X5_areSame_58 {sc : xm_Sc} : xm_bok (xe_cy (XE sc) 89) b_X5_areSame_58 := by show xm_bok cX5_areSame _; unfold xm_bok; decide +kernel
def b_X5_areSame_73 : List (Nat × Jvm.ClassFile.Instr × Nat) := [(73, .aload_n 0, 1), (74, .getfield 90, 3), (77, .iload_n 1, 1), (78, .iaload, 1), (79, .aload_n 0, 1), (80, .getfield 90, 3), (83, .iload_n 2, 1), (84, .iaload, 1), (85, .if_icmp .ne 22, 3)]
set_option maxRecDepth 20000 in
theorem k_X5_areSame_73 {sc : xm_Sc} : xm_bok (xe_cy (XE sc) 89) b_X5_areSame_73 := by show xm_bok cX5_areSame _; unfold xm_bok; decide +kernel
def b_X5_areSame_88 : List (Nat × Jvm.ClassFile.Instr × Nat) := [(88, .aload_n 0, 1), (89, .getfield 93, 3), (92, .iload_n 1, 1), (93, .iaload, 1), (94, .aload_n 0, 1), (95, .getfield 93, 3), (98, .iload_n 2, 1), (99, .iaload, 1), (100, .if_icmp .ne 7, 3)]
set_option maxRecDepth 20000 in
theorem k_X5_areSame_88 {sc : xm_Sc} : xm_bok (xe_cy (XE sc) 89) b_X5_areSame_88 := by show xm_bok cX5_areSame _; unfold xm_bok; decide +kernel
def b_X5_areSame_103 : List (Nat × Jvm.ClassFile.Instr × Nat) := [(103, .iconst 1, 1), (104, .goto 4, 3)]
set_option maxRecDepth 20000 in
theorem k_X5_areSame_103 {sc : xm_Sc} : xm_bok (xe_cy (XE sc) 89) b_X5_areSame_103 := by show xm_bok cX5_areSame _; unfold xm_bok; decide +kernel
def b_X5_areSame_107 : List (Nat × Jvm.ClassFile.Instr × Nat) := [(107, .iconst 0, 1)]
set_option maxRecDepth 20000 in
theorem k_X5_areSame_107 {sc : xm_Sc} : xm_bok (xe_cy (XE sc) 89) b_X5_areSame_107 := by show xm_bok cX5_areSame _; unfold xm_bok; decide +kernel
def b_X5_areSame_108 : List (Nat × Jvm.ClassFile.Instr × Nat) := [(108, .ireturn, 1)]
set_option maxRecDepth 20000 in
theorem k_X5_areSame_108 {sc : xm_Sc} : xm_bok (xe_cy (XE sc) 89) b_X5_areSame_108 := by show xm_bok cX5_areSame _; unfold xm_bok; decide +kernel
def b_X5_areSame_109 : List (Nat × Jvm.ClassFile.Instr × Nat) := [(109, .iconst 0, 1), (110, .istore_n 3, 1)]
set_option maxRecDepth 20000 in
theorem k_X5_areSame_109 {sc : xm_Sc} : xm_bok (xe_cy (XE sc) 89) b_X5_areSame_109 := by show xm_bok cX5_areSame _; unfold xm_bok; decide +kernel
def b_X5_areSame_111 : List (Nat × Jvm.ClassFile.Instr × Nat) := [(111, .iload_n 3, 1), (112, .bipush 8, 2), (114, .if_icmp .ge 40, 3)]
set_option maxRecDepth 20000 in
theorem k_X5_areSame_111 {sc : xm_Sc} : xm_bok (xe_cy (XE sc) 89) b_X5_areSame_111 := by show xm_bok cX5_areSame _; unfold xm_bok; decide +kernel
def b_X5_areSame_117 : List (Nat × Jvm.ClassFile.Instr × Nat) := [(117, .aload_n 0, 1), (118, .getfield 84, 3), (121, .aload_n 0, 1), (122, .getfield 87, 3), (125, .iload_n 1, 1), (126, .iaload, 1), (127, .iload_n 3, 1), (128, .iadd, 1), (129, .iaload, 1), (130, .aload_n 0, 1), (131, .getfield 84, 3), (134, .aload_n 0, 1), (135, .getfield 87, 3), (138, .iload_n 2, 1), (139, .iaload, 1), (140, .iload_n 3, 1), (141, .iadd, 1), (142, .iaload, 1), (143, .if_icmp .eq 5, 3)]
set_option maxRecDepth 20000 in
theorem k_X5_areSame_117 {sc : xm_Sc} : xm_bok (xe_cy (XE sc) 89) b_X5_areSame_117 := by show xm_bok cX5_areSame _; unfold xm_bok; decide +kernel
def b_X5_areSame_146 : List (Nat × Jvm.ClassFile.Instr × Nat) := [(146, .iconst 0, 1), (147, .ireturn, 1)]
set_option maxRecDepth 20000 in
theorem k_X5_areSame_146 {sc : xm_Sc} : xm_bok (xe_cy (XE sc) 89) b_X5_areSame_146 := by show xm_bok cX5_areSame _; unfold xm_bok; decide +kernel
def b_X5_areSame_148 : List (Nat × Jvm.ClassFile.Instr × Nat) := [(148, .iinc 3 1, 3), (151, .goto (-40), 3)]
set_option maxRecDepth 20000 in
theorem k_X5_areSame_148 {sc : xm_Sc} : xm_bok (xe_cy (XE sc) 89) b_X5_areSame_148 := by show xm_bok cX5_areSame _; unfold xm_bok; decide +kernel
def b_X5_areSame_154 : List (Nat × Jvm.ClassFile.Instr × Nat) := [(154, .iconst 1, 1), (155, .ireturn, 1)]
set_option maxRecDepth 20000 in
theorem k_X5_areSame_154 {sc : xm_Sc} : xm_bok (xe_cy (XE sc) 89) b_X5_areSame_154 := by show xm_bok cX5_areSame _; unfold xm_bok; decide +kernel
set_option maxRecDepth 20000 in
theorem cn_89 {sc : xm_Sc} : xe_cn (XE sc) 89 = 5 := rfl
set_option maxRecDepth 20000 in
theorem ml_89 {sc : xm_Sc} : xe_ml (XE sc) 89 = 4 := rfl
set_option maxRecDepth 20000 in
theorem ry_89 {sc : xm_Sc} : xe_ry (XE sc) 89 = (some .boolean) := rfl
set_option maxRecDepth 20000 in
theorem is_89 {sc : xm_Sc} : xe_is (XE sc) 89 = true := rfl
set_option maxRecDepth 20000 in
theorem np_89 {sc : xm_Sc} : xe_np (XE sc) 89 = 3 := rfl
/- method 90: X5_hidesWell -/
def b_X5_hidesWell_0 : List (Nat × Jvm.ClassFile.Instr × Nat) := [(0, .aload_n 0, 1), (1, .getfield 47, 3), (4, .iload_n 1, 1), (5, .iaload, 1), (6, .istore_n 2, 1), (7, .aload_n 0, 1), (8, .getfield 52, 3), (11, .iload_n 1, 1), (12, .iaload, 1), (13, .istore_n 3, 1), (14, .iload_n 2, 1), (15, .ifCond .lt 18, 3)]
set_option maxRecDepth 20000 in
theorem k_X5_hidesWell_0 {sc : xm_Sc} : xm_bok (xe_cy (XE sc) 90) b_X5_hidesWell_0 := by show xm_bok cX5_hidesWell _; unfold xm_bok; decide +kernel
def b_X5_hidesWell_18 : List (Nat × Jvm.ClassFile.Instr × Nat) := [(18, .aload_n 0, 1), (19, .getfield 55, 3), (22, .iload_n 2, 1), (23, .iaload, 1), (24, .bipush 11, 2), (26, .if_icmp .ne 7, 3)]
set_option maxRecDepth 20000 in
theorem k_X5_hidesWell_18 {sc : xm_Sc} : xm_bok (xe_cy (XE sc) 90) b_X5_hidesWell_18 := by show xm_bok cX5_hidesWell _; unfold xm_bok; decide +kernel
def b_X5_hidesWell_29 : List (Nat × Jvm.ClassFile.Instr × Nat) := [(29, .iconst 1, 1), (30, .goto 4, 3)]
set_option maxRecDepth 20000 in
theorem k_X5_hidesWell_29 {sc : xm_Sc} : xm_bok (xe_cy (XE sc) 90) b_X5_hidesWell_29 := by show xm_bok cX5_hidesWell _; unfold xm_bok; decide +kernel
def b_X5_hidesWell_33 : List (Nat × Jvm.ClassFile.Instr × Nat) := [(33, .iconst 0, 1)]
set_option maxRecDepth 20000 in
theorem k_X5_hidesWell_33 {sc : xm_Sc} : xm_bok (xe_cy (XE sc) 90) b_X5_hidesWell_33 := by show xm_bok cX5_hidesWell _; unfold xm_bok; decide +kernel
def b_X5_hidesWell_34 : List (Nat × Jvm.ClassFile.Instr × Nat) := [(34, .istore 4, 2), (36, .iload_n 3, 1), (37, .ifCond .lt 18, 3)]
set_option maxRecDepth 20000 in
theorem k_X5_hidesWell_34 {sc : xm_Sc} : xm_bok (xe_cy (XE sc) 90) b_X5_hidesWell_34 := by show xm_bok cX5_hidesWell _; unfold xm_bok; decide +kernel
def b_X5_hidesWell_40 : List (Nat × Jvm.ClassFile.Instr × Nat) := [(40, .aload_n 0, 1), (41, .getfield 55, 3), (44, .iload_n 3, 1), (45, .iaload, 1), (46, .bipush 11, 2), (48, .if_icmp .ne 7, 3)]
set_option maxRecDepth 20000 in
theorem k_X5_hidesWell_40 {sc : xm_Sc} : xm_bok (xe_cy (XE sc) 90) b_X5_hidesWell_40 := by show xm_bok cX5_hidesWell _; unfold xm_bok; decide +kernel
def b_X5_hidesWell_51 : List (Nat × Jvm.ClassFile.Instr × Nat) := [(51, .iconst 1, 1), (52, .goto 4, 3)]
set_option maxRecDepth 20000 in
theorem k_X5_hidesWell_51 {sc : xm_Sc} : xm_bok (xe_cy (XE sc) 90) b_X5_hidesWell_51 := by show xm_bok cX5_hidesWell _; unfold xm_bok; decide +kernel
def b_X5_hidesWell_55 : List (Nat × Jvm.ClassFile.Instr × Nat) := [(55, .iconst 0, 1)]
set_option maxRecDepth 20000 in
theorem k_X5_hidesWell_55 {sc : xm_Sc} : xm_bok (xe_cy (XE sc) 90) b_X5_hidesWell_55 := by show xm_bok cX5_hidesWell _; unfold xm_bok; decide +kernel
def b_X5_hidesWell_56 : List (Nat × Jvm.ClassFile.Instr × Nat) := [(56, .istore 5, 2), (58, .aload_n 0, 1), (59, .getfield 55, 3), (62, .iload_n 1, 1), (63, .iaload, 1), (64, .iconst 1, 1), (65, .if_icmp .ne 19, 3)]
set_option maxRecDepth 20000 in
theorem k_X5_hidesWell_56 {sc : xm_Sc} : xm_bok (xe_cy (XE sc) 90) b_X5_hidesWell_56 := by show xm_bok cX5_hidesWell _; unfold xm_bok; decide +kernel
def b_X5_hidesWell_68 : List (Nat × Jvm.ClassFile.Instr × Nat) := [(68, .iload 4, 2), (70, .ifCond .eq 8, 3)]
set_option maxRecDepth 20000 in
theorem k_X5_hidesWell_68 {sc : xm_Sc} : xm_bok (xe_cy (XE sc) 90) b_X5_hidesWell_68 := by show xm_bok cX5_hidesWell _; unfold xm_bok; decide +kernel
def b_X5_hidesWell_73 : List (Nat × Jvm.ClassFile.Instr × Nat) := [(73, .iload 5, 2), (75, .ifCond .ne 7, 3)]
set_option maxRecDepth 20000 in
theorem k_X5_hidesWell_73 {sc : xm_Sc} : xm_bok (xe_cy (XE sc) 90) b_X5_hidesWell_73 := by show xm_bok cX5_hidesWell _; unfold xm_bok; decide +kernel
def b_X5_hidesWell_78 : List (Nat × Jvm.ClassFile.Instr × Nat) := [(78, .iconst 1, 1), (79, .goto 4, 3)]
set_option maxRecDepth 20000 in
theorem k_X5_hidesWell_78 {sc : xm_Sc} : xm_bok (xe_cy (XE sc) 90) b_X5_hidesWell_78 := by show xm_bok cX5_hidesWell _; unfold xm_bok; decide +kernel
def b_X5_hidesWell_82 : List (Nat × Jvm.ClassFile.Instr × Nat) := [(82, .iconst 0, 1)]
set_option maxRecDepth 20000 in
theorem k_X5_hidesWell_82 {sc : xm_Sc} : xm_bok (xe_cy (XE sc) 90) b_X5_hidesWell_82 := by show xm_bok cX5_hidesWell _; unfold xm_bok; decide +kernel
def b_X5_hidesWell_83 : List (Nat × Jvm.ClassFile.Instr × Nat) := [(83, .ireturn, 1)]
set_option maxRecDepth 20000 in
theorem k_X5_hidesWell_83 {sc : xm_Sc} : xm_bok (xe_cy (XE sc) 90) b_X5_hidesWell_83 := by show xm_bok cX5_hidesWell _; unfold xm_bok; decide +kernel
def b_X5_hidesWell_84 : List (Nat × Jvm.ClassFile.Instr × Nat) := [(84, .iload 4, 2), (86, .ifCond .ne 12, 3)]
set_option maxRecDepth 20000 in
theorem k_X5_hidesWell_84 {sc : xm_Sc} : xm_bok (xe_cy (XE sc) 90) b_X5_hidesWell_84 := by show xm_bok cX5_hidesWell _; unfold xm_bok; decide +kernel
def b_X5_hidesWell_89 : List (Nat × Jvm.ClassFile.Instr × Nat) := [(89, .iload 5, 2), (91, .ifCond .ne 7, 3)]
set_option maxRecDepth 20000 in
theorem k_X5_hidesWell_89 {sc : xm_Sc} : xm_bok (xe_cy (XE sc) 90) b_X5_hidesWell_89 := by show xm_bok cX5_hidesWell _; unfold xm_bok; decide +kernel
def b_X5_hidesWell_94 : List (Nat × Jvm.ClassFile.Instr × Nat) := [(94, .iconst 1, 1), (95, .goto 4, 3)]
set_option maxRecDepth 20000 in
theorem k_X5_hidesWell_94 {sc : xm_Sc} : xm_bok (xe_cy (XE sc) 90) b_X5_hidesWell_94 := by show xm_bok cX5_hidesWell _; unfold xm_bok; decide +kernel
def b_X5_hidesWell_98 : List (Nat × Jvm.ClassFile.Instr × Nat) := [(98, .iconst 0, 1)]
set_option maxRecDepth 20000 in
theorem k_X5_hidesWell_98 {sc : xm_Sc} : xm_bok (xe_cy (XE sc) 90) b_X5_hidesWell_98 := by show xm_bok cX5_hidesWell _; unfold xm_bok; decide +kernel
def b_X5_hidesWell_99 : List (Nat × Jvm.ClassFile.Instr × Nat) := [(99, .ireturn, 1)]
set_option maxRecDepth 20000 in
theorem k_X5_hidesWell_99 {sc : xm_Sc} : xm_bok (xe_cy (XE sc) 90) b_X5_hidesWell_99 := by show xm_bok cX5_hidesWell _; unfold xm_bok; decide +kernel
set_option maxRecDepth 20000 in
theorem cn_90 {sc : xm_Sc} : xe_cn (XE sc) 90 = 5 := rfl
set_option maxRecDepth 20000 in
theorem ml_90 {sc : xm_Sc} : xe_ml (XE sc) 90 = 6 := rfl
set_option maxRecDepth 20000 in
theorem ry_90 {sc : xm_Sc} : xe_ry (XE sc) 90 = (some .boolean) := rfl
set_option maxRecDepth 20000 in
theorem is_90 {sc : xm_Sc} : xe_is (XE sc) 90 = true := rfl
set_option maxRecDepth 20000 in
theorem np_90 {sc : xm_Sc} : xe_np (XE sc) 90 = 2 := rfl
/- method 91: X5_isCounting -/
def b_X5_isCounting_0 : List (Nat × Jvm.ClassFile.Instr × Nat) := [(0, .aload_n 0, 1), (1, .getfield 44, 3), (4, .iload_n 1, 1), (5, .if_icmp .eq 5, 3)]
set_option maxRecDepth 20000 in
theorem k_X5_isCounting_0 {sc : xm_Sc} : xm_bok (xe_cy (XE sc) 91) b_X5_isCounting_0 := by show xm_bok cX5_isCounting _; unfold xm_bok; decide +kernel
def b_X5_isCounting_8 : List (Nat × Jvm.ClassFile.Instr × Nat) := [(8, .iconst 0, 1), (9, .ireturn, 1)]
set_option maxRecDepth 20000 in
theorem k_X5_isCounting_8 {sc : xm_Sc} : xm_bok (xe_cy (XE sc) 91) b_X5_isCounting_8 := by show xm_bok cX5_isCounting _; unfold xm_bok; decide +kernel
def b_X5_isCounting_10 : List (Nat × Jvm.ClassFile.Instr × Nat) := [(10, .iconst 0, 1), (11, .istore_n 2, 1)]
set_option maxRecDepth 20000 in
theorem k_X5_isCounting_10 {sc : xm_Sc} : xm_bok (xe_cy (XE sc) 91) b_X5_isCounting_10 := by show xm_bok cX5_isCounting _; unfold xm_bok; decide +kernel
def b_X5_isCounting_12 : List (Nat × Jvm.ClassFile.Instr × Nat) := [(12, .iload_n 2, 1), (13, .aload_n 0, 1), (14, .getfield 44, 3), (17, .if_icmp .ge 21, 3)]
set_option maxRecDepth 20000 in
theorem k_X5_isCounting_12 {sc : xm_Sc} : xm_bok (xe_cy (XE sc) 91) b_X5_isCounting_12 := by show xm_bok cX5_isCounting _; unfold xm_bok; decide +kernel
def b_X5_isCounting_20 : List (Nat × Jvm.ClassFile.Instr × Nat) := [(20, .aload_n 0, 1), (21, .getfield 9, 3), (24, .iload_n 2, 1), (25, .iaload, 1), (26, .iload_n 2, 1), (27, .if_icmp .eq 5, 3)]
set_option maxRecDepth 20000 in
theorem k_X5_isCounting_20 {sc : xm_Sc} : xm_bok (xe_cy (XE sc) 91) b_X5_isCounting_20 := by show xm_bok cX5_isCounting _; unfold xm_bok; decide +kernel
def b_X5_isCounting_30 : List (Nat × Jvm.ClassFile.Instr × Nat) := [(30, .iconst 0, 1), (31, .ireturn, 1)]
set_option maxRecDepth 20000 in
theorem k_X5_isCounting_30 {sc : xm_Sc} : xm_bok (xe_cy (XE sc) 91) b_X5_isCounting_30 := by show xm_bok cX5_isCounting _; unfold xm_bok; decide +kernel
def b_X5_isCounting_32 : List (Nat × Jvm.ClassFile.Instr × Nat) := [(32, .iinc 2 1, 3), (35, .goto (-23), 3)]
set_option maxRecDepth 20000 in
theorem k_X5_isCounting_32 {sc : xm_Sc} : xm_bok (xe_cy (XE sc) 91) b_X5_isCounting_32 := by show xm_bok cX5_isCounting _; unfold xm_bok; decide +kernel
def b_X5_isCounting_38 : List (Nat × Jvm.ClassFile.Instr × Nat) := [(38, .iconst 1, 1), (39, .ireturn, 1)]
set_option maxRecDepth 20000 in
theorem k_X5_isCounting_38 {sc : xm_Sc} : xm_bok (xe_cy (XE sc) 91) b_X5_isCounting_38 := by show xm_bok cX5_isCounting _; unfold xm_bok; decide +kernel
set_option maxRecDepth 20000 in
theorem cn_91 {sc : xm_Sc} : xe_cn (XE sc) 91 = 5 := rfl
set_option maxRecDepth 20000 in
theorem ml_91 {sc : xm_Sc} : xe_ml (XE sc) 91 = 3 := rfl
set_option maxRecDepth 20000 in
theorem ry_91 {sc : xm_Sc} : xe_ry (XE sc) 91 = (some .boolean) := rfl
set_option maxRecDepth 20000 in
theorem is_91 {sc : xm_Sc} : xe_is (XE sc) 91 = false := rfl
set_option maxRecDepth 20000 in
theorem np_91 {sc : xm_Sc} : xe_np (XE sc) 91 = 1 := rfl
/- method 92: X5_judge -/
def b_X5_judge_0 : List (Nat × Jvm.ClassFile.Instr × Nat) := [(0, .aload_n 1, 1), (1, .getfield 55, 3), (4, .aload_n 0, 1), (5, .getfield 9, 3), (8, .aload_n 0, 1), (9, .getfield 44, 3), (12, .iconst 1, 1), (13, .isub, 1), (14, .iaload, 1), (15, .iaload, 1), (16, .bipush 11, 2), (18, .if_icmp .ne 6, 3)]
set_option maxRecDepth 20000 in
theorem k_X5_judge_0 {sc : xm_Sc} : xm_bok (xe_cy (XE sc) 92) b_X5_judge_0 := by show xm_bok cX5_judge _; unfold xm_bok; decide +kernel
def b_X5_judge_21 : List (Nat × Jvm.ClassFile.Instr × Nat) := [(21, .bipush 7, 2), (23, .ireturn, 1)]
set_option maxRecDepth 20000 in
theorem k_X5_judge_21 {sc : xm_Sc} : xm_bok (xe_cy (XE sc) 92) b_X5_judge_21 := by show xm_bok cX5_judge _; unfold xm_bok; decide +kernel
def b_X5_judge_24 : List (Nat × Jvm.ClassFile.Instr × Nat) := [(24, .iconst 0, 1), (25, .istore_n 2, 1)]
set_option maxRecDepth 20000 in
theorem k_X5_judge_24 {sc : xm_Sc} : xm_bok (xe_cy (XE sc) 92) b_X5_judge_24 := by show xm_bok cX5_judge _; unfold xm_bok; decide +kernel
def b_X5_judge_26 : List (Nat × Jvm.ClassFile.Instr × Nat) := [(26, .iload_n 2, 1), (27, .aload_n 0, 1), (28, .getfield 44, 3), (31, .if_icmp .ge 25, 3)]
set_option maxRecDepth 20000 in
theorem k_X5_judge_26 {sc : xm_Sc} : xm_bok (xe_cy (XE sc) 92) b_X5_judge_26 := by show xm_bok cX5_judge _; unfold xm_bok; decide +kernel
def b_X5_judge_34 : List (Nat × Jvm.ClassFile.Instr × Nat) := [(34, .aload_n 1, 1), (35, .aload_n 0, 1), (36, .getfield 9, 3), (39, .iload_n 2, 1), (40, .iaload, 1), (41, .invokestatic 58, 3)]
set_option maxRecDepth 20000 in
theorem k_X5_judge_34 {sc : xm_Sc} : xm_bok (xe_cy (XE sc) 92) b_X5_judge_34 := by show xm_bok cX5_judge _; unfold xm_bok; decide +kernel
def b_X5_judge_44 : List (Nat × Jvm.ClassFile.Instr × Nat) := [(44, .ifCond .ne 6, 3)]
set_option maxRecDepth 20000 in
theorem k_X5_judge_44 {sc : xm_Sc} : xm_bok (xe_cy (XE sc) 92) b_X5_judge_44 := by show xm_bok cX5_judge _; unfold xm_bok; decide +kernel
def b_X5_judge_47 : List (Nat × Jvm.ClassFile.Instr × Nat) := [(47, .bipush 7, 2), (49, .ireturn, 1)]
set_option maxRecDepth 20000 in
theorem k_X5_judge_47 {sc : xm_Sc} : xm_bok (xe_cy (XE sc) 92) b_X5_judge_47 := by show xm_bok cX5_judge _; unfold xm_bok; decide +kernel
def b_X5_judge_50 : List (Nat × Jvm.ClassFile.Instr × Nat) := [(50, .iinc 2 1, 3), (53, .goto (-27), 3)]
set_option maxRecDepth 20000 in
theorem k_X5_judge_50 {sc : xm_Sc} : xm_bok (xe_cy (XE sc) 92) b_X5_judge_50 := by show xm_bok cX5_judge _; unfold xm_bok; decide +kernel
def b_X5_judge_56 : List (Nat × Jvm.ClassFile.Instr × Nat) := [(56, .aload_n 0, 1), (57, .getfield 36, 3), (60, .aload_n 1, 1), (61, .aload_n 0, 1), (62, .getfield 9, 3), (65, .aload_n 0, 1), (66, .getfield 44, 3), (69, .invokevirtual 62, 3)]
set_option maxRecDepth 20000 in
theorem k_X5_judge_56 {sc : xm_Sc} : xm_bok (xe_cy (XE sc) 92) b_X5_judge_56 := by show xm_bok cX5_judge _; unfold xm_bok; decide +kernel
def b_X5_judge_72 : List (Nat × Jvm.ClassFile.Instr × Nat) := [(72, .ifCond .ne 6, 3)]
set_option maxRecDepth 20000 in
theorem k_X5_judge_72 {sc : xm_Sc} : xm_bok (xe_cy (XE sc) 92) b_X5_judge_72 := by show xm_bok cX5_judge _; unfold xm_bok; decide +kernel
def b_X5_judge_75 : List (Nat × Jvm.ClassFile.Instr × Nat) := [(75, .bipush 8, 2), (77, .ireturn, 1)]
set_option maxRecDepth 20000 in
theorem k_X5_judge_75 {sc : xm_Sc} : xm_bok (xe_cy (XE sc) 92) b_X5_judge_75 := by show xm_bok cX5_judge _; unfold xm_bok; decide +kernel
def b_X5_judge_78 : List (Nat × Jvm.ClassFile.Instr × Nat) := [(78, .iconst 0, 1), (79, .istore_n 2, 1)]
set_option maxRecDepth 20000 in
theorem k_X5_judge_78 {sc : xm_Sc} : xm_bok (xe_cy (XE sc) 92) b_X5_judge_78 := by show xm_bok cX5_judge _; unfold xm_bok; decide +kernel
def b_X5_judge_80 : List (Nat × Jvm.ClassFile.Instr × Nat) := [(80, .iload_n 2, 1), (81, .aload_n 0, 1), (82, .getfield 44, 3), (85, .if_icmp .ge 44, 3)]
set_option maxRecDepth 20000 in
theorem k_X5_judge_80 {sc : xm_Sc} : xm_bok (xe_cy (XE sc) 92) b_X5_judge_80 := by show xm_bok cX5_judge _; unfold xm_bok; decide +kernel
def b_X5_judge_88 : List (Nat × Jvm.ClassFile.Instr × Nat) := [(88, .aload_n 1, 1), (89, .aload_n 0, 1), (90, .getfield 9, 3), (93, .iload_n 2, 1), (94, .iaload, 1), (95, .invokevirtual 66, 3)]
set_option maxRecDepth 20000 in
theorem k_X5_judge_88 {sc : xm_Sc} : xm_bok (xe_cy (XE sc) 92) b_X5_judge_88 := by show xm_bok cX5_judge _; unfold xm_bok; decide +kernel
def b_X5_judge_98 : List (Nat × Jvm.ClassFile.Instr × Nat) := [(98, .sipush 2048, 3), (101, .if_icmp .gt 19, 3)]
set_option maxRecDepth 20000 in
theorem k_X5_judge_98 {sc : xm_Sc} : xm_bok (xe_cy (XE sc) 92) b_X5_judge_98 := by show xm_bok cX5_judge _; unfold xm_bok; decide +kernel
def b_X5_judge_104 : List (Nat × Jvm.ClassFile.Instr × Nat) := [(104, .aload_n 1, 1), (105, .aload_n 0, 1), (106, .getfield 9, 3), (109, .iload_n 2, 1), (110, .iaload, 1), (111, .invokevirtual 70, 3)]
set_option maxRecDepth 20000 in
theorem k_X5_judge_104 {sc : xm_Sc} : xm_bok (xe_cy (XE sc) 92) b_X5_judge_104 := by show xm_bok cX5_judge _; unfold xm_bok; decide +kernel
def b_X5_judge_114 : List (Nat × Jvm.ClassFile.Instr × Nat) := [(114, .sipush 2048, 3), (117, .if_icmp .le 6, 3)]
set_option maxRecDepth 20000 in
theorem k_X5_judge_114 {sc : xm_Sc} : xm_bok (xe_cy (XE sc) 92) b_X5_judge_114 := by show xm_bok cX5_judge _; unfold xm_bok; decide +kernel
def b_X5_judge_120 : List (Nat × Jvm.ClassFile.Instr × Nat) := [(120, .bipush 9, 2), (122, .ireturn, 1)]
set_option maxRecDepth 20000 in
theorem k_X5_judge_120 {sc : xm_Sc} : xm_bok (xe_cy (XE sc) 92) b_X5_judge_120 := by show xm_bok cX5_judge _; unfold xm_bok; decide +kernel
def b_X5_judge_123 : List (Nat × Jvm.ClassFile.Instr × Nat) := [(123, .iinc 2 1, 3), (126, .goto (-46), 3)]
set_option maxRecDepth 20000 in
theorem k_X5_judge_123 {sc : xm_Sc} : xm_bok (xe_cy (XE sc) 92) b_X5_judge_123 := by show xm_bok cX5_judge _; unfold xm_bok; decide +kernel
def b_X5_judge_129 : List (Nat × Jvm.ClassFile.Instr × Nat) := [(129, .iconst 0, 1), (130, .ireturn, 1)]
set_option maxRecDepth 20000 in
theorem k_X5_judge_129 {sc : xm_Sc} : xm_bok (xe_cy (XE sc) 92) b_X5_judge_129 := by show xm_bok cX5_judge _; unfold xm_bok; decide +kernel
set_option maxRecDepth 20000 in
theorem cn_92 {sc : xm_Sc} : xe_cn (XE sc) 92 = 5 := rfl
set_option maxRecDepth 20000 in
theorem ml_92 {sc : xm_Sc} : xe_ml (XE sc) 92 = 3 := rfl
set_option maxRecDepth 20000 in
theorem ry_92 {sc : xm_Sc} : xe_ry (XE sc) 92 = (some .int) := rfl
set_option maxRecDepth 20000 in
theorem is_92 {sc : xm_Sc} : xe_is (XE sc) 92 = false := rfl
set_option maxRecDepth 20000 in
theorem np_92 {sc : xm_Sc} : xe_np (XE sc) 92 = 1 := rfl
/- method 93: X5_merge -/
def b_X5_merge_0 : List (Nat × Jvm.ClassFile.Instr × Nat) := [(0, .iconst 0, 1), (1, .istore_n 2, 1), (2, .iconst 0, 1), (3, .istore_n 3, 1)]
set_option maxRecDepth 20000 in
theorem k_X5_merge_0 {sc : xm_Sc} : xm_bok (xe_cy (XE sc) 93) b_X5_merge_0 := by show xm_bok cX5_merge _; unfold xm_bok; decide +kernel
def b_X5_merge_4 : List (Nat × Jvm.ClassFile.Instr × Nat) := [(4, .iload_n 3, 1), (5, .sipush 1024, 3), (8, .if_icmp .ge 16, 3)]
set_option maxRecDepth 20000 in
theorem k_X5_merge_4 {sc : xm_Sc} : xm_bok (xe_cy (XE sc) 93) b_X5_merge_4 := by show xm_bok cX5_merge _; unfold xm_bok; decide +kernel
def b_X5_merge_11 : List (Nat × Jvm.ClassFile.Instr × Nat) := [(11, .aload_n 0, 1), (12, .getfield 30, 3), (15, .iload_n 3, 1), (16, .iconst (-1), 1), (17, .iastore, 1), (18, .iinc 3 1, 3), (21, .goto (-17), 3)]
set_option maxRecDepth 20000 in
theorem k_X5_merge_11 {sc : xm_Sc} : xm_bok (xe_cy (XE sc) 93) b_X5_merge_11 := by show xm_bok cX5_merge _; unfold xm_bok; decide +kernel
def b_X5_merge_24 : List (Nat × Jvm.ClassFile.Instr × Nat) := [(24, .iconst 0, 1), (25, .istore_n 3, 1)]
set_option maxRecDepth 20000 in
theorem k_X5_merge_24 {sc : xm_Sc} : xm_bok (xe_cy (XE sc) 93) b_X5_merge_24 := by show xm_bok cX5_merge _; unfold xm_bok; decide +kernel
def b_X5_merge_26 : List (Nat × Jvm.ClassFile.Instr × Nat) := [(26, .iload_n 3, 1), (27, .aload_n 0, 1), (28, .getfield 44, 3), (31, .if_icmp .ge 104, 3)]
set_option maxRecDepth 20000 in
theorem k_X5_merge_26 {sc : xm_Sc} : xm_bok (xe_cy (XE sc) 93) b_X5_merge_26 := by show xm_bok cX5_merge _; unfold xm_bok; decide +kernel
def b_X5_merge_34 : List (Nat × Jvm.ClassFile.Instr × Nat) := [(34, .aload_n 0, 1), (35, .getfield 9, 3), (38, .iload_n 3, 1), (39, .iaload, 1), (40, .istore 4, 2), (42, .aload_n 1, 1), (43, .getfield 47, 3), (46, .iload 4, 2), (48, .iaload, 1), (49, .ifCond .lt 22, 3)]
set_option maxRecDepth 20000 in
theorem k_X5_merge_34 {sc : xm_Sc} : xm_bok (xe_cy (XE sc) 93) b_X5_merge_34 := by show xm_bok cX5_merge _; unfold xm_bok; decide +kernel
def b_X5_merge_52 : List (Nat × Jvm.ClassFile.Instr × Nat) := [(52, .aload_n 1, 1), (53, .getfield 47, 3), (56, .iload 4, 2), (58, .aload_n 0, 1), (59, .getfield 24, 3), (62, .aload_n 1, 1), (63, .getfield 47, 3), (66, .iload 4, 2), (68, .iaload, 1), (69, .iaload, 1), (70, .iastore, 1)]
set_option maxRecDepth 20000 in
theorem k_X5_merge_52 {sc : xm_Sc} : xm_bok (xe_cy (XE sc) 93) b_X5_merge_52 := by show xm_bok cX5_merge _; unfold xm_bok; decide +kernel
def b_X5_merge_71 : List (Nat × Jvm.ClassFile.Instr × Nat) := [(71, .aload_n 1, 1), (72, .getfield 52, 3), (75, .iload 4, 2), (77, .iaload, 1), (78, .ifCond .lt 22, 3)]
set_option maxRecDepth 20000 in
theorem k_X5_merge_71 {sc : xm_Sc} : xm_bok (xe_cy (XE sc) 93) b_X5_merge_71 := by show xm_bok cX5_merge _; unfold xm_bok; decide +kernel
def b_X5_merge_81 : List (Nat × Jvm.ClassFile.Instr × Nat) := [(81, .aload_n 1, 1), (82, .getfield 52, 3), (85, .iload 4, 2), (87, .aload_n 0, 1), (88, .getfield 24, 3), (91, .aload_n 1, 1), (92, .getfield 52, 3), (95, .iload 4, 2), (97, .iaload, 1), (98, .iaload, 1), (99, .iastore, 1)]
set_option maxRecDepth 20000 in
theorem k_X5_merge_81 {sc : xm_Sc} : xm_bok (xe_cy (XE sc) 93) b_X5_merge_81 := by show xm_bok cX5_merge _; unfold xm_bok; decide +kernel
def b_X5_merge_100 : List (Nat × Jvm.ClassFile.Instr × Nat) := [(100, .aload_n 0, 1), (101, .getfield 24, 3), (104, .iload 4, 2), (106, .aload_n 0, 1), (107, .aload_n 1, 1), (108, .iload 4, 2), (110, .invokevirtual 73, 3)]
set_option maxRecDepth 20000 in
theorem k_X5_merge_100 {sc : xm_Sc} : xm_bok (xe_cy (XE sc) 93) b_X5_merge_100 := by show xm_bok cX5_merge _; unfold xm_bok; decide +kernel
def b_X5_merge_113 : List (Nat × Jvm.ClassFile.Instr × Nat) := [(113, .iastore, 1), (114, .aload_n 0, 1), (115, .getfield 24, 3), (118, .iload 4, 2), (120, .iaload, 1), (121, .iload 4, 2), (123, .if_icmp .eq 6, 3)]
set_option maxRecDepth 20000 in
theorem k_X5_merge_113 {sc : xm_Sc} : xm_bok (xe_cy (XE sc) 93) b_X5_merge_113 := by show xm_bok cX5_merge _; unfold xm_bok; decide +kernel
def b_X5_merge_126 : List (Nat × Jvm.ClassFile.Instr × Nat) := [(126, .iinc 2 1, 3)]
set_option maxRecDepth 20000 in
theorem k_X5_merge_126 {sc : xm_Sc} : xm_bok (xe_cy (XE sc) 93) b_X5_merge_126 := by show xm_bok cX5_merge _; unfold xm_bok; decide +kernel
def b_X5_merge_129 : List (Nat × Jvm.ClassFile.Instr × Nat) := [(129, .iinc 3 1, 3), (132, .goto (-106), 3)]
set_option maxRecDepth 20000 in
theorem k_X5_merge_129 {sc : xm_Sc} : xm_bok (xe_cy (XE sc) 93) b_X5_merge_129 := by show xm_bok cX5_merge _; unfold xm_bok; decide +kernel
def b_X5_merge_135 : List (Nat × Jvm.ClassFile.Instr × Nat) := [(135, .iload_n 2, 1), (136, .ireturn, 1)]
set_option maxRecDepth 20000 in
theorem k_X5_merge_135 {sc : xm_Sc} : xm_bok (xe_cy (XE sc) 93) b_X5_merge_135 := by show xm_bok cX5_merge _; unfold xm_bok; decide +kernel
set_option maxRecDepth 20000 in
theorem cn_93 {sc : xm_Sc} : xe_cn (XE sc) 93 = 5 := rfl
set_option maxRecDepth 20000 in
theorem ml_93 {sc : xm_Sc} : xe_ml (XE sc) 93 = 5 := rfl
set_option maxRecDepth 20000 in
theorem ry_93 {sc : xm_Sc} : xe_ry (XE sc) 93 = (some .int) := rfl
set_option maxRecDepth 20000 in
theorem is_93 {sc : xm_Sc} : xe_is (XE sc) 93 = false := rfl
set_option maxRecDepth 20000 in
theorem np_93 {sc : xm_Sc} : xe_np (XE sc) 93 = 1 := rfl
/- method 94: X5_mergedInto -/
def b_X5_mergedInto_0 : List (Nat × Jvm.ClassFile.Instr × Nat) := [(0, .aload_n 0, 1), (1, .getfield 24, 3), (4, .iload_n 1, 1), (5, .iaload, 1), (6, .ireturn, 1)]
set_option maxRecDepth 20000 in
theorem k_X5_mergedInto_0 {sc : xm_Sc} : xm_bok (xe_cy (XE sc) 94) b_X5_mergedInto_0 := by show xm_bok cX5_mergedInto _; unfold xm_bok; decide +kernel
set_option maxRecDepth 20000 in
theorem cn_94 {sc : xm_Sc} : xe_cn (XE sc) 94 = 5 := rfl
set_option maxRecDepth 20000 in
theorem ml_94 {sc : xm_Sc} : xe_ml (XE sc) 94 = 2 := rfl
set_option maxRecDepth 20000 in
theorem ry_94 {sc : xm_Sc} : xe_ry (XE sc) 94 = (some .int) := rfl
set_option maxRecDepth 20000 in
theorem is_94 {sc : xm_Sc} : xe_is (XE sc) 94 = false := rfl
set_option maxRecDepth 20000 in
theorem np_94 {sc : xm_Sc} : xe_np (XE sc) 94 = 1 := rfl
/- method 95: X5_slotOf -/
def b_X5_slotOf_0 : List (Nat × Jvm.ClassFile.Instr × Nat) := [(0, .aload_n 0, 1), (1, .getfield 55, 3), (4, .iload_n 1, 1), (5, .iaload, 1), (6, .istore_n 2, 1), (7, .iload_n 2, 1), (8, .bipush 11, 2), (10, .if_icmp .ne 23, 3)]
set_option maxRecDepth 20000 in
theorem k_X5_slotOf_0 {sc : xm_Sc} : xm_bok (xe_cy (XE sc) 95) b_X5_slotOf_0 := by show xm_bok cX5_slotOf _; unfold xm_bok; decide +kernel
def b_X5_slotOf_13 : List (Nat × Jvm.ClassFile.Instr × Nat) := [(13, .iload_n 2, 1), (14, .aload_n 0, 1), (15, .getfield 84, 3), (18, .aload_n 0, 1), (19, .getfield 87, 3), (22, .iload_n 1, 1), (23, .iaload, 1), (24, .iaload, 1), (25, .bipush 31, 2), (27, .imul, 1), (28, .iadd, 1), (29, .istore_n 2, 1), (30, .goto 63, 3)]
set_option maxRecDepth 20000 in
theorem k_X5_slotOf_13 {sc : xm_Sc} : xm_bok (xe_cy (XE sc) 95) b_X5_slotOf_13 := by show xm_bok cX5_slotOf _; unfold xm_bok; decide +kernel
def b_X5_slotOf_33 : List (Nat × Jvm.ClassFile.Instr × Nat) := [(33, .iload_n 2, 1), (34, .bipush 31, 2), (36, .imul, 1), (37, .aload_n 0, 1), (38, .getfield 47, 3), (41, .iload_n 1, 1), (42, .iaload, 1), (43, .iadd, 1), (44, .istore_n 2, 1), (45, .iload_n 2, 1), (46, .bipush 31, 2), (48, .imul, 1), (49, .aload_n 0, 1), (50, .getfield 52, 3), (53, .iload_n 1, 1), (54, .iaload, 1), (55, .iadd, 1), (56, .istore_n 2, 1), (57, .iload_n 2, 1), (58, .bipush 31, 2), (60, .imul, 1), (61, .aload_n 0, 1), (62, .getfield 87, 3), (65, .iload_n 1, 1), (66, .iaload, 1), (67, .iadd, 1), (68, .istore_n 2, 1), (69, .iload_n 2, 1), (70, .bipush 31, 2), (72, .imul, 1), (73, .aload_n 0, 1), (74, .getfield 90, 3), (77, .iload_n 1, 1), (78, .iaload, 1), (79, .iadd, 1), (80, .istore_n 2, 1), (81, .iload_n 2, 1), (82, .bipush 31, 2), (84, .imul, 1), (85, .aload_n 0, 1), (86, .getfield 93, 3), (89, .iload_n 1, 1), (90, .iaload, 1), (91, .iadd, 1), (92, .istore_n 2, 1)]
set_option maxRecDepth 20000 in
theorem k_X5_slotOf_33 {sc : xm_Sc} : xm_bok (xe_cy (XE sc) 95) b_X5_slotOf_33 := by show xm_bok cX5_slotOf _; unfold xm_bok; decide +kernel
def b_X5_slotOf_93 : List (Nat × Jvm.ClassFile.Instr × Nat) := [(93, .iload_n 2, 1), (94, .ldc 96, 2), (96, .imul, 1), (97, .iconst 4, 1), (98, .iushr, 1), (99, .sipush 1023, 3), (102, .iand, 1), (103, .ireturn, 1)]
set_option maxRecDepth 20000 in
theorem k_X5_slotOf_93 {sc : xm_Sc} : xm_bok (xe_cy (XE sc) 95) b_X5_slotOf_93 := by show xm_bok cX5_slotOf _; unfold xm_bok; decide +kernel
set_option maxRecDepth 20000 in
theorem cn_95 {sc : xm_Sc} : xe_cn (XE sc) 95 = 5 := rfl
set_option maxRecDepth 20000 in
theorem ml_95 {sc : xm_Sc} : xe_ml (XE sc) 95 = 3 := rfl
set_option maxRecDepth 20000 in
theorem ry_95 {sc : xm_Sc} : xe_ry (XE sc) 95 = (some .int) := rfl
set_option maxRecDepth 20000 in
theorem is_95 {sc : xm_Sc} : xe_is (XE sc) 95 = true := rfl
set_option maxRecDepth 20000 in
theorem np_95 {sc : xm_Sc} : xe_np (XE sc) 95 = 2 := rfl
/- method 96: X5_twinOf -/
def b_X5_twinOf_0 : List (Nat × Jvm.ClassFile.Instr × Nat) := [(0, .aload_n 1, 1), (1, .getfield 55, 3), (4, .iload_n 2, 1), (5, .iaload, 1), (6, .bipush 10, 2), (8, .if_icmp .ne 5, 3)]
set_option maxRecDepth 20000 in
theorem k_X5_twinOf_0 {sc : xm_Sc} : xm_bok (xe_cy (XE sc) 96) b_X5_twinOf_0 := by show xm_bok cX5_twinOf _; unfold xm_bok; decide +kernel
def b_X5_twinOf_11 : List (Nat × Jvm.ClassFile.Instr × Nat) := [(11, .iload_n 2, 1), (12, .ireturn, 1)]
set_option maxRecDepth 20000 in
theorem k_X5_twinOf_11 {sc : xm_Sc} : xm_bok (xe_cy (XE sc) 96) b_X5_twinOf_11 := by show xm_bok cX5_twinOf _; unfold xm_bok; decide +kernel
def b_X5_twinOf_13 : List (Nat × Jvm.ClassFile.Instr × Nat) := [(13, .aload_n 1, 1), (14, .iload_n 2, 1), (15, .invokestatic 77, 3)]
set_option maxRecDepth 20000 in
theorem k_X5_twinOf_13 {sc : xm_Sc} : xm_bok (xe_cy (XE sc) 96) b_X5_twinOf_13 := by show xm_bok cX5_twinOf _; unfold xm_bok; decide +kernel
def b_X5_twinOf_18 : List (Nat × Jvm.ClassFile.Instr × Nat) := [(18, .istore_n 3, 1), (19, .aload_n 0, 1), (20, .getfield 30, 3), (23, .iload_n 3, 1), (24, .iaload, 1), (25, .istore 4, 2), (27, .iconst 0, 1), (28, .istore 5, 2)]
set_option maxRecDepth 20000 in
theorem k_X5_twinOf_18 {sc : xm_Sc} : xm_bok (xe_cy (XE sc) 96) b_X5_twinOf_18 := by show xm_bok cX5_twinOf _; unfold xm_bok; decide +kernel
def b_X5_twinOf_30 : List (Nat × Jvm.ClassFile.Instr × Nat) := [(30, .iload 5, 2), (32, .sipush 2000, 3), (35, .if_icmp .ge 36, 3)]
set_option maxRecDepth 20000 in
theorem k_X5_twinOf_30 {sc : xm_Sc} : xm_bok (xe_cy (XE sc) 96) b_X5_twinOf_30 := by show xm_bok cX5_twinOf _; unfold xm_bok; decide +kernel
def b_X5_twinOf_38 : List (Nat × Jvm.ClassFile.Instr × Nat) := [(38, .iload 4, 2), (40, .ifCond .lt 31, 3)]
set_option maxRecDepth 20000 in
theorem k_X5_twinOf_38 {sc : xm_Sc} : xm_bok (xe_cy (XE sc) 96) b_X5_twinOf_38 := by show xm_bok cX5_twinOf _; unfold xm_bok; decide +kernel
def b_X5_twinOf_43 : List (Nat × Jvm.ClassFile.Instr × Nat) := [(43, .aload_n 1, 1), (44, .iload_n 2, 1), (45, .iload 4, 2), (47, .invokestatic 80, 3)]
set_option maxRecDepth 20000 in
theorem k_X5_twinOf_43 {sc : xm_Sc} : xm_bok (xe_cy (XE sc) 96) b_X5_twinOf_43 := by show xm_bok cX5_twinOf _; unfold xm_bok; decide +kernel
def b_X5_twinOf_50 : List (Nat × Jvm.ClassFile.Instr × Nat) := [(50, .ifCond .eq 6, 3)]
set_option maxRecDepth 20000 in
theorem k_X5_twinOf_50 {sc : xm_Sc} : xm_bok (xe_cy (XE sc) 96) b_X5_twinOf_50 := by show xm_bok cX5_twinOf _; unfold xm_bok; decide +kernel
def b_X5_twinOf_53 : List (Nat × Jvm.ClassFile.Instr × Nat) := [(53, .iload 4, 2), (55, .ireturn, 1)]
set_option maxRecDepth 20000 in
theorem k_X5_twinOf_53 {sc : xm_Sc} : xm_bok (xe_cy (XE sc) 96) b_X5_twinOf_53 := by show xm_bok cX5_twinOf _; unfold xm_bok; decide +kernel
def b_X5_twinOf_56 : List (Nat × Jvm.ClassFile.Instr × Nat) := [(56, .aload_n 0, 1), (57, .getfield 27, 3), (60, .iload 4, 2), (62, .iaload, 1), (63, .istore 4, 2), (65, .iinc 5 1, 3), (68, .goto (-38), 3)]
set_option maxRecDepth 20000 in
theorem k_X5_twinOf_56 {sc : xm_Sc} : xm_bok (xe_cy (XE sc) 96) b_X5_twinOf_56 := by show xm_bok cX5_twinOf _; unfold xm_bok; decide +kernel
def b_X5_twinOf_71 : List (Nat × Jvm.ClassFile.Instr × Nat) := [(71, .aload_n 0, 1), (72, .getfield 27, 3), (75, .iload_n 2, 1), (76, .aload_n 0, 1), (77, .getfield 30, 3), (80, .iload_n 3, 1), (81, .iaload, 1), (82, .iastore, 1), (83, .aload_n 0, 1), (84, .getfield 30, 3), (87, .iload_n 3, 1), (88, .iload_n 2, 1), (89, .iastore, 1), (90, .iload_n 2, 1), (91, .ireturn, 1)]
set_option maxRecDepth 20000 in
theorem k_X5_twinOf_71 {sc : xm_Sc} : xm_bok (xe_cy (XE sc) 96) b_X5_twinOf_71 := by show xm_bok cX5_twinOf _; unfold xm_bok; decide +kernel
set_option maxRecDepth 20000 in
theorem cn_96 {sc : xm_Sc} : xe_cn (XE sc) 96 = 5 := rfl
set_option maxRecDepth 20000 in
theorem ml_96 {sc : xm_Sc} : xe_ml (XE sc) 96 = 6 := rfl
set_option maxRecDepth 20000 in
theorem ry_96 {sc : xm_Sc} : xe_ry (XE sc) 96 = (some .int) := rfl
set_option maxRecDepth 20000 in
theorem is_96 {sc : xm_Sc} : xe_is (XE sc) 96 = false := rfl
set_option maxRecDepth 20000 in
theorem np_96 {sc : xm_Sc} : xe_np (XE sc) 96 = 2 := rfl
/- method 97: X5_walk -/
def b_X5_walk_0 : List (Nat × Jvm.ClassFile.Instr × Nat) := [(0, .aload_n 0, 1), (1, .dup, 1), (2, .getfield 40, 3), (5, .iconst 1, 1), (6, .iadd, 1), (7, .putfield 40, 3), (10, .aload_n 0, 1), (11, .iconst 0, 1), (12, .putfield 44, 3), (15, .iconst 1, 1), (16, .istore_n 3, 1), (17, .aload_n 0, 1), (18, .getfield 21, 3), (21, .iconst 0, 1), (22, .iload_n 2, 1), (23, .iastore, 1), (24, .aload_n 0, 1), (25, .getfield 18, 3), (28, .iload_n 2, 1), (29, .aload_n 0, 1), (30, .getfield 40, 3), (33, .iastore, 1), (34, .iconst 0, 1), (35, .istore 4, 2)]
set_option maxRecDepth 20000 in
theorem k_X5_walk_0 {sc : xm_Sc} : xm_bok (xe_cy (XE sc) 97) b_X5_walk_0 := by show xm_bok cX5_walk _; unfold xm_bok; decide +kernel
def b_X5_walk_37 : List (Nat × Jvm.ClassFile.Instr × Nat) := [(37, .iload 4, 2), (39, .sipush 4000, 3), (42, .if_icmp .ge 139, 3)]
set_option maxRecDepth 20000 in
theorem k_X5_walk_37 {sc : xm_Sc} : xm_bok (xe_cy (XE sc) 97) b_X5_walk_37 := by show xm_bok cX5_walk _; unfold xm_bok; decide +kernel
def b_X5_walk_45 : List (Nat × Jvm.ClassFile.Instr × Nat) := [(45, .iload_n 3, 1), (46, .ifCond .le 135, 3)]
set_option maxRecDepth 20000 in
theorem k_X5_walk_45 {sc : xm_Sc} : xm_bok (xe_cy (XE sc) 97) b_X5_walk_45 := by show xm_bok cX5_walk _; unfold xm_bok; decide +kernel
def b_X5_walk_49 : List (Nat × Jvm.ClassFile.Instr × Nat) := [(49, .aload_n 0, 1), (50, .getfield 21, 3), (53, .iload_n 3, 1), (54, .iconst 1, 1), (55, .isub, 1), (56, .iaload, 1), (57, .istore 5, 2), (59, .aload_n 1, 1), (60, .getfield 47, 3), (63, .iload 5, 2), (65, .iaload, 1), (66, .istore 6, 2), (68, .iload 6, 2), (70, .ifCond .lt 17, 3)]
set_option maxRecDepth 20000 in
theorem k_X5_walk_49 {sc : xm_Sc} : xm_bok (xe_cy (XE sc) 97) b_X5_walk_49 := by show xm_bok cX5_walk _; unfold xm_bok; decide +kernel
def b_X5_walk_73 : List (Nat × Jvm.ClassFile.Instr × Nat) := [(73, .aload_n 0, 1), (74, .getfield 18, 3), (77, .iload 6, 2), (79, .iaload, 1), (80, .aload_n 0, 1), (81, .getfield 40, 3), (84, .if_icmp .ne 12, 3)]
set_option maxRecDepth 20000 in
theorem k_X5_walk_73 {sc : xm_Sc} : xm_bok (xe_cy (XE sc) 97) b_X5_walk_73 := by show xm_bok cX5_walk _; unfold xm_bok; decide +kernel
def b_X5_walk_87 : List (Nat × Jvm.ClassFile.Instr × Nat) := [(87, .aload_n 1, 1), (88, .getfield 52, 3), (91, .iload 5, 2), (93, .iaload, 1), (94, .istore 6, 2)]
set_option maxRecDepth 20000 in
theorem k_X5_walk_87 {sc : xm_Sc} : xm_bok (xe_cy (XE sc) 97) b_X5_walk_87 := by show xm_bok cX5_walk _; unfold xm_bok; decide +kernel
def b_X5_walk_96 : List (Nat × Jvm.ClassFile.Instr × Nat) := [(96, .iload 6, 2), (98, .ifCond .lt 17, 3)]
set_option maxRecDepth 20000 in
theorem k_X5_walk_96 {sc : xm_Sc} : xm_bok (xe_cy (XE sc) 97) b_X5_walk_96 := by show xm_bok cX5_walk _; unfold xm_bok; decide +kernel
def b_X5_walk_101 : List (Nat × Jvm.ClassFile.Instr × Nat) := [(101, .aload_n 0, 1), (102, .getfield 18, 3), (105, .iload 6, 2), (107, .iaload, 1), (108, .aload_n 0, 1), (109, .getfield 40, 3), (112, .if_icmp .ne 41, 3)]
set_option maxRecDepth 20000 in
theorem k_X5_walk_101 {sc : xm_Sc} : xm_bok (xe_cy (XE sc) 97) b_X5_walk_101 := by show xm_bok cX5_walk _; unfold xm_bok; decide +kernel
def b_X5_walk_115 : List (Nat × Jvm.ClassFile.Instr × Nat) := [(115, .aload_n 0, 1), (116, .getfield 15, 3), (119, .iload 5, 2), (121, .aload_n 0, 1), (122, .getfield 44, 3), (125, .iastore, 1), (126, .aload_n 0, 1), (127, .getfield 9, 3), (130, .aload_n 0, 1), (131, .getfield 44, 3), (134, .iload 5, 2), (136, .iastore, 1), (137, .aload_n 0, 1), (138, .dup, 1), (139, .getfield 44, 3), (142, .iconst 1, 1), (143, .iadd, 1), (144, .putfield 44, 3), (147, .iinc 3 (-1), 3), (150, .goto 25, 3)]
set_option maxRecDepth 20000 in
theorem k_X5_walk_115 {sc : xm_Sc} : xm_bok (xe_cy (XE sc) 97) b_X5_walk_115 := by show xm_bok cX5_walk _; unfold xm_bok; decide +kernel
def b_X5_walk_153 : List (Nat × Jvm.ClassFile.Instr × Nat) := [(153, .aload_n 0, 1), (154, .getfield 18, 3), (157, .iload 6, 2), (159, .aload_n 0, 1), (160, .getfield 40, 3), (163, .iastore, 1), (164, .aload_n 0, 1), (165, .getfield 21, 3), (168, .iload_n 3, 1), (169, .iload 6, 2), (171, .iastore, 1), (172, .iinc 3 1, 3)]
set_option maxRecDepth 20000 in
theorem k_X5_walk_153 {sc : xm_Sc} : xm_bok (xe_cy (XE sc) 97) b_X5_walk_153 := by show xm_bok cX5_walk _; unfold xm_bok; decide +kernel
def b_X5_walk_175 : List (Nat × Jvm.ClassFile.Instr × Nat) := [(175, .iinc 4 1, 3), (178, .goto (-141), 3)]
set_option maxRecDepth 20000 in
theorem k_X5_walk_175 {sc : xm_Sc} : xm_bok (xe_cy (XE sc) 97) b_X5_walk_175 := by show xm_bok cX5_walk _; unfold xm_bok; decide +kernel
def b_X5_walk_181 : List (Nat × Jvm.ClassFile.Instr × Nat) := [(181, .return_, 1)]
set_option maxRecDepth 20000 in
theorem k_X5_walk_181 {sc : xm_Sc} : xm_bok (xe_cy (XE sc) 97) b_X5_walk_181 := by show xm_bok cX5_walk _; unfold xm_bok; decide +kernel
set_option maxRecDepth 20000 in
theorem cn_97 {sc : xm_Sc} : xe_cn (XE sc) 97 = 5 := rfl
set_option maxRecDepth 20000 in
theorem ml_97 {sc : xm_Sc} : xe_ml (XE sc) 97 = 7 := rfl
set_option maxRecDepth 20000 in
theorem ry_97 {sc : xm_Sc} : xe_ry (XE sc) 97 = none := rfl
set_option maxRecDepth 20000 in
theorem is_97 {sc : xm_Sc} : xe_is (XE sc) 97 = false := rfl
set_option maxRecDepth 20000 in
theorem np_97 {sc : xm_Sc} : xe_np (XE sc) 97 = 2 := rfl
set_option maxRecDepth 20000 in
theorem fl_5_9 {sc : xm_Sc} : xe_fl (XE sc) 5 9 = some (5, 0) := rfl
set_option maxRecDepth 20000 in
theorem fl_5_15 {sc : xm_Sc} : xe_fl (XE sc) 5 15 = some (5, 1) := rfl
set_option maxRecDepth 20000 in
theorem fl_5_18 {sc : xm_Sc} : xe_fl (XE sc) 5 18 = some (5, 3) := rfl
set_option maxRecDepth 20000 in
theorem fl_5_21 {sc : xm_Sc} : xe_fl (XE sc) 5 21 = some (5, 4) := rfl
set_option maxRecDepth 20000 in
theorem fl_5_24 {sc : xm_Sc} : xe_fl (XE sc) 5 24 = some (5, 5) := rfl
set_option maxRecDepth 20000 in
theorem fl_5_27 {sc : xm_Sc} : xe_fl (XE sc) 5 27 = some (5, 6) := rfl
set_option maxRecDepth 20000 in
theorem fl_5_30 {sc : xm_Sc} : xe_fl (XE sc) 5 30 = some (5, 7) := rfl
set_option maxRecDepth 20000 in
theorem fl_5_36 {sc : xm_Sc} : xe_fl (XE sc) 5 36 = some (5, 8) := rfl
set_option maxRecDepth 20000 in
theorem fl_5_40 {sc : xm_Sc} : xe_fl (XE sc) 5 40 = some (5, 9) := rfl
set_option maxRecDepth 20000 in
theorem fl_5_44 {sc : xm_Sc} : xe_fl (XE sc) 5 44 = some (5, 2) := rfl
set_option maxRecDepth 20000 in
theorem fl_5_47 {sc : xm_Sc} : xe_fl (XE sc) 5 47 = some (6, 2) := rfl
set_option maxRecDepth 20000 in
theorem fl_5_52 {sc : xm_Sc} : xe_fl (XE sc) 5 52 = some (6, 3) := rfl
set_option maxRecDepth 20000 in
theorem fl_5_55 {sc : xm_Sc} : xe_fl (XE sc) 5 55 = some (6, 1) := rfl
set_option maxRecDepth 20000 in
theorem fl_5_84 {sc : xm_Sc} : xe_fl (XE sc) 5 84 = some (6, 11) := rfl
set_option maxRecDepth 20000 in
theorem fl_5_87 {sc : xm_Sc} : xe_fl (XE sc) 5 87 = some (6, 4) := rfl
set_option maxRecDepth 20000 in
theorem fl_5_90 {sc : xm_Sc} : xe_fl (XE sc) 5 90 = some (6, 6) := rfl
set_option maxRecDepth 20000 in
theorem fl_5_93 {sc : xm_Sc} : xe_fl (XE sc) 5 93 = some (6, 7) := rfl
set_option maxRecDepth 20000 in
theorem ki_5_96 {sc : xm_Sc} : xe_kI (XE sc) 5 96 = some 40503 := rfl
set_option maxRecDepth 20000 in
theorem lk_5_58 {sc : xm_Sc} : xe_lk (XE sc) 5 58 = some 90 := rfl
set_option maxRecDepth 20000 in
theorem lk_5_62 {sc : xm_Sc} : xe_lk (XE sc) 5 62 = some 49 := rfl
set_option maxRecDepth 20000 in
theorem lk_5_66 {sc : xm_Sc} : xe_lk (XE sc) 5 66 = some 110 := rfl
set_option maxRecDepth 20000 in
theorem lk_5_70 {sc : xm_Sc} : xe_lk (XE sc) 5 70 = some 111 := rfl
set_option maxRecDepth 20000 in
theorem lk_5_73 {sc : xm_Sc} : xe_lk (XE sc) 5 73 = some 96 := rfl
set_option maxRecDepth 20000 in
theorem lk_5_77 {sc : xm_Sc} : xe_lk (XE sc) 5 77 = some 95 := rfl
set_option maxRecDepth 20000 in
theorem lk_5_80 {sc : xm_Sc} : xe_lk (XE sc) 5 80 = some 89 := rfl
