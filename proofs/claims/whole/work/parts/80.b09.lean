/- method 141: X9_await -/
def b_X9_await_0 : List (Nat × Jvm.ClassFile.Instr × Nat) := [(0, .aload_n 0, 1), (1, .getfield 148, 3), (4, .sipush 8192, 3), (7, .if_icmp .ge 23, 3)]
set_option maxRecDepth 20000 in
theorem k_X9_await_0 {sc : xm_Sc} : xm_bok (xe_cy (XE sc) 141) b_X9_await_0 := by show xm_bok cX9_await _; unfold xm_bok; decide +kernel
def b_X9_await_10 : List (Nat × Jvm.ClassFile.Instr × Nat) := [(10, .aload_n 0, 1), (11, .getfield 9, 3), (14, .aload_n 0, 1), (15, .getfield 148, 3), (18, .iload_n 1, 1), (19, .iastore, 1), (20, .aload_n 0, 1), (21, .dup, 1), (22, .getfield 148, 3), (25, .iconst 1, 1), (26, .iadd, 1), (27, .putfield 148, 3)]
set_option maxRecDepth 20000 in
theorem k_X9_await_10 {sc : xm_Sc} : xm_bok (xe_cy (XE sc) 141) b_X9_await_10 := by show xm_bok cX9_await _; unfold xm_bok; decide +kernel
def b_X9_await_30 : List (Nat × Jvm.ClassFile.Instr × Nat) := [(30, .bipush (-2), 2), (32, .ireturn, 1)]
set_option maxRecDepth 20000 in
theorem k_X9_await_30 {sc : xm_Sc} : xm_bok (xe_cy (XE sc) 141) b_X9_await_30 := by show xm_bok cX9_await _; unfold xm_bok; decide +kernel
set_option maxRecDepth 20000 in
theorem cn_141 {sc : xm_Sc} : xe_cn (XE sc) 141 = 9 := rfl
set_option maxRecDepth 20000 in
theorem ml_141 {sc : xm_Sc} : xe_ml (XE sc) 141 = 2 := rfl
set_option maxRecDepth 20000 in
theorem ry_141 {sc : xm_Sc} : xe_ry (XE sc) 141 = (some .int) := rfl
set_option maxRecDepth 20000 in
theorem is_141 {sc : xm_Sc} : xe_is (XE sc) 141 = false := rfl
set_option maxRecDepth 20000 in
theorem np_141 {sc : xm_Sc} : xe_np (XE sc) 141 = 1 := rfl
/- method 142: X9_begin -/
def b_X9_begin_0 : List (Nat × Jvm.ClassFile.Instr × Nat) := [(0, .aload_n 0, 1), (1, .invokevirtual 97, 3)]
set_option maxRecDepth 20000 in
theorem k_X9_begin_0 {sc : xm_Sc} : xm_bok (xe_cy (XE sc) 142) b_X9_begin_0 := by show xm_bok cX9_begin _; unfold xm_bok; decide +kernel
def b_X9_begin_4 : List (Nat × Jvm.ClassFile.Instr × Nat) := [(4, .aload_n 0, 1), (5, .getfield 107, 3), (8, .istore_n 1, 1), (9, .aload_n 0, 1), (10, .getfield 126, 3), (13, .istore_n 2, 1), (14, .aload_n 0, 1), (15, .getfield 100, 3), (18, .iconst 3, 1), (19, .if_icmp .ne 10, 3)]
set_option maxRecDepth 20000 in
theorem k_X9_begin_4 {sc : xm_Sc} : xm_bok (xe_cy (XE sc) 142) b_X9_begin_4 := by show xm_bok cX9_begin _; unfold xm_bok; decide +kernel
def b_X9_begin_22 : List (Nat × Jvm.ClassFile.Instr × Nat) := [(22, .aload_n 0, 1), (23, .bipush (-3), 2), (25, .invokevirtual 157, 3)]
set_option maxRecDepth 20000 in
theorem k_X9_begin_22 {sc : xm_Sc} : xm_bok (xe_cy (XE sc) 142) b_X9_begin_22 := by show xm_bok cX9_begin _; unfold xm_bok; decide +kernel
def b_X9_begin_28 : List (Nat × Jvm.ClassFile.Instr × Nat) := [(28, .ireturn, 1)]
set_option maxRecDepth 20000 in
theorem k_X9_begin_28 {sc : xm_Sc} : xm_bok (xe_cy (XE sc) 142) b_X9_begin_28 := by show xm_bok cX9_begin _; unfold xm_bok; decide +kernel
def b_X9_begin_29 : List (Nat × Jvm.ClassFile.Instr × Nat) := [(29, .iload_n 2, 1), (30, .bipush 13, 2), (32, .if_icmp .ne 27, 3)]
set_option maxRecDepth 20000 in
theorem k_X9_begin_29 {sc : xm_Sc} : xm_bok (xe_cy (XE sc) 142) b_X9_begin_29 := by show xm_bok cX9_begin _; unfold xm_bok; decide +kernel
def b_X9_begin_35 : List (Nat × Jvm.ClassFile.Instr × Nat) := [(35, .aload_n 0, 1), (36, .invokevirtual 97, 3)]
set_option maxRecDepth 20000 in
theorem k_X9_begin_35 {sc : xm_Sc} : xm_bok (xe_cy (XE sc) 142) b_X9_begin_35 := by show xm_bok cX9_begin _; unfold xm_bok; decide +kernel
def b_X9_begin_39 : List (Nat × Jvm.ClassFile.Instr × Nat) := [(39, .aload_n 0, 1), (40, .invokevirtual 160, 3)]
set_option maxRecDepth 20000 in
theorem k_X9_begin_39 {sc : xm_Sc} : xm_bok (xe_cy (XE sc) 142) b_X9_begin_39 := by show xm_bok cX9_begin _; unfold xm_bok; decide +kernel
def b_X9_begin_43 : List (Nat × Jvm.ClassFile.Instr × Nat) := [(43, .istore_n 3, 1), (44, .iload_n 3, 1), (45, .ifCond .ge 7, 3)]
set_option maxRecDepth 20000 in
theorem k_X9_begin_43 {sc : xm_Sc} : xm_bok (xe_cy (XE sc) 142) b_X9_begin_43 := by show xm_bok cX9_begin _; unfold xm_bok; decide +kernel
def b_X9_begin_48 : List (Nat × Jvm.ClassFile.Instr × Nat) := [(48, .iload_n 3, 1), (49, .goto 9, 3)]
set_option maxRecDepth 20000 in
theorem k_X9_begin_48 {sc : xm_Sc} : xm_bok (xe_cy (XE sc) 142) b_X9_begin_48 := by show xm_bok cX9_begin _; unfold xm_bok; decide +kernel
def b_X9_begin_52 : List (Nat × Jvm.ClassFile.Instr × Nat) := [(52, .aload_n 0, 1), (53, .iload_n 3, 1), (54, .iload_n 1, 1), (55, .invokevirtual 163, 3)]
set_option maxRecDepth 20000 in
theorem k_X9_begin_52 {sc : xm_Sc} : xm_bok (xe_cy (XE sc) 142) b_X9_begin_52 := by show xm_bok cX9_begin _; unfold xm_bok; decide +kernel
def b_X9_begin_58 : List (Nat × Jvm.ClassFile.Instr × Nat) := [(58, .ireturn, 1)]
set_option maxRecDepth 20000 in
theorem k_X9_begin_58 {sc : xm_Sc} : xm_bok (xe_cy (XE sc) 142) b_X9_begin_58 := by show xm_bok cX9_begin _; unfold xm_bok; decide +kernel
def b_X9_begin_59 : List (Nat × Jvm.ClassFile.Instr × Nat) := [(59, .iload_n 2, 1), (60, .ifCond .ge 8, 3)]
set_option maxRecDepth 20000 in
theorem k_X9_begin_59 {sc : xm_Sc} : xm_bok (xe_cy (XE sc) 142) b_X9_begin_59 := by show xm_bok cX9_begin _; unfold xm_bok; decide +kernel
def b_X9_begin_63 : List (Nat × Jvm.ClassFile.Instr × Nat) := [(63, .aload_n 0, 1), (64, .invokevirtual 160, 3)]
set_option maxRecDepth 20000 in
theorem k_X9_begin_63 {sc : xm_Sc} : xm_bok (xe_cy (XE sc) 142) b_X9_begin_63 := by show xm_bok cX9_begin _; unfold xm_bok; decide +kernel
def b_X9_begin_67 : List (Nat × Jvm.ClassFile.Instr × Nat) := [(67, .ireturn, 1)]
set_option maxRecDepth 20000 in
theorem k_X9_begin_67 {sc : xm_Sc} : xm_bok (xe_cy (XE sc) 142) b_X9_begin_67 := by show xm_bok cX9_begin _; unfold xm_bok; decide +kernel
def b_X9_begin_68 : List (Nat × Jvm.ClassFile.Instr × Nat) := [(68, .aload_n 0, 1), (69, .getfield 36, 3), (72, .getfield 166, 3), (75, .sipush 2000, 3), (78, .if_icmp .lt 13, 3)]
set_option maxRecDepth 20000 in
theorem k_X9_begin_68 {sc : xm_Sc} : xm_bok (xe_cy (XE sc) 142) b_X9_begin_68 := by show xm_bok cX9_begin _; unfold xm_bok; decide +kernel
def b_X9_begin_81 : List (Nat × Jvm.ClassFile.Instr × Nat) := [(81, .aload_n 0, 1), (82, .iconst 3, 1), (83, .aload_n 0, 1), (84, .getfield 107, 3), (87, .invokevirtual 110, 3)]
set_option maxRecDepth 20000 in
theorem k_X9_begin_81 {sc : xm_Sc} : xm_bok (xe_cy (XE sc) 142) b_X9_begin_81 := by show xm_bok cX9_begin _; unfold xm_bok; decide +kernel
def b_X9_begin_90 : List (Nat × Jvm.ClassFile.Instr × Nat) := [(90, .ireturn, 1)]
set_option maxRecDepth 20000 in
theorem k_X9_begin_90 {sc : xm_Sc} : xm_bok (xe_cy (XE sc) 142) b_X9_begin_90 := by show xm_bok cX9_begin _; unfold xm_bok; decide +kernel
def b_X9_begin_91 : List (Nat × Jvm.ClassFile.Instr × Nat) := [(91, .aload_n 0, 1), (92, .getfield 36, 3), (95, .iload_n 2, 1), (96, .invokevirtual 169, 3)]
set_option maxRecDepth 20000 in
theorem k_X9_begin_91 {sc : xm_Sc} : xm_bok (xe_cy (XE sc) 142) b_X9_begin_91 := by show xm_bok cX9_begin _; unfold xm_bok; decide +kernel
def b_X9_begin_99 : List (Nat × Jvm.ClassFile.Instr × Nat) := [(99, .istore_n 3, 1), (100, .iload_n 2, 1), (101, .bipush 6, 2), (103, .if_icmp .gt 9, 3)]
set_option maxRecDepth 20000 in
theorem k_X9_begin_99 {sc : xm_Sc} : xm_bok (xe_cy (XE sc) 142) b_X9_begin_99 := by show xm_bok cX9_begin _; unfold xm_bok; decide +kernel
def b_X9_begin_106 : List (Nat × Jvm.ClassFile.Instr × Nat) := [(106, .aload_n 0, 1), (107, .iload_n 3, 1), (108, .invokevirtual 157, 3)]
set_option maxRecDepth 20000 in
theorem k_X9_begin_106 {sc : xm_Sc} : xm_bok (xe_cy (XE sc) 142) b_X9_begin_106 := by show xm_bok cX9_begin _; unfold xm_bok; decide +kernel
def b_X9_begin_111 : List (Nat × Jvm.ClassFile.Instr × Nat) := [(111, .ireturn, 1)]
set_option maxRecDepth 20000 in
theorem k_X9_begin_111 {sc : xm_Sc} : xm_bok (xe_cy (XE sc) 142) b_X9_begin_111 := by show xm_bok cX9_begin _; unfold xm_bok; decide +kernel
def b_X9_begin_112 : List (Nat × Jvm.ClassFile.Instr × Nat) := [(112, .iload_n 2, 1), (113, .bipush 10, 2), (115, .if_icmp .lt 14, 3)]
set_option maxRecDepth 20000 in
theorem k_X9_begin_112 {sc : xm_Sc} : xm_bok (xe_cy (XE sc) 142) b_X9_begin_112 := by show xm_bok cX9_begin _; unfold xm_bok; decide +kernel
def b_X9_begin_118 : List (Nat × Jvm.ClassFile.Instr × Nat) := [(118, .aload_n 0, 1), (119, .invokevirtual 97, 3)]
set_option maxRecDepth 20000 in
theorem k_X9_begin_118 {sc : xm_Sc} : xm_bok (xe_cy (XE sc) 142) b_X9_begin_118 := by show xm_bok cX9_begin _; unfold xm_bok; decide +kernel
def b_X9_begin_122 : List (Nat × Jvm.ClassFile.Instr × Nat) := [(122, .aload_n 0, 1), (123, .iload_n 3, 1), (124, .iload_n 2, 1), (125, .invokevirtual 172, 3)]
set_option maxRecDepth 20000 in
theorem k_X9_begin_122 {sc : xm_Sc} : xm_bok (xe_cy (XE sc) 142) b_X9_begin_122 := by show xm_bok cX9_begin _; unfold xm_bok; decide +kernel
def b_X9_begin_128 : List (Nat × Jvm.ClassFile.Instr × Nat) := [(128, .ireturn, 1)]
set_option maxRecDepth 20000 in
theorem k_X9_begin_128 {sc : xm_Sc} : xm_bok (xe_cy (XE sc) 142) b_X9_begin_128 := by show xm_bok cX9_begin _; unfold xm_bok; decide +kernel
def b_X9_begin_129 : List (Nat × Jvm.ClassFile.Instr × Nat) := [(129, .iload_n 3, 1), (130, .ireturn, 1)]
set_option maxRecDepth 20000 in
theorem k_X9_begin_129 {sc : xm_Sc} : xm_bok (xe_cy (XE sc) 142) b_X9_begin_129 := by show xm_bok cX9_begin _; unfold xm_bok; decide +kernel
set_option maxRecDepth 20000 in
theorem cn_142 {sc : xm_Sc} : xe_cn (XE sc) 142 = 9 := rfl
set_option maxRecDepth 20000 in
theorem ml_142 {sc : xm_Sc} : xe_ml (XE sc) 142 = 4 := rfl
set_option maxRecDepth 20000 in
theorem ry_142 {sc : xm_Sc} : xe_ry (XE sc) 142 = (some .int) := rfl
set_option maxRecDepth 20000 in
theorem is_142 {sc : xm_Sc} : xe_is (XE sc) 142 = false := rfl
set_option maxRecDepth 20000 in
theorem np_142 {sc : xm_Sc} : xe_np (XE sc) 142 = 0 := rfl
/- method 143: X9_finish -/
def b_X9_finish_0 : List (Nat × Jvm.ClassFile.Instr × Nat) := [(0, .iload_n 1, 1), (1, .istore_n 2, 1), (2, .iconst 0, 1), (3, .istore_n 3, 1)]
set_option maxRecDepth 20000 in
theorem k_X9_finish_0 {sc : xm_Sc} : xm_bok (xe_cy (XE sc) 143) b_X9_finish_0 := by show xm_bok cX9_finish _; unfold xm_bok; decide +kernel
def b_X9_finish_4 : List (Nat × Jvm.ClassFile.Instr × Nat) := [(4, .iload_n 3, 1), (5, .sipush 8192, 3), (8, .if_icmp .ge 129, 3)]
set_option maxRecDepth 20000 in
theorem k_X9_finish_4 {sc : xm_Sc} : xm_bok (xe_cy (XE sc) 143) b_X9_finish_4 := by show xm_bok cX9_finish _; unfold xm_bok; decide +kernel
def b_X9_finish_11 : List (Nat × Jvm.ClassFile.Instr × Nat) := [(11, .aload_n 0, 1), (12, .getfield 148, 3), (15, .ifCond .le 122, 3)]
set_option maxRecDepth 20000 in
theorem k_X9_finish_11 {sc : xm_Sc} : xm_bok (xe_cy (XE sc) 143) b_X9_finish_11 := by show xm_bok cX9_finish _; unfold xm_bok; decide +kernel
def b_X9_finish_18 : List (Nat × Jvm.ClassFile.Instr × Nat) := [(18, .aload_n 0, 1), (19, .getfield 9, 3), (22, .aload_n 0, 1), (23, .getfield 148, 3), (26, .iconst 1, 1), (27, .isub, 1), (28, .iaload, 1), (29, .istore 4, 2), (31, .iload 4, 2), (33, .bipush (-3), 2), (35, .if_icmp .ne 25, 3)]
set_option maxRecDepth 20000 in
theorem k_X9_finish_18 {sc : xm_Sc} : xm_bok (xe_cy (XE sc) 143) b_X9_finish_18 := by show xm_bok cX9_finish _; unfold xm_bok; decide +kernel
def b_X9_finish_38 : List (Nat × Jvm.ClassFile.Instr × Nat) := [(38, .aload_n 0, 1), (39, .invokevirtual 97, 3)]
set_option maxRecDepth 20000 in
theorem k_X9_finish_38 {sc : xm_Sc} : xm_bok (xe_cy (XE sc) 143) b_X9_finish_38 := by show xm_bok cX9_finish _; unfold xm_bok; decide +kernel
def b_X9_finish_42 : List (Nat × Jvm.ClassFile.Instr × Nat) := [(42, .aload_n 0, 1), (43, .getfield 100, 3), (46, .iconst 4, 1), (47, .if_icmp .eq 74, 3)]
set_option maxRecDepth 20000 in
theorem k_X9_finish_42 {sc : xm_Sc} : xm_bok (xe_cy (XE sc) 143) b_X9_finish_42 := by show xm_bok cX9_finish _; unfold xm_bok; decide +kernel
def b_X9_finish_50 : List (Nat × Jvm.ClassFile.Instr × Nat) := [(50, .aload_n 0, 1), (51, .iconst 1, 1), (52, .aload_n 0, 1), (53, .getfield 107, 3), (56, .invokevirtual 110, 3)]
set_option maxRecDepth 20000 in
theorem k_X9_finish_50 {sc : xm_Sc} : xm_bok (xe_cy (XE sc) 143) b_X9_finish_50 := by show xm_bok cX9_finish _; unfold xm_bok; decide +kernel
def b_X9_finish_59 : List (Nat × Jvm.ClassFile.Instr × Nat) := [(59, .ireturn, 1)]
set_option maxRecDepth 20000 in
theorem k_X9_finish_59 {sc : xm_Sc} : xm_bok (xe_cy (XE sc) 143) b_X9_finish_59 := by show xm_bok cX9_finish _; unfold xm_bok; decide +kernel
def b_X9_finish_60 : List (Nat × Jvm.ClassFile.Instr × Nat) := [(60, .aload_n 0, 1), (61, .getfield 36, 3), (64, .getfield 202, 3), (67, .iload 4, 2), (69, .iaload, 1), (70, .ifCond .lt 20, 3)]
set_option maxRecDepth 20000 in
theorem k_X9_finish_60 {sc : xm_Sc} : xm_bok (xe_cy (XE sc) 143) b_X9_finish_60 := by show xm_bok cX9_finish _; unfold xm_bok; decide +kernel
def b_X9_finish_73 : List (Nat × Jvm.ClassFile.Instr × Nat) := [(73, .aload_n 0, 1), (74, .getfield 36, 3), (77, .getfield 205, 3), (80, .iload 4, 2), (82, .iload_n 2, 1), (83, .iastore, 1), (84, .iload 4, 2), (86, .istore_n 2, 1), (87, .goto 34, 3)]
set_option maxRecDepth 20000 in
theorem k_X9_finish_73 {sc : xm_Sc} : xm_bok (xe_cy (XE sc) 143) b_X9_finish_73 := by show xm_bok cX9_finish _; unfold xm_bok; decide +kernel
def b_X9_finish_90 : List (Nat × Jvm.ClassFile.Instr × Nat) := [(90, .aload_n 0, 1), (91, .getfield 36, 3), (94, .getfield 202, 3), (97, .iload 4, 2), (99, .iload_n 2, 1), (100, .iastore, 1), (101, .aload_n 0, 1), (102, .getfield 36, 3), (105, .getfield 215, 3), (108, .iload 4, 2), (110, .iaload, 1), (111, .iconst 2, 1), (112, .if_icmp .gt 6, 3)]
set_option maxRecDepth 20000 in
theorem k_X9_finish_90 {sc : xm_Sc} : xm_bok (xe_cy (XE sc) 143) b_X9_finish_90 := by show xm_bok cX9_finish _; unfold xm_bok; decide +kernel
def b_X9_finish_115 : List (Nat × Jvm.ClassFile.Instr × Nat) := [(115, .bipush (-2), 2), (117, .ireturn, 1)]
set_option maxRecDepth 20000 in
theorem k_X9_finish_115 {sc : xm_Sc} : xm_bok (xe_cy (XE sc) 143) b_X9_finish_115 := by show xm_bok cX9_finish _; unfold xm_bok; decide +kernel
def b_X9_finish_118 : List (Nat × Jvm.ClassFile.Instr × Nat) := [(118, .iload 4, 2), (120, .istore_n 2, 1)]
set_option maxRecDepth 20000 in
theorem k_X9_finish_118 {sc : xm_Sc} : xm_bok (xe_cy (XE sc) 143) b_X9_finish_118 := by show xm_bok cX9_finish _; unfold xm_bok; decide +kernel
def b_X9_finish_121 : List (Nat × Jvm.ClassFile.Instr × Nat) := [(121, .aload_n 0, 1), (122, .dup, 1), (123, .getfield 148, 3), (126, .iconst 1, 1), (127, .isub, 1), (128, .putfield 148, 3), (131, .iinc 3 1, 3), (134, .goto (-130), 3)]
set_option maxRecDepth 20000 in
theorem k_X9_finish_121 {sc : xm_Sc} : xm_bok (xe_cy (XE sc) 143) b_X9_finish_121 := by show xm_bok cX9_finish _; unfold xm_bok; decide +kernel
def b_X9_finish_137 : List (Nat × Jvm.ClassFile.Instr × Nat) := [(137, .iload_n 2, 1), (138, .ireturn, 1)]
set_option maxRecDepth 20000 in
theorem k_X9_finish_137 {sc : xm_Sc} : xm_bok (xe_cy (XE sc) 143) b_X9_finish_137 := by show xm_bok cX9_finish _; unfold xm_bok; decide +kernel
set_option maxRecDepth 20000 in
theorem cn_143 {sc : xm_Sc} : xe_cn (XE sc) 143 = 9 := rfl
set_option maxRecDepth 20000 in
theorem ml_143 {sc : xm_Sc} : xe_ml (XE sc) 143 = 5 := rfl
set_option maxRecDepth 20000 in
theorem ry_143 {sc : xm_Sc} : xe_ry (XE sc) 143 = (some .int) := rfl
set_option maxRecDepth 20000 in
theorem is_143 {sc : xm_Sc} : xe_is (XE sc) 143 = false := rfl
set_option maxRecDepth 20000 in
theorem np_143 {sc : xm_Sc} : xe_np (XE sc) 143 = 1 := rfl
/- method 144: X9_isPlain -/
def b_X9_isPlain_0 : List (Nat × Jvm.ClassFile.Instr × Nat) := [(0, .iload_n 0, 1), (1, .bipush 32, 2), (3, .if_icmp .le 31, 3)]
set_option maxRecDepth 20000 in
theorem k_X9_isPlain_0 {sc : xm_Sc} : xm_bok (xe_cy (XE sc) 144) b_X9_isPlain_0 := by show xm_bok cX9_isPlain _; unfold xm_bok; decide +kernel
def b_X9_isPlain_6 : List (Nat × Jvm.ClassFile.Instr × Nat) := [(6, .iload_n 0, 1), (7, .bipush 127, 2), (9, .if_icmp .ge 25, 3)]
set_option maxRecDepth 20000 in
theorem k_X9_isPlain_6 {sc : xm_Sc} : xm_bok (xe_cy (XE sc) 144) b_X9_isPlain_6 := by show xm_bok cX9_isPlain _; unfold xm_bok; decide +kernel
def b_X9_isPlain_12 : List (Nat × Jvm.ClassFile.Instr × Nat) := [(12, .iload_n 0, 1), (13, .bipush 61, 2), (15, .if_icmp .eq 19, 3)]
set_option maxRecDepth 20000 in
theorem k_X9_isPlain_12 {sc : xm_Sc} : xm_bok (xe_cy (XE sc) 144) b_X9_isPlain_12 := by show xm_bok cX9_isPlain _; unfold xm_bok; decide +kernel
def b_X9_isPlain_18 : List (Nat × Jvm.ClassFile.Instr × Nat) := [(18, .iload_n 0, 1), (19, .bipush 40, 2), (21, .if_icmp .eq 13, 3)]
set_option maxRecDepth 20000 in
theorem k_X9_isPlain_18 {sc : xm_Sc} : xm_bok (xe_cy (XE sc) 144) b_X9_isPlain_18 := by show xm_bok cX9_isPlain _; unfold xm_bok; decide +kernel
def b_X9_isPlain_24 : List (Nat × Jvm.ClassFile.Instr × Nat) := [(24, .iload_n 0, 1), (25, .bipush 41, 2), (27, .if_icmp .eq 7, 3)]
set_option maxRecDepth 20000 in
theorem k_X9_isPlain_24 {sc : xm_Sc} : xm_bok (xe_cy (XE sc) 144) b_X9_isPlain_24 := by show xm_bok cX9_isPlain _; unfold xm_bok; decide +kernel
def b_X9_isPlain_30 : List (Nat × Jvm.ClassFile.Instr × Nat) := [(30, .iconst 1, 1), (31, .goto 4, 3)]
set_option maxRecDepth 20000 in
theorem k_X9_isPlain_30 {sc : xm_Sc} : xm_bok (xe_cy (XE sc) 144) b_X9_isPlain_30 := by show xm_bok cX9_isPlain _; unfold xm_bok; decide +kernel
def b_X9_isPlain_34 : List (Nat × Jvm.ClassFile.Instr × Nat) := [(34, .iconst 0, 1)]
set_option maxRecDepth 20000 in
theorem k_X9_isPlain_34 {sc : xm_Sc} : xm_bok (xe_cy (XE sc) 144) b_X9_isPlain_34 := by show xm_bok cX9_isPlain _; unfold xm_bok; decide +kernel
def b_X9_isPlain_35 : List (Nat × Jvm.ClassFile.Instr × Nat) := [(35, .ireturn, 1)]
set_option maxRecDepth 20000 in
theorem k_X9_isPlain_35 {sc : xm_Sc} : xm_bok (xe_cy (XE sc) 144) b_X9_isPlain_35 := by show xm_bok cX9_isPlain _; unfold xm_bok; decide +kernel
set_option maxRecDepth 20000 in
theorem cn_144 {sc : xm_Sc} : xe_cn (XE sc) 144 = 9 := rfl
set_option maxRecDepth 20000 in
theorem ml_144 {sc : xm_Sc} : xe_ml (XE sc) 144 = 1 := rfl
set_option maxRecDepth 20000 in
theorem ry_144 {sc : xm_Sc} : xe_ry (XE sc) 144 = (some .boolean) := rfl
set_option maxRecDepth 20000 in
theorem is_144 {sc : xm_Sc} : xe_is (XE sc) 144 = true := rfl
set_option maxRecDepth 20000 in
theorem np_144 {sc : xm_Sc} : xe_np (XE sc) 144 = 1 := rfl
/- method 145: X9_judgeRows -/
def b_X9_judgeRows_0 : List (Nat × Jvm.ClassFile.Instr × Nat) := [(0, .iconst 0, 1), (1, .istore_n 2, 1)]
set_option maxRecDepth 20000 in
theorem k_X9_judgeRows_0 {sc : xm_Sc} : xm_bok (xe_cy (XE sc) 145) b_X9_judgeRows_0 := by show xm_bok cX9_judgeRows _; unfold xm_bok; decide +kernel
def b_X9_judgeRows_2 : List (Nat × Jvm.ClassFile.Instr × Nat) := [(2, .iload_n 2, 1), (3, .aload_n 0, 1), (4, .getfield 28, 3), (7, .getfield 79, 3), (10, .if_icmp .ge 56, 3)]
set_option maxRecDepth 20000 in
theorem k_X9_judgeRows_2 {sc : xm_Sc} : xm_bok (xe_cy (XE sc) 145) b_X9_judgeRows_2 := by show xm_bok cX9_judgeRows _; unfold xm_bok; decide +kernel
def b_X9_judgeRows_13 : List (Nat × Jvm.ClassFile.Instr × Nat) := [(13, .aload_n 0, 1), (14, .getfield 28, 3), (17, .getfield 199, 3), (20, .iload_n 2, 1), (21, .iaload, 1), (22, .istore_n 3, 1), (23, .aload_n 0, 1), (24, .getfield 36, 3), (27, .getfield 215, 3), (30, .iload_n 3, 1), (31, .iaload, 1), (32, .bipush 10, 2), (34, .if_icmp .ne 26, 3)]
set_option maxRecDepth 20000 in
theorem k_X9_judgeRows_13 {sc : xm_Sc} : xm_bok (xe_cy (XE sc) 145) b_X9_judgeRows_13 := by show xm_bok cX9_judgeRows _; unfold xm_bok; decide +kernel
def b_X9_judgeRows_37 : List (Nat × Jvm.ClassFile.Instr × Nat) := [(37, .aload_n 0, 1), (38, .getfield 36, 3), (41, .getfield 187, 3), (44, .iload_n 3, 1), (45, .iaload, 1), (46, .aload_n 0, 1), (47, .getfield 36, 3), (50, .iload_n 3, 1), (51, .invokevirtual 217, 3)]
set_option maxRecDepth 20000 in
theorem k_X9_judgeRows_37 {sc : xm_Sc} : xm_bok (xe_cy (XE sc) 145) b_X9_judgeRows_37 := by show xm_bok cX9_judgeRows _; unfold xm_bok; decide +kernel
def b_X9_judgeRows_54 : List (Nat × Jvm.ClassFile.Instr × Nat) := [(54, .if_icmp .eq 6, 3)]
set_option maxRecDepth 20000 in
theorem k_X9_judgeRows_54 {sc : xm_Sc} : xm_bok (xe_cy (XE sc) 145) b_X9_judgeRows_54 := by show xm_bok cX9_judgeRows _; unfold xm_bok; decide +kernel
def b_X9_judgeRows_57 : List (Nat × Jvm.ClassFile.Instr × Nat) := [(57, .bipush 10, 2), (59, .ireturn, 1)]
set_option maxRecDepth 20000 in
theorem k_X9_judgeRows_57 {sc : xm_Sc} : xm_bok (xe_cy (XE sc) 145) b_X9_judgeRows_57 := by show xm_bok cX9_judgeRows _; unfold xm_bok; decide +kernel
def b_X9_judgeRows_60 : List (Nat × Jvm.ClassFile.Instr × Nat) := [(60, .iinc 2 1, 3), (63, .goto (-61), 3)]
set_option maxRecDepth 20000 in
theorem k_X9_judgeRows_60 {sc : xm_Sc} : xm_bok (xe_cy (XE sc) 145) b_X9_judgeRows_60 := by show xm_bok cX9_judgeRows _; unfold xm_bok; decide +kernel
def b_X9_judgeRows_66 : List (Nat × Jvm.ClassFile.Instr × Nat) := [(66, .iconst 0, 1), (67, .istore_n 2, 1)]
set_option maxRecDepth 20000 in
theorem k_X9_judgeRows_66 {sc : xm_Sc} : xm_bok (xe_cy (XE sc) 145) b_X9_judgeRows_66 := by show xm_bok cX9_judgeRows _; unfold xm_bok; decide +kernel
def b_X9_judgeRows_68 : List (Nat × Jvm.ClassFile.Instr × Nat) := [(68, .iload_n 2, 1), (69, .aload_n 0, 1), (70, .getfield 28, 3), (73, .getfield 79, 3), (76, .if_icmp .ge 70, 3)]
set_option maxRecDepth 20000 in
theorem k_X9_judgeRows_68 {sc : xm_Sc} : xm_bok (xe_cy (XE sc) 145) b_X9_judgeRows_68 := by show xm_bok cX9_judgeRows _; unfold xm_bok; decide +kernel
def b_X9_judgeRows_79 : List (Nat × Jvm.ClassFile.Instr × Nat) := [(79, .aload_n 0, 1), (80, .getfield 28, 3), (83, .getfield 199, 3), (86, .iload_n 2, 1), (87, .iaload, 1), (88, .istore_n 3, 1), (89, .aload_n 0, 1), (90, .getfield 36, 3), (93, .getfield 215, 3), (96, .iload_n 3, 1), (97, .iaload, 1), (98, .bipush 10, 2), (100, .if_icmp .ne 40, 3)]
set_option maxRecDepth 20000 in
theorem k_X9_judgeRows_79 {sc : xm_Sc} : xm_bok (xe_cy (XE sc) 145) b_X9_judgeRows_79 := by show xm_bok cX9_judgeRows _; unfold xm_bok; decide +kernel
def b_X9_judgeRows_103 : List (Nat × Jvm.ClassFile.Instr × Nat) := [(103, .aload_n 1, 1), (104, .invokevirtual 86, 3)]
set_option maxRecDepth 20000 in
theorem k_X9_judgeRows_103 {sc : xm_Sc} : xm_bok (xe_cy (XE sc) 145) b_X9_judgeRows_103 := by show xm_bok cX9_judgeRows _; unfold xm_bok; decide +kernel
def b_X9_judgeRows_107 : List (Nat × Jvm.ClassFile.Instr × Nat) := [(107, .aload_n 0, 1), (108, .iload_n 3, 1), (109, .aload_n 1, 1), (110, .invokevirtual 220, 3)]
set_option maxRecDepth 20000 in
theorem k_X9_judgeRows_107 {sc : xm_Sc} : xm_bok (xe_cy (XE sc) 145) b_X9_judgeRows_107 := by show xm_bok cX9_judgeRows _; unfold xm_bok; decide +kernel
def b_X9_judgeRows_113 : List (Nat × Jvm.ClassFile.Instr × Nat) := [(113, .aload_n 0, 1), (114, .getfield 36, 3), (117, .getfield 224, 3), (120, .aload_n 1, 1), (121, .iconst 0, 1), (122, .aload_n 0, 1), (123, .getfield 36, 3), (126, .getfield 228, 3), (129, .iload_n 3, 1), (130, .iaload, 1), (131, .invokevirtual 231, 3)]
set_option maxRecDepth 20000 in
theorem k_X9_judgeRows_113 {sc : xm_Sc} : xm_bok (xe_cy (XE sc) 145) b_X9_judgeRows_113 := by show xm_bok cX9_judgeRows _; unfold xm_bok; decide +kernel
def b_X9_judgeRows_134 : List (Nat × Jvm.ClassFile.Instr × Nat) := [(134, .ifCond .ne 6, 3)]
set_option maxRecDepth 20000 in
theorem k_X9_judgeRows_134 {sc : xm_Sc} : xm_bok (xe_cy (XE sc) 145) b_X9_judgeRows_134 := by show xm_bok cX9_judgeRows _; unfold xm_bok; decide +kernel
def b_X9_judgeRows_137 : List (Nat × Jvm.ClassFile.Instr × Nat) := [(137, .bipush 11, 2), (139, .ireturn, 1)]
set_option maxRecDepth 20000 in
theorem k_X9_judgeRows_137 {sc : xm_Sc} : xm_bok (xe_cy (XE sc) 145) b_X9_judgeRows_137 := by show xm_bok cX9_judgeRows _; unfold xm_bok; decide +kernel
def b_X9_judgeRows_140 : List (Nat × Jvm.ClassFile.Instr × Nat) := [(140, .iinc 2 1, 3), (143, .goto (-75), 3)]
set_option maxRecDepth 20000 in
theorem k_X9_judgeRows_140 {sc : xm_Sc} : xm_bok (xe_cy (XE sc) 145) b_X9_judgeRows_140 := by show xm_bok cX9_judgeRows _; unfold xm_bok; decide +kernel
def b_X9_judgeRows_146 : List (Nat × Jvm.ClassFile.Instr × Nat) := [(146, .iconst 0, 1), (147, .ireturn, 1)]
set_option maxRecDepth 20000 in
theorem k_X9_judgeRows_146 {sc : xm_Sc} : xm_bok (xe_cy (XE sc) 145) b_X9_judgeRows_146 := by show xm_bok cX9_judgeRows _; unfold xm_bok; decide +kernel
set_option maxRecDepth 20000 in
theorem cn_145 {sc : xm_Sc} : xe_cn (XE sc) 145 = 9 := rfl
set_option maxRecDepth 20000 in
theorem ml_145 {sc : xm_Sc} : xe_ml (XE sc) 145 = 4 := rfl
set_option maxRecDepth 20000 in
theorem ry_145 {sc : xm_Sc} : xe_ry (XE sc) 145 = (some .int) := rfl
set_option maxRecDepth 20000 in
theorem is_145 {sc : xm_Sc} : xe_is (XE sc) 145 = false := rfl
set_option maxRecDepth 20000 in
theorem np_145 {sc : xm_Sc} : xe_np (XE sc) 145 = 1 := rfl
/- method 146: X9_keepName -/
def b_X9_keepName_0 : List (Nat × Jvm.ClassFile.Instr × Nat) := [(0, .aload_n 0, 1), (1, .getfield 55, 3), (4, .sipush 4096, 3), (7, .if_icmp .ge 66, 3)]
set_option maxRecDepth 20000 in
theorem k_X9_keepName_0 {sc : xm_Sc} : xm_bok (xe_cy (XE sc) 146) b_X9_keepName_0 := by show xm_bok cX9_keepName _; unfold xm_bok; decide +kernel
def b_X9_keepName_10 : List (Nat × Jvm.ClassFile.Instr × Nat) := [(10, .lload_n 1, 1), (11, .invokestatic 145, 3)]
set_option maxRecDepth 20000 in
theorem k_X9_keepName_10 {sc : xm_Sc} : xm_bok (xe_cy (XE sc) 146) b_X9_keepName_10 := by show xm_bok cX9_keepName _; unfold xm_bok; decide +kernel
def b_X9_keepName_14 : List (Nat × Jvm.ClassFile.Instr × Nat) := [(14, .istore 4, 2), (16, .aload_n 0, 1), (17, .getfield 15, 3), (20, .aload_n 0, 1), (21, .getfield 55, 3), (24, .lload_n 1, 1), (25, .lastore, 1), (26, .aload_n 0, 1), (27, .getfield 19, 3), (30, .aload_n 0, 1), (31, .getfield 55, 3), (34, .iload_n 3, 1), (35, .iastore, 1), (36, .aload_n 0, 1), (37, .getfield 22, 3), (40, .aload_n 0, 1), (41, .getfield 55, 3), (44, .aload_n 0, 1), (45, .getfield 25, 3), (48, .iload 4, 2), (50, .iaload, 1), (51, .iastore, 1), (52, .aload_n 0, 1), (53, .getfield 25, 3), (56, .iload 4, 2), (58, .aload_n 0, 1), (59, .getfield 55, 3), (62, .iastore, 1), (63, .aload_n 0, 1), (64, .dup, 1), (65, .getfield 55, 3), (68, .iconst 1, 1), (69, .iadd, 1), (70, .putfield 55, 3)]
set_option maxRecDepth 20000 in
theorem k_X9_keepName_14 {sc : xm_Sc} : xm_bok (xe_cy (XE sc) 146) b_X9_keepName_14 := by show xm_bok cX9_keepName _; unfold xm_bok; decide +kernel
def b_X9_keepName_73 : List (Nat × Jvm.ClassFile.Instr × Nat) := [(73, .return_, 1)]
set_option maxRecDepth 20000 in
theorem k_X9_keepName_73 {sc : xm_Sc} : xm_bok (xe_cy (XE sc) 146) b_X9_keepName_73 := by show xm_bok cX9_keepName _; unfold xm_bok; decide +kernel
set_option maxRecDepth 20000 in
theorem cn_146 {sc : xm_Sc} : xe_cn (XE sc) 146 = 9 := rfl
set_option maxRecDepth 20000 in
theorem ml_146 {sc : xm_Sc} : xe_ml (XE sc) 146 = 5 := rfl
set_option maxRecDepth 20000 in
theorem ry_146 {sc : xm_Sc} : xe_ry (XE sc) 146 = none := rfl
set_option maxRecDepth 20000 in
theorem is_146 {sc : xm_Sc} : xe_is (XE sc) 146 = false := rfl
set_option maxRecDepth 20000 in
theorem np_146 {sc : xm_Sc} : xe_np (XE sc) 146 = 2 := rfl
/- method 147: X9_nextWord -/
def b_X9_nextWord_0 : List (Nat × Jvm.ClassFile.Instr × Nat) := [(0, .aload_n 0, 1), (1, .lconst 0, 1), (2, .putfield 103, 3), (5, .aload_n 0, 1), (6, .iconst (-1), 1), (7, .putfield 126, 3), (10, .aload_n 0, 1), (11, .aload_n 0, 1), (12, .getfield 52, 3), (15, .putfield 107, 3)]
set_option maxRecDepth 20000 in
theorem k_X9_nextWord_0 {sc : xm_Sc} : xm_bok (xe_cy (XE sc) 147) b_X9_nextWord_0 := by show xm_bok cX9_nextWord _; unfold xm_bok; decide +kernel
def b_X9_nextWord_18 : List (Nat × Jvm.ClassFile.Instr × Nat) := [(18, .aload_n 0, 1), (19, .getfield 107, 3), (22, .aload_n 0, 1), (23, .getfield 32, 3), (26, .getfield 129, 3), (29, .if_icmp .ge 48, 3)]
set_option maxRecDepth 20000 in
theorem k_X9_nextWord_18 {sc : xm_Sc} : xm_bok (xe_cy (XE sc) 147) b_X9_nextWord_18 := by show xm_bok cX9_nextWord _; unfold xm_bok; decide +kernel
def b_X9_nextWord_32 : List (Nat × Jvm.ClassFile.Instr × Nat) := [(32, .aload_n 0, 1), (33, .getfield 32, 3), (36, .aload_n 0, 1), (37, .getfield 107, 3), (40, .invokevirtual 130, 3)]
set_option maxRecDepth 20000 in
theorem k_X9_nextWord_32 {sc : xm_Sc} : xm_bok (xe_cy (XE sc) 147) b_X9_nextWord_32 := by show xm_bok cX9_nextWord _; unfold xm_bok; decide +kernel
def b_X9_nextWord_43 : List (Nat × Jvm.ClassFile.Instr × Nat) := [(43, .bipush 10, 2), (45, .if_icmp .eq 19, 3)]
set_option maxRecDepth 20000 in
theorem k_X9_nextWord_43 {sc : xm_Sc} : xm_bok (xe_cy (XE sc) 147) b_X9_nextWord_43 := by show xm_bok cX9_nextWord _; unfold xm_bok; decide +kernel
def b_X9_nextWord_48 : List (Nat × Jvm.ClassFile.Instr × Nat) := [(48, .aload_n 0, 1), (49, .getfield 32, 3), (52, .aload_n 0, 1), (53, .getfield 107, 3), (56, .invokevirtual 130, 3)]
set_option maxRecDepth 20000 in
theorem k_X9_nextWord_48 {sc : xm_Sc} : xm_bok (xe_cy (XE sc) 147) b_X9_nextWord_48 := by show xm_bok cX9_nextWord _; unfold xm_bok; decide +kernel
def b_X9_nextWord_59 : List (Nat × Jvm.ClassFile.Instr × Nat) := [(59, .bipush 32, 2), (61, .if_icmp .ne 16, 3)]
set_option maxRecDepth 20000 in
theorem k_X9_nextWord_59 {sc : xm_Sc} : xm_bok (xe_cy (XE sc) 147) b_X9_nextWord_59 := by show xm_bok cX9_nextWord _; unfold xm_bok; decide +kernel
def b_X9_nextWord_64 : List (Nat × Jvm.ClassFile.Instr × Nat) := [(64, .aload_n 0, 1), (65, .dup, 1), (66, .getfield 107, 3), (69, .iconst 1, 1), (70, .iadd, 1), (71, .putfield 107, 3), (74, .goto (-56), 3)]
set_option maxRecDepth 20000 in
theorem k_X9_nextWord_64 {sc : xm_Sc} : xm_bok (xe_cy (XE sc) 147) b_X9_nextWord_64 := by show xm_bok cX9_nextWord _; unfold xm_bok; decide +kernel
def b_X9_nextWord_77 : List (Nat × Jvm.ClassFile.Instr × Nat) := [(77, .aload_n 0, 1), (78, .aload_n 0, 1), (79, .getfield 107, 3), (82, .putfield 52, 3), (85, .aload_n 0, 1), (86, .getfield 107, 3), (89, .aload_n 0, 1), (90, .getfield 32, 3), (93, .getfield 129, 3), (96, .if_icmp .lt 9, 3)]
set_option maxRecDepth 20000 in
theorem k_X9_nextWord_77 {sc : xm_Sc} : xm_bok (xe_cy (XE sc) 147) b_X9_nextWord_77 := by show xm_bok cX9_nextWord _; unfold xm_bok; decide +kernel
def b_X9_nextWord_99 : List (Nat × Jvm.ClassFile.Instr × Nat) := [(99, .aload_n 0, 1), (100, .iconst 0, 1), (101, .putfield 100, 3), (104, .return_, 1)]
set_option maxRecDepth 20000 in
theorem k_X9_nextWord_99 {sc : xm_Sc} : xm_bok (xe_cy (XE sc) 147) b_X9_nextWord_99 := by show xm_bok cX9_nextWord _; unfold xm_bok; decide +kernel
def b_X9_nextWord_105 : List (Nat × Jvm.ClassFile.Instr × Nat) := [(105, .aload_n 0, 1), (106, .aload_n 0, 1), (107, .getfield 107, 3), (110, .iconst 1, 1), (111, .iadd, 1), (112, .putfield 52, 3), (115, .aload_n 0, 1), (116, .getfield 32, 3), (119, .aload_n 0, 1), (120, .getfield 107, 3), (123, .invokevirtual 130, 3)]
set_option maxRecDepth 20000 in
theorem k_X9_nextWord_105 {sc : xm_Sc} : xm_bok (xe_cy (XE sc) 147) b_X9_nextWord_105 := by show xm_bok cX9_nextWord _; unfold xm_bok; decide +kernel
def b_X9_nextWord_126 : List (Nat × Jvm.ClassFile.Instr × Nat) := [(126, .istore_n 1, 1), (127, .iload_n 1, 1), (128, .bipush 61, 2), (130, .if_icmp .ne 11, 3)]
set_option maxRecDepth 20000 in
theorem k_X9_nextWord_126 {sc : xm_Sc} : xm_bok (xe_cy (XE sc) 147) b_X9_nextWord_126 := by show xm_bok cX9_nextWord _; unfold xm_bok; decide +kernel
def b_X9_nextWord_133 : List (Nat × Jvm.ClassFile.Instr × Nat) := [(133, .aload_n 0, 1), (134, .iconst 2, 1), (135, .putfield 100, 3), (138, .goto 99, 3)]
set_option maxRecDepth 20000 in
theorem k_X9_nextWord_133 {sc : xm_Sc} : xm_bok (xe_cy (XE sc) 147) b_X9_nextWord_133 := by show xm_bok cX9_nextWord _; unfold xm_bok; decide +kernel
def b_X9_nextWord_141 : List (Nat × Jvm.ClassFile.Instr × Nat) := [(141, .iload_n 1, 1), (142, .bipush 40, 2), (144, .if_icmp .ne 11, 3)]
set_option maxRecDepth 20000 in
theorem k_X9_nextWord_141 {sc : xm_Sc} : xm_bok (xe_cy (XE sc) 147) b_X9_nextWord_141 := by show xm_bok cX9_nextWord _; unfold xm_bok; decide +kernel
def b_X9_nextWord_147 : List (Nat × Jvm.ClassFile.Instr × Nat) := [(147, .aload_n 0, 1), (148, .iconst 3, 1), (149, .putfield 100, 3), (152, .goto 85, 3)]
set_option maxRecDepth 20000 in
theorem k_X9_nextWord_147 {sc : xm_Sc} : xm_bok (xe_cy (XE sc) 147) b_X9_nextWord_147 := by show xm_bok cX9_nextWord _; unfold xm_bok; decide +kernel
def b_X9_nextWord_155 : List (Nat × Jvm.ClassFile.Instr × Nat) := [(155, .iload_n 1, 1), (156, .bipush 41, 2), (158, .if_icmp .ne 11, 3)]
set_option maxRecDepth 20000 in
theorem k_X9_nextWord_155 {sc : xm_Sc} : xm_bok (xe_cy (XE sc) 147) b_X9_nextWord_155 := by show xm_bok cX9_nextWord _; unfold xm_bok; decide +kernel
def b_X9_nextWord_161 : List (Nat × Jvm.ClassFile.Instr × Nat) := [(161, .aload_n 0, 1), (162, .iconst 4, 1), (163, .putfield 100, 3), (166, .goto 71, 3)]
set_option maxRecDepth 20000 in
theorem k_X9_nextWord_161 {sc : xm_Sc} : xm_bok (xe_cy (XE sc) 147) b_X9_nextWord_161 := by show xm_bok cX9_nextWord _; unfold xm_bok; decide +kernel
def b_X9_nextWord_169 : List (Nat × Jvm.ClassFile.Instr × Nat) := [(169, .iload_n 1, 1), (170, .invokestatic 133, 3)]
set_option maxRecDepth 20000 in
theorem k_X9_nextWord_169 {sc : xm_Sc} : xm_bok (xe_cy (XE sc) 147) b_X9_nextWord_169 := by show xm_bok cX9_nextWord _; unfold xm_bok; decide +kernel
def b_X9_nextWord_173 : List (Nat × Jvm.ClassFile.Instr × Nat) := [(173, .ifCond .ne 11, 3)]
set_option maxRecDepth 20000 in
theorem k_X9_nextWord_173 {sc : xm_Sc} : xm_bok (xe_cy (XE sc) 147) b_X9_nextWord_173 := by show xm_bok cX9_nextWord _; unfold xm_bok; decide +kernel
def b_X9_nextWord_176 : List (Nat × Jvm.ClassFile.Instr × Nat) := [(176, .aload_n 0, 1), (177, .iconst 1, 1), (178, .putfield 100, 3), (181, .goto 56, 3)]
set_option maxRecDepth 20000 in
theorem k_X9_nextWord_176 {sc : xm_Sc} : xm_bok (xe_cy (XE sc) 147) b_X9_nextWord_176 := by show xm_bok cX9_nextWord _; unfold xm_bok; decide +kernel
def b_X9_nextWord_184 : List (Nat × Jvm.ClassFile.Instr × Nat) := [(184, .aload_n 0, 1), (185, .iconst 5, 1), (186, .putfield 100, 3)]
set_option maxRecDepth 20000 in
theorem k_X9_nextWord_184 {sc : xm_Sc} : xm_bok (xe_cy (XE sc) 147) b_X9_nextWord_184 := by show xm_bok cX9_nextWord _; unfold xm_bok; decide +kernel
def b_X9_nextWord_189 : List (Nat × Jvm.ClassFile.Instr × Nat) := [(189, .aload_n 0, 1), (190, .getfield 52, 3), (193, .aload_n 0, 1), (194, .getfield 32, 3), (197, .getfield 129, 3), (200, .if_icmp .ge 33, 3)]
set_option maxRecDepth 20000 in
theorem k_X9_nextWord_189 {sc : xm_Sc} : xm_bok (xe_cy (XE sc) 147) b_X9_nextWord_189 := by show xm_bok cX9_nextWord _; unfold xm_bok; decide +kernel
def b_X9_nextWord_203 : List (Nat × Jvm.ClassFile.Instr × Nat) := [(203, .aload_n 0, 1), (204, .getfield 32, 3), (207, .aload_n 0, 1), (208, .getfield 52, 3), (211, .invokevirtual 130, 3)]
set_option maxRecDepth 20000 in
theorem k_X9_nextWord_203 {sc : xm_Sc} : xm_bok (xe_cy (XE sc) 147) b_X9_nextWord_203 := by show xm_bok cX9_nextWord _; unfold xm_bok; decide +kernel
def b_X9_nextWord_214 : List (Nat × Jvm.ClassFile.Instr × Nat) := [(214, .invokestatic 133, 3)]
set_option maxRecDepth 20000 in
theorem k_X9_nextWord_214 {sc : xm_Sc} : xm_bok (xe_cy (XE sc) 147) b_X9_nextWord_214 := by show xm_bok cX9_nextWord _; unfold xm_bok; decide +kernel
def b_X9_nextWord_217 : List (Nat × Jvm.ClassFile.Instr × Nat) := [(217, .ifCond .eq 16, 3)]
set_option maxRecDepth 20000 in
theorem k_X9_nextWord_217 {sc : xm_Sc} : xm_bok (xe_cy (XE sc) 147) b_X9_nextWord_217 := by show xm_bok cX9_nextWord _; unfold xm_bok; decide +kernel
def b_X9_nextWord_220 : List (Nat × Jvm.ClassFile.Instr × Nat) := [(220, .aload_n 0, 1), (221, .dup, 1), (222, .getfield 52, 3), (225, .iconst 1, 1), (226, .iadd, 1), (227, .putfield 52, 3), (230, .goto (-41), 3)]
set_option maxRecDepth 20000 in
theorem k_X9_nextWord_220 {sc : xm_Sc} : xm_bok (xe_cy (XE sc) 147) b_X9_nextWord_220 := by show xm_bok cX9_nextWord _; unfold xm_bok; decide +kernel
def b_X9_nextWord_233 : List (Nat × Jvm.ClassFile.Instr × Nat) := [(233, .aload_n 0, 1), (234, .invokevirtual 137, 3)]
set_option maxRecDepth 20000 in
theorem k_X9_nextWord_233 {sc : xm_Sc} : xm_bok (xe_cy (XE sc) 147) b_X9_nextWord_233 := by show xm_bok cX9_nextWord _; unfold xm_bok; decide +kernel
def b_X9_nextWord_237 : List (Nat × Jvm.ClassFile.Instr × Nat) := [(237, .return_, 1)]
set_option maxRecDepth 20000 in
theorem k_X9_nextWord_237 {sc : xm_Sc} : xm_bok (xe_cy (XE sc) 147) b_X9_nextWord_237 := by show xm_bok cX9_nextWord _; unfold xm_bok; decide +kernel
set_option maxRecDepth 20000 in
theorem cn_147 {sc : xm_Sc} : xe_cn (XE sc) 147 = 9 := rfl
set_option maxRecDepth 20000 in
theorem ml_147 {sc : xm_Sc} : xe_ml (XE sc) 147 = 2 := rfl
set_option maxRecDepth 20000 in
theorem ry_147 {sc : xm_Sc} : xe_ry (XE sc) 147 = none := rfl
set_option maxRecDepth 20000 in
theorem is_147 {sc : xm_Sc} : xe_is (XE sc) 147 = false := rfl
set_option maxRecDepth 20000 in
theorem np_147 {sc : xm_Sc} : xe_np (XE sc) 147 = 0 := rfl
/- method 148: X9_nodeOf -/
def b_X9_nodeOf_0 : List (Nat × Jvm.ClassFile.Instr × Nat) := [(0, .aload_n 0, 1), (1, .getfield 25, 3), (4, .lload_n 1, 1), (5, .invokestatic 145, 3)]
set_option maxRecDepth 20000 in
theorem k_X9_nodeOf_0 {sc : xm_Sc} : xm_bok (xe_cy (XE sc) 148) b_X9_nodeOf_0 := by show xm_bok cX9_nodeOf _; unfold xm_bok; decide +kernel
def b_X9_nodeOf_8 : List (Nat × Jvm.ClassFile.Instr × Nat) := [(8, .iaload, 1), (9, .istore_n 3, 1), (10, .iconst 0, 1), (11, .istore 4, 2)]
set_option maxRecDepth 20000 in
theorem k_X9_nodeOf_8 {sc : xm_Sc} : xm_bok (xe_cy (XE sc) 148) b_X9_nodeOf_8 := by show xm_bok cX9_nodeOf _; unfold xm_bok; decide +kernel
def b_X9_nodeOf_13 : List (Nat × Jvm.ClassFile.Instr × Nat) := [(13, .iload 4, 2), (15, .sipush 4096, 3), (18, .if_icmp .ge 38, 3)]
set_option maxRecDepth 20000 in
theorem k_X9_nodeOf_13 {sc : xm_Sc} : xm_bok (xe_cy (XE sc) 148) b_X9_nodeOf_13 := by show xm_bok cX9_nodeOf _; unfold xm_bok; decide +kernel
def b_X9_nodeOf_21 : List (Nat × Jvm.ClassFile.Instr × Nat) := [(21, .iload_n 3, 1), (22, .ifCond .lt 34, 3)]
set_option maxRecDepth 20000 in
theorem k_X9_nodeOf_21 {sc : xm_Sc} : xm_bok (xe_cy (XE sc) 148) b_X9_nodeOf_21 := by show xm_bok cX9_nodeOf _; unfold xm_bok; decide +kernel
def b_X9_nodeOf_25 : List (Nat × Jvm.ClassFile.Instr × Nat) := [(25, .aload_n 0, 1), (26, .getfield 15, 3), (29, .iload_n 3, 1), (30, .laload, 1), (31, .lload_n 1, 1), (32, .lcmp, 1), (33, .ifCond .ne 10, 3)]
set_option maxRecDepth 20000 in
theorem k_X9_nodeOf_25 {sc : xm_Sc} : xm_bok (xe_cy (XE sc) 148) b_X9_nodeOf_25 := by show xm_bok cX9_nodeOf _; unfold xm_bok; decide +kernel
def b_X9_nodeOf_36 : List (Nat × Jvm.ClassFile.Instr × Nat) := [(36, .aload_n 0, 1), (37, .getfield 19, 3), (40, .iload_n 3, 1), (41, .iaload, 1), (42, .ireturn, 1)]
set_option maxRecDepth 20000 in
theorem k_X9_nodeOf_36 {sc : xm_Sc} : xm_bok (xe_cy (XE sc) 148) b_X9_nodeOf_36 := by show xm_bok cX9_nodeOf _; unfold xm_bok; decide +kernel
def b_X9_nodeOf_43 : List (Nat × Jvm.ClassFile.Instr × Nat) := [(43, .aload_n 0, 1), (44, .getfield 22, 3), (47, .iload_n 3, 1), (48, .iaload, 1), (49, .istore_n 3, 1), (50, .iinc 4 1, 3), (53, .goto (-40), 3)]
set_option maxRecDepth 20000 in
theorem k_X9_nodeOf_43 {sc : xm_Sc} : xm_bok (xe_cy (XE sc) 148) b_X9_nodeOf_43 := by show xm_bok cX9_nodeOf _; unfold xm_bok; decide +kernel
def b_X9_nodeOf_56 : List (Nat × Jvm.ClassFile.Instr × Nat) := [(56, .iconst (-1), 1), (57, .ireturn, 1)]
set_option maxRecDepth 20000 in
theorem k_X9_nodeOf_56 {sc : xm_Sc} : xm_bok (xe_cy (XE sc) 148) b_X9_nodeOf_56 := by show xm_bok cX9_nodeOf _; unfold xm_bok; decide +kernel
set_option maxRecDepth 20000 in
theorem cn_148 {sc : xm_Sc} : xe_cn (XE sc) 148 = 9 := rfl
set_option maxRecDepth 20000 in
theorem ml_148 {sc : xm_Sc} : xe_ml (XE sc) 148 = 5 := rfl
set_option maxRecDepth 20000 in
theorem ry_148 {sc : xm_Sc} : xe_ry (XE sc) 148 = (some .int) := rfl
set_option maxRecDepth 20000 in
theorem is_148 {sc : xm_Sc} : xe_is (XE sc) 148 = false := rfl
set_option maxRecDepth 20000 in
theorem np_148 {sc : xm_Sc} : xe_np (XE sc) 148 = 1 := rfl
/- method 149: X9_readDefinition -/
def b_X9_readDefinition_0 : List (Nat × Jvm.ClassFile.Instr × Nat) := [(0, .aload_n 0, 1), (1, .invokevirtual 97, 3)]
set_option maxRecDepth 20000 in
theorem k_X9_readDefinition_0 {sc : xm_Sc} : xm_bok (xe_cy (XE sc) 149) b_X9_readDefinition_0 := by show xm_bok cX9_readDefinition _; unfold xm_bok; decide +kernel
def b_X9_readDefinition_4 : List (Nat × Jvm.ClassFile.Instr × Nat) := [(4, .aload_n 0, 1), (5, .getfield 100, 3), (8, .ifCond .ne 12, 3)]
set_option maxRecDepth 20000 in
theorem k_X9_readDefinition_4 {sc : xm_Sc} : xm_bok (xe_cy (XE sc) 149) b_X9_readDefinition_4 := by show xm_bok cX9_readDefinition _; unfold xm_bok; decide +kernel
def b_X9_readDefinition_11 : List (Nat × Jvm.ClassFile.Instr × Nat) := [(11, .aload_n 0, 1), (12, .getfield 55, 3), (15, .ifCond .le 5, 3)]
set_option maxRecDepth 20000 in
theorem k_X9_readDefinition_11 {sc : xm_Sc} : xm_bok (xe_cy (XE sc) 149) b_X9_readDefinition_11 := by show xm_bok cX9_readDefinition _; unfold xm_bok; decide +kernel
def b_X9_readDefinition_18 : List (Nat × Jvm.ClassFile.Instr × Nat) := [(18, .iconst 0, 1), (19, .ireturn, 1)]
set_option maxRecDepth 20000 in
theorem k_X9_readDefinition_18 {sc : xm_Sc} : xm_bok (xe_cy (XE sc) 149) b_X9_readDefinition_18 := by show xm_bok cX9_readDefinition _; unfold xm_bok; decide +kernel
def b_X9_readDefinition_20 : List (Nat × Jvm.ClassFile.Instr × Nat) := [(20, .aload_n 0, 1), (21, .getfield 103, 3), (24, .lstore_n 1, 1), (25, .lload_n 1, 1), (26, .lconst 0, 1), (27, .lcmp, 1), (28, .ifCond .ne 15, 3)]
set_option maxRecDepth 20000 in
theorem k_X9_readDefinition_20 {sc : xm_Sc} : xm_bok (xe_cy (XE sc) 149) b_X9_readDefinition_20 := by show xm_bok cX9_readDefinition _; unfold xm_bok; decide +kernel
def b_X9_readDefinition_31 : List (Nat × Jvm.ClassFile.Instr × Nat) := [(31, .aload_n 0, 1), (32, .iconst 1, 1), (33, .aload_n 0, 1), (34, .getfield 107, 3), (37, .invokevirtual 110, 3)]
set_option maxRecDepth 20000 in
theorem k_X9_readDefinition_31 {sc : xm_Sc} : xm_bok (xe_cy (XE sc) 149) b_X9_readDefinition_31 := by show xm_bok cX9_readDefinition _; unfold xm_bok; decide +kernel
def b_X9_readDefinition_40 : List (Nat × Jvm.ClassFile.Instr × Nat) := [(40, .pop, 1), (41, .iconst 0, 1), (42, .ireturn, 1)]
set_option maxRecDepth 20000 in
theorem k_X9_readDefinition_40 {sc : xm_Sc} : xm_bok (xe_cy (XE sc) 149) b_X9_readDefinition_40 := by show xm_bok cX9_readDefinition _; unfold xm_bok; decide +kernel
def b_X9_readDefinition_43 : List (Nat × Jvm.ClassFile.Instr × Nat) := [(43, .aload_n 0, 1), (44, .lload_n 1, 1), (45, .invokevirtual 114, 3)]
set_option maxRecDepth 20000 in
theorem k_X9_readDefinition_43 {sc : xm_Sc} : xm_bok (xe_cy (XE sc) 149) b_X9_readDefinition_43 := by show xm_bok cX9_readDefinition _; unfold xm_bok; decide +kernel
def b_X9_readDefinition_48 : List (Nat × Jvm.ClassFile.Instr × Nat) := [(48, .ifCond .lt 15, 3)]
set_option maxRecDepth 20000 in
theorem k_X9_readDefinition_48 {sc : xm_Sc} : xm_bok (xe_cy (XE sc) 149) b_X9_readDefinition_48 := by show xm_bok cX9_readDefinition _; unfold xm_bok; decide +kernel
def b_X9_readDefinition_51 : List (Nat × Jvm.ClassFile.Instr × Nat) := [(51, .aload_n 0, 1), (52, .iconst 2, 1), (53, .aload_n 0, 1), (54, .getfield 107, 3), (57, .invokevirtual 110, 3)]
set_option maxRecDepth 20000 in
theorem k_X9_readDefinition_51 {sc : xm_Sc} : xm_bok (xe_cy (XE sc) 149) b_X9_readDefinition_51 := by show xm_bok cX9_readDefinition _; unfold xm_bok; decide +kernel
def b_X9_readDefinition_60 : List (Nat × Jvm.ClassFile.Instr × Nat) := [(60, .pop, 1), (61, .iconst 0, 1), (62, .ireturn, 1)]
set_option maxRecDepth 20000 in
theorem k_X9_readDefinition_60 {sc : xm_Sc} : xm_bok (xe_cy (XE sc) 149) b_X9_readDefinition_60 := by show xm_bok cX9_readDefinition _; unfold xm_bok; decide +kernel
def b_X9_readDefinition_63 : List (Nat × Jvm.ClassFile.Instr × Nat) := [(63, .aload_n 0, 1), (64, .invokevirtual 97, 3)]
set_option maxRecDepth 20000 in
theorem k_X9_readDefinition_63 {sc : xm_Sc} : xm_bok (xe_cy (XE sc) 149) b_X9_readDefinition_63 := by show xm_bok cX9_readDefinition _; unfold xm_bok; decide +kernel
def b_X9_readDefinition_67 : List (Nat × Jvm.ClassFile.Instr × Nat) := [(67, .aload_n 0, 1), (68, .getfield 100, 3), (71, .iconst 2, 1), (72, .if_icmp .eq 15, 3)]
set_option maxRecDepth 20000 in
theorem k_X9_readDefinition_67 {sc : xm_Sc} : xm_bok (xe_cy (XE sc) 149) b_X9_readDefinition_67 := by show xm_bok cX9_readDefinition _; unfold xm_bok; decide +kernel
def b_X9_readDefinition_75 : List (Nat × Jvm.ClassFile.Instr × Nat) := [(75, .aload_n 0, 1), (76, .iconst 1, 1), (77, .aload_n 0, 1), (78, .getfield 107, 3), (81, .invokevirtual 110, 3)]
set_option maxRecDepth 20000 in
theorem k_X9_readDefinition_75 {sc : xm_Sc} : xm_bok (xe_cy (XE sc) 149) b_X9_readDefinition_75 := by show xm_bok cX9_readDefinition _; unfold xm_bok; decide +kernel
def b_X9_readDefinition_84 : List (Nat × Jvm.ClassFile.Instr × Nat) := [(84, .pop, 1), (85, .iconst 0, 1), (86, .ireturn, 1)]
set_option maxRecDepth 20000 in
theorem k_X9_readDefinition_84 {sc : xm_Sc} : xm_bok (xe_cy (XE sc) 149) b_X9_readDefinition_84 := by show xm_bok cX9_readDefinition _; unfold xm_bok; decide +kernel
def b_X9_readDefinition_87 : List (Nat × Jvm.ClassFile.Instr × Nat) := [(87, .aload_n 0, 1), (88, .invokevirtual 118, 3)]
set_option maxRecDepth 20000 in
theorem k_X9_readDefinition_87 {sc : xm_Sc} : xm_bok (xe_cy (XE sc) 149) b_X9_readDefinition_87 := by show xm_bok cX9_readDefinition _; unfold xm_bok; decide +kernel
def b_X9_readDefinition_91 : List (Nat × Jvm.ClassFile.Instr × Nat) := [(91, .istore_n 3, 1), (92, .iload_n 3, 1), (93, .ifCond .lt 9, 3)]
set_option maxRecDepth 20000 in
theorem k_X9_readDefinition_91 {sc : xm_Sc} : xm_bok (xe_cy (XE sc) 149) b_X9_readDefinition_91 := by show xm_bok cX9_readDefinition _; unfold xm_bok; decide +kernel
def b_X9_readDefinition_96 : List (Nat × Jvm.ClassFile.Instr × Nat) := [(96, .aload_n 0, 1), (97, .lload_n 1, 1), (98, .iload_n 3, 1), (99, .invokevirtual 122, 3)]
set_option maxRecDepth 20000 in
theorem k_X9_readDefinition_96 {sc : xm_Sc} : xm_bok (xe_cy (XE sc) 149) b_X9_readDefinition_96 := by show xm_bok cX9_readDefinition _; unfold xm_bok; decide +kernel
def b_X9_readDefinition_102 : List (Nat × Jvm.ClassFile.Instr × Nat) := [(102, .iload_n 3, 1), (103, .ifCond .lt 7, 3)]
set_option maxRecDepth 20000 in
theorem k_X9_readDefinition_102 {sc : xm_Sc} : xm_bok (xe_cy (XE sc) 149) b_X9_readDefinition_102 := by show xm_bok cX9_readDefinition _; unfold xm_bok; decide +kernel
def b_X9_readDefinition_106 : List (Nat × Jvm.ClassFile.Instr × Nat) := [(106, .iconst 1, 1), (107, .goto 4, 3)]
set_option maxRecDepth 20000 in
theorem k_X9_readDefinition_106 {sc : xm_Sc} : xm_bok (xe_cy (XE sc) 149) b_X9_readDefinition_106 := by show xm_bok cX9_readDefinition _; unfold xm_bok; decide +kernel
def b_X9_readDefinition_110 : List (Nat × Jvm.ClassFile.Instr × Nat) := [(110, .iconst 0, 1)]
set_option maxRecDepth 20000 in
theorem k_X9_readDefinition_110 {sc : xm_Sc} : xm_bok (xe_cy (XE sc) 149) b_X9_readDefinition_110 := by show xm_bok cX9_readDefinition _; unfold xm_bok; decide +kernel
def b_X9_readDefinition_111 : List (Nat × Jvm.ClassFile.Instr × Nat) := [(111, .ireturn, 1)]
set_option maxRecDepth 20000 in
theorem k_X9_readDefinition_111 {sc : xm_Sc} : xm_bok (xe_cy (XE sc) 149) b_X9_readDefinition_111 := by show xm_bok cX9_readDefinition _; unfold xm_bok; decide +kernel
set_option maxRecDepth 20000 in
theorem cn_149 {sc : xm_Sc} : xe_cn (XE sc) 149 = 9 := rfl
set_option maxRecDepth 20000 in
theorem ml_149 {sc : xm_Sc} : xe_ml (XE sc) 149 = 4 := rfl
set_option maxRecDepth 20000 in
theorem ry_149 {sc : xm_Sc} : xe_ry (XE sc) 149 = (some .boolean) := rfl
set_option maxRecDepth 20000 in
theorem is_149 {sc : xm_Sc} : xe_is (XE sc) 149 = false := rfl
set_option maxRecDepth 20000 in
theorem np_149 {sc : xm_Sc} : xe_np (XE sc) 149 = 0 := rfl
/- method 150: X9_readExpression -/
def b_X9_readExpression_0 : List (Nat × Jvm.ClassFile.Instr × Nat) := [(0, .aload_n 0, 1), (1, .iconst 0, 1), (2, .putfield 148, 3), (5, .bipush (-2), 2), (7, .istore_n 1, 1), (8, .iconst 0, 1), (9, .istore_n 2, 1)]
set_option maxRecDepth 20000 in
theorem k_X9_readExpression_0 {sc : xm_Sc} : xm_bok (xe_cy (XE sc) 150) b_X9_readExpression_0 := by show xm_bok cX9_readExpression _; unfold xm_bok; decide +kernel
def b_X9_readExpression_10 : List (Nat × Jvm.ClassFile.Instr × Nat) := [(10, .iload_n 2, 1), (11, .sipush 8192, 3), (14, .if_icmp .ge 30, 3)]
set_option maxRecDepth 20000 in
theorem k_X9_readExpression_10 {sc : xm_Sc} : xm_bok (xe_cy (XE sc) 150) b_X9_readExpression_10 := by show xm_bok cX9_readExpression _; unfold xm_bok; decide +kernel
def b_X9_readExpression_17 : List (Nat × Jvm.ClassFile.Instr × Nat) := [(17, .iload_n 1, 1), (18, .bipush (-2), 2), (20, .if_icmp .ne 24, 3)]
set_option maxRecDepth 20000 in
theorem k_X9_readExpression_17 {sc : xm_Sc} : xm_bok (xe_cy (XE sc) 150) b_X9_readExpression_17 := by show xm_bok cX9_readExpression _; unfold xm_bok; decide +kernel
def b_X9_readExpression_23 : List (Nat × Jvm.ClassFile.Instr × Nat) := [(23, .aload_n 0, 1), (24, .invokevirtual 151, 3)]
set_option maxRecDepth 20000 in
theorem k_X9_readExpression_23 {sc : xm_Sc} : xm_bok (xe_cy (XE sc) 150) b_X9_readExpression_23 := by show xm_bok cX9_readExpression _; unfold xm_bok; decide +kernel
def b_X9_readExpression_27 : List (Nat × Jvm.ClassFile.Instr × Nat) := [(27, .istore_n 1, 1), (28, .iload_n 1, 1), (29, .ifCond .lt 9, 3)]
set_option maxRecDepth 20000 in
theorem k_X9_readExpression_27 {sc : xm_Sc} : xm_bok (xe_cy (XE sc) 150) b_X9_readExpression_27 := by show xm_bok cX9_readExpression _; unfold xm_bok; decide +kernel
def b_X9_readExpression_32 : List (Nat × Jvm.ClassFile.Instr × Nat) := [(32, .aload_n 0, 1), (33, .iload_n 1, 1), (34, .invokevirtual 154, 3)]
set_option maxRecDepth 20000 in
theorem k_X9_readExpression_32 {sc : xm_Sc} : xm_bok (xe_cy (XE sc) 150) b_X9_readExpression_32 := by show xm_bok cX9_readExpression _; unfold xm_bok; decide +kernel
def b_X9_readExpression_37 : List (Nat × Jvm.ClassFile.Instr × Nat) := [(37, .istore_n 1, 1)]
set_option maxRecDepth 20000 in
theorem k_X9_readExpression_37 {sc : xm_Sc} : xm_bok (xe_cy (XE sc) 150) b_X9_readExpression_37 := by show xm_bok cX9_readExpression _; unfold xm_bok; decide +kernel
def b_X9_readExpression_38 : List (Nat × Jvm.ClassFile.Instr × Nat) := [(38, .iinc 2 1, 3), (41, .goto (-31), 3)]
set_option maxRecDepth 20000 in
theorem k_X9_readExpression_38 {sc : xm_Sc} : xm_bok (xe_cy (XE sc) 150) b_X9_readExpression_38 := by show xm_bok cX9_readExpression _; unfold xm_bok; decide +kernel
def b_X9_readExpression_44 : List (Nat × Jvm.ClassFile.Instr × Nat) := [(44, .iload_n 1, 1), (45, .ireturn, 1)]
set_option maxRecDepth 20000 in
theorem k_X9_readExpression_44 {sc : xm_Sc} : xm_bok (xe_cy (XE sc) 150) b_X9_readExpression_44 := by show xm_bok cX9_readExpression _; unfold xm_bok; decide +kernel
set_option maxRecDepth 20000 in
theorem cn_150 {sc : xm_Sc} : xe_cn (XE sc) 150 = 9 := rfl
set_option maxRecDepth 20000 in
theorem ml_150 {sc : xm_Sc} : xe_ml (XE sc) 150 = 3 := rfl
set_option maxRecDepth 20000 in
theorem ry_150 {sc : xm_Sc} : xe_ry (XE sc) 150 = (some .int) := rfl
set_option maxRecDepth 20000 in
theorem is_150 {sc : xm_Sc} : xe_is (XE sc) 150 = false := rfl
set_option maxRecDepth 20000 in
theorem np_150 {sc : xm_Sc} : xe_np (XE sc) 150 = 0 := rfl
/- method 151: X9_readHidden -/
def b_X9_readHidden_0 : List (Nat × Jvm.ClassFile.Instr × Nat) := [(0, .aload_n 0, 1), (1, .getfield 52, 3), (4, .aload_n 0, 1), (5, .getfield 107, 3), (8, .isub, 1), (9, .bipush 64, 2), (11, .if_icmp .eq 5, 3)]
set_option maxRecDepth 20000 in
theorem k_X9_readHidden_0 {sc : xm_Sc} : xm_bok (xe_cy (XE sc) 151) b_X9_readHidden_0 := by show xm_bok cX9_readHidden _; unfold xm_bok; decide +kernel
def b_X9_readHidden_14 : List (Nat × Jvm.ClassFile.Instr × Nat) := [(14, .iconst 0, 1), (15, .ireturn, 1)]
set_option maxRecDepth 20000 in
theorem k_X9_readHidden_14 {sc : xm_Sc} : xm_bok (xe_cy (XE sc) 151) b_X9_readHidden_14 := by show xm_bok cX9_readHidden _; unfold xm_bok; decide +kernel
def b_X9_readHidden_16 : List (Nat × Jvm.ClassFile.Instr × Nat) := [(16, .aload_n 0, 1), (17, .getfield 36, 3), (20, .invokevirtual 190, 3)]
set_option maxRecDepth 20000 in
theorem k_X9_readHidden_16 {sc : xm_Sc} : xm_bok (xe_cy (XE sc) 151) b_X9_readHidden_16 := by show xm_bok cX9_readHidden _; unfold xm_bok; decide +kernel
def b_X9_readHidden_23 : List (Nat × Jvm.ClassFile.Instr × Nat) := [(23, .istore_n 2, 1), (24, .aload_n 0, 1), (25, .getfield 36, 3), (28, .getfield 184, 3), (31, .iload_n 1, 1), (32, .iload_n 2, 1), (33, .iastore, 1), (34, .iconst 0, 1), (35, .istore_n 3, 1)]
set_option maxRecDepth 20000 in
theorem k_X9_readHidden_23 {sc : xm_Sc} : xm_bok (xe_cy (XE sc) 151) b_X9_readHidden_23 := by show xm_bok cX9_readHidden _; unfold xm_bok; decide +kernel
def b_X9_readHidden_36 : List (Nat × Jvm.ClassFile.Instr × Nat) := [(36, .iload_n 3, 1), (37, .bipush 64, 2), (39, .if_icmp .ge 66, 3)]
set_option maxRecDepth 20000 in
theorem k_X9_readHidden_36 {sc : xm_Sc} : xm_bok (xe_cy (XE sc) 151) b_X9_readHidden_36 := by show xm_bok cX9_readHidden _; unfold xm_bok; decide +kernel
def b_X9_readHidden_42 : List (Nat × Jvm.ClassFile.Instr × Nat) := [(42, .aload_n 0, 1), (43, .getfield 32, 3), (46, .aload_n 0, 1), (47, .getfield 107, 3), (50, .iload_n 3, 1), (51, .iadd, 1), (52, .invokevirtual 130, 3)]
set_option maxRecDepth 20000 in
theorem k_X9_readHidden_42 {sc : xm_Sc} : xm_bok (xe_cy (XE sc) 151) b_X9_readHidden_42 := by show xm_bok cX9_readHidden _; unfold xm_bok; decide +kernel
def b_X9_readHidden_55 : List (Nat × Jvm.ClassFile.Instr × Nat) := [(55, .invokestatic 193, 3)]
set_option maxRecDepth 20000 in
theorem k_X9_readHidden_55 {sc : xm_Sc} : xm_bok (xe_cy (XE sc) 151) b_X9_readHidden_55 := by show xm_bok cX9_readHidden _; unfold xm_bok; decide +kernel
def b_X9_readHidden_58 : List (Nat × Jvm.ClassFile.Instr × Nat) := [(58, .istore 4, 2), (60, .iload 4, 2), (62, .ifCond .ge 5, 3)]
set_option maxRecDepth 20000 in
theorem k_X9_readHidden_58 {sc : xm_Sc} : xm_bok (xe_cy (XE sc) 151) b_X9_readHidden_58 := by show xm_bok cX9_readHidden _; unfold xm_bok; decide +kernel
def b_X9_readHidden_65 : List (Nat × Jvm.ClassFile.Instr × Nat) := [(65, .iconst 0, 1), (66, .ireturn, 1)]
set_option maxRecDepth 20000 in
theorem k_X9_readHidden_65 {sc : xm_Sc} : xm_bok (xe_cy (XE sc) 151) b_X9_readHidden_65 := by show xm_bok cX9_readHidden _; unfold xm_bok; decide +kernel
def b_X9_readHidden_67 : List (Nat × Jvm.ClassFile.Instr × Nat) := [(67, .iload_n 2, 1), (68, .iload_n 3, 1), (69, .iconst 3, 1), (70, .ishr, 1), (71, .iadd, 1), (72, .istore 5, 2), (74, .aload_n 0, 1), (75, .getfield 36, 3), (78, .getfield 196, 3), (81, .iload 5, 2), (83, .aload_n 0, 1), (84, .getfield 36, 3), (87, .getfield 196, 3), (90, .iload 5, 2), (92, .iaload, 1), (93, .iconst 4, 1), (94, .ishl, 1), (95, .iload 4, 2), (97, .ior, 1), (98, .iastore, 1), (99, .iinc 3 1, 3), (102, .goto (-66), 3)]
set_option maxRecDepth 20000 in
theorem k_X9_readHidden_67 {sc : xm_Sc} : xm_bok (xe_cy (XE sc) 151) b_X9_readHidden_67 := by show xm_bok cX9_readHidden _; unfold xm_bok; decide +kernel
def b_X9_readHidden_105 : List (Nat × Jvm.ClassFile.Instr × Nat) := [(105, .iconst 1, 1), (106, .ireturn, 1)]
set_option maxRecDepth 20000 in
theorem k_X9_readHidden_105 {sc : xm_Sc} : xm_bok (xe_cy (XE sc) 151) b_X9_readHidden_105 := by show xm_bok cX9_readHidden _; unfold xm_bok; decide +kernel
set_option maxRecDepth 20000 in
theorem cn_151 {sc : xm_Sc} : xe_cn (XE sc) 151 = 9 := rfl
set_option maxRecDepth 20000 in
theorem ml_151 {sc : xm_Sc} : xe_ml (XE sc) 151 = 6 := rfl
set_option maxRecDepth 20000 in
theorem ry_151 {sc : xm_Sc} : xe_ry (XE sc) 151 = (some .boolean) := rfl
set_option maxRecDepth 20000 in
theorem is_151 {sc : xm_Sc} : xe_is (XE sc) 151 = false := rfl
set_option maxRecDepth 20000 in
theorem np_151 {sc : xm_Sc} : xe_np (XE sc) 151 = 1 := rfl
/- method 152: X9_readJet -/
def b_X9_readJet_0 : List (Nat × Jvm.ClassFile.Instr × Nat) := [(0, .iconst 0, 1), (1, .istore_n 2, 1), (2, .aload_n 0, 1), (3, .getfield 107, 3), (6, .istore_n 3, 1)]
set_option maxRecDepth 20000 in
theorem k_X9_readJet_0 {sc : xm_Sc} : xm_bok (xe_cy (XE sc) 152) b_X9_readJet_0 := by show xm_bok cX9_readJet _; unfold xm_bok; decide +kernel
def b_X9_readJet_7 : List (Nat × Jvm.ClassFile.Instr × Nat) := [(7, .iload_n 3, 1), (8, .aload_n 0, 1), (9, .getfield 52, 3), (12, .if_icmp .ge 56, 3)]
set_option maxRecDepth 20000 in
theorem k_X9_readJet_7 {sc : xm_Sc} : xm_bok (xe_cy (XE sc) 152) b_X9_readJet_7 := by show xm_bok cX9_readJet _; unfold xm_bok; decide +kernel
def b_X9_readJet_15 : List (Nat × Jvm.ClassFile.Instr × Nat) := [(15, .aload_n 0, 1), (16, .getfield 32, 3), (19, .iload_n 3, 1), (20, .invokevirtual 130, 3)]
set_option maxRecDepth 20000 in
theorem k_X9_readJet_15 {sc : xm_Sc} : xm_bok (xe_cy (XE sc) 152) b_X9_readJet_15 := by show xm_bok cX9_readJet _; unfold xm_bok; decide +kernel
def b_X9_readJet_23 : List (Nat × Jvm.ClassFile.Instr × Nat) := [(23, .istore 4, 2), (25, .iload 4, 2), (27, .bipush 48, 2), (29, .if_icmp .lt 20, 3)]
set_option maxRecDepth 20000 in
theorem k_X9_readJet_23 {sc : xm_Sc} : xm_bok (xe_cy (XE sc) 152) b_X9_readJet_23 := by show xm_bok cX9_readJet _; unfold xm_bok; decide +kernel
def b_X9_readJet_32 : List (Nat × Jvm.ClassFile.Instr × Nat) := [(32, .iload 4, 2), (34, .bipush 57, 2), (36, .if_icmp .gt 13, 3)]
set_option maxRecDepth 20000 in
theorem k_X9_readJet_32 {sc : xm_Sc} : xm_bok (xe_cy (XE sc) 152) b_X9_readJet_32 := by show xm_bok cX9_readJet _; unfold xm_bok; decide +kernel
def b_X9_readJet_39 : List (Nat × Jvm.ClassFile.Instr × Nat) := [(39, .iload_n 3, 1), (40, .aload_n 0, 1), (41, .getfield 107, 3), (44, .iconst 3, 1), (45, .iadd, 1), (46, .if_icmp .lt 5, 3)]
set_option maxRecDepth 20000 in
theorem k_X9_readJet_39 {sc : xm_Sc} : xm_bok (xe_cy (XE sc) 152) b_X9_readJet_39 := by show xm_bok cX9_readJet _; unfold xm_bok; decide +kernel
def b_X9_readJet_49 : List (Nat × Jvm.ClassFile.Instr × Nat) := [(49, .iconst 0, 1), (50, .ireturn, 1)]
set_option maxRecDepth 20000 in
theorem k_X9_readJet_49 {sc : xm_Sc} : xm_bok (xe_cy (XE sc) 152) b_X9_readJet_49 := by show xm_bok cX9_readJet _; unfold xm_bok; decide +kernel
def b_X9_readJet_51 : List (Nat × Jvm.ClassFile.Instr × Nat) := [(51, .bipush 10, 2), (53, .iload_n 2, 1), (54, .imul, 1), (55, .iload 4, 2), (57, .iadd, 1), (58, .bipush 48, 2), (60, .isub, 1), (61, .istore_n 2, 1), (62, .iinc 3 1, 3), (65, .goto (-58), 3)]
set_option maxRecDepth 20000 in
theorem k_X9_readJet_51 {sc : xm_Sc} : xm_bok (xe_cy (XE sc) 152) b_X9_readJet_51 := by show xm_bok cX9_readJet _; unfold xm_bok; decide +kernel
def b_X9_readJet_68 : List (Nat × Jvm.ClassFile.Instr × Nat) := [(68, .aload_n 0, 1), (69, .getfield 36, 3), (72, .getfield 184, 3), (75, .iload_n 1, 1), (76, .iload_n 2, 1), (77, .iastore, 1), (78, .iload_n 2, 1), (79, .sipush 168, 3), (82, .if_icmp .ge 7, 3)]
set_option maxRecDepth 20000 in
theorem k_X9_readJet_68 {sc : xm_Sc} : xm_bok (xe_cy (XE sc) 152) b_X9_readJet_68 := by show xm_bok cX9_readJet _; unfold xm_bok; decide +kernel
def b_X9_readJet_85 : List (Nat × Jvm.ClassFile.Instr × Nat) := [(85, .iconst 1, 1), (86, .goto 4, 3)]
set_option maxRecDepth 20000 in
theorem k_X9_readJet_85 {sc : xm_Sc} : xm_bok (xe_cy (XE sc) 152) b_X9_readJet_85 := by show xm_bok cX9_readJet _; unfold xm_bok; decide +kernel
def b_X9_readJet_89 : List (Nat × Jvm.ClassFile.Instr × Nat) := [(89, .iconst 0, 1)]
set_option maxRecDepth 20000 in
theorem k_X9_readJet_89 {sc : xm_Sc} : xm_bok (xe_cy (XE sc) 152) b_X9_readJet_89 := by show xm_bok cX9_readJet _; unfold xm_bok; decide +kernel
def b_X9_readJet_90 : List (Nat × Jvm.ClassFile.Instr × Nat) := [(90, .ireturn, 1)]
set_option maxRecDepth 20000 in
theorem k_X9_readJet_90 {sc : xm_Sc} : xm_bok (xe_cy (XE sc) 152) b_X9_readJet_90 := by show xm_bok cX9_readJet _; unfold xm_bok; decide +kernel
set_option maxRecDepth 20000 in
theorem cn_152 {sc : xm_Sc} : xe_cn (XE sc) 152 = 9 := rfl
set_option maxRecDepth 20000 in
theorem ml_152 {sc : xm_Sc} : xe_ml (XE sc) 152 = 5 := rfl
set_option maxRecDepth 20000 in
theorem ry_152 {sc : xm_Sc} : xe_ry (XE sc) 152 = (some .boolean) := rfl
set_option maxRecDepth 20000 in
theorem is_152 {sc : xm_Sc} : xe_is (XE sc) 152 = false := rfl
set_option maxRecDepth 20000 in
theorem np_152 {sc : xm_Sc} : xe_np (XE sc) 152 = 1 := rfl
/- method 153: X9_readName -/
def b_X9_readName_0 : List (Nat × Jvm.ClassFile.Instr × Nat) := [(0, .aload_n 0, 1), (1, .getfield 103, 3), (4, .lconst 0, 1), (5, .lcmp, 1), (6, .ifCond .ne 13, 3)]
set_option maxRecDepth 20000 in
theorem k_X9_readName_0 {sc : xm_Sc} : xm_bok (xe_cy (XE sc) 153) b_X9_readName_0 := by show xm_bok cX9_readName _; unfold xm_bok; decide +kernel
def b_X9_readName_9 : List (Nat × Jvm.ClassFile.Instr × Nat) := [(9, .aload_n 0, 1), (10, .iconst 1, 1), (11, .aload_n 0, 1), (12, .getfield 107, 3), (15, .invokevirtual 110, 3)]
set_option maxRecDepth 20000 in
theorem k_X9_readName_9 {sc : xm_Sc} : xm_bok (xe_cy (XE sc) 153) b_X9_readName_9 := by show xm_bok cX9_readName _; unfold xm_bok; decide +kernel
def b_X9_readName_18 : List (Nat × Jvm.ClassFile.Instr × Nat) := [(18, .ireturn, 1)]
set_option maxRecDepth 20000 in
theorem k_X9_readName_18 {sc : xm_Sc} : xm_bok (xe_cy (XE sc) 153) b_X9_readName_18 := by show xm_bok cX9_readName _; unfold xm_bok; decide +kernel
def b_X9_readName_19 : List (Nat × Jvm.ClassFile.Instr × Nat) := [(19, .aload_n 0, 1), (20, .aload_n 0, 1), (21, .getfield 103, 3), (24, .invokevirtual 114, 3)]
set_option maxRecDepth 20000 in
theorem k_X9_readName_19 {sc : xm_Sc} : xm_bok (xe_cy (XE sc) 153) b_X9_readName_19 := by show xm_bok cX9_readName _; unfold xm_bok; decide +kernel
def b_X9_readName_27 : List (Nat × Jvm.ClassFile.Instr × Nat) := [(27, .istore_n 1, 1), (28, .iload_n 1, 1), (29, .ifCond .ge 15, 3)]
set_option maxRecDepth 20000 in
theorem k_X9_readName_27 {sc : xm_Sc} : xm_bok (xe_cy (XE sc) 153) b_X9_readName_27 := by show xm_bok cX9_readName _; unfold xm_bok; decide +kernel
def b_X9_readName_32 : List (Nat × Jvm.ClassFile.Instr × Nat) := [(32, .aload_n 0, 1), (33, .iconst 2, 1), (34, .aload_n 0, 1), (35, .getfield 107, 3), (38, .invokevirtual 110, 3)]
set_option maxRecDepth 20000 in
theorem k_X9_readName_32 {sc : xm_Sc} : xm_bok (xe_cy (XE sc) 153) b_X9_readName_32 := by show xm_bok cX9_readName _; unfold xm_bok; decide +kernel
def b_X9_readName_41 : List (Nat × Jvm.ClassFile.Instr × Nat) := [(41, .goto 4, 3)]
set_option maxRecDepth 20000 in
theorem k_X9_readName_41 {sc : xm_Sc} : xm_bok (xe_cy (XE sc) 153) b_X9_readName_41 := by show xm_bok cX9_readName _; unfold xm_bok; decide +kernel
def b_X9_readName_44 : List (Nat × Jvm.ClassFile.Instr × Nat) := [(44, .iload_n 1, 1)]
set_option maxRecDepth 20000 in
theorem k_X9_readName_44 {sc : xm_Sc} : xm_bok (xe_cy (XE sc) 153) b_X9_readName_44 := by show xm_bok cX9_readName _; unfold xm_bok; decide +kernel
def b_X9_readName_45 : List (Nat × Jvm.ClassFile.Instr × Nat) := [(45, .ireturn, 1)]
set_option maxRecDepth 20000 in
theorem k_X9_readName_45 {sc : xm_Sc} : xm_bok (xe_cy (XE sc) 153) b_X9_readName_45 := by show xm_bok cX9_readName _; unfold xm_bok; decide +kernel
set_option maxRecDepth 20000 in
theorem cn_153 {sc : xm_Sc} : xe_cn (XE sc) 153 = 9 := rfl
set_option maxRecDepth 20000 in
theorem ml_153 {sc : xm_Sc} : xe_ml (XE sc) 153 = 2 := rfl
set_option maxRecDepth 20000 in
theorem ry_153 {sc : xm_Sc} : xe_ry (XE sc) 153 = (some .int) := rfl
set_option maxRecDepth 20000 in
theorem is_153 {sc : xm_Sc} : xe_is (XE sc) 153 = false := rfl
set_option maxRecDepth 20000 in
theorem np_153 {sc : xm_Sc} : xe_np (XE sc) 153 = 0 := rfl
/- method 154: X9_readOperand -/
def b_X9_readOperand_0 : List (Nat × Jvm.ClassFile.Instr × Nat) := [(0, .aload_n 0, 1), (1, .getfield 100, 3), (4, .iconst 5, 1), (5, .if_icmp .ne 7, 3)]
set_option maxRecDepth 20000 in
theorem k_X9_readOperand_0 {sc : xm_Sc} : xm_bok (xe_cy (XE sc) 154) b_X9_readOperand_0 := by show xm_bok cX9_readOperand _; unfold xm_bok; decide +kernel
def b_X9_readOperand_8 : List (Nat × Jvm.ClassFile.Instr × Nat) := [(8, .iconst 1, 1), (9, .goto 4, 3)]
set_option maxRecDepth 20000 in
theorem k_X9_readOperand_8 {sc : xm_Sc} : xm_bok (xe_cy (XE sc) 154) b_X9_readOperand_8 := by show xm_bok cX9_readOperand _; unfold xm_bok; decide +kernel
def b_X9_readOperand_12 : List (Nat × Jvm.ClassFile.Instr × Nat) := [(12, .iconst 0, 1)]
set_option maxRecDepth 20000 in
theorem k_X9_readOperand_12 {sc : xm_Sc} : xm_bok (xe_cy (XE sc) 154) b_X9_readOperand_12 := by show xm_bok cX9_readOperand _; unfold xm_bok; decide +kernel
def b_X9_readOperand_13 : List (Nat × Jvm.ClassFile.Instr × Nat) := [(13, .istore_n 3, 1), (14, .iload_n 3, 1), (15, .ifCond .eq 18, 3)]
set_option maxRecDepth 20000 in
theorem k_X9_readOperand_13 {sc : xm_Sc} : xm_bok (xe_cy (XE sc) 154) b_X9_readOperand_13 := by show xm_bok cX9_readOperand _; unfold xm_bok; decide +kernel
def b_X9_readOperand_18 : List (Nat × Jvm.ClassFile.Instr × Nat) := [(18, .iload_n 2, 1), (19, .bipush 10, 2), (21, .if_icmp .ne 12, 3)]
set_option maxRecDepth 20000 in
theorem k_X9_readOperand_18 {sc : xm_Sc} : xm_bok (xe_cy (XE sc) 154) b_X9_readOperand_18 := by show xm_bok cX9_readOperand _; unfold xm_bok; decide +kernel
def b_X9_readOperand_24 : List (Nat × Jvm.ClassFile.Instr × Nat) := [(24, .aload_n 0, 1), (25, .iload_n 1, 1), (26, .invokevirtual 175, 3)]
set_option maxRecDepth 20000 in
theorem k_X9_readOperand_24 {sc : xm_Sc} : xm_bok (xe_cy (XE sc) 154) b_X9_readOperand_24 := by show xm_bok cX9_readOperand _; unfold xm_bok; decide +kernel
def b_X9_readOperand_29 : List (Nat × Jvm.ClassFile.Instr × Nat) := [(29, .istore_n 3, 1), (30, .goto 32, 3)]
set_option maxRecDepth 20000 in
theorem k_X9_readOperand_29 {sc : xm_Sc} : xm_bok (xe_cy (XE sc) 154) b_X9_readOperand_29 := by show xm_bok cX9_readOperand _; unfold xm_bok; decide +kernel
def b_X9_readOperand_33 : List (Nat × Jvm.ClassFile.Instr × Nat) := [(33, .iload_n 3, 1), (34, .ifCond .eq 18, 3)]
set_option maxRecDepth 20000 in
theorem k_X9_readOperand_33 {sc : xm_Sc} : xm_bok (xe_cy (XE sc) 154) b_X9_readOperand_33 := by show xm_bok cX9_readOperand _; unfold xm_bok; decide +kernel
def b_X9_readOperand_37 : List (Nat × Jvm.ClassFile.Instr × Nat) := [(37, .iload_n 2, 1), (38, .bipush 11, 2), (40, .if_icmp .ne 12, 3)]
set_option maxRecDepth 20000 in
theorem k_X9_readOperand_37 {sc : xm_Sc} : xm_bok (xe_cy (XE sc) 154) b_X9_readOperand_37 := by show xm_bok cX9_readOperand _; unfold xm_bok; decide +kernel
def b_X9_readOperand_43 : List (Nat × Jvm.ClassFile.Instr × Nat) := [(43, .aload_n 0, 1), (44, .iload_n 1, 1), (45, .invokevirtual 178, 3)]
set_option maxRecDepth 20000 in
theorem k_X9_readOperand_43 {sc : xm_Sc} : xm_bok (xe_cy (XE sc) 154) b_X9_readOperand_43 := by show xm_bok cX9_readOperand _; unfold xm_bok; decide +kernel
def b_X9_readOperand_48 : List (Nat × Jvm.ClassFile.Instr × Nat) := [(48, .istore_n 3, 1), (49, .goto 13, 3)]
set_option maxRecDepth 20000 in
theorem k_X9_readOperand_48 {sc : xm_Sc} : xm_bok (xe_cy (XE sc) 154) b_X9_readOperand_48 := by show xm_bok cX9_readOperand _; unfold xm_bok; decide +kernel
def b_X9_readOperand_52 : List (Nat × Jvm.ClassFile.Instr × Nat) := [(52, .iload_n 3, 1), (53, .ifCond .eq 9, 3)]
set_option maxRecDepth 20000 in
theorem k_X9_readOperand_52 {sc : xm_Sc} : xm_bok (xe_cy (XE sc) 154) b_X9_readOperand_52 := by show xm_bok cX9_readOperand _; unfold xm_bok; decide +kernel
def b_X9_readOperand_56 : List (Nat × Jvm.ClassFile.Instr × Nat) := [(56, .aload_n 0, 1), (57, .iload_n 1, 1), (58, .invokevirtual 181, 3)]
set_option maxRecDepth 20000 in
theorem k_X9_readOperand_56 {sc : xm_Sc} : xm_bok (xe_cy (XE sc) 154) b_X9_readOperand_56 := by show xm_bok cX9_readOperand _; unfold xm_bok; decide +kernel
def b_X9_readOperand_61 : List (Nat × Jvm.ClassFile.Instr × Nat) := [(61, .istore_n 3, 1)]
set_option maxRecDepth 20000 in
theorem k_X9_readOperand_61 {sc : xm_Sc} : xm_bok (xe_cy (XE sc) 154) b_X9_readOperand_61 := by show xm_bok cX9_readOperand _; unfold xm_bok; decide +kernel
def b_X9_readOperand_62 : List (Nat × Jvm.ClassFile.Instr × Nat) := [(62, .iload_n 3, 1), (63, .ifCond .eq 7, 3)]
set_option maxRecDepth 20000 in
theorem k_X9_readOperand_62 {sc : xm_Sc} : xm_bok (xe_cy (XE sc) 154) b_X9_readOperand_62 := by show xm_bok cX9_readOperand _; unfold xm_bok; decide +kernel
def b_X9_readOperand_66 : List (Nat × Jvm.ClassFile.Instr × Nat) := [(66, .iload_n 1, 1), (67, .goto 12, 3)]
set_option maxRecDepth 20000 in
theorem k_X9_readOperand_66 {sc : xm_Sc} : xm_bok (xe_cy (XE sc) 154) b_X9_readOperand_66 := by show xm_bok cX9_readOperand _; unfold xm_bok; decide +kernel
def b_X9_readOperand_70 : List (Nat × Jvm.ClassFile.Instr × Nat) := [(70, .aload_n 0, 1), (71, .iconst 1, 1), (72, .aload_n 0, 1), (73, .getfield 107, 3), (76, .invokevirtual 110, 3)]
set_option maxRecDepth 20000 in
theorem k_X9_readOperand_70 {sc : xm_Sc} : xm_bok (xe_cy (XE sc) 154) b_X9_readOperand_70 := by show xm_bok cX9_readOperand _; unfold xm_bok; decide +kernel
def b_X9_readOperand_79 : List (Nat × Jvm.ClassFile.Instr × Nat) := [(79, .ireturn, 1)]
set_option maxRecDepth 20000 in
theorem k_X9_readOperand_79 {sc : xm_Sc} : xm_bok (xe_cy (XE sc) 154) b_X9_readOperand_79 := by show xm_bok cX9_readOperand _; unfold xm_bok; decide +kernel
set_option maxRecDepth 20000 in
theorem cn_154 {sc : xm_Sc} : xe_cn (XE sc) 154 = 9 := rfl
set_option maxRecDepth 20000 in
theorem ml_154 {sc : xm_Sc} : xe_ml (XE sc) 154 = 4 := rfl
set_option maxRecDepth 20000 in
theorem ry_154 {sc : xm_Sc} : xe_ry (XE sc) 154 = (some .int) := rfl
set_option maxRecDepth 20000 in
theorem is_154 {sc : xm_Sc} : xe_is (XE sc) 154 = false := rfl
set_option maxRecDepth 20000 in
theorem np_154 {sc : xm_Sc} : xe_np (XE sc) 154 = 2 := rfl
/- method 155: X9_readRow -/
def b_X9_readRow_0 : List (Nat × Jvm.ClassFile.Instr × Nat) := [(0, .aload_n 0, 1), (1, .getfield 36, 3), (4, .getfield 184, 3), (7, .iload_n 1, 1), (8, .aload_n 0, 1), (9, .getfield 107, 3), (12, .iastore, 1), (13, .aload_n 0, 1), (14, .getfield 36, 3), (17, .getfield 187, 3), (20, .iload_n 1, 1), (21, .aload_n 0, 1), (22, .getfield 52, 3), (25, .aload_n 0, 1), (26, .getfield 107, 3), (29, .isub, 1), (30, .iastore, 1), (31, .aload_n 0, 1), (32, .getfield 52, 3), (35, .aload_n 0, 1), (36, .getfield 107, 3), (39, .isub, 1), (40, .iconst 1, 1), (41, .if_icmp .ne 31, 3)]
set_option maxRecDepth 20000 in
theorem k_X9_readRow_0 {sc : xm_Sc} : xm_bok (xe_cy (XE sc) 155) b_X9_readRow_0 := by show xm_bok cX9_readRow _; unfold xm_bok; decide +kernel
def b_X9_readRow_44 : List (Nat × Jvm.ClassFile.Instr × Nat) := [(44, .aload_n 0, 1), (45, .getfield 32, 3), (48, .aload_n 0, 1), (49, .getfield 107, 3), (52, .invokevirtual 130, 3)]
set_option maxRecDepth 20000 in
theorem k_X9_readRow_44 {sc : xm_Sc} : xm_bok (xe_cy (XE sc) 155) b_X9_readRow_44 := by show xm_bok cX9_readRow _; unfold xm_bok; decide +kernel
def b_X9_readRow_55 : List (Nat × Jvm.ClassFile.Instr × Nat) := [(55, .bipush 45, 2), (57, .if_icmp .ne 15, 3)]
set_option maxRecDepth 20000 in
theorem k_X9_readRow_55 {sc : xm_Sc} : xm_bok (xe_cy (XE sc) 155) b_X9_readRow_55 := by show xm_bok cX9_readRow _; unfold xm_bok; decide +kernel
def b_X9_readRow_60 : List (Nat × Jvm.ClassFile.Instr × Nat) := [(60, .aload_n 0, 1), (61, .getfield 36, 3), (64, .getfield 187, 3), (67, .iload_n 1, 1), (68, .iconst 0, 1), (69, .iastore, 1), (70, .iconst 1, 1), (71, .ireturn, 1)]
set_option maxRecDepth 20000 in
theorem k_X9_readRow_60 {sc : xm_Sc} : xm_bok (xe_cy (XE sc) 155) b_X9_readRow_60 := by show xm_bok cX9_readRow _; unfold xm_bok; decide +kernel
def b_X9_readRow_72 : List (Nat × Jvm.ClassFile.Instr × Nat) := [(72, .aload_n 0, 1), (73, .getfield 107, 3), (76, .istore_n 2, 1)]
set_option maxRecDepth 20000 in
theorem k_X9_readRow_72 {sc : xm_Sc} : xm_bok (xe_cy (XE sc) 155) b_X9_readRow_72 := by show xm_bok cX9_readRow _; unfold xm_bok; decide +kernel
def b_X9_readRow_77 : List (Nat × Jvm.ClassFile.Instr × Nat) := [(77, .iload_n 2, 1), (78, .aload_n 0, 1), (79, .getfield 52, 3), (82, .if_icmp .ge 37, 3)]
set_option maxRecDepth 20000 in
theorem k_X9_readRow_77 {sc : xm_Sc} : xm_bok (xe_cy (XE sc) 155) b_X9_readRow_77 := by show xm_bok cX9_readRow _; unfold xm_bok; decide +kernel
def b_X9_readRow_85 : List (Nat × Jvm.ClassFile.Instr × Nat) := [(85, .aload_n 0, 1), (86, .getfield 32, 3), (89, .iload_n 2, 1), (90, .invokevirtual 130, 3)]
set_option maxRecDepth 20000 in
theorem k_X9_readRow_85 {sc : xm_Sc} : xm_bok (xe_cy (XE sc) 155) b_X9_readRow_85 := by show xm_bok cX9_readRow _; unfold xm_bok; decide +kernel
def b_X9_readRow_93 : List (Nat × Jvm.ClassFile.Instr × Nat) := [(93, .bipush 48, 2), (95, .if_icmp .eq 18, 3)]
set_option maxRecDepth 20000 in
theorem k_X9_readRow_93 {sc : xm_Sc} : xm_bok (xe_cy (XE sc) 155) b_X9_readRow_93 := by show xm_bok cX9_readRow _; unfold xm_bok; decide +kernel
def b_X9_readRow_98 : List (Nat × Jvm.ClassFile.Instr × Nat) := [(98, .aload_n 0, 1), (99, .getfield 32, 3), (102, .iload_n 2, 1), (103, .invokevirtual 130, 3)]
set_option maxRecDepth 20000 in
theorem k_X9_readRow_98 {sc : xm_Sc} : xm_bok (xe_cy (XE sc) 155) b_X9_readRow_98 := by show xm_bok cX9_readRow _; unfold xm_bok; decide +kernel
def b_X9_readRow_106 : List (Nat × Jvm.ClassFile.Instr × Nat) := [(106, .bipush 49, 2), (108, .if_icmp .eq 5, 3)]
set_option maxRecDepth 20000 in
theorem k_X9_readRow_106 {sc : xm_Sc} : xm_bok (xe_cy (XE sc) 155) b_X9_readRow_106 := by show xm_bok cX9_readRow _; unfold xm_bok; decide +kernel
def b_X9_readRow_111 : List (Nat × Jvm.ClassFile.Instr × Nat) := [(111, .iconst 0, 1), (112, .ireturn, 1)]
set_option maxRecDepth 20000 in
theorem k_X9_readRow_111 {sc : xm_Sc} : xm_bok (xe_cy (XE sc) 155) b_X9_readRow_111 := by show xm_bok cX9_readRow _; unfold xm_bok; decide +kernel
def b_X9_readRow_113 : List (Nat × Jvm.ClassFile.Instr × Nat) := [(113, .iinc 2 1, 3), (116, .goto (-39), 3)]
set_option maxRecDepth 20000 in
theorem k_X9_readRow_113 {sc : xm_Sc} : xm_bok (xe_cy (XE sc) 155) b_X9_readRow_113 := by show xm_bok cX9_readRow _; unfold xm_bok; decide +kernel
def b_X9_readRow_119 : List (Nat × Jvm.ClassFile.Instr × Nat) := [(119, .iconst 1, 1), (120, .ireturn, 1)]
set_option maxRecDepth 20000 in
theorem k_X9_readRow_119 {sc : xm_Sc} : xm_bok (xe_cy (XE sc) 155) b_X9_readRow_119 := by show xm_bok cX9_readRow _; unfold xm_bok; decide +kernel
set_option maxRecDepth 20000 in
theorem cn_155 {sc : xm_Sc} : xe_cn (XE sc) 155 = 9 := rfl
set_option maxRecDepth 20000 in
theorem ml_155 {sc : xm_Sc} : xe_ml (XE sc) 155 = 3 := rfl
set_option maxRecDepth 20000 in
theorem ry_155 {sc : xm_Sc} : xe_ry (XE sc) 155 = (some .boolean) := rfl
set_option maxRecDepth 20000 in
theorem is_155 {sc : xm_Sc} : xe_is (XE sc) 155 = false := rfl
set_option maxRecDepth 20000 in
theorem np_155 {sc : xm_Sc} : xe_np (XE sc) 155 = 1 := rfl
/- method 156: X9_refuse -/
def b_X9_refuse_0 : List (Nat × Jvm.ClassFile.Instr × Nat) := [(0, .aload_n 0, 1), (1, .iload_n 1, 1), (2, .putfield 49, 3), (5, .aload_n 0, 1), (6, .iload_n 2, 1), (7, .putfield 45, 3), (10, .iconst (-1), 1), (11, .ireturn, 1)]
set_option maxRecDepth 20000 in
theorem k_X9_refuse_0 {sc : xm_Sc} : xm_bok (xe_cy (XE sc) 156) b_X9_refuse_0 := by show xm_bok cX9_refuse _; unfold xm_bok; decide +kernel
set_option maxRecDepth 20000 in
theorem cn_156 {sc : xm_Sc} : xe_cn (XE sc) 156 = 9 := rfl
set_option maxRecDepth 20000 in
theorem ml_156 {sc : xm_Sc} : xe_ml (XE sc) 156 = 3 := rfl
set_option maxRecDepth 20000 in
theorem ry_156 {sc : xm_Sc} : xe_ry (XE sc) 156 = (some .int) := rfl
set_option maxRecDepth 20000 in
theorem is_156 {sc : xm_Sc} : xe_is (XE sc) 156 = false := rfl
set_option maxRecDepth 20000 in
theorem np_156 {sc : xm_Sc} : xe_np (XE sc) 156 = 2 := rfl
/- method 157: X9_renew -/
def b_X9_renew_0 : List (Nat × Jvm.ClassFile.Instr × Nat) := [(0, .aload_n 0, 1), (1, .getfield 28, 3), (4, .aload_n 0, 1), (5, .getfield 36, 3), (8, .iload_n 1, 1), (9, .invokevirtual 62, 3)]
set_option maxRecDepth 20000 in
theorem k_X9_renew_0 {sc : xm_Sc} : xm_bok (xe_cy (XE sc) 157) b_X9_renew_0 := by show xm_bok cX9_renew _; unfold xm_bok; decide +kernel
def b_X9_renew_12 : List (Nat × Jvm.ClassFile.Instr × Nat) := [(12, .aload_n 0, 1), (13, .getfield 36, 3), (16, .getfield 166, 3), (19, .aload_n 0, 1), (20, .getfield 28, 3), (23, .getfield 79, 3), (26, .iadd, 1), (27, .sipush 2000, 3), (30, .if_icmp .le 10, 3)]
set_option maxRecDepth 20000 in
theorem k_X9_renew_12 {sc : xm_Sc} : xm_bok (xe_cy (XE sc) 157) b_X9_renew_12 := by show xm_bok cX9_renew _; unfold xm_bok; decide +kernel
def b_X9_renew_33 : List (Nat × Jvm.ClassFile.Instr × Nat) := [(33, .aload_n 0, 1), (34, .iconst 3, 1), (35, .iload_n 2, 1), (36, .invokevirtual 110, 3)]
set_option maxRecDepth 20000 in
theorem k_X9_renew_33 {sc : xm_Sc} : xm_bok (xe_cy (XE sc) 157) b_X9_renew_33 := by show xm_bok cX9_renew _; unfold xm_bok; decide +kernel
def b_X9_renew_39 : List (Nat × Jvm.ClassFile.Instr × Nat) := [(39, .ireturn, 1)]
set_option maxRecDepth 20000 in
theorem k_X9_renew_39 {sc : xm_Sc} : xm_bok (xe_cy (XE sc) 157) b_X9_renew_39 := by show xm_bok cX9_renew _; unfold xm_bok; decide +kernel
def b_X9_renew_40 : List (Nat × Jvm.ClassFile.Instr × Nat) := [(40, .aload_n 0, 1), (41, .getfield 36, 3), (44, .getfield 166, 3), (47, .istore_n 3, 1), (48, .iconst 0, 1), (49, .istore 4, 2)]
set_option maxRecDepth 20000 in
theorem k_X9_renew_40 {sc : xm_Sc} : xm_bok (xe_cy (XE sc) 157) b_X9_renew_40 := by show xm_bok cX9_renew _; unfold xm_bok; decide +kernel
def b_X9_renew_51 : List (Nat × Jvm.ClassFile.Instr × Nat) := [(51, .iload 4, 2), (53, .aload_n 0, 1), (54, .getfield 28, 3), (57, .getfield 79, 3), (60, .if_icmp .ge 96, 3)]
set_option maxRecDepth 20000 in
theorem k_X9_renew_51 {sc : xm_Sc} : xm_bok (xe_cy (XE sc) 157) b_X9_renew_51 := by show xm_bok cX9_renew _; unfold xm_bok; decide +kernel
def b_X9_renew_63 : List (Nat × Jvm.ClassFile.Instr × Nat) := [(63, .aload_n 0, 1), (64, .getfield 28, 3), (67, .getfield 199, 3), (70, .iload 4, 2), (72, .iaload, 1), (73, .istore 5, 2), (75, .aload_n 0, 1), (76, .getfield 36, 3), (79, .getfield 202, 3), (82, .iload 5, 2), (84, .iaload, 1), (85, .istore 6, 2), (87, .aload_n 0, 1), (88, .getfield 36, 3), (91, .getfield 205, 3), (94, .iload 5, 2), (96, .iaload, 1), (97, .istore 7, 2), (99, .aload_n 0, 1), (100, .getfield 36, 3), (103, .iload 5, 2), (105, .iload 6, 2), (107, .ifCond .ge 7, 3)]
set_option maxRecDepth 20000 in
theorem k_X9_renew_63 {sc : xm_Sc} : xm_bok (xe_cy (XE sc) 157) b_X9_renew_63 := by show xm_bok cX9_renew _; unfold xm_bok; decide +kernel
def b_X9_renew_110 : List (Nat × Jvm.ClassFile.Instr × Nat) := [(110, .iconst (-1), 1), (111, .goto 15, 3)]
set_option maxRecDepth 20000 in
theorem k_X9_renew_110 {sc : xm_Sc} : xm_bok (xe_cy (XE sc) 157) b_X9_renew_110 := by show xm_bok cX9_renew _; unfold xm_bok; decide +kernel
def b_X9_renew_114 : List (Nat × Jvm.ClassFile.Instr × Nat) := [(114, .iload_n 3, 1), (115, .aload_n 0, 1), (116, .getfield 28, 3), (119, .getfield 208, 3), (122, .iload 6, 2), (124, .iaload, 1), (125, .iadd, 1)]
set_option maxRecDepth 20000 in
theorem k_X9_renew_114 {sc : xm_Sc} : xm_bok (xe_cy (XE sc) 157) b_X9_renew_114 := by show xm_bok cX9_renew _; unfold xm_bok; decide +kernel
def b_X9_renew_126 : List (Nat × Jvm.ClassFile.Instr × Nat) := [(126, .iload 7, 2), (128, .ifCond .ge 7, 3)]
set_option maxRecDepth 20000 in
theorem k_X9_renew_126 {sc : xm_Sc} : xm_bok (xe_cy (XE sc) 157) b_X9_renew_126 := by show xm_bok cX9_renew _; unfold xm_bok; decide +kernel
def b_X9_renew_131 : List (Nat × Jvm.ClassFile.Instr × Nat) := [(131, .iconst (-1), 1), (132, .goto 15, 3)]
set_option maxRecDepth 20000 in
theorem k_X9_renew_131 {sc : xm_Sc} : xm_bok (xe_cy (XE sc) 157) b_X9_renew_131 := by show xm_bok cX9_renew _; unfold xm_bok; decide +kernel
def b_X9_renew_135 : List (Nat × Jvm.ClassFile.Instr × Nat) := [(135, .iload_n 3, 1), (136, .aload_n 0, 1), (137, .getfield 28, 3), (140, .getfield 208, 3), (143, .iload 7, 2), (145, .iaload, 1), (146, .iadd, 1)]
set_option maxRecDepth 20000 in
theorem k_X9_renew_135 {sc : xm_Sc} : xm_bok (xe_cy (XE sc) 157) b_X9_renew_135 := by show xm_bok cX9_renew _; unfold xm_bok; decide +kernel
def b_X9_renew_147 : List (Nat × Jvm.ClassFile.Instr × Nat) := [(147, .invokevirtual 211, 3)]
set_option maxRecDepth 20000 in
theorem k_X9_renew_147 {sc : xm_Sc} : xm_bok (xe_cy (XE sc) 157) b_X9_renew_147 := by show xm_bok cX9_renew _; unfold xm_bok; decide +kernel
def b_X9_renew_150 : List (Nat × Jvm.ClassFile.Instr × Nat) := [(150, .iinc 4 1, 3), (153, .goto (-102), 3)]
set_option maxRecDepth 20000 in
theorem k_X9_renew_150 {sc : xm_Sc} : xm_bok (xe_cy (XE sc) 157) b_X9_renew_150 := by show xm_bok cX9_renew _; unfold xm_bok; decide +kernel
def b_X9_renew_156 : List (Nat × Jvm.ClassFile.Instr × Nat) := [(156, .aload_n 0, 1), (157, .getfield 36, 3), (160, .getfield 166, 3), (163, .iconst 1, 1), (164, .isub, 1), (165, .ireturn, 1)]
set_option maxRecDepth 20000 in
theorem k_X9_renew_156 {sc : xm_Sc} : xm_bok (xe_cy (XE sc) 157) b_X9_renew_156 := by show xm_bok cX9_renew _; unfold xm_bok; decide +kernel
set_option maxRecDepth 20000 in
theorem cn_157 {sc : xm_Sc} : xe_cn (XE sc) 157 = 9 := rfl
set_option maxRecDepth 20000 in
theorem ml_157 {sc : xm_Sc} : xe_ml (XE sc) 157 = 8 := rfl
set_option maxRecDepth 20000 in
theorem ry_157 {sc : xm_Sc} : xe_ry (XE sc) 157 = (some .int) := rfl
set_option maxRecDepth 20000 in
theorem is_157 {sc : xm_Sc} : xe_is (XE sc) 157 = false := rfl
set_option maxRecDepth 20000 in
theorem np_157 {sc : xm_Sc} : xe_np (XE sc) 157 = 2 := rfl
/- method 158: X9_slotOf -/
def b_X9_slotOf_0 : List (Nat × Jvm.ClassFile.Instr × Nat) := [(0, .lload_n 0, 1), (1, .ldc2_w 143, 3), (4, .lmul, 1), (5, .bipush 40, 2), (7, .lushr, 1), (8, .l2i, 1), (9, .sipush 511, 3), (12, .iand, 1), (13, .ireturn, 1)]
set_option maxRecDepth 20000 in
theorem k_X9_slotOf_0 {sc : xm_Sc} : xm_bok (xe_cy (XE sc) 158) b_X9_slotOf_0 := by show xm_bok cX9_slotOf _; unfold xm_bok; decide +kernel
set_option maxRecDepth 20000 in
theorem cn_158 {sc : xm_Sc} : xe_cn (XE sc) 158 = 9 := rfl
set_option maxRecDepth 20000 in
theorem ml_158 {sc : xm_Sc} : xe_ml (XE sc) 158 = 2 := rfl
set_option maxRecDepth 20000 in
theorem ry_158 {sc : xm_Sc} : xe_ry (XE sc) 158 = (some .int) := rfl
set_option maxRecDepth 20000 in
theorem is_158 {sc : xm_Sc} : xe_is (XE sc) 158 = true := rfl
set_option maxRecDepth 20000 in
theorem np_158 {sc : xm_Sc} : xe_np (XE sc) 158 = 1 := rfl
/- method 159: X9_spell -/
def b_X9_spell_0 : List (Nat × Jvm.ClassFile.Instr × Nat) := [(0, .aload_n 0, 1), (1, .getfield 52, 3), (4, .aload_n 0, 1), (5, .getfield 107, 3), (8, .isub, 1), (9, .bipush 8, 2), (11, .if_icmp .le 4, 3)]
set_option maxRecDepth 20000 in
theorem k_X9_spell_0 {sc : xm_Sc} : xm_bok (xe_cy (XE sc) 159) b_X9_spell_0 := by show xm_bok cX9_spell _; unfold xm_bok; decide +kernel
def b_X9_spell_14 : List (Nat × Jvm.ClassFile.Instr × Nat) := [(14, .return_, 1)]
set_option maxRecDepth 20000 in
theorem k_X9_spell_14 {sc : xm_Sc} : xm_bok (xe_cy (XE sc) 159) b_X9_spell_14 := by show xm_bok cX9_spell _; unfold xm_bok; decide +kernel
def b_X9_spell_15 : List (Nat × Jvm.ClassFile.Instr × Nat) := [(15, .lconst 0, 1), (16, .lstore_n 1, 1), (17, .aload_n 0, 1), (18, .getfield 107, 3), (21, .istore_n 3, 1)]
set_option maxRecDepth 20000 in
theorem k_X9_spell_15 {sc : xm_Sc} : xm_bok (xe_cy (XE sc) 159) b_X9_spell_15 := by show xm_bok cX9_spell _; unfold xm_bok; decide +kernel
def b_X9_spell_22 : List (Nat × Jvm.ClassFile.Instr × Nat) := [(22, .iload_n 3, 1), (23, .aload_n 0, 1), (24, .getfield 52, 3), (27, .if_icmp .ge 89, 3)]
set_option maxRecDepth 20000 in
theorem k_X9_spell_22 {sc : xm_Sc} : xm_bok (xe_cy (XE sc) 159) b_X9_spell_22 := by show xm_bok cX9_spell _; unfold xm_bok; decide +kernel
def b_X9_spell_30 : List (Nat × Jvm.ClassFile.Instr × Nat) := [(30, .aload_n 0, 1), (31, .getfield 32, 3), (34, .iload_n 3, 1), (35, .invokevirtual 130, 3)]
set_option maxRecDepth 20000 in
theorem k_X9_spell_30 {sc : xm_Sc} : xm_bok (xe_cy (XE sc) 159) b_X9_spell_30 := by show xm_bok cX9_spell _; unfold xm_bok; decide +kernel
def b_X9_spell_38 : List (Nat × Jvm.ClassFile.Instr × Nat) := [(38, .istore 4, 2), (40, .iload 4, 2), (42, .bipush 97, 2), (44, .if_icmp .lt 14, 3)]
set_option maxRecDepth 20000 in
theorem k_X9_spell_38 {sc : xm_Sc} : xm_bok (xe_cy (XE sc) 159) b_X9_spell_38 := by show xm_bok cX9_spell _; unfold xm_bok; decide +kernel
def b_X9_spell_47 : List (Nat × Jvm.ClassFile.Instr × Nat) := [(47, .iload 4, 2), (49, .bipush 122, 2), (51, .if_icmp .gt 7, 3)]
set_option maxRecDepth 20000 in
theorem k_X9_spell_47 {sc : xm_Sc} : xm_bok (xe_cy (XE sc) 159) b_X9_spell_47 := by show xm_bok cX9_spell _; unfold xm_bok; decide +kernel
def b_X9_spell_54 : List (Nat × Jvm.ClassFile.Instr × Nat) := [(54, .iconst 1, 1), (55, .goto 4, 3)]
set_option maxRecDepth 20000 in
theorem k_X9_spell_54 {sc : xm_Sc} : xm_bok (xe_cy (XE sc) 159) b_X9_spell_54 := by show xm_bok cX9_spell _; unfold xm_bok; decide +kernel
def b_X9_spell_58 : List (Nat × Jvm.ClassFile.Instr × Nat) := [(58, .iconst 0, 1)]
set_option maxRecDepth 20000 in
theorem k_X9_spell_58 {sc : xm_Sc} : xm_bok (xe_cy (XE sc) 159) b_X9_spell_58 := by show xm_bok cX9_spell _; unfold xm_bok; decide +kernel
def b_X9_spell_59 : List (Nat × Jvm.ClassFile.Instr × Nat) := [(59, .istore 5, 2), (61, .iload 4, 2), (63, .bipush 48, 2), (65, .if_icmp .lt 14, 3)]
set_option maxRecDepth 20000 in
theorem k_X9_spell_59 {sc : xm_Sc} : xm_bok (xe_cy (XE sc) 159) b_X9_spell_59 := by show xm_bok cX9_spell _; unfold xm_bok; decide +kernel
def b_X9_spell_68 : List (Nat × Jvm.ClassFile.Instr × Nat) := [(68, .iload 4, 2), (70, .bipush 57, 2), (72, .if_icmp .gt 7, 3)]
set_option maxRecDepth 20000 in
theorem k_X9_spell_68 {sc : xm_Sc} : xm_bok (xe_cy (XE sc) 159) b_X9_spell_68 := by show xm_bok cX9_spell _; unfold xm_bok; decide +kernel
def b_X9_spell_75 : List (Nat × Jvm.ClassFile.Instr × Nat) := [(75, .iconst 1, 1), (76, .goto 4, 3)]
set_option maxRecDepth 20000 in
theorem k_X9_spell_75 {sc : xm_Sc} : xm_bok (xe_cy (XE sc) 159) b_X9_spell_75 := by show xm_bok cX9_spell _; unfold xm_bok; decide +kernel
def b_X9_spell_79 : List (Nat × Jvm.ClassFile.Instr × Nat) := [(79, .iconst 0, 1)]
set_option maxRecDepth 20000 in
theorem k_X9_spell_79 {sc : xm_Sc} : xm_bok (xe_cy (XE sc) 159) b_X9_spell_79 := by show xm_bok cX9_spell _; unfold xm_bok; decide +kernel
def b_X9_spell_80 : List (Nat × Jvm.ClassFile.Instr × Nat) := [(80, .istore 6, 2), (82, .iload 5, 2), (84, .ifCond .ne 17, 3)]
set_option maxRecDepth 20000 in
theorem k_X9_spell_80 {sc : xm_Sc} : xm_bok (xe_cy (XE sc) 159) b_X9_spell_80 := by show xm_bok cX9_spell _; unfold xm_bok; decide +kernel
def b_X9_spell_87 : List (Nat × Jvm.ClassFile.Instr × Nat) := [(87, .iload 6, 2), (89, .ifCond .eq 11, 3)]
set_option maxRecDepth 20000 in
theorem k_X9_spell_87 {sc : xm_Sc} : xm_bok (xe_cy (XE sc) 159) b_X9_spell_87 := by show xm_bok cX9_spell _; unfold xm_bok; decide +kernel
def b_X9_spell_92 : List (Nat × Jvm.ClassFile.Instr × Nat) := [(92, .iload_n 3, 1), (93, .aload_n 0, 1), (94, .getfield 107, 3), (97, .if_icmp .ne 4, 3)]
set_option maxRecDepth 20000 in
theorem k_X9_spell_92 {sc : xm_Sc} : xm_bok (xe_cy (XE sc) 159) b_X9_spell_92 := by show xm_bok cX9_spell _; unfold xm_bok; decide +kernel
def b_X9_spell_100 : List (Nat × Jvm.ClassFile.Instr × Nat) := [(100, .return_, 1)]
set_option maxRecDepth 20000 in
theorem k_X9_spell_100 {sc : xm_Sc} : xm_bok (xe_cy (XE sc) 159) b_X9_spell_100 := by show xm_bok cX9_spell _; unfold xm_bok; decide +kernel
def b_X9_spell_101 : List (Nat × Jvm.ClassFile.Instr × Nat) := [(101, .lload_n 1, 1), (102, .bipush 8, 2), (104, .lshl, 1), (105, .iload 4, 2), (107, .i2l, 1), (108, .lor, 1), (109, .lstore_n 1, 1), (110, .iinc 3 1, 3), (113, .goto (-91), 3)]
set_option maxRecDepth 20000 in
theorem k_X9_spell_101 {sc : xm_Sc} : xm_bok (xe_cy (XE sc) 159) b_X9_spell_101 := by show xm_bok cX9_spell _; unfold xm_bok; decide +kernel
def b_X9_spell_116 : List (Nat × Jvm.ClassFile.Instr × Nat) := [(116, .iconst 0, 1), (117, .istore_n 3, 1)]
set_option maxRecDepth 20000 in
theorem k_X9_spell_116 {sc : xm_Sc} : xm_bok (xe_cy (XE sc) 159) b_X9_spell_116 := by show xm_bok cX9_spell _; unfold xm_bok; decide +kernel
def b_X9_spell_118 : List (Nat × Jvm.ClassFile.Instr × Nat) := [(118, .iload_n 3, 1), (119, .bipush 13, 2), (121, .if_icmp .gt 25, 3)]
set_option maxRecDepth 20000 in
theorem k_X9_spell_118 {sc : xm_Sc} : xm_bok (xe_cy (XE sc) 159) b_X9_spell_118 := by show xm_bok cX9_spell _; unfold xm_bok; decide +kernel
def b_X9_spell_124 : List (Nat × Jvm.ClassFile.Instr × Nat) := [(124, .getstatic 140, 3), (127, .iload_n 3, 1), (128, .laload, 1), (129, .lload_n 1, 1), (130, .lcmp, 1), (131, .ifCond .ne 9, 3)]
set_option maxRecDepth 20000 in
theorem k_X9_spell_124 {sc : xm_Sc} : xm_bok (xe_cy (XE sc) 159) b_X9_spell_124 := by show xm_bok cX9_spell _; unfold xm_bok; decide +kernel
def b_X9_spell_134 : List (Nat × Jvm.ClassFile.Instr × Nat) := [(134, .aload_n 0, 1), (135, .iload_n 3, 1), (136, .putfield 126, 3), (139, .return_, 1)]
set_option maxRecDepth 20000 in
theorem k_X9_spell_134 {sc : xm_Sc} : xm_bok (xe_cy (XE sc) 159) b_X9_spell_134 := by show xm_bok cX9_spell _; unfold xm_bok; decide +kernel
def b_X9_spell_140 : List (Nat × Jvm.ClassFile.Instr × Nat) := [(140, .iinc 3 1, 3), (143, .goto (-25), 3)]
set_option maxRecDepth 20000 in
theorem k_X9_spell_140 {sc : xm_Sc} : xm_bok (xe_cy (XE sc) 159) b_X9_spell_140 := by show xm_bok cX9_spell _; unfold xm_bok; decide +kernel
def b_X9_spell_146 : List (Nat × Jvm.ClassFile.Instr × Nat) := [(146, .aload_n 0, 1), (147, .lload_n 1, 1), (148, .putfield 103, 3), (151, .return_, 1)]
set_option maxRecDepth 20000 in
theorem k_X9_spell_146 {sc : xm_Sc} : xm_bok (xe_cy (XE sc) 159) b_X9_spell_146 := by show xm_bok cX9_spell _; unfold xm_bok; decide +kernel
set_option maxRecDepth 20000 in
theorem cn_159 {sc : xm_Sc} : xe_cn (XE sc) 159 = 9 := rfl
set_option maxRecDepth 20000 in
theorem ml_159 {sc : xm_Sc} : xe_ml (XE sc) 159 = 7 := rfl
set_option maxRecDepth 20000 in
theorem ry_159 {sc : xm_Sc} : xe_ry (XE sc) 159 = none := rfl
set_option maxRecDepth 20000 in
theorem is_159 {sc : xm_Sc} : xe_is (XE sc) 159 = false := rfl
set_option maxRecDepth 20000 in
theorem np_159 {sc : xm_Sc} : xe_np (XE sc) 159 = 0 := rfl
/- method 160: X9_tell -/
def b_X9_tell_0 : List (Nat × Jvm.ClassFile.Instr × Nat) := [(0, .aload_n 0, 1), (1, .aload_n 1, 1), (2, .putfield 32, 3), (5, .aload_n 0, 1), (6, .aload_n 2, 1), (7, .putfield 36, 3), (10, .aload_n 0, 1), (11, .getfield 36, 3), (14, .invokevirtual 40, 3)]
set_option maxRecDepth 20000 in
theorem k_X9_tell_0 {sc : xm_Sc} : xm_bok (xe_cy (XE sc) 160) b_X9_tell_0 := by show xm_bok cX9_tell _; unfold xm_bok; decide +kernel
def b_X9_tell_17 : List (Nat × Jvm.ClassFile.Instr × Nat) := [(17, .aload_n 0, 1), (18, .iconst 0, 1), (19, .putfield 45, 3), (22, .aload_n 0, 1), (23, .iconst 0, 1), (24, .putfield 49, 3), (27, .aload_n 0, 1), (28, .iconst 0, 1), (29, .putfield 52, 3), (32, .aload_n 0, 1), (33, .iconst 0, 1), (34, .putfield 55, 3), (37, .iconst 0, 1), (38, .istore 4, 2)]
set_option maxRecDepth 20000 in
theorem k_X9_tell_17 {sc : xm_Sc} : xm_bok (xe_cy (XE sc) 160) b_X9_tell_17 := by show xm_bok cX9_tell _; unfold xm_bok; decide +kernel
def b_X9_tell_40 : List (Nat × Jvm.ClassFile.Instr × Nat) := [(40, .iload 4, 2), (42, .sipush 512, 3), (45, .if_icmp .ge 17, 3)]
set_option maxRecDepth 20000 in
theorem k_X9_tell_40 {sc : xm_Sc} : xm_bok (xe_cy (XE sc) 160) b_X9_tell_40 := by show xm_bok cX9_tell _; unfold xm_bok; decide +kernel
def b_X9_tell_48 : List (Nat × Jvm.ClassFile.Instr × Nat) := [(48, .aload_n 0, 1), (49, .getfield 25, 3), (52, .iload 4, 2), (54, .iconst (-1), 1), (55, .iastore, 1), (56, .iinc 4 1, 3), (59, .goto (-19), 3)]
set_option maxRecDepth 20000 in
theorem k_X9_tell_48 {sc : xm_Sc} : xm_bok (xe_cy (XE sc) 160) b_X9_tell_48 := by show xm_bok cX9_tell _; unfold xm_bok; decide +kernel
def b_X9_tell_62 : List (Nat × Jvm.ClassFile.Instr × Nat) := [(62, .iconst 1, 1), (63, .istore 4, 2), (65, .iconst 0, 1), (66, .istore 5, 2)]
set_option maxRecDepth 20000 in
theorem k_X9_tell_62 {sc : xm_Sc} : xm_bok (xe_cy (XE sc) 160) b_X9_tell_62 := by show xm_bok cX9_tell _; unfold xm_bok; decide +kernel
def b_X9_tell_68 : List (Nat × Jvm.ClassFile.Instr × Nat) := [(68, .iload 5, 2), (70, .sipush 8192, 3), (73, .if_icmp .ge 20, 3)]
set_option maxRecDepth 20000 in
theorem k_X9_tell_68 {sc : xm_Sc} : xm_bok (xe_cy (XE sc) 160) b_X9_tell_68 := by show xm_bok cX9_tell _; unfold xm_bok; decide +kernel
def b_X9_tell_76 : List (Nat × Jvm.ClassFile.Instr × Nat) := [(76, .iload 4, 2), (78, .ifCond .eq 15, 3)]
set_option maxRecDepth 20000 in
theorem k_X9_tell_76 {sc : xm_Sc} : xm_bok (xe_cy (XE sc) 160) b_X9_tell_76 := by show xm_bok cX9_tell _; unfold xm_bok; decide +kernel
def b_X9_tell_81 : List (Nat × Jvm.ClassFile.Instr × Nat) := [(81, .aload_n 0, 1), (82, .invokevirtual 58, 3)]
set_option maxRecDepth 20000 in
theorem k_X9_tell_81 {sc : xm_Sc} : xm_bok (xe_cy (XE sc) 160) b_X9_tell_81 := by show xm_bok cX9_tell _; unfold xm_bok; decide +kernel
def b_X9_tell_85 : List (Nat × Jvm.ClassFile.Instr × Nat) := [(85, .istore 4, 2), (87, .iinc 5 1, 3), (90, .goto (-22), 3)]
set_option maxRecDepth 20000 in
theorem k_X9_tell_85 {sc : xm_Sc} : xm_bok (xe_cy (XE sc) 160) b_X9_tell_85 := by show xm_bok cX9_tell _; unfold xm_bok; decide +kernel
def b_X9_tell_93 : List (Nat × Jvm.ClassFile.Instr × Nat) := [(93, .aload_n 0, 1), (94, .getfield 49, 3), (97, .ifCond .eq 8, 3)]
set_option maxRecDepth 20000 in
theorem k_X9_tell_93 {sc : xm_Sc} : xm_bok (xe_cy (XE sc) 160) b_X9_tell_93 := by show xm_bok cX9_tell _; unfold xm_bok; decide +kernel
def b_X9_tell_100 : List (Nat × Jvm.ClassFile.Instr × Nat) := [(100, .aload_n 0, 1), (101, .getfield 49, 3), (104, .ireturn, 1)]
set_option maxRecDepth 20000 in
theorem k_X9_tell_100 {sc : xm_Sc} : xm_bok (xe_cy (XE sc) 160) b_X9_tell_100 := by show xm_bok cX9_tell _; unfold xm_bok; decide +kernel
def b_X9_tell_105 : List (Nat × Jvm.ClassFile.Instr × Nat) := [(105, .aload_n 0, 1), (106, .getfield 55, 3), (109, .ifCond .le 17, 3)]
set_option maxRecDepth 20000 in
theorem k_X9_tell_105 {sc : xm_Sc} : xm_bok (xe_cy (XE sc) 160) b_X9_tell_105 := by show xm_bok cX9_tell _; unfold xm_bok; decide +kernel
def b_X9_tell_112 : List (Nat × Jvm.ClassFile.Instr × Nat) := [(112, .aload_n 0, 1), (113, .getfield 19, 3), (116, .aload_n 0, 1), (117, .getfield 55, 3), (120, .iconst 1, 1), (121, .isub, 1), (122, .iaload, 1), (123, .goto 4, 3)]
set_option maxRecDepth 20000 in
theorem k_X9_tell_112 {sc : xm_Sc} : xm_bok (xe_cy (XE sc) 160) b_X9_tell_112 := by show xm_bok cX9_tell _; unfold xm_bok; decide +kernel
def b_X9_tell_126 : List (Nat × Jvm.ClassFile.Instr × Nat) := [(126, .iconst 0, 1)]
set_option maxRecDepth 20000 in
theorem k_X9_tell_126 {sc : xm_Sc} : xm_bok (xe_cy (XE sc) 160) b_X9_tell_126 := by show xm_bok cX9_tell _; unfold xm_bok; decide +kernel
def b_X9_tell_127 : List (Nat × Jvm.ClassFile.Instr × Nat) := [(127, .istore 5, 2), (129, .aload_n 0, 1), (130, .getfield 28, 3), (133, .aload_n 0, 1), (134, .getfield 36, 3), (137, .iload 5, 2), (139, .invokevirtual 62, 3)]
set_option maxRecDepth 20000 in
theorem k_X9_tell_127 {sc : xm_Sc} : xm_bok (xe_cy (XE sc) 160) b_X9_tell_127 := by show xm_bok cX9_tell _; unfold xm_bok; decide +kernel
def b_X9_tell_142 : List (Nat × Jvm.ClassFile.Instr × Nat) := [(142, .aload_n 0, 1), (143, .getfield 28, 3), (146, .aload_n 0, 1), (147, .getfield 36, 3), (150, .invokevirtual 68, 3)]
set_option maxRecDepth 20000 in
theorem k_X9_tell_142 {sc : xm_Sc} : xm_bok (xe_cy (XE sc) 160) b_X9_tell_142 := by show xm_bok cX9_tell _; unfold xm_bok; decide +kernel
def b_X9_tell_153 : List (Nat × Jvm.ClassFile.Instr × Nat) := [(153, .istore 6, 2), (155, .iload 6, 2), (157, .ifCond .eq 6, 3)]
set_option maxRecDepth 20000 in
theorem k_X9_tell_153 {sc : xm_Sc} : xm_bok (xe_cy (XE sc) 160) b_X9_tell_153 := by show xm_bok cX9_tell _; unfold xm_bok; decide +kernel
def b_X9_tell_160 : List (Nat × Jvm.ClassFile.Instr × Nat) := [(160, .iload 6, 2), (162, .ireturn, 1)]
set_option maxRecDepth 20000 in
theorem k_X9_tell_160 {sc : xm_Sc} : xm_bok (xe_cy (XE sc) 160) b_X9_tell_160 := by show xm_bok cX9_tell _; unfold xm_bok; decide +kernel
def b_X9_tell_163 : List (Nat × Jvm.ClassFile.Instr × Nat) := [(163, .aload_n 0, 1), (164, .getfield 28, 3), (167, .aload_n 0, 1), (168, .getfield 36, 3), (171, .invokevirtual 72, 3)]
set_option maxRecDepth 20000 in
theorem k_X9_tell_163 {sc : xm_Sc} : xm_bok (xe_cy (XE sc) 160) b_X9_tell_163 := by show xm_bok cX9_tell _; unfold xm_bok; decide +kernel
def b_X9_tell_174 : List (Nat × Jvm.ClassFile.Instr × Nat) := [(174, .pop, 1), (175, .aload_n 0, 1), (176, .getfield 28, 3), (179, .aload_n 0, 1), (180, .getfield 36, 3), (183, .aload_n 0, 1), (184, .getfield 28, 3), (187, .iload 5, 2), (189, .invokevirtual 75, 3)]
set_option maxRecDepth 20000 in
theorem k_X9_tell_174 {sc : xm_Sc} : xm_bok (xe_cy (XE sc) 160) b_X9_tell_174 := by show xm_bok cX9_tell _; unfold xm_bok; decide +kernel
def b_X9_tell_192 : List (Nat × Jvm.ClassFile.Instr × Nat) := [(192, .invokevirtual 62, 3)]
set_option maxRecDepth 20000 in
theorem k_X9_tell_192 {sc : xm_Sc} : xm_bok (xe_cy (XE sc) 160) b_X9_tell_192 := by show xm_bok cX9_tell _; unfold xm_bok; decide +kernel
def b_X9_tell_195 : List (Nat × Jvm.ClassFile.Instr × Nat) := [(195, .aload_n 0, 1), (196, .getfield 28, 3), (199, .getfield 79, 3), (202, .sipush 400, 3), (205, .if_icmp .le 5, 3)]
set_option maxRecDepth 20000 in
theorem k_X9_tell_195 {sc : xm_Sc} : xm_bok (xe_cy (XE sc) 160) b_X9_tell_195 := by show xm_bok cX9_tell _; unfold xm_bok; decide +kernel
def b_X9_tell_208 : List (Nat × Jvm.ClassFile.Instr × Nat) := [(208, .iconst 4, 1), (209, .ireturn, 1)]
set_option maxRecDepth 20000 in
theorem k_X9_tell_208 {sc : xm_Sc} : xm_bok (xe_cy (XE sc) 160) b_X9_tell_208 := by show xm_bok cX9_tell _; unfold xm_bok; decide +kernel
def b_X9_tell_210 : List (Nat × Jvm.ClassFile.Instr × Nat) := [(210, .aload_n 0, 1), (211, .aload_n 3, 1), (212, .invokevirtual 82, 3)]
set_option maxRecDepth 20000 in
theorem k_X9_tell_210 {sc : xm_Sc} : xm_bok (xe_cy (XE sc) 160) b_X9_tell_210 := by show xm_bok cX9_tell _; unfold xm_bok; decide +kernel
def b_X9_tell_215 : List (Nat × Jvm.ClassFile.Instr × Nat) := [(215, .istore 6, 2), (217, .iload 6, 2), (219, .ifCond .eq 6, 3)]
set_option maxRecDepth 20000 in
theorem k_X9_tell_215 {sc : xm_Sc} : xm_bok (xe_cy (XE sc) 160) b_X9_tell_215 := by show xm_bok cX9_tell _; unfold xm_bok; decide +kernel
def b_X9_tell_222 : List (Nat × Jvm.ClassFile.Instr × Nat) := [(222, .iload 6, 2), (224, .ireturn, 1)]
set_option maxRecDepth 20000 in
theorem k_X9_tell_222 {sc : xm_Sc} : xm_bok (xe_cy (XE sc) 160) b_X9_tell_222 := by show xm_bok cX9_tell _; unfold xm_bok; decide +kernel
def b_X9_tell_225 : List (Nat × Jvm.ClassFile.Instr × Nat) := [(225, .aload_n 3, 1), (226, .invokevirtual 86, 3)]
set_option maxRecDepth 20000 in
theorem k_X9_tell_225 {sc : xm_Sc} : xm_bok (xe_cy (XE sc) 160) b_X9_tell_225 := by show xm_bok cX9_tell _; unfold xm_bok; decide +kernel
def b_X9_tell_229 : List (Nat × Jvm.ClassFile.Instr × Nat) := [(229, .aload_n 0, 1), (230, .aload_n 3, 1), (231, .invokevirtual 89, 3)]
set_option maxRecDepth 20000 in
theorem k_X9_tell_229 {sc : xm_Sc} : xm_bok (xe_cy (XE sc) 160) b_X9_tell_229 := by show xm_bok cX9_tell _; unfold xm_bok; decide +kernel
def b_X9_tell_234 : List (Nat × Jvm.ClassFile.Instr × Nat) := [(234, .aload_n 3, 1), (235, .getfield 93, 3), (238, .ifCond .eq 7, 3)]
set_option maxRecDepth 20000 in
theorem k_X9_tell_234 {sc : xm_Sc} : xm_bok (xe_cy (XE sc) 160) b_X9_tell_234 := by show xm_bok cX9_tell _; unfold xm_bok; decide +kernel
def b_X9_tell_241 : List (Nat × Jvm.ClassFile.Instr × Nat) := [(241, .iconst 4, 1), (242, .goto 4, 3)]
set_option maxRecDepth 20000 in
theorem k_X9_tell_241 {sc : xm_Sc} : xm_bok (xe_cy (XE sc) 160) b_X9_tell_241 := by show xm_bok cX9_tell _; unfold xm_bok; decide +kernel
def b_X9_tell_245 : List (Nat × Jvm.ClassFile.Instr × Nat) := [(245, .iconst 0, 1)]
set_option maxRecDepth 20000 in
theorem k_X9_tell_245 {sc : xm_Sc} : xm_bok (xe_cy (XE sc) 160) b_X9_tell_245 := by show xm_bok cX9_tell _; unfold xm_bok; decide +kernel
def b_X9_tell_246 : List (Nat × Jvm.ClassFile.Instr × Nat) := [(246, .ireturn, 1)]
set_option maxRecDepth 20000 in
theorem k_X9_tell_246 {sc : xm_Sc} : xm_bok (xe_cy (XE sc) 160) b_X9_tell_246 := by show xm_bok cX9_tell _; unfold xm_bok; decide +kernel
set_option maxRecDepth 20000 in
theorem cn_160 {sc : xm_Sc} : xe_cn (XE sc) 160 = 9 := rfl
set_option maxRecDepth 20000 in
theorem ml_160 {sc : xm_Sc} : xe_ml (XE sc) 160 = 7 := rfl
set_option maxRecDepth 20000 in
theorem ry_160 {sc : xm_Sc} : xe_ry (XE sc) 160 = (some .int) := rfl
set_option maxRecDepth 20000 in
theorem is_160 {sc : xm_Sc} : xe_is (XE sc) 160 = false := rfl
set_option maxRecDepth 20000 in
theorem np_160 {sc : xm_Sc} : xe_np (XE sc) 160 = 3 := rfl
/- method 161: X9_writeNode -/
def b_X9_writeNode_0 : List (Nat × Jvm.ClassFile.Instr × Nat) := [(0, .aload_n 2, 1), (1, .aload_n 0, 1), (2, .getfield 36, 3), (5, .getfield 215, 3), (8, .iload_n 1, 1), (9, .iaload, 1), (10, .i2l, 1), (11, .iconst 5, 1), (12, .invokevirtual 247, 3)]
set_option maxRecDepth 20000 in
theorem k_X9_writeNode_0 {sc : xm_Sc} : xm_bok (xe_cy (XE sc) 161) b_X9_writeNode_0 := by show xm_bok cX9_writeNode _; unfold xm_bok; decide +kernel
def b_X9_writeNode_15 : List (Nat × Jvm.ClassFile.Instr × Nat) := [(15, .aload_n 0, 1), (16, .getfield 36, 3), (19, .getfield 202, 3), (22, .iload_n 1, 1), (23, .iaload, 1), (24, .ifCond .lt 34, 3)]
set_option maxRecDepth 20000 in
theorem k_X9_writeNode_15 {sc : xm_Sc} : xm_bok (xe_cy (XE sc) 161) b_X9_writeNode_15 := by show xm_bok cX9_writeNode _; unfold xm_bok; decide +kernel
def b_X9_writeNode_27 : List (Nat × Jvm.ClassFile.Instr × Nat) := [(27, .aload_n 2, 1), (28, .aload_n 0, 1), (29, .getfield 28, 3), (32, .getfield 208, 3), (35, .iload_n 1, 1), (36, .iaload, 1), (37, .aload_n 0, 1), (38, .getfield 28, 3), (41, .getfield 208, 3), (44, .aload_n 0, 1), (45, .getfield 36, 3), (48, .getfield 202, 3), (51, .iload_n 1, 1), (52, .iaload, 1), (53, .iaload, 1), (54, .isub, 1), (55, .invokevirtual 241, 3)]
set_option maxRecDepth 20000 in
theorem k_X9_writeNode_27 {sc : xm_Sc} : xm_bok (xe_cy (XE sc) 161) b_X9_writeNode_27 := by show xm_bok cX9_writeNode _; unfold xm_bok; decide +kernel
def b_X9_writeNode_58 : List (Nat × Jvm.ClassFile.Instr × Nat) := [(58, .aload_n 0, 1), (59, .getfield 36, 3), (62, .getfield 205, 3), (65, .iload_n 1, 1), (66, .iaload, 1), (67, .ifCond .lt 34, 3)]
set_option maxRecDepth 20000 in
theorem k_X9_writeNode_58 {sc : xm_Sc} : xm_bok (xe_cy (XE sc) 161) b_X9_writeNode_58 := by show xm_bok cX9_writeNode _; unfold xm_bok; decide +kernel
def b_X9_writeNode_70 : List (Nat × Jvm.ClassFile.Instr × Nat) := [(70, .aload_n 2, 1), (71, .aload_n 0, 1), (72, .getfield 28, 3), (75, .getfield 208, 3), (78, .iload_n 1, 1), (79, .iaload, 1), (80, .aload_n 0, 1), (81, .getfield 28, 3), (84, .getfield 208, 3), (87, .aload_n 0, 1), (88, .getfield 36, 3), (91, .getfield 205, 3), (94, .iload_n 1, 1), (95, .iaload, 1), (96, .iaload, 1), (97, .isub, 1), (98, .invokevirtual 241, 3)]
set_option maxRecDepth 20000 in
theorem k_X9_writeNode_70 {sc : xm_Sc} : xm_bok (xe_cy (XE sc) 161) b_X9_writeNode_70 := by show xm_bok cX9_writeNode _; unfold xm_bok; decide +kernel
def b_X9_writeNode_101 : List (Nat × Jvm.ClassFile.Instr × Nat) := [(101, .aload_n 0, 1), (102, .getfield 36, 3), (105, .getfield 215, 3), (108, .iload_n 1, 1), (109, .iaload, 1), (110, .bipush 12, 2), (112, .if_icmp .ne 19, 3)]
set_option maxRecDepth 20000 in
theorem k_X9_writeNode_101 {sc : xm_Sc} : xm_bok (xe_cy (XE sc) 161) b_X9_writeNode_101 := by show xm_bok cX9_writeNode _; unfold xm_bok; decide +kernel
def b_X9_writeNode_115 : List (Nat × Jvm.ClassFile.Instr × Nat) := [(115, .aload_n 2, 1), (116, .aload_n 0, 1), (117, .getfield 36, 3), (120, .getfield 184, 3), (123, .iload_n 1, 1), (124, .iaload, 1), (125, .i2l, 1), (126, .bipush 8, 2), (128, .invokevirtual 247, 3)]
set_option maxRecDepth 20000 in
theorem k_X9_writeNode_115 {sc : xm_Sc} : xm_bok (xe_cy (XE sc) 161) b_X9_writeNode_115 := by show xm_bok cX9_writeNode _; unfold xm_bok; decide +kernel
def b_X9_writeNode_131 : List (Nat × Jvm.ClassFile.Instr × Nat) := [(131, .iconst 0, 1), (132, .istore_n 3, 1)]
set_option maxRecDepth 20000 in
theorem k_X9_writeNode_131 {sc : xm_Sc} : xm_bok (xe_cy (XE sc) 161) b_X9_writeNode_131 := by show xm_bok cX9_writeNode _; unfold xm_bok; decide +kernel
def b_X9_writeNode_133 : List (Nat × Jvm.ClassFile.Instr × Nat) := [(133, .iload_n 3, 1), (134, .bipush 8, 2), (136, .if_icmp .ge 49, 3)]
set_option maxRecDepth 20000 in
theorem k_X9_writeNode_133 {sc : xm_Sc} : xm_bok (xe_cy (XE sc) 161) b_X9_writeNode_133 := by show xm_bok cX9_writeNode _; unfold xm_bok; decide +kernel
def b_X9_writeNode_139 : List (Nat × Jvm.ClassFile.Instr × Nat) := [(139, .aload_n 0, 1), (140, .getfield 36, 3), (143, .getfield 215, 3), (146, .iload_n 1, 1), (147, .iaload, 1), (148, .bipush 11, 2), (150, .if_icmp .ne 35, 3)]
set_option maxRecDepth 20000 in
theorem k_X9_writeNode_139 {sc : xm_Sc} : xm_bok (xe_cy (XE sc) 161) b_X9_writeNode_139 := by show xm_bok cX9_writeNode _; unfold xm_bok; decide +kernel
def b_X9_writeNode_153 : List (Nat × Jvm.ClassFile.Instr × Nat) := [(153, .aload_n 2, 1), (154, .aload_n 0, 1), (155, .getfield 36, 3), (158, .getfield 196, 3), (161, .aload_n 0, 1), (162, .getfield 36, 3), (165, .getfield 184, 3), (168, .iload_n 1, 1), (169, .iaload, 1), (170, .iload_n 3, 1), (171, .iadd, 1), (172, .iaload, 1), (173, .i2l, 1), (174, .bipush 32, 2), (176, .invokevirtual 247, 3)]
set_option maxRecDepth 20000 in
theorem k_X9_writeNode_153 {sc : xm_Sc} : xm_bok (xe_cy (XE sc) 161) b_X9_writeNode_153 := by show xm_bok cX9_writeNode _; unfold xm_bok; decide +kernel
def b_X9_writeNode_179 : List (Nat × Jvm.ClassFile.Instr × Nat) := [(179, .iinc 3 1, 3), (182, .goto (-49), 3)]
set_option maxRecDepth 20000 in
theorem k_X9_writeNode_179 {sc : xm_Sc} : xm_bok (xe_cy (XE sc) 161) b_X9_writeNode_179 := by show xm_bok cX9_writeNode _; unfold xm_bok; decide +kernel
def b_X9_writeNode_185 : List (Nat × Jvm.ClassFile.Instr × Nat) := [(185, .return_, 1)]
set_option maxRecDepth 20000 in
theorem k_X9_writeNode_185 {sc : xm_Sc} : xm_bok (xe_cy (XE sc) 161) b_X9_writeNode_185 := by show xm_bok cX9_writeNode _; unfold xm_bok; decide +kernel
set_option maxRecDepth 20000 in
theorem cn_161 {sc : xm_Sc} : xe_cn (XE sc) 161 = 9 := rfl
set_option maxRecDepth 20000 in
theorem ml_161 {sc : xm_Sc} : xe_ml (XE sc) 161 = 4 := rfl
set_option maxRecDepth 20000 in
theorem ry_161 {sc : xm_Sc} : xe_ry (XE sc) 161 = none := rfl
set_option maxRecDepth 20000 in
theorem is_161 {sc : xm_Sc} : xe_is (XE sc) 161 = false := rfl
set_option maxRecDepth 20000 in
theorem np_161 {sc : xm_Sc} : xe_np (XE sc) 161 = 2 := rfl
/- method 162: X9_writeProgram -/
def b_X9_writeProgram_0 : List (Nat × Jvm.ClassFile.Instr × Nat) := [(0, .iconst 0, 1), (1, .istore_n 2, 1), (2, .aload_n 1, 1), (3, .aload_n 0, 1), (4, .getfield 28, 3), (7, .getfield 79, 3), (10, .invokevirtual 241, 3)]
set_option maxRecDepth 20000 in
theorem k_X9_writeProgram_0 {sc : xm_Sc} : xm_bok (xe_cy (XE sc) 162) b_X9_writeProgram_0 := by show xm_bok cX9_writeProgram _; unfold xm_bok; decide +kernel
def b_X9_writeProgram_13 : List (Nat × Jvm.ClassFile.Instr × Nat) := [(13, .iconst 0, 1), (14, .istore_n 3, 1)]
set_option maxRecDepth 20000 in
theorem k_X9_writeProgram_13 {sc : xm_Sc} : xm_bok (xe_cy (XE sc) 162) b_X9_writeProgram_13 := by show xm_bok cX9_writeProgram _; unfold xm_bok; decide +kernel
def b_X9_writeProgram_15 : List (Nat × Jvm.ClassFile.Instr × Nat) := [(15, .iload_n 3, 1), (16, .aload_n 0, 1), (17, .getfield 28, 3), (20, .getfield 79, 3), (23, .if_icmp .ge 62, 3)]
set_option maxRecDepth 20000 in
theorem k_X9_writeProgram_15 {sc : xm_Sc} : xm_bok (xe_cy (XE sc) 162) b_X9_writeProgram_15 := by show xm_bok cX9_writeProgram _; unfold xm_bok; decide +kernel
def b_X9_writeProgram_26 : List (Nat × Jvm.ClassFile.Instr × Nat) := [(26, .aload_n 1, 1), (27, .getfield 93, 3), (30, .ifCond .ne 55, 3)]
set_option maxRecDepth 20000 in
theorem k_X9_writeProgram_26 {sc : xm_Sc} : xm_bok (xe_cy (XE sc) 162) b_X9_writeProgram_26 := by show xm_bok cX9_writeProgram _; unfold xm_bok; decide +kernel
def b_X9_writeProgram_33 : List (Nat × Jvm.ClassFile.Instr × Nat) := [(33, .aload_n 0, 1), (34, .getfield 28, 3), (37, .getfield 199, 3), (40, .iload_n 3, 1), (41, .iaload, 1), (42, .istore 4, 2), (44, .aload_n 0, 1), (45, .iload 4, 2), (47, .aload_n 1, 1), (48, .invokevirtual 244, 3)]
set_option maxRecDepth 20000 in
theorem k_X9_writeProgram_33 {sc : xm_Sc} : xm_bok (xe_cy (XE sc) 162) b_X9_writeProgram_33 := by show xm_bok cX9_writeProgram _; unfold xm_bok; decide +kernel
def b_X9_writeProgram_51 : List (Nat × Jvm.ClassFile.Instr × Nat) := [(51, .aload_n 0, 1), (52, .getfield 36, 3), (55, .getfield 215, 3), (58, .iload 4, 2), (60, .iaload, 1), (61, .bipush 10, 2), (63, .if_icmp .ne 16, 3)]
set_option maxRecDepth 20000 in
theorem k_X9_writeProgram_51 {sc : xm_Sc} : xm_bok (xe_cy (XE sc) 162) b_X9_writeProgram_51 := by show xm_bok cX9_writeProgram _; unfold xm_bok; decide +kernel
def b_X9_writeProgram_66 : List (Nat × Jvm.ClassFile.Instr × Nat) := [(66, .iload_n 2, 1), (67, .aload_n 0, 1), (68, .getfield 36, 3), (71, .getfield 187, 3), (74, .iload 4, 2), (76, .iaload, 1), (77, .iadd, 1), (78, .istore_n 2, 1)]
set_option maxRecDepth 20000 in
theorem k_X9_writeProgram_66 {sc : xm_Sc} : xm_bok (xe_cy (XE sc) 162) b_X9_writeProgram_66 := by show xm_bok cX9_writeProgram _; unfold xm_bok; decide +kernel
def b_X9_writeProgram_79 : List (Nat × Jvm.ClassFile.Instr × Nat) := [(79, .iinc 3 1, 3), (82, .goto (-67), 3)]
set_option maxRecDepth 20000 in
theorem k_X9_writeProgram_79 {sc : xm_Sc} : xm_bok (xe_cy (XE sc) 162) b_X9_writeProgram_79 := by show xm_bok cX9_writeProgram _; unfold xm_bok; decide +kernel
def b_X9_writeProgram_85 : List (Nat × Jvm.ClassFile.Instr × Nat) := [(85, .aload_n 1, 1), (86, .iload_n 2, 1), (87, .iconst 1, 1), (88, .iadd, 1), (89, .invokevirtual 241, 3)]
set_option maxRecDepth 20000 in
theorem k_X9_writeProgram_85 {sc : xm_Sc} : xm_bok (xe_cy (XE sc) 162) b_X9_writeProgram_85 := by show xm_bok cX9_writeProgram _; unfold xm_bok; decide +kernel
def b_X9_writeProgram_92 : List (Nat × Jvm.ClassFile.Instr × Nat) := [(92, .iconst 0, 1), (93, .istore_n 3, 1)]
set_option maxRecDepth 20000 in
theorem k_X9_writeProgram_92 {sc : xm_Sc} : xm_bok (xe_cy (XE sc) 162) b_X9_writeProgram_92 := by show xm_bok cX9_writeProgram _; unfold xm_bok; decide +kernel
def b_X9_writeProgram_94 : List (Nat × Jvm.ClassFile.Instr × Nat) := [(94, .iload_n 3, 1), (95, .aload_n 0, 1), (96, .getfield 28, 3), (99, .getfield 79, 3), (102, .if_icmp .ge 49, 3)]
set_option maxRecDepth 20000 in
theorem k_X9_writeProgram_94 {sc : xm_Sc} : xm_bok (xe_cy (XE sc) 162) b_X9_writeProgram_94 := by show xm_bok cX9_writeProgram _; unfold xm_bok; decide +kernel
def b_X9_writeProgram_105 : List (Nat × Jvm.ClassFile.Instr × Nat) := [(105, .aload_n 1, 1), (106, .getfield 93, 3), (109, .ifCond .ne 42, 3)]
set_option maxRecDepth 20000 in
theorem k_X9_writeProgram_105 {sc : xm_Sc} : xm_bok (xe_cy (XE sc) 162) b_X9_writeProgram_105 := by show xm_bok cX9_writeProgram _; unfold xm_bok; decide +kernel
def b_X9_writeProgram_112 : List (Nat × Jvm.ClassFile.Instr × Nat) := [(112, .aload_n 0, 1), (113, .getfield 28, 3), (116, .getfield 199, 3), (119, .iload_n 3, 1), (120, .iaload, 1), (121, .istore 4, 2), (123, .aload_n 0, 1), (124, .getfield 36, 3), (127, .getfield 215, 3), (130, .iload 4, 2), (132, .iaload, 1), (133, .bipush 10, 2), (135, .if_icmp .ne 10, 3)]
set_option maxRecDepth 20000 in
theorem k_X9_writeProgram_112 {sc : xm_Sc} : xm_bok (xe_cy (XE sc) 162) b_X9_writeProgram_112 := by show xm_bok cX9_writeProgram _; unfold xm_bok; decide +kernel
def b_X9_writeProgram_138 : List (Nat × Jvm.ClassFile.Instr × Nat) := [(138, .aload_n 0, 1), (139, .iload 4, 2), (141, .aload_n 1, 1), (142, .invokevirtual 220, 3)]
set_option maxRecDepth 20000 in
theorem k_X9_writeProgram_138 {sc : xm_Sc} : xm_bok (xe_cy (XE sc) 162) b_X9_writeProgram_138 := by show xm_bok cX9_writeProgram _; unfold xm_bok; decide +kernel
def b_X9_writeProgram_145 : List (Nat × Jvm.ClassFile.Instr × Nat) := [(145, .iinc 3 1, 3), (148, .goto (-54), 3)]
set_option maxRecDepth 20000 in
theorem k_X9_writeProgram_145 {sc : xm_Sc} : xm_bok (xe_cy (XE sc) 162) b_X9_writeProgram_145 := by show xm_bok cX9_writeProgram _; unfold xm_bok; decide +kernel
def b_X9_writeProgram_151 : List (Nat × Jvm.ClassFile.Instr × Nat) := [(151, .return_, 1)]
set_option maxRecDepth 20000 in
theorem k_X9_writeProgram_151 {sc : xm_Sc} : xm_bok (xe_cy (XE sc) 162) b_X9_writeProgram_151 := by show xm_bok cX9_writeProgram _; unfold xm_bok; decide +kernel
set_option maxRecDepth 20000 in
theorem cn_162 {sc : xm_Sc} : xe_cn (XE sc) 162 = 9 := rfl
set_option maxRecDepth 20000 in
theorem ml_162 {sc : xm_Sc} : xe_ml (XE sc) 162 = 5 := rfl
set_option maxRecDepth 20000 in
theorem ry_162 {sc : xm_Sc} : xe_ry (XE sc) 162 = none := rfl
set_option maxRecDepth 20000 in
theorem is_162 {sc : xm_Sc} : xe_is (XE sc) 162 = false := rfl
set_option maxRecDepth 20000 in
theorem np_162 {sc : xm_Sc} : xe_np (XE sc) 162 = 1 := rfl
/- method 163: X9_writeRow -/
def b_X9_writeRow_0 : List (Nat × Jvm.ClassFile.Instr × Nat) := [(0, .iconst 0, 1), (1, .istore_n 3, 1)]
set_option maxRecDepth 20000 in
theorem k_X9_writeRow_0 {sc : xm_Sc} : xm_bok (xe_cy (XE sc) 163) b_X9_writeRow_0 := by show xm_bok cX9_writeRow _; unfold xm_bok; decide +kernel
def b_X9_writeRow_2 : List (Nat × Jvm.ClassFile.Instr × Nat) := [(2, .iload_n 3, 1), (3, .aload_n 0, 1), (4, .getfield 36, 3), (7, .getfield 187, 3), (10, .iload_n 1, 1), (11, .iaload, 1), (12, .if_icmp .ge 41, 3)]
set_option maxRecDepth 20000 in
theorem k_X9_writeRow_2 {sc : xm_Sc} : xm_bok (xe_cy (XE sc) 163) b_X9_writeRow_2 := by show xm_bok cX9_writeRow _; unfold xm_bok; decide +kernel
def b_X9_writeRow_15 : List (Nat × Jvm.ClassFile.Instr × Nat) := [(15, .aload_n 2, 1), (16, .getfield 93, 3), (19, .ifCond .ne 34, 3)]
set_option maxRecDepth 20000 in
theorem k_X9_writeRow_15 {sc : xm_Sc} : xm_bok (xe_cy (XE sc) 163) b_X9_writeRow_15 := by show xm_bok cX9_writeRow _; unfold xm_bok; decide +kernel
def b_X9_writeRow_22 : List (Nat × Jvm.ClassFile.Instr × Nat) := [(22, .aload_n 2, 1), (23, .aload_n 0, 1), (24, .getfield 32, 3), (27, .aload_n 0, 1), (28, .getfield 36, 3), (31, .getfield 184, 3), (34, .iload_n 1, 1), (35, .iaload, 1), (36, .iload_n 3, 1), (37, .iadd, 1), (38, .invokevirtual 130, 3)]
set_option maxRecDepth 20000 in
theorem k_X9_writeRow_22 {sc : xm_Sc} : xm_bok (xe_cy (XE sc) 163) b_X9_writeRow_22 := by show xm_bok cX9_writeRow _; unfold xm_bok; decide +kernel
def b_X9_writeRow_41 : List (Nat × Jvm.ClassFile.Instr × Nat) := [(41, .bipush 48, 2), (43, .isub, 1), (44, .invokevirtual 237, 3)]
set_option maxRecDepth 20000 in
theorem k_X9_writeRow_41 {sc : xm_Sc} : xm_bok (xe_cy (XE sc) 163) b_X9_writeRow_41 := by show xm_bok cX9_writeRow _; unfold xm_bok; decide +kernel
def b_X9_writeRow_47 : List (Nat × Jvm.ClassFile.Instr × Nat) := [(47, .iinc 3 1, 3), (50, .goto (-48), 3)]
set_option maxRecDepth 20000 in
theorem k_X9_writeRow_47 {sc : xm_Sc} : xm_bok (xe_cy (XE sc) 163) b_X9_writeRow_47 := by show xm_bok cX9_writeRow _; unfold xm_bok; decide +kernel
def b_X9_writeRow_53 : List (Nat × Jvm.ClassFile.Instr × Nat) := [(53, .return_, 1)]
set_option maxRecDepth 20000 in
theorem k_X9_writeRow_53 {sc : xm_Sc} : xm_bok (xe_cy (XE sc) 163) b_X9_writeRow_53 := by show xm_bok cX9_writeRow _; unfold xm_bok; decide +kernel
set_option maxRecDepth 20000 in
theorem cn_163 {sc : xm_Sc} : xe_cn (XE sc) 163 = 9 := rfl
set_option maxRecDepth 20000 in
theorem ml_163 {sc : xm_Sc} : xe_ml (XE sc) 163 = 4 := rfl
set_option maxRecDepth 20000 in
theorem ry_163 {sc : xm_Sc} : xe_ry (XE sc) 163 = none := rfl
set_option maxRecDepth 20000 in
theorem is_163 {sc : xm_Sc} : xe_is (XE sc) 163 = false := rfl
set_option maxRecDepth 20000 in
theorem np_163 {sc : xm_Sc} : xe_np (XE sc) 163 = 2 := rfl
set_option maxRecDepth 20000 in
theorem fl_9_9 {sc : xm_Sc} : xe_fl (XE sc) 9 9 = some (9, 2) := rfl
set_option maxRecDepth 20000 in
theorem fl_9_15 {sc : xm_Sc} : xe_fl (XE sc) 9 15 = some (9, 3) := rfl
set_option maxRecDepth 20000 in
theorem fl_9_19 {sc : xm_Sc} : xe_fl (XE sc) 9 19 = some (9, 4) := rfl
set_option maxRecDepth 20000 in
theorem fl_9_22 {sc : xm_Sc} : xe_fl (XE sc) 9 22 = some (9, 5) := rfl
set_option maxRecDepth 20000 in
theorem fl_9_25 {sc : xm_Sc} : xe_fl (XE sc) 9 25 = some (9, 6) := rfl
set_option maxRecDepth 20000 in
theorem fl_9_28 {sc : xm_Sc} : xe_fl (XE sc) 9 28 = some (9, 1) := rfl
set_option maxRecDepth 20000 in
theorem fl_9_32 {sc : xm_Sc} : xe_fl (XE sc) 9 32 = some (9, 9) := rfl
set_option maxRecDepth 20000 in
theorem fl_9_36 {sc : xm_Sc} : xe_fl (XE sc) 9 36 = some (9, 10) := rfl
set_option maxRecDepth 20000 in
theorem fl_9_45 {sc : xm_Sc} : xe_fl (XE sc) 9 45 = some (9, 0) := rfl
set_option maxRecDepth 20000 in
theorem fl_9_49 {sc : xm_Sc} : xe_fl (XE sc) 9 49 = some (9, 16) := rfl
set_option maxRecDepth 20000 in
theorem fl_9_52 {sc : xm_Sc} : xe_fl (XE sc) 9 52 = some (9, 13) := rfl
set_option maxRecDepth 20000 in
theorem fl_9_55 {sc : xm_Sc} : xe_fl (XE sc) 9 55 = some (9, 7) := rfl
set_option maxRecDepth 20000 in
theorem fl_9_79 {sc : xm_Sc} : xe_fl (XE sc) 9 79 = some (5, 2) := rfl
set_option maxRecDepth 20000 in
theorem fl_9_93 {sc : xm_Sc} : xe_fl (XE sc) 9 93 = some (8, 2) := rfl
set_option maxRecDepth 20000 in
theorem fl_9_100 {sc : xm_Sc} : xe_fl (XE sc) 9 100 = some (9, 11) := rfl
set_option maxRecDepth 20000 in
theorem fl_9_103 {sc : xm_Sc} : xe_fl (XE sc) 9 103 = some (9, 14) := rfl
set_option maxRecDepth 20000 in
theorem fl_9_107 {sc : xm_Sc} : xe_fl (XE sc) 9 107 = some (9, 12) := rfl
set_option maxRecDepth 20000 in
theorem fl_9_126 {sc : xm_Sc} : xe_fl (XE sc) 9 126 = some (9, 15) := rfl
set_option maxRecDepth 20000 in
theorem fl_9_129 {sc : xm_Sc} : xe_fl (XE sc) 9 129 = some (8, 1) := rfl
set_option maxRecDepth 20000 in
theorem fl_9_148 {sc : xm_Sc} : xe_fl (XE sc) 9 148 = some (9, 8) := rfl
set_option maxRecDepth 20000 in
theorem fl_9_166 {sc : xm_Sc} : xe_fl (XE sc) 9 166 = some (6, 0) := rfl
set_option maxRecDepth 20000 in
theorem fl_9_184 {sc : xm_Sc} : xe_fl (XE sc) 9 184 = some (6, 4) := rfl
set_option maxRecDepth 20000 in
theorem fl_9_187 {sc : xm_Sc} : xe_fl (XE sc) 9 187 = some (6, 5) := rfl
set_option maxRecDepth 20000 in
theorem fl_9_196 {sc : xm_Sc} : xe_fl (XE sc) 9 196 = some (6, 11) := rfl
set_option maxRecDepth 20000 in
theorem fl_9_199 {sc : xm_Sc} : xe_fl (XE sc) 9 199 = some (5, 0) := rfl
set_option maxRecDepth 20000 in
theorem fl_9_202 {sc : xm_Sc} : xe_fl (XE sc) 9 202 = some (6, 2) := rfl
set_option maxRecDepth 20000 in
theorem fl_9_205 {sc : xm_Sc} : xe_fl (XE sc) 9 205 = some (6, 3) := rfl
set_option maxRecDepth 20000 in
theorem fl_9_208 {sc : xm_Sc} : xe_fl (XE sc) 9 208 = some (5, 1) := rfl
set_option maxRecDepth 20000 in
theorem fl_9_215 {sc : xm_Sc} : xe_fl (XE sc) 9 215 = some (6, 1) := rfl
set_option maxRecDepth 20000 in
theorem fl_9_224 {sc : xm_Sc} : xe_fl (XE sc) 9 224 = some (6, 13) := rfl
set_option maxRecDepth 20000 in
theorem fl_9_228 {sc : xm_Sc} : xe_fl (XE sc) 9 228 = some (6, 7) := rfl
set_option maxRecDepth 20000 in
theorem kl_9_143 {sc : xm_Sc} : xe_kL (XE sc) 9 143 = some (-7046029254386353131) := rfl
set_option maxRecDepth 20000 in
theorem gs_9_140 {sc : xm_Sc} : xe_gs (XE sc) 9 140 = some 204 := rfl
set_option maxRecDepth 20000 in
theorem lk_9_40 {sc : xm_Sc} : xe_lk (XE sc) 9 40 = some 105 := rfl
set_option maxRecDepth 20000 in
theorem lk_9_58 {sc : xm_Sc} : xe_lk (XE sc) 9 58 = some 149 := rfl
set_option maxRecDepth 20000 in
theorem lk_9_62 {sc : xm_Sc} : xe_lk (XE sc) 9 62 = some 97 := rfl
set_option maxRecDepth 20000 in
theorem lk_9_68 {sc : xm_Sc} : xe_lk (XE sc) 9 68 = some 92 := rfl
set_option maxRecDepth 20000 in
theorem lk_9_72 {sc : xm_Sc} : xe_lk (XE sc) 9 72 = some 93 := rfl
set_option maxRecDepth 20000 in
theorem lk_9_75 {sc : xm_Sc} : xe_lk (XE sc) 9 75 = some 94 := rfl
set_option maxRecDepth 20000 in
theorem lk_9_82 {sc : xm_Sc} : xe_lk (XE sc) 9 82 = some 145 := rfl
set_option maxRecDepth 20000 in
theorem lk_9_86 {sc : xm_Sc} : xe_lk (XE sc) 9 86 = some 128 := rfl
set_option maxRecDepth 20000 in
theorem lk_9_89 {sc : xm_Sc} : xe_lk (XE sc) 9 89 = some 162 := rfl
set_option maxRecDepth 20000 in
theorem lk_9_97 {sc : xm_Sc} : xe_lk (XE sc) 9 97 = some 147 := rfl
set_option maxRecDepth 20000 in
theorem lk_9_110 {sc : xm_Sc} : xe_lk (XE sc) 9 110 = some 156 := rfl
set_option maxRecDepth 20000 in
theorem lk_9_114 {sc : xm_Sc} : xe_lk (XE sc) 9 114 = some 148 := rfl
set_option maxRecDepth 20000 in
theorem lk_9_118 {sc : xm_Sc} : xe_lk (XE sc) 9 118 = some 150 := rfl
set_option maxRecDepth 20000 in
theorem lk_9_122 {sc : xm_Sc} : xe_lk (XE sc) 9 122 = some 146 := rfl
set_option maxRecDepth 20000 in
theorem lk_9_130 {sc : xm_Sc} : xe_lk (XE sc) 9 130 = some 126 := rfl
set_option maxRecDepth 20000 in
theorem lk_9_133 {sc : xm_Sc} : xe_lk (XE sc) 9 133 = some 144 := rfl
set_option maxRecDepth 20000 in
theorem lk_9_137 {sc : xm_Sc} : xe_lk (XE sc) 9 137 = some 159 := rfl
set_option maxRecDepth 20000 in
theorem lk_9_145 {sc : xm_Sc} : xe_lk (XE sc) 9 145 = some 158 := rfl
set_option maxRecDepth 20000 in
theorem lk_9_151 {sc : xm_Sc} : xe_lk (XE sc) 9 151 = some 142 := rfl
set_option maxRecDepth 20000 in
theorem lk_9_154 {sc : xm_Sc} : xe_lk (XE sc) 9 154 = some 143 := rfl
set_option maxRecDepth 20000 in
theorem lk_9_157 {sc : xm_Sc} : xe_lk (XE sc) 9 157 = some 141 := rfl
set_option maxRecDepth 20000 in
theorem lk_9_160 {sc : xm_Sc} : xe_lk (XE sc) 9 160 = some 153 := rfl
set_option maxRecDepth 20000 in
theorem lk_9_163 {sc : xm_Sc} : xe_lk (XE sc) 9 163 = some 157 := rfl
set_option maxRecDepth 20000 in
theorem lk_9_169 {sc : xm_Sc} : xe_lk (XE sc) 9 169 = some 98 := rfl
set_option maxRecDepth 20000 in
theorem lk_9_172 {sc : xm_Sc} : xe_lk (XE sc) 9 172 = some 154 := rfl
set_option maxRecDepth 20000 in
theorem lk_9_175 {sc : xm_Sc} : xe_lk (XE sc) 9 175 = some 155 := rfl
set_option maxRecDepth 20000 in
theorem lk_9_178 {sc : xm_Sc} : xe_lk (XE sc) 9 178 = some 151 := rfl
set_option maxRecDepth 20000 in
theorem lk_9_181 {sc : xm_Sc} : xe_lk (XE sc) 9 181 = some 152 := rfl
set_option maxRecDepth 20000 in
theorem lk_9_190 {sc : xm_Sc} : xe_lk (XE sc) 9 190 = some 100 := rfl
set_option maxRecDepth 20000 in
theorem lk_9_193 {sc : xm_Sc} : xe_lk (XE sc) 9 193 = some 130 := rfl
set_option maxRecDepth 20000 in
theorem lk_9_211 {sc : xm_Sc} : xe_lk (XE sc) 9 211 = some 99 := rfl
set_option maxRecDepth 20000 in
theorem lk_9_217 {sc : xm_Sc} : xe_lk (XE sc) 9 217 = some 111 := rfl
set_option maxRecDepth 20000 in
theorem lk_9_220 {sc : xm_Sc} : xe_lk (XE sc) 9 220 = some 163 := rfl
set_option maxRecDepth 20000 in
theorem lk_9_231 {sc : xm_Sc} : xe_lk (XE sc) 9 231 = some 167 := rfl
set_option maxRecDepth 20000 in
theorem lk_9_237 {sc : xm_Sc} : xe_lk (XE sc) 9 237 = some 134 := rfl
set_option maxRecDepth 20000 in
theorem lk_9_241 {sc : xm_Sc} : xe_lk (XE sc) 9 241 = some 138 := rfl
set_option maxRecDepth 20000 in
theorem lk_9_244 {sc : xm_Sc} : xe_lk (XE sc) 9 244 = some 161 := rfl
set_option maxRecDepth 20000 in
theorem lk_9_247 {sc : xm_Sc} : xe_lk (XE sc) 9 247 = some 135 := rfl
