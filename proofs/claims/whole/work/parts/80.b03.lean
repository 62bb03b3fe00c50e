/- method 69: X3_readBits -/
def b_X3_readBits_0 : List (Nat × Jvm.ClassFile.Instr × Nat) := [(0, .aload_n 0, 1), (1, .getfield 47, 3), (4, .ifCond .ne 21, 3)]
set_option maxRecDepth 20000 in
theorem k_X3_readBits_0 {sc : xm_Sc} : xm_bok (xe_cy (XE sc) 69) b_X3_readBits_0 := by show xm_bok cX3_readBits _; unfold xm_bok; decide +kernel
def b_X3_readBits_7 : List (Nat × Jvm.ClassFile.Instr × Nat) := [(7, .aload_n 0, 1), (8, .getfield 44, 3), (11, .aload_n 0, 1), (12, .getfield 37, 3), (15, .isub, 1), (16, .iload_n 1, 1), (17, .if_icmp .ge 8, 3)]
set_option maxRecDepth 20000 in
theorem k_X3_readBits_7 {sc : xm_Sc} : xm_bok (xe_cy (XE sc) 69) b_X3_readBits_7 := by show xm_bok cX3_readBits _; unfold xm_bok; decide +kernel
def b_X3_readBits_20 : List (Nat × Jvm.ClassFile.Instr × Nat) := [(20, .aload_n 0, 1), (21, .iconst 1, 1), (22, .putfield 47, 3)]
set_option maxRecDepth 20000 in
theorem k_X3_readBits_20 {sc : xm_Sc} : xm_bok (xe_cy (XE sc) 69) b_X3_readBits_20 := by show xm_bok cX3_readBits _; unfold xm_bok; decide +kernel
def b_X3_readBits_25 : List (Nat × Jvm.ClassFile.Instr × Nat) := [(25, .aload_n 0, 1), (26, .getfield 47, 3), (29, .ifCond .eq 5, 3)]
set_option maxRecDepth 20000 in
theorem k_X3_readBits_25 {sc : xm_Sc} : xm_bok (xe_cy (XE sc) 69) b_X3_readBits_25 := by show xm_bok cX3_readBits _; unfold xm_bok; decide +kernel
def b_X3_readBits_32 : List (Nat × Jvm.ClassFile.Instr × Nat) := [(32, .iconst 0, 1), (33, .ireturn, 1)]
set_option maxRecDepth 20000 in
theorem k_X3_readBits_32 {sc : xm_Sc} : xm_bok (xe_cy (XE sc) 69) b_X3_readBits_32 := by show xm_bok cX3_readBits _; unfold xm_bok; decide +kernel
def b_X3_readBits_34 : List (Nat × Jvm.ClassFile.Instr × Nat) := [(34, .iconst 0, 1), (35, .istore_n 2, 1), (36, .iconst 0, 1), (37, .istore_n 3, 1)]
set_option maxRecDepth 20000 in
theorem k_X3_readBits_34 {sc : xm_Sc} : xm_bok (xe_cy (XE sc) 69) b_X3_readBits_34 := by show xm_bok cX3_readBits _; unfold xm_bok; decide +kernel
def b_X3_readBits_38 : List (Nat × Jvm.ClassFile.Instr × Nat) := [(38, .iload_n 3, 1), (39, .iload_n 1, 1), (40, .if_icmp .ge 27, 3)]
set_option maxRecDepth 20000 in
theorem k_X3_readBits_38 {sc : xm_Sc} : xm_bok (xe_cy (XE sc) 69) b_X3_readBits_38 := by show xm_bok cX3_readBits _; unfold xm_bok; decide +kernel
def b_X3_readBits_43 : List (Nat × Jvm.ClassFile.Instr × Nat) := [(43, .iload_n 2, 1), (44, .iconst 1, 1), (45, .ishl, 1), (46, .aload_n 0, 1), (47, .getfield 34, 3), (50, .aload_n 0, 1), (51, .getfield 37, 3), (54, .iload_n 3, 1), (55, .iadd, 1), (56, .invokevirtual 139, 3)]
set_option maxRecDepth 20000 in
theorem k_X3_readBits_43 {sc : xm_Sc} : xm_bok (xe_cy (XE sc) 69) b_X3_readBits_43 := by show xm_bok cX3_readBits _; unfold xm_bok; decide +kernel
def b_X3_readBits_59 : List (Nat × Jvm.ClassFile.Instr × Nat) := [(59, .ior, 1), (60, .istore_n 2, 1), (61, .iinc 3 1, 3), (64, .goto (-26), 3)]
set_option maxRecDepth 20000 in
theorem k_X3_readBits_59 {sc : xm_Sc} : xm_bok (xe_cy (XE sc) 69) b_X3_readBits_59 := by show xm_bok cX3_readBits _; unfold xm_bok; decide +kernel
def b_X3_readBits_67 : List (Nat × Jvm.ClassFile.Instr × Nat) := [(67, .aload_n 0, 1), (68, .dup, 1), (69, .getfield 37, 3), (72, .iload_n 1, 1), (73, .iadd, 1), (74, .putfield 37, 3), (77, .iload_n 2, 1), (78, .ireturn, 1)]
set_option maxRecDepth 20000 in
theorem k_X3_readBits_67 {sc : xm_Sc} : xm_bok (xe_cy (XE sc) 69) b_X3_readBits_67 := by show xm_bok cX3_readBits _; unfold xm_bok; decide +kernel
set_option maxRecDepth 20000 in
theorem cn_69 {sc : xm_Sc} : xe_cn (XE sc) 69 = 3 := rfl
set_option maxRecDepth 20000 in
theorem ml_69 {sc : xm_Sc} : xe_ml (XE sc) 69 = 4 := rfl
set_option maxRecDepth 20000 in
theorem ry_69 {sc : xm_Sc} : xe_ry (XE sc) 69 = (some .int) := rfl
set_option maxRecDepth 20000 in
theorem is_69 {sc : xm_Sc} : xe_is (XE sc) 69 = false := rfl
set_option maxRecDepth 20000 in
theorem np_69 {sc : xm_Sc} : xe_np (XE sc) 69 = 1 := rfl
/- method 70: X3_readChild -/
def b_X3_readChild_0 : List (Nat × Jvm.ClassFile.Instr × Nat) := [(0, .aload_n 0, 1), (1, .invokevirtual 50, 3)]
set_option maxRecDepth 20000 in
theorem k_X3_readChild_0 {sc : xm_Sc} : xm_bok (xe_cy (XE sc) 70) b_X3_readChild_0 := by show xm_bok cX3_readChild _; unfold xm_bok; decide +kernel
def b_X3_readChild_4 : List (Nat × Jvm.ClassFile.Instr × Nat) := [(4, .istore_n 2, 1), (5, .aload_n 0, 1), (6, .getfield 47, 3), (9, .ifCond .ne 13, 3)]
set_option maxRecDepth 20000 in
theorem k_X3_readChild_4 {sc : xm_Sc} : xm_bok (xe_cy (XE sc) 70) b_X3_readChild_4 := by show xm_bok cX3_readChild _; unfold xm_bok; decide +kernel
def b_X3_readChild_12 : List (Nat × Jvm.ClassFile.Instr × Nat) := [(12, .iload_n 2, 1), (13, .iload_n 1, 1), (14, .if_icmp .le 8, 3)]
set_option maxRecDepth 20000 in
theorem k_X3_readChild_12 {sc : xm_Sc} : xm_bok (xe_cy (XE sc) 70) b_X3_readChild_12 := by show xm_bok cX3_readChild _; unfold xm_bok; decide +kernel
def b_X3_readChild_17 : List (Nat × Jvm.ClassFile.Instr × Nat) := [(17, .aload_n 0, 1), (18, .iconst 3, 1), (19, .putfield 47, 3)]
set_option maxRecDepth 20000 in
theorem k_X3_readChild_17 {sc : xm_Sc} : xm_bok (xe_cy (XE sc) 70) b_X3_readChild_17 := by show xm_bok cX3_readChild _; unfold xm_bok; decide +kernel
def b_X3_readChild_22 : List (Nat × Jvm.ClassFile.Instr × Nat) := [(22, .aload_n 0, 1), (23, .getfield 47, 3), (26, .ifCond .ne 9, 3)]
set_option maxRecDepth 20000 in
theorem k_X3_readChild_22 {sc : xm_Sc} : xm_bok (xe_cy (XE sc) 70) b_X3_readChild_22 := by show xm_bok cX3_readChild _; unfold xm_bok; decide +kernel
def b_X3_readChild_29 : List (Nat × Jvm.ClassFile.Instr × Nat) := [(29, .iload_n 1, 1), (30, .iload_n 2, 1), (31, .isub, 1), (32, .goto 4, 3)]
set_option maxRecDepth 20000 in
theorem k_X3_readChild_29 {sc : xm_Sc} : xm_bok (xe_cy (XE sc) 70) b_X3_readChild_29 := by show xm_bok cX3_readChild _; unfold xm_bok; decide +kernel
def b_X3_readChild_35 : List (Nat × Jvm.ClassFile.Instr × Nat) := [(35, .iconst (-1), 1)]
set_option maxRecDepth 20000 in
theorem k_X3_readChild_35 {sc : xm_Sc} : xm_bok (xe_cy (XE sc) 70) b_X3_readChild_35 := by show xm_bok cX3_readChild _; unfold xm_bok; decide +kernel
def b_X3_readChild_36 : List (Nat × Jvm.ClassFile.Instr × Nat) := [(36, .ireturn, 1)]
set_option maxRecDepth 20000 in
theorem k_X3_readChild_36 {sc : xm_Sc} : xm_bok (xe_cy (XE sc) 70) b_X3_readChild_36 := by show xm_bok cX3_readChild _; unfold xm_bok; decide +kernel
set_option maxRecDepth 20000 in
theorem cn_70 {sc : xm_Sc} : xe_cn (XE sc) 70 = 3 := rfl
set_option maxRecDepth 20000 in
theorem ml_70 {sc : xm_Sc} : xe_ml (XE sc) 70 = 3 := rfl
set_option maxRecDepth 20000 in
theorem ry_70 {sc : xm_Sc} : xe_ry (XE sc) 70 = (some .int) := rfl
set_option maxRecDepth 20000 in
theorem is_70 {sc : xm_Sc} : xe_is (XE sc) 70 = false := rfl
set_option maxRecDepth 20000 in
theorem np_70 {sc : xm_Sc} : xe_np (XE sc) 70 = 1 := rfl
/- method 71: X3_readHidden -/
def b_X3_readHidden_0 : List (Nat × Jvm.ClassFile.Instr × Nat) := [(0, .aload_n 0, 1), (1, .getfield 15, 3), (4, .invokevirtual 104, 3)]
set_option maxRecDepth 20000 in
theorem k_X3_readHidden_0 {sc : xm_Sc} : xm_bok (xe_cy (XE sc) 71) b_X3_readHidden_0 := by show xm_bok cX3_readHidden _; unfold xm_bok; decide +kernel
def b_X3_readHidden_7 : List (Nat × Jvm.ClassFile.Instr × Nat) := [(7, .istore_n 2, 1), (8, .aload_n 0, 1), (9, .getfield 15, 3), (12, .getfield 101, 3), (15, .iload_n 1, 1), (16, .iload_n 2, 1), (17, .iastore, 1), (18, .iconst 0, 1), (19, .istore_n 3, 1)]
set_option maxRecDepth 20000 in
theorem k_X3_readHidden_7 {sc : xm_Sc} : xm_bok (xe_cy (XE sc) 71) b_X3_readHidden_7 := by show xm_bok cX3_readHidden _; unfold xm_bok; decide +kernel
def b_X3_readHidden_20 : List (Nat × Jvm.ClassFile.Instr × Nat) := [(20, .iload_n 3, 1), (21, .bipush 8, 2), (23, .if_icmp .ge 43, 3)]
set_option maxRecDepth 20000 in
theorem k_X3_readHidden_20 {sc : xm_Sc} : xm_bok (xe_cy (XE sc) 71) b_X3_readHidden_20 := by show xm_bok cX3_readHidden _; unfold xm_bok; decide +kernel
def b_X3_readHidden_26 : List (Nat × Jvm.ClassFile.Instr × Nat) := [(26, .aload_n 0, 1), (27, .getfield 47, 3), (30, .ifCond .ne 36, 3)]
set_option maxRecDepth 20000 in
theorem k_X3_readHidden_26 {sc : xm_Sc} : xm_bok (xe_cy (XE sc) 71) b_X3_readHidden_26 := by show xm_bok cX3_readHidden _; unfold xm_bok; decide +kernel
def b_X3_readHidden_33 : List (Nat × Jvm.ClassFile.Instr × Nat) := [(33, .aload_n 0, 1), (34, .getfield 15, 3), (37, .getfield 107, 3), (40, .iload_n 2, 1), (41, .iload_n 3, 1), (42, .iadd, 1), (43, .aload_n 0, 1), (44, .bipush 16, 2), (46, .invokevirtual 80, 3)]
set_option maxRecDepth 20000 in
theorem k_X3_readHidden_33 {sc : xm_Sc} : xm_bok (xe_cy (XE sc) 71) b_X3_readHidden_33 := by show xm_bok cX3_readHidden _; unfold xm_bok; decide +kernel
def b_X3_readHidden_49 : List (Nat × Jvm.ClassFile.Instr × Nat) := [(49, .bipush 16, 2), (51, .ishl, 1), (52, .aload_n 0, 1), (53, .bipush 16, 2), (55, .invokevirtual 80, 3)]
set_option maxRecDepth 20000 in
theorem k_X3_readHidden_49 {sc : xm_Sc} : xm_bok (xe_cy (XE sc) 71) b_X3_readHidden_49 := by show xm_bok cX3_readHidden _; unfold xm_bok; decide +kernel
def b_X3_readHidden_58 : List (Nat × Jvm.ClassFile.Instr × Nat) := [(58, .ior, 1), (59, .iastore, 1), (60, .iinc 3 1, 3), (63, .goto (-43), 3)]
set_option maxRecDepth 20000 in
theorem k_X3_readHidden_58 {sc : xm_Sc} : xm_bok (xe_cy (XE sc) 71) b_X3_readHidden_58 := by show xm_bok cX3_readHidden _; unfold xm_bok; decide +kernel
def b_X3_readHidden_66 : List (Nat × Jvm.ClassFile.Instr × Nat) := [(66, .return_, 1)]
set_option maxRecDepth 20000 in
theorem k_X3_readHidden_66 {sc : xm_Sc} : xm_bok (xe_cy (XE sc) 71) b_X3_readHidden_66 := by show xm_bok cX3_readHidden _; unfold xm_bok; decide +kernel
set_option maxRecDepth 20000 in
theorem cn_71 {sc : xm_Sc} : xe_cn (XE sc) 71 = 3 := rfl
set_option maxRecDepth 20000 in
theorem ml_71 {sc : xm_Sc} : xe_ml (XE sc) 71 = 4 := rfl
set_option maxRecDepth 20000 in
theorem ry_71 {sc : xm_Sc} : xe_ry (XE sc) 71 = none := rfl
set_option maxRecDepth 20000 in
theorem is_71 {sc : xm_Sc} : xe_is (XE sc) 71 = false := rfl
set_option maxRecDepth 20000 in
theorem np_71 {sc : xm_Sc} : xe_np (XE sc) 71 = 1 := rfl
/- method 72: X3_readNatural -/
def b_X3_readNatural_0 : List (Nat × Jvm.ClassFile.Instr × Nat) := [(0, .iconst 0, 1), (1, .istore_n 1, 1)]
set_option maxRecDepth 20000 in
theorem k_X3_readNatural_0 {sc : xm_Sc} : xm_bok (xe_cy (XE sc) 72) b_X3_readNatural_0 := by show xm_bok cX3_readNatural _; unfold xm_bok; decide +kernel
def b_X3_readNatural_2 : List (Nat × Jvm.ClassFile.Instr × Nat) := [(2, .aload_n 0, 1), (3, .getfield 37, 3), (6, .aload_n 0, 1), (7, .getfield 44, 3), (10, .if_icmp .ge 34, 3)]
set_option maxRecDepth 20000 in
theorem k_X3_readNatural_2 {sc : xm_Sc} : xm_bok (xe_cy (XE sc) 72) b_X3_readNatural_2 := by show xm_bok cX3_readNatural _; unfold xm_bok; decide +kernel
def b_X3_readNatural_13 : List (Nat × Jvm.ClassFile.Instr × Nat) := [(13, .aload_n 0, 1), (14, .getfield 34, 3), (17, .aload_n 0, 1), (18, .getfield 37, 3), (21, .invokevirtual 139, 3)]
set_option maxRecDepth 20000 in
theorem k_X3_readNatural_13 {sc : xm_Sc} : xm_bok (xe_cy (XE sc) 72) b_X3_readNatural_13 := by show xm_bok cX3_readNatural _; unfold xm_bok; decide +kernel
def b_X3_readNatural_24 : List (Nat × Jvm.ClassFile.Instr × Nat) := [(24, .iconst 1, 1), (25, .if_icmp .ne 19, 3)]
set_option maxRecDepth 20000 in
theorem k_X3_readNatural_24 {sc : xm_Sc} : xm_bok (xe_cy (XE sc) 72) b_X3_readNatural_24 := by show xm_bok cX3_readNatural _; unfold xm_bok; decide +kernel
def b_X3_readNatural_28 : List (Nat × Jvm.ClassFile.Instr × Nat) := [(28, .iinc 1 1, 3), (31, .aload_n 0, 1), (32, .dup, 1), (33, .getfield 37, 3), (36, .iconst 1, 1), (37, .iadd, 1), (38, .putfield 37, 3), (41, .goto (-39), 3)]
set_option maxRecDepth 20000 in
theorem k_X3_readNatural_28 {sc : xm_Sc} : xm_bok (xe_cy (XE sc) 72) b_X3_readNatural_28 := by show xm_bok cX3_readNatural _; unfold xm_bok; decide +kernel
def b_X3_readNatural_44 : List (Nat × Jvm.ClassFile.Instr × Nat) := [(44, .aload_n 0, 1), (45, .iconst 1, 1), (46, .invokevirtual 80, 3)]
set_option maxRecDepth 20000 in
theorem k_X3_readNatural_44 {sc : xm_Sc} : xm_bok (xe_cy (XE sc) 72) b_X3_readNatural_44 := by show xm_bok cX3_readNatural _; unfold xm_bok; decide +kernel
def b_X3_readNatural_49 : List (Nat × Jvm.ClassFile.Instr × Nat) := [(49, .pop, 1), (50, .iconst 1, 1), (51, .istore_n 2, 1), (52, .iconst 0, 1), (53, .istore_n 3, 1)]
set_option maxRecDepth 20000 in
theorem k_X3_readNatural_49 {sc : xm_Sc} : xm_bok (xe_cy (XE sc) 72) b_X3_readNatural_49 := by show xm_bok cX3_readNatural _; unfold xm_bok; decide +kernel
def b_X3_readNatural_54 : List (Nat × Jvm.ClassFile.Instr × Nat) := [(54, .iload_n 3, 1), (55, .iload_n 1, 1), (56, .if_icmp .ge 40, 3)]
set_option maxRecDepth 20000 in
theorem k_X3_readNatural_54 {sc : xm_Sc} : xm_bok (xe_cy (XE sc) 72) b_X3_readNatural_54 := by show xm_bok cX3_readNatural _; unfold xm_bok; decide +kernel
def b_X3_readNatural_59 : List (Nat × Jvm.ClassFile.Instr × Nat) := [(59, .aload_n 0, 1), (60, .getfield 47, 3), (63, .ifCond .ne 33, 3)]
set_option maxRecDepth 20000 in
theorem k_X3_readNatural_59 {sc : xm_Sc} : xm_bok (xe_cy (XE sc) 72) b_X3_readNatural_59 := by show xm_bok cX3_readNatural _; unfold xm_bok; decide +kernel
def b_X3_readNatural_66 : List (Nat × Jvm.ClassFile.Instr × Nat) := [(66, .iload_n 2, 1), (67, .bipush 15, 2), (69, .if_icmp .le 11, 3)]
set_option maxRecDepth 20000 in
theorem k_X3_readNatural_66 {sc : xm_Sc} : xm_bok (xe_cy (XE sc) 72) b_X3_readNatural_66 := by show xm_bok cX3_readNatural _; unfold xm_bok; decide +kernel
def b_X3_readNatural_72 : List (Nat × Jvm.ClassFile.Instr × Nat) := [(72, .aload_n 0, 1), (73, .iconst 4, 1), (74, .putfield 47, 3), (77, .goto 13, 3)]
set_option maxRecDepth 20000 in
theorem k_X3_readNatural_72 {sc : xm_Sc} : xm_bok (xe_cy (XE sc) 72) b_X3_readNatural_72 := by show xm_bok cX3_readNatural _; unfold xm_bok; decide +kernel
def b_X3_readNatural_80 : List (Nat × Jvm.ClassFile.Instr × Nat) := [(80, .iconst 1, 1), (81, .iload_n 2, 1), (82, .ishl, 1), (83, .aload_n 0, 1), (84, .iload_n 2, 1), (85, .invokevirtual 80, 3)]
set_option maxRecDepth 20000 in
theorem k_X3_readNatural_80 {sc : xm_Sc} : xm_bok (xe_cy (XE sc) 72) b_X3_readNatural_80 := by show xm_bok cX3_readNatural _; unfold xm_bok; decide +kernel
def b_X3_readNatural_88 : List (Nat × Jvm.ClassFile.Instr × Nat) := [(88, .ior, 1), (89, .istore_n 2, 1)]
set_option maxRecDepth 20000 in
theorem k_X3_readNatural_88 {sc : xm_Sc} : xm_bok (xe_cy (XE sc) 72) b_X3_readNatural_88 := by show xm_bok cX3_readNatural _; unfold xm_bok; decide +kernel
def b_X3_readNatural_90 : List (Nat × Jvm.ClassFile.Instr × Nat) := [(90, .iinc 3 1, 3), (93, .goto (-39), 3)]
set_option maxRecDepth 20000 in
theorem k_X3_readNatural_90 {sc : xm_Sc} : xm_bok (xe_cy (XE sc) 72) b_X3_readNatural_90 := by show xm_bok cX3_readNatural _; unfold xm_bok; decide +kernel
def b_X3_readNatural_96 : List (Nat × Jvm.ClassFile.Instr × Nat) := [(96, .iload_n 2, 1), (97, .ireturn, 1)]
set_option maxRecDepth 20000 in
theorem k_X3_readNatural_96 {sc : xm_Sc} : xm_bok (xe_cy (XE sc) 72) b_X3_readNatural_96 := by show xm_bok cX3_readNatural _; unfold xm_bok; decide +kernel
set_option maxRecDepth 20000 in
theorem cn_72 {sc : xm_Sc} : xe_cn (XE sc) 72 = 3 := rfl
set_option maxRecDepth 20000 in
theorem ml_72 {sc : xm_Sc} : xe_ml (XE sc) 72 = 4 := rfl
set_option maxRecDepth 20000 in
theorem ry_72 {sc : xm_Sc} : xe_ry (XE sc) 72 = (some .int) := rfl
set_option maxRecDepth 20000 in
theorem is_72 {sc : xm_Sc} : xe_is (XE sc) 72 = false := rfl
set_option maxRecDepth 20000 in
theorem np_72 {sc : xm_Sc} : xe_np (XE sc) 72 = 0 := rfl
/- method 73: X3_readNode -/
def b_X3_readNode_0 : List (Nat × Jvm.ClassFile.Instr × Nat) := [(0, .aload_n 0, 1), (1, .iconst 5, 1), (2, .invokevirtual 80, 3)]
set_option maxRecDepth 20000 in
theorem k_X3_readNode_0 {sc : xm_Sc} : xm_bok (xe_cy (XE sc) 73) b_X3_readNode_0 := by show xm_bok cX3_readNode _; unfold xm_bok; decide +kernel
def b_X3_readNode_5 : List (Nat × Jvm.ClassFile.Instr × Nat) := [(5, .istore_n 1, 1), (6, .aload_n 0, 1), (7, .getfield 47, 3), (10, .ifCond .ne 14, 3)]
set_option maxRecDepth 20000 in
theorem k_X3_readNode_5 {sc : xm_Sc} : xm_bok (xe_cy (XE sc) 73) b_X3_readNode_5 := by show xm_bok cX3_readNode _; unfold xm_bok; decide +kernel
def b_X3_readNode_13 : List (Nat × Jvm.ClassFile.Instr × Nat) := [(13, .iload_n 1, 1), (14, .bipush 12, 2), (16, .if_icmp .le 8, 3)]
set_option maxRecDepth 20000 in
theorem k_X3_readNode_13 {sc : xm_Sc} : xm_bok (xe_cy (XE sc) 73) b_X3_readNode_13 := by show xm_bok cX3_readNode _; unfold xm_bok; decide +kernel
def b_X3_readNode_19 : List (Nat × Jvm.ClassFile.Instr × Nat) := [(19, .aload_n 0, 1), (20, .iconst 2, 1), (21, .putfield 47, 3)]
set_option maxRecDepth 20000 in
theorem k_X3_readNode_19 {sc : xm_Sc} : xm_bok (xe_cy (XE sc) 73) b_X3_readNode_19 := by show xm_bok cX3_readNode _; unfold xm_bok; decide +kernel
def b_X3_readNode_24 : List (Nat × Jvm.ClassFile.Instr × Nat) := [(24, .aload_n 0, 1), (25, .getfield 47, 3), (28, .ifCond .eq 4, 3)]
set_option maxRecDepth 20000 in
theorem k_X3_readNode_24 {sc : xm_Sc} : xm_bok (xe_cy (XE sc) 73) b_X3_readNode_24 := by show xm_bok cX3_readNode _; unfold xm_bok; decide +kernel
def b_X3_readNode_31 : List (Nat × Jvm.ClassFile.Instr × Nat) := [(31, .return_, 1)]
set_option maxRecDepth 20000 in
theorem k_X3_readNode_31 {sc : xm_Sc} : xm_bok (xe_cy (XE sc) 73) b_X3_readNode_31 := by show xm_bok cX3_readNode _; unfold xm_bok; decide +kernel
def b_X3_readNode_32 : List (Nat × Jvm.ClassFile.Instr × Nat) := [(32, .aload_n 0, 1), (33, .getfield 15, 3), (36, .iload_n 1, 1), (37, .invokevirtual 84, 3)]
set_option maxRecDepth 20000 in
theorem k_X3_readNode_32 {sc : xm_Sc} : xm_bok (xe_cy (XE sc) 73) b_X3_readNode_32 := by show xm_bok cX3_readNode _; unfold xm_bok; decide +kernel
def b_X3_readNode_40 : List (Nat × Jvm.ClassFile.Instr × Nat) := [(40, .istore_n 2, 1), (41, .iload_n 1, 1), (42, .bipush 6, 2), (44, .if_icmp .gt 17, 3)]
set_option maxRecDepth 20000 in
theorem k_X3_readNode_40 {sc : xm_Sc} : xm_bok (xe_cy (XE sc) 73) b_X3_readNode_40 := by show xm_bok cX3_readNode _; unfold xm_bok; decide +kernel
def b_X3_readNode_47 : List (Nat × Jvm.ClassFile.Instr × Nat) := [(47, .aload_n 0, 1), (48, .getfield 15, 3), (51, .getfield 87, 3), (54, .iload_n 2, 1), (55, .aload_n 0, 1), (56, .iload_n 2, 1), (57, .invokevirtual 91, 3)]
set_option maxRecDepth 20000 in
theorem k_X3_readNode_47 {sc : xm_Sc} : xm_bok (xe_cy (XE sc) 73) b_X3_readNode_47 := by show xm_bok cX3_readNode _; unfold xm_bok; decide +kernel
def b_X3_readNode_60 : List (Nat × Jvm.ClassFile.Instr × Nat) := [(60, .iastore, 1)]
set_option maxRecDepth 20000 in
theorem k_X3_readNode_60 {sc : xm_Sc} : xm_bok (xe_cy (XE sc) 73) b_X3_readNode_60 := by show xm_bok cX3_readNode _; unfold xm_bok; decide +kernel
def b_X3_readNode_61 : List (Nat × Jvm.ClassFile.Instr × Nat) := [(61, .iload_n 1, 1), (62, .iconst 2, 1), (63, .if_icmp .gt 24, 3)]
set_option maxRecDepth 20000 in
theorem k_X3_readNode_61 {sc : xm_Sc} : xm_bok (xe_cy (XE sc) 73) b_X3_readNode_61 := by show xm_bok cX3_readNode _; unfold xm_bok; decide +kernel
def b_X3_readNode_66 : List (Nat × Jvm.ClassFile.Instr × Nat) := [(66, .aload_n 0, 1), (67, .getfield 47, 3), (70, .ifCond .ne 17, 3)]
set_option maxRecDepth 20000 in
theorem k_X3_readNode_66 {sc : xm_Sc} : xm_bok (xe_cy (XE sc) 73) b_X3_readNode_66 := by show xm_bok cX3_readNode _; unfold xm_bok; decide +kernel
def b_X3_readNode_73 : List (Nat × Jvm.ClassFile.Instr × Nat) := [(73, .aload_n 0, 1), (74, .getfield 15, 3), (77, .getfield 94, 3), (80, .iload_n 2, 1), (81, .aload_n 0, 1), (82, .iload_n 2, 1), (83, .invokevirtual 91, 3)]
set_option maxRecDepth 20000 in
theorem k_X3_readNode_73 {sc : xm_Sc} : xm_bok (xe_cy (XE sc) 73) b_X3_readNode_73 := by show xm_bok cX3_readNode _; unfold xm_bok; decide +kernel
def b_X3_readNode_86 : List (Nat × Jvm.ClassFile.Instr × Nat) := [(86, .iastore, 1)]
set_option maxRecDepth 20000 in
theorem k_X3_readNode_86 {sc : xm_Sc} : xm_bok (xe_cy (XE sc) 73) b_X3_readNode_86 := by show xm_bok cX3_readNode _; unfold xm_bok; decide +kernel
def b_X3_readNode_87 : List (Nat × Jvm.ClassFile.Instr × Nat) := [(87, .iload_n 1, 1), (88, .bipush 11, 2), (90, .if_icmp .ne 8, 3)]
set_option maxRecDepth 20000 in
theorem k_X3_readNode_87 {sc : xm_Sc} : xm_bok (xe_cy (XE sc) 73) b_X3_readNode_87 := by show xm_bok cX3_readNode _; unfold xm_bok; decide +kernel
def b_X3_readNode_93 : List (Nat × Jvm.ClassFile.Instr × Nat) := [(93, .aload_n 0, 1), (94, .iload_n 2, 1), (95, .invokevirtual 97, 3)]
set_option maxRecDepth 20000 in
theorem k_X3_readNode_93 {sc : xm_Sc} : xm_bok (xe_cy (XE sc) 73) b_X3_readNode_93 := by show xm_bok cX3_readNode _; unfold xm_bok; decide +kernel
def b_X3_readNode_98 : List (Nat × Jvm.ClassFile.Instr × Nat) := [(98, .iload_n 1, 1), (99, .bipush 12, 2), (101, .if_icmp .ne 45, 3)]
set_option maxRecDepth 20000 in
theorem k_X3_readNode_98 {sc : xm_Sc} : xm_bok (xe_cy (XE sc) 73) b_X3_readNode_98 := by show xm_bok cX3_readNode _; unfold xm_bok; decide +kernel
def b_X3_readNode_104 : List (Nat × Jvm.ClassFile.Instr × Nat) := [(104, .aload_n 0, 1), (105, .getfield 15, 3), (108, .getfield 101, 3), (111, .iload_n 2, 1), (112, .aload_n 0, 1), (113, .bipush 8, 2), (115, .invokevirtual 80, 3)]
set_option maxRecDepth 20000 in
theorem k_X3_readNode_104 {sc : xm_Sc} : xm_bok (xe_cy (XE sc) 73) b_X3_readNode_104 := by show xm_bok cX3_readNode _; unfold xm_bok; decide +kernel
def b_X3_readNode_118 : List (Nat × Jvm.ClassFile.Instr × Nat) := [(118, .iastore, 1), (119, .aload_n 0, 1), (120, .getfield 47, 3), (123, .ifCond .ne 23, 3)]
set_option maxRecDepth 20000 in
theorem k_X3_readNode_118 {sc : xm_Sc} : xm_bok (xe_cy (XE sc) 73) b_X3_readNode_118 := by show xm_bok cX3_readNode _; unfold xm_bok; decide +kernel
def b_X3_readNode_126 : List (Nat × Jvm.ClassFile.Instr × Nat) := [(126, .aload_n 0, 1), (127, .getfield 15, 3), (130, .getfield 101, 3), (133, .iload_n 2, 1), (134, .iaload, 1), (135, .sipush 168, 3), (138, .if_icmp .lt 8, 3)]
set_option maxRecDepth 20000 in
theorem k_X3_readNode_126 {sc : xm_Sc} : xm_bok (xe_cy (XE sc) 73) b_X3_readNode_126 := by show xm_bok cX3_readNode _; unfold xm_bok; decide +kernel
def b_X3_readNode_141 : List (Nat × Jvm.ClassFile.Instr × Nat) := [(141, .aload_n 0, 1), (142, .iconst 2, 1), (143, .putfield 47, 3)]
set_option maxRecDepth 20000 in
theorem k_X3_readNode_141 {sc : xm_Sc} : xm_bok (xe_cy (XE sc) 73) b_X3_readNode_141 := by show xm_bok cX3_readNode _; unfold xm_bok; decide +kernel
def b_X3_readNode_146 : List (Nat × Jvm.ClassFile.Instr × Nat) := [(146, .return_, 1)]
set_option maxRecDepth 20000 in
theorem k_X3_readNode_146 {sc : xm_Sc} : xm_bok (xe_cy (XE sc) 73) b_X3_readNode_146 := by show xm_bok cX3_readNode _; unfold xm_bok; decide +kernel
set_option maxRecDepth 20000 in
theorem cn_73 {sc : xm_Sc} : xe_cn (XE sc) 73 = 3 := rfl
set_option maxRecDepth 20000 in
theorem ml_73 {sc : xm_Sc} : xe_ml (XE sc) 73 = 3 := rfl
set_option maxRecDepth 20000 in
theorem ry_73 {sc : xm_Sc} : xe_ry (XE sc) 73 = none := rfl
set_option maxRecDepth 20000 in
theorem is_73 {sc : xm_Sc} : xe_is (XE sc) 73 = false := rfl
set_option maxRecDepth 20000 in
theorem np_73 {sc : xm_Sc} : xe_np (XE sc) 73 = 0 := rfl
/- method 74: X3_readProgram -/
def b_X3_readProgram_0 : List (Nat × Jvm.ClassFile.Instr × Nat) := [(0, .aload_n 0, 1), (1, .aload_n 2, 1), (2, .putfield 15, 3), (5, .aload_n 0, 1), (6, .getfield 15, 3), (9, .invokevirtual 19, 3)]
set_option maxRecDepth 20000 in
theorem k_X3_readProgram_0 {sc : xm_Sc} : xm_bok (xe_cy (XE sc) 74) b_X3_readProgram_0 := by show xm_bok cX3_readProgram _; unfold xm_bok; decide +kernel
def b_X3_readProgram_12 : List (Nat × Jvm.ClassFile.Instr × Nat) := [(12, .aload_n 0, 1), (13, .getfield 15, 3), (16, .getfield 24, 3), (19, .aload_n 1, 1), (20, .invokevirtual 28, 3)]
set_option maxRecDepth 20000 in
theorem k_X3_readProgram_12 {sc : xm_Sc} : xm_bok (xe_cy (XE sc) 74) b_X3_readProgram_12 := by show xm_bok cX3_readProgram _; unfold xm_bok; decide +kernel
def b_X3_readProgram_23 : List (Nat × Jvm.ClassFile.Instr × Nat) := [(23, .aload_n 0, 1), (24, .aload_n 0, 1), (25, .getfield 15, 3), (28, .getfield 24, 3), (31, .putfield 34, 3), (34, .aload_n 0, 1), (35, .iconst 0, 1), (36, .putfield 37, 3), (39, .aload_n 0, 1), (40, .bipush 8, 2), (42, .aload_n 0, 1), (43, .getfield 34, 3), (46, .getfield 41, 3), (49, .imul, 1), (50, .putfield 44, 3), (53, .aload_n 0, 1), (54, .iconst 0, 1), (55, .putfield 47, 3), (58, .aload_n 0, 1), (59, .invokevirtual 50, 3)]
set_option maxRecDepth 20000 in
theorem k_X3_readProgram_23 {sc : xm_Sc} : xm_bok (xe_cy (XE sc) 74) b_X3_readProgram_23 := by show xm_bok cX3_readProgram _; unfold xm_bok; decide +kernel
def b_X3_readProgram_62 : List (Nat × Jvm.ClassFile.Instr × Nat) := [(62, .istore_n 3, 1), (63, .aload_n 0, 1), (64, .getfield 47, 3), (67, .ifCond .ne 15, 3)]
set_option maxRecDepth 20000 in
theorem k_X3_readProgram_62 {sc : xm_Sc} : xm_bok (xe_cy (XE sc) 74) b_X3_readProgram_62 := by show xm_bok cX3_readProgram _; unfold xm_bok; decide +kernel
def b_X3_readProgram_70 : List (Nat × Jvm.ClassFile.Instr × Nat) := [(70, .iload_n 3, 1), (71, .sipush 400, 3), (74, .if_icmp .le 8, 3)]
set_option maxRecDepth 20000 in
theorem k_X3_readProgram_70 {sc : xm_Sc} : xm_bok (xe_cy (XE sc) 74) b_X3_readProgram_70 := by show xm_bok cX3_readProgram _; unfold xm_bok; decide +kernel
def b_X3_readProgram_77 : List (Nat × Jvm.ClassFile.Instr × Nat) := [(77, .aload_n 0, 1), (78, .iconst 4, 1), (79, .putfield 47, 3)]
set_option maxRecDepth 20000 in
theorem k_X3_readProgram_77 {sc : xm_Sc} : xm_bok (xe_cy (XE sc) 74) b_X3_readProgram_77 := by show xm_bok cX3_readProgram _; unfold xm_bok; decide +kernel
def b_X3_readProgram_82 : List (Nat × Jvm.ClassFile.Instr × Nat) := [(82, .iconst 0, 1), (83, .istore 4, 2)]
set_option maxRecDepth 20000 in
theorem k_X3_readProgram_82 {sc : xm_Sc} : xm_bok (xe_cy (XE sc) 74) b_X3_readProgram_82 := by show xm_bok cX3_readProgram _; unfold xm_bok; decide +kernel
def b_X3_readProgram_85 : List (Nat × Jvm.ClassFile.Instr × Nat) := [(85, .iload 4, 2), (87, .iload_n 3, 1), (88, .if_icmp .ge 20, 3)]
set_option maxRecDepth 20000 in
theorem k_X3_readProgram_85 {sc : xm_Sc} : xm_bok (xe_cy (XE sc) 74) b_X3_readProgram_85 := by show xm_bok cX3_readProgram _; unfold xm_bok; decide +kernel
def b_X3_readProgram_91 : List (Nat × Jvm.ClassFile.Instr × Nat) := [(91, .aload_n 0, 1), (92, .getfield 47, 3), (95, .ifCond .ne 13, 3)]
set_option maxRecDepth 20000 in
theorem k_X3_readProgram_91 {sc : xm_Sc} : xm_bok (xe_cy (XE sc) 74) b_X3_readProgram_91 := by show xm_bok cX3_readProgram _; unfold xm_bok; decide +kernel
def b_X3_readProgram_98 : List (Nat × Jvm.ClassFile.Instr × Nat) := [(98, .aload_n 0, 1), (99, .invokevirtual 54, 3)]
set_option maxRecDepth 20000 in
theorem k_X3_readProgram_98 {sc : xm_Sc} : xm_bok (xe_cy (XE sc) 74) b_X3_readProgram_98 := by show xm_bok cX3_readProgram _; unfold xm_bok; decide +kernel
def b_X3_readProgram_102 : List (Nat × Jvm.ClassFile.Instr × Nat) := [(102, .iinc 4 1, 3), (105, .goto (-20), 3)]
set_option maxRecDepth 20000 in
theorem k_X3_readProgram_102 {sc : xm_Sc} : xm_bok (xe_cy (XE sc) 74) b_X3_readProgram_102 := by show xm_bok cX3_readProgram _; unfold xm_bok; decide +kernel
def b_X3_readProgram_108 : List (Nat × Jvm.ClassFile.Instr × Nat) := [(108, .aload_n 0, 1), (109, .getfield 47, 3), (112, .ifCond .eq 8, 3)]
set_option maxRecDepth 20000 in
theorem k_X3_readProgram_108 {sc : xm_Sc} : xm_bok (xe_cy (XE sc) 74) b_X3_readProgram_108 := by show xm_bok cX3_readProgram _; unfold xm_bok; decide +kernel
def b_X3_readProgram_115 : List (Nat × Jvm.ClassFile.Instr × Nat) := [(115, .aload_n 0, 1), (116, .getfield 47, 3), (119, .ireturn, 1)]
set_option maxRecDepth 20000 in
theorem k_X3_readProgram_115 {sc : xm_Sc} : xm_bok (xe_cy (XE sc) 74) b_X3_readProgram_115 := by show xm_bok cX3_readProgram _; unfold xm_bok; decide +kernel
def b_X3_readProgram_120 : List (Nat × Jvm.ClassFile.Instr × Nat) := [(120, .aload_n 0, 1), (121, .getfield 9, 3), (124, .aload_n 0, 1), (125, .getfield 15, 3), (128, .aload_n 0, 1), (129, .getfield 15, 3), (132, .getfield 57, 3), (135, .iconst 1, 1), (136, .isub, 1), (137, .invokevirtual 60, 3)]
set_option maxRecDepth 20000 in
theorem k_X3_readProgram_120 {sc : xm_Sc} : xm_bok (xe_cy (XE sc) 74) b_X3_readProgram_120 := by show xm_bok cX3_readProgram _; unfold xm_bok; decide +kernel
def b_X3_readProgram_140 : List (Nat × Jvm.ClassFile.Instr × Nat) := [(140, .aload_n 0, 1), (141, .getfield 9, 3), (144, .aload_n 0, 1), (145, .getfield 15, 3), (148, .getfield 57, 3), (151, .invokevirtual 66, 3)]
set_option maxRecDepth 20000 in
theorem k_X3_readProgram_140 {sc : xm_Sc} : xm_bok (xe_cy (XE sc) 74) b_X3_readProgram_140 := by show xm_bok cX3_readProgram _; unfold xm_bok; decide +kernel
def b_X3_readProgram_154 : List (Nat × Jvm.ClassFile.Instr × Nat) := [(154, .ifCond .ne 5, 3)]
set_option maxRecDepth 20000 in
theorem k_X3_readProgram_154 {sc : xm_Sc} : xm_bok (xe_cy (XE sc) 74) b_X3_readProgram_154 := by show xm_bok cX3_readProgram _; unfold xm_bok; decide +kernel
def b_X3_readProgram_157 : List (Nat × Jvm.ClassFile.Instr × Nat) := [(157, .iconst 5, 1), (158, .ireturn, 1)]
set_option maxRecDepth 20000 in
theorem k_X3_readProgram_157 {sc : xm_Sc} : xm_bok (xe_cy (XE sc) 74) b_X3_readProgram_157 := by show xm_bok cX3_readProgram _; unfold xm_bok; decide +kernel
def b_X3_readProgram_159 : List (Nat × Jvm.ClassFile.Instr × Nat) := [(159, .aload_n 0, 1), (160, .getfield 9, 3), (163, .aload_n 0, 1), (164, .getfield 15, 3), (167, .invokevirtual 70, 3)]
set_option maxRecDepth 20000 in
theorem k_X3_readProgram_159 {sc : xm_Sc} : xm_bok (xe_cy (XE sc) 74) b_X3_readProgram_159 := by show xm_bok cX3_readProgram _; unfold xm_bok; decide +kernel
def b_X3_readProgram_170 : List (Nat × Jvm.ClassFile.Instr × Nat) := [(170, .istore 4, 2), (172, .iload 4, 2), (174, .ifCond .eq 6, 3)]
set_option maxRecDepth 20000 in
theorem k_X3_readProgram_170 {sc : xm_Sc} : xm_bok (xe_cy (XE sc) 74) b_X3_readProgram_170 := by show xm_bok cX3_readProgram _; unfold xm_bok; decide +kernel
def b_X3_readProgram_177 : List (Nat × Jvm.ClassFile.Instr × Nat) := [(177, .iload 4, 2), (179, .ireturn, 1)]
set_option maxRecDepth 20000 in
theorem k_X3_readProgram_177 {sc : xm_Sc} : xm_bok (xe_cy (XE sc) 74) b_X3_readProgram_177 := by show xm_bok cX3_readProgram _; unfold xm_bok; decide +kernel
def b_X3_readProgram_180 : List (Nat × Jvm.ClassFile.Instr × Nat) := [(180, .aload_n 0, 1), (181, .getfield 9, 3), (184, .aload_n 0, 1), (185, .getfield 15, 3), (188, .invokevirtual 74, 3)]
set_option maxRecDepth 20000 in
theorem k_X3_readProgram_180 {sc : xm_Sc} : xm_bok (xe_cy (XE sc) 74) b_X3_readProgram_180 := by show xm_bok cX3_readProgram _; unfold xm_bok; decide +kernel
def b_X3_readProgram_191 : List (Nat × Jvm.ClassFile.Instr × Nat) := [(191, .ifCond .le 6, 3)]
set_option maxRecDepth 20000 in
theorem k_X3_readProgram_191 {sc : xm_Sc} : xm_bok (xe_cy (XE sc) 74) b_X3_readProgram_191 := by show xm_bok cX3_readProgram _; unfold xm_bok; decide +kernel
def b_X3_readProgram_194 : List (Nat × Jvm.ClassFile.Instr × Nat) := [(194, .bipush 6, 2), (196, .ireturn, 1)]
set_option maxRecDepth 20000 in
theorem k_X3_readProgram_194 {sc : xm_Sc} : xm_bok (xe_cy (XE sc) 74) b_X3_readProgram_194 := by show xm_bok cX3_readProgram _; unfold xm_bok; decide +kernel
def b_X3_readProgram_197 : List (Nat × Jvm.ClassFile.Instr × Nat) := [(197, .aload_n 0, 1), (198, .invokevirtual 77, 3)]
set_option maxRecDepth 20000 in
theorem k_X3_readProgram_197 {sc : xm_Sc} : xm_bok (xe_cy (XE sc) 74) b_X3_readProgram_197 := by show xm_bok cX3_readProgram _; unfold xm_bok; decide +kernel
def b_X3_readProgram_201 : List (Nat × Jvm.ClassFile.Instr × Nat) := [(201, .aload_n 0, 1), (202, .getfield 47, 3), (205, .ireturn, 1)]
set_option maxRecDepth 20000 in
theorem k_X3_readProgram_201 {sc : xm_Sc} : xm_bok (xe_cy (XE sc) 74) b_X3_readProgram_201 := by show xm_bok cX3_readProgram _; unfold xm_bok; decide +kernel
set_option maxRecDepth 20000 in
theorem cn_74 {sc : xm_Sc} : xe_cn (XE sc) 74 = 3 := rfl
set_option maxRecDepth 20000 in
theorem ml_74 {sc : xm_Sc} : xe_ml (XE sc) 74 = 5 := rfl
set_option maxRecDepth 20000 in
theorem ry_74 {sc : xm_Sc} : xe_ry (XE sc) 74 = (some .int) := rfl
set_option maxRecDepth 20000 in
theorem is_74 {sc : xm_Sc} : xe_is (XE sc) 74 = false := rfl
set_option maxRecDepth 20000 in
theorem np_74 {sc : xm_Sc} : xe_np (XE sc) 74 = 2 := rfl
/- method 75: X3_readRows -/
def b_X3_readRows_0 : List (Nat × Jvm.ClassFile.Instr × Nat) := [(0, .iconst 0, 1), (1, .istore_n 1, 1)]
set_option maxRecDepth 20000 in
theorem k_X3_readRows_0 {sc : xm_Sc} : xm_bok (xe_cy (XE sc) 75) b_X3_readRows_0 := by show xm_bok cX3_readRows _; unfold xm_bok; decide +kernel
def b_X3_readRows_2 : List (Nat × Jvm.ClassFile.Instr × Nat) := [(2, .iload_n 1, 1), (3, .aload_n 0, 1), (4, .getfield 15, 3), (7, .getfield 57, 3), (10, .if_icmp .ge 90, 3)]
set_option maxRecDepth 20000 in
theorem k_X3_readRows_2 {sc : xm_Sc} : xm_bok (xe_cy (XE sc) 75) b_X3_readRows_2 := by show xm_bok cX3_readRows _; unfold xm_bok; decide +kernel
def b_X3_readRows_13 : List (Nat × Jvm.ClassFile.Instr × Nat) := [(13, .aload_n 0, 1), (14, .getfield 15, 3), (17, .getfield 113, 3), (20, .iload_n 1, 1), (21, .iaload, 1), (22, .bipush 10, 2), (24, .if_icmp .ne 70, 3)]
set_option maxRecDepth 20000 in
theorem k_X3_readRows_13 {sc : xm_Sc} : xm_bok (xe_cy (XE sc) 75) b_X3_readRows_13 := by show xm_bok cX3_readRows _; unfold xm_bok; decide +kernel
def b_X3_readRows_27 : List (Nat × Jvm.ClassFile.Instr × Nat) := [(27, .aload_n 0, 1), (28, .getfield 15, 3), (31, .getfield 101, 3), (34, .iload_n 1, 1), (35, .aload_n 0, 1), (36, .getfield 37, 3), (39, .iastore, 1), (40, .aload_n 0, 1), (41, .getfield 15, 3), (44, .getfield 122, 3), (47, .aload_n 0, 1), (48, .getfield 34, 3), (51, .aload_n 0, 1), (52, .getfield 37, 3), (55, .aload_n 0, 1), (56, .getfield 15, 3), (59, .getfield 126, 3), (62, .iload_n 1, 1), (63, .iaload, 1), (64, .invokevirtual 129, 3)]
set_option maxRecDepth 20000 in
theorem k_X3_readRows_27 {sc : xm_Sc} : xm_bok (xe_cy (XE sc) 75) b_X3_readRows_27 := by show xm_bok cX3_readRows _; unfold xm_bok; decide +kernel
def b_X3_readRows_67 : List (Nat × Jvm.ClassFile.Instr × Nat) := [(67, .ifCond .ne 10, 3)]
set_option maxRecDepth 20000 in
theorem k_X3_readRows_67 {sc : xm_Sc} : xm_bok (xe_cy (XE sc) 75) b_X3_readRows_67 := by show xm_bok cX3_readRows _; unfold xm_bok; decide +kernel
def b_X3_readRows_70 : List (Nat × Jvm.ClassFile.Instr × Nat) := [(70, .aload_n 0, 1), (71, .bipush 11, 2), (73, .putfield 47, 3), (76, .return_, 1)]
set_option maxRecDepth 20000 in
theorem k_X3_readRows_70 {sc : xm_Sc} : xm_bok (xe_cy (XE sc) 75) b_X3_readRows_70 := by show xm_bok cX3_readRows _; unfold xm_bok; decide +kernel
def b_X3_readRows_77 : List (Nat × Jvm.ClassFile.Instr × Nat) := [(77, .aload_n 0, 1), (78, .dup, 1), (79, .getfield 37, 3), (82, .aload_n 0, 1), (83, .getfield 15, 3), (86, .iload_n 1, 1), (87, .invokevirtual 116, 3)]
set_option maxRecDepth 20000 in
theorem k_X3_readRows_77 {sc : xm_Sc} : xm_bok (xe_cy (XE sc) 75) b_X3_readRows_77 := by show xm_bok cX3_readRows _; unfold xm_bok; decide +kernel
def b_X3_readRows_90 : List (Nat × Jvm.ClassFile.Instr × Nat) := [(90, .iadd, 1), (91, .putfield 37, 3)]
set_option maxRecDepth 20000 in
theorem k_X3_readRows_90 {sc : xm_Sc} : xm_bok (xe_cy (XE sc) 75) b_X3_readRows_90 := by show xm_bok cX3_readRows _; unfold xm_bok; decide +kernel
def b_X3_readRows_94 : List (Nat × Jvm.ClassFile.Instr × Nat) := [(94, .iinc 1 1, 3), (97, .goto (-95), 3)]
set_option maxRecDepth 20000 in
theorem k_X3_readRows_94 {sc : xm_Sc} : xm_bok (xe_cy (XE sc) 75) b_X3_readRows_94 := by show xm_bok cX3_readRows _; unfold xm_bok; decide +kernel
def b_X3_readRows_100 : List (Nat × Jvm.ClassFile.Instr × Nat) := [(100, .aload_n 0, 1), (101, .getfield 44, 3), (104, .aload_n 0, 1), (105, .getfield 37, 3), (108, .isub, 1), (109, .bipush 8, 2), (111, .if_icmp .ge 26, 3)]
set_option maxRecDepth 20000 in
theorem k_X3_readRows_100 {sc : xm_Sc} : xm_bok (xe_cy (XE sc) 75) b_X3_readRows_100 := by show xm_bok cX3_readRows _; unfold xm_bok; decide +kernel
def b_X3_readRows_114 : List (Nat × Jvm.ClassFile.Instr × Nat) := [(114, .aload_n 0, 1), (115, .getfield 34, 3), (118, .aload_n 0, 1), (119, .getfield 37, 3), (122, .aload_n 0, 1), (123, .getfield 44, 3), (126, .aload_n 0, 1), (127, .getfield 37, 3), (130, .isub, 1), (131, .invokevirtual 135, 3)]
set_option maxRecDepth 20000 in
theorem k_X3_readRows_114 {sc : xm_Sc} : xm_bok (xe_cy (XE sc) 75) b_X3_readRows_114 := by show xm_bok cX3_readRows _; unfold xm_bok; decide +kernel
def b_X3_readRows_134 : List (Nat × Jvm.ClassFile.Instr × Nat) := [(134, .ifCond .ne 9, 3)]
set_option maxRecDepth 20000 in
theorem k_X3_readRows_134 {sc : xm_Sc} : xm_bok (xe_cy (XE sc) 75) b_X3_readRows_134 := by show xm_bok cX3_readRows _; unfold xm_bok; decide +kernel
def b_X3_readRows_137 : List (Nat × Jvm.ClassFile.Instr × Nat) := [(137, .aload_n 0, 1), (138, .bipush 12, 2), (140, .putfield 47, 3)]
set_option maxRecDepth 20000 in
theorem k_X3_readRows_137 {sc : xm_Sc} : xm_bok (xe_cy (XE sc) 75) b_X3_readRows_137 := by show xm_bok cX3_readRows _; unfold xm_bok; decide +kernel
def b_X3_readRows_143 : List (Nat × Jvm.ClassFile.Instr × Nat) := [(143, .return_, 1)]
set_option maxRecDepth 20000 in
theorem k_X3_readRows_143 {sc : xm_Sc} : xm_bok (xe_cy (XE sc) 75) b_X3_readRows_143 := by show xm_bok cX3_readRows _; unfold xm_bok; decide +kernel
set_option maxRecDepth 20000 in
theorem cn_75 {sc : xm_Sc} : xe_cn (XE sc) 75 = 3 := rfl
set_option maxRecDepth 20000 in
theorem ml_75 {sc : xm_Sc} : xe_ml (XE sc) 75 = 2 := rfl
set_option maxRecDepth 20000 in
theorem ry_75 {sc : xm_Sc} : xe_ry (XE sc) 75 = none := rfl
set_option maxRecDepth 20000 in
theorem is_75 {sc : xm_Sc} : xe_is (XE sc) 75 = false := rfl
set_option maxRecDepth 20000 in
theorem np_75 {sc : xm_Sc} : xe_np (XE sc) 75 = 0 := rfl
/- method 76: X3_readWitness -/
def b_X3_readWitness_0 : List (Nat × Jvm.ClassFile.Instr × Nat) := [(0, .aload_n 0, 1), (1, .getfield 15, 3), (4, .aload_n 0, 1), (5, .invokevirtual 50, 3)]
set_option maxRecDepth 20000 in
theorem k_X3_readWitness_0 {sc : xm_Sc} : xm_bok (xe_cy (XE sc) 76) b_X3_readWitness_0 := by show xm_bok cX3_readWitness _; unfold xm_bok; decide +kernel
def b_X3_readWitness_8 : List (Nat × Jvm.ClassFile.Instr × Nat) := [(8, .iconst 1, 1), (9, .isub, 1), (10, .putfield 110, 3), (13, .aload_n 0, 1), (14, .getfield 47, 3), (17, .ifCond .ne 27, 3)]
set_option maxRecDepth 20000 in
theorem k_X3_readWitness_8 {sc : xm_Sc} : xm_bok (xe_cy (XE sc) 76) b_X3_readWitness_8 := by show xm_bok cX3_readWitness _; unfold xm_bok; decide +kernel
def b_X3_readWitness_20 : List (Nat × Jvm.ClassFile.Instr × Nat) := [(20, .aload_n 0, 1), (21, .getfield 15, 3), (24, .getfield 110, 3), (27, .aload_n 0, 1), (28, .getfield 44, 3), (31, .aload_n 0, 1), (32, .getfield 37, 3), (35, .isub, 1), (36, .if_icmp .le 8, 3)]
set_option maxRecDepth 20000 in
theorem k_X3_readWitness_20 {sc : xm_Sc} : xm_bok (xe_cy (XE sc) 76) b_X3_readWitness_20 := by show xm_bok cX3_readWitness _; unfold xm_bok; decide +kernel
def b_X3_readWitness_39 : List (Nat × Jvm.ClassFile.Instr × Nat) := [(39, .aload_n 0, 1), (40, .iconst 1, 1), (41, .putfield 47, 3)]
set_option maxRecDepth 20000 in
theorem k_X3_readWitness_39 {sc : xm_Sc} : xm_bok (xe_cy (XE sc) 76) b_X3_readWitness_39 := by show xm_bok cX3_readWitness _; unfold xm_bok; decide +kernel
def b_X3_readWitness_44 : List (Nat × Jvm.ClassFile.Instr × Nat) := [(44, .aload_n 0, 1), (45, .getfield 47, 3), (48, .ifCond .eq 4, 3)]
set_option maxRecDepth 20000 in
theorem k_X3_readWitness_44 {sc : xm_Sc} : xm_bok (xe_cy (XE sc) 76) b_X3_readWitness_44 := by show xm_bok cX3_readWitness _; unfold xm_bok; decide +kernel
def b_X3_readWitness_51 : List (Nat × Jvm.ClassFile.Instr × Nat) := [(51, .return_, 1)]
set_option maxRecDepth 20000 in
theorem k_X3_readWitness_51 {sc : xm_Sc} : xm_bok (xe_cy (XE sc) 76) b_X3_readWitness_51 := by show xm_bok cX3_readWitness _; unfold xm_bok; decide +kernel
def b_X3_readWitness_52 : List (Nat × Jvm.ClassFile.Instr × Nat) := [(52, .lconst 0, 1), (53, .lstore_n 1, 1), (54, .iconst 0, 1), (55, .istore_n 3, 1)]
set_option maxRecDepth 20000 in
theorem k_X3_readWitness_52 {sc : xm_Sc} : xm_bok (xe_cy (XE sc) 76) b_X3_readWitness_52 := by show xm_bok cX3_readWitness _; unfold xm_bok; decide +kernel
def b_X3_readWitness_56 : List (Nat × Jvm.ClassFile.Instr × Nat) := [(56, .iload_n 3, 1), (57, .aload_n 0, 1), (58, .getfield 15, 3), (61, .getfield 57, 3), (64, .if_icmp .ge 35, 3)]
set_option maxRecDepth 20000 in
theorem k_X3_readWitness_56 {sc : xm_Sc} : xm_bok (xe_cy (XE sc) 76) b_X3_readWitness_56 := by show xm_bok cX3_readWitness _; unfold xm_bok; decide +kernel
def b_X3_readWitness_67 : List (Nat × Jvm.ClassFile.Instr × Nat) := [(67, .aload_n 0, 1), (68, .getfield 15, 3), (71, .getfield 113, 3), (74, .iload_n 3, 1), (75, .iaload, 1), (76, .bipush 10, 2), (78, .if_icmp .ne 15, 3)]
set_option maxRecDepth 20000 in
theorem k_X3_readWitness_67 {sc : xm_Sc} : xm_bok (xe_cy (XE sc) 76) b_X3_readWitness_67 := by show xm_bok cX3_readWitness _; unfold xm_bok; decide +kernel
def b_X3_readWitness_81 : List (Nat × Jvm.ClassFile.Instr × Nat) := [(81, .lload_n 1, 1), (82, .aload_n 0, 1), (83, .getfield 15, 3), (86, .iload_n 3, 1), (87, .invokevirtual 116, 3)]
set_option maxRecDepth 20000 in
theorem k_X3_readWitness_81 {sc : xm_Sc} : xm_bok (xe_cy (XE sc) 76) b_X3_readWitness_81 := by show xm_bok cX3_readWitness _; unfold xm_bok; decide +kernel
def b_X3_readWitness_90 : List (Nat × Jvm.ClassFile.Instr × Nat) := [(90, .i2l, 1), (91, .ladd, 1), (92, .lstore_n 1, 1)]
set_option maxRecDepth 20000 in
theorem k_X3_readWitness_90 {sc : xm_Sc} : xm_bok (xe_cy (XE sc) 76) b_X3_readWitness_90 := by show xm_bok cX3_readWitness _; unfold xm_bok; decide +kernel
def b_X3_readWitness_93 : List (Nat × Jvm.ClassFile.Instr × Nat) := [(93, .iinc 3 1, 3), (96, .goto (-40), 3)]
set_option maxRecDepth 20000 in
theorem k_X3_readWitness_93 {sc : xm_Sc} : xm_bok (xe_cy (XE sc) 76) b_X3_readWitness_93 := by show xm_bok cX3_readWitness _; unfold xm_bok; decide +kernel
def b_X3_readWitness_99 : List (Nat × Jvm.ClassFile.Instr × Nat) := [(99, .lload_n 1, 1), (100, .aload_n 0, 1), (101, .getfield 15, 3), (104, .getfield 110, 3), (107, .i2l, 1), (108, .lcmp, 1), (109, .ifCond .eq 12, 3)]
set_option maxRecDepth 20000 in
theorem k_X3_readWitness_99 {sc : xm_Sc} : xm_bok (xe_cy (XE sc) 76) b_X3_readWitness_99 := by show xm_bok cX3_readWitness _; unfold xm_bok; decide +kernel
def b_X3_readWitness_112 : List (Nat × Jvm.ClassFile.Instr × Nat) := [(112, .aload_n 0, 1), (113, .bipush 10, 2), (115, .putfield 47, 3), (118, .goto 7, 3)]
set_option maxRecDepth 20000 in
theorem k_X3_readWitness_112 {sc : xm_Sc} : xm_bok (xe_cy (XE sc) 76) b_X3_readWitness_112 := by show xm_bok cX3_readWitness _; unfold xm_bok; decide +kernel
def b_X3_readWitness_121 : List (Nat × Jvm.ClassFile.Instr × Nat) := [(121, .aload_n 0, 1), (122, .invokevirtual 119, 3)]
set_option maxRecDepth 20000 in
theorem k_X3_readWitness_121 {sc : xm_Sc} : xm_bok (xe_cy (XE sc) 76) b_X3_readWitness_121 := by show xm_bok cX3_readWitness _; unfold xm_bok; decide +kernel
def b_X3_readWitness_125 : List (Nat × Jvm.ClassFile.Instr × Nat) := [(125, .return_, 1)]
set_option maxRecDepth 20000 in
theorem k_X3_readWitness_125 {sc : xm_Sc} : xm_bok (xe_cy (XE sc) 76) b_X3_readWitness_125 := by show xm_bok cX3_readWitness _; unfold xm_bok; decide +kernel
set_option maxRecDepth 20000 in
theorem cn_76 {sc : xm_Sc} : xe_cn (XE sc) 76 = 3 := rfl
set_option maxRecDepth 20000 in
theorem ml_76 {sc : xm_Sc} : xe_ml (XE sc) 76 = 4 := rfl
set_option maxRecDepth 20000 in
theorem ry_76 {sc : xm_Sc} : xe_ry (XE sc) 76 = none := rfl
set_option maxRecDepth 20000 in
theorem is_76 {sc : xm_Sc} : xe_is (XE sc) 76 = false := rfl
set_option maxRecDepth 20000 in
theorem np_76 {sc : xm_Sc} : xe_np (XE sc) 76 = 0 := rfl
set_option maxRecDepth 20000 in
theorem fl_3_9 {sc : xm_Sc} : xe_fl (XE sc) 3 9 = some (3, 0) := rfl
set_option maxRecDepth 20000 in
theorem fl_3_15 {sc : xm_Sc} : xe_fl (XE sc) 3 15 = some (3, 1) := rfl
set_option maxRecDepth 20000 in
theorem fl_3_24 {sc : xm_Sc} : xe_fl (XE sc) 3 24 = some (6, 12) := rfl
set_option maxRecDepth 20000 in
theorem fl_3_34 {sc : xm_Sc} : xe_fl (XE sc) 3 34 = some (3, 2) := rfl
set_option maxRecDepth 20000 in
theorem fl_3_37 {sc : xm_Sc} : xe_fl (XE sc) 3 37 = some (3, 3) := rfl
set_option maxRecDepth 20000 in
theorem fl_3_41 {sc : xm_Sc} : xe_fl (XE sc) 3 41 = some (8, 1) := rfl
set_option maxRecDepth 20000 in
theorem fl_3_44 {sc : xm_Sc} : xe_fl (XE sc) 3 44 = some (3, 4) := rfl
set_option maxRecDepth 20000 in
theorem fl_3_47 {sc : xm_Sc} : xe_fl (XE sc) 3 47 = some (3, 5) := rfl
set_option maxRecDepth 20000 in
theorem fl_3_57 {sc : xm_Sc} : xe_fl (XE sc) 3 57 = some (6, 0) := rfl
set_option maxRecDepth 20000 in
theorem fl_3_87 {sc : xm_Sc} : xe_fl (XE sc) 3 87 = some (6, 2) := rfl
set_option maxRecDepth 20000 in
theorem fl_3_94 {sc : xm_Sc} : xe_fl (XE sc) 3 94 = some (6, 3) := rfl
set_option maxRecDepth 20000 in
theorem fl_3_101 {sc : xm_Sc} : xe_fl (XE sc) 3 101 = some (6, 4) := rfl
set_option maxRecDepth 20000 in
theorem fl_3_107 {sc : xm_Sc} : xe_fl (XE sc) 3 107 = some (6, 11) := rfl
set_option maxRecDepth 20000 in
theorem fl_3_110 {sc : xm_Sc} : xe_fl (XE sc) 3 110 = some (6, 14) := rfl
set_option maxRecDepth 20000 in
theorem fl_3_113 {sc : xm_Sc} : xe_fl (XE sc) 3 113 = some (6, 1) := rfl
set_option maxRecDepth 20000 in
theorem fl_3_122 {sc : xm_Sc} : xe_fl (XE sc) 3 122 = some (6, 13) := rfl
set_option maxRecDepth 20000 in
theorem fl_3_126 {sc : xm_Sc} : xe_fl (XE sc) 3 126 = some (6, 7) := rfl
set_option maxRecDepth 20000 in
theorem lk_3_19 {sc : xm_Sc} : xe_lk (XE sc) 3 19 = some 105 := rfl
set_option maxRecDepth 20000 in
theorem lk_3_28 {sc : xm_Sc} : xe_lk (XE sc) 3 28 = some 129 := rfl
set_option maxRecDepth 20000 in
theorem lk_3_50 {sc : xm_Sc} : xe_lk (XE sc) 3 50 = some 72 := rfl
set_option maxRecDepth 20000 in
theorem lk_3_54 {sc : xm_Sc} : xe_lk (XE sc) 3 54 = some 73 := rfl
set_option maxRecDepth 20000 in
theorem lk_3_60 {sc : xm_Sc} : xe_lk (XE sc) 3 60 = some 97 := rfl
set_option maxRecDepth 20000 in
theorem lk_3_66 {sc : xm_Sc} : xe_lk (XE sc) 3 66 = some 91 := rfl
set_option maxRecDepth 20000 in
theorem lk_3_70 {sc : xm_Sc} : xe_lk (XE sc) 3 70 = some 92 := rfl
set_option maxRecDepth 20000 in
theorem lk_3_74 {sc : xm_Sc} : xe_lk (XE sc) 3 74 = some 93 := rfl
set_option maxRecDepth 20000 in
theorem lk_3_77 {sc : xm_Sc} : xe_lk (XE sc) 3 77 = some 76 := rfl
set_option maxRecDepth 20000 in
theorem lk_3_80 {sc : xm_Sc} : xe_lk (XE sc) 3 80 = some 69 := rfl
set_option maxRecDepth 20000 in
theorem lk_3_84 {sc : xm_Sc} : xe_lk (XE sc) 3 84 = some 98 := rfl
set_option maxRecDepth 20000 in
theorem lk_3_91 {sc : xm_Sc} : xe_lk (XE sc) 3 91 = some 70 := rfl
set_option maxRecDepth 20000 in
theorem lk_3_97 {sc : xm_Sc} : xe_lk (XE sc) 3 97 = some 71 := rfl
set_option maxRecDepth 20000 in
theorem lk_3_104 {sc : xm_Sc} : xe_lk (XE sc) 3 104 = some 100 := rfl
set_option maxRecDepth 20000 in
theorem lk_3_116 {sc : xm_Sc} : xe_lk (XE sc) 3 116 = some 111 := rfl
set_option maxRecDepth 20000 in
theorem lk_3_119 {sc : xm_Sc} : xe_lk (XE sc) 3 119 = some 75 := rfl
set_option maxRecDepth 20000 in
theorem lk_3_129 {sc : xm_Sc} : xe_lk (XE sc) 3 129 = some 167 := rfl
set_option maxRecDepth 20000 in
theorem lk_3_135 {sc : xm_Sc} : xe_lk (XE sc) 3 135 = some 131 := rfl
set_option maxRecDepth 20000 in
theorem lk_3_139 {sc : xm_Sc} : xe_lk (XE sc) 3 139 = some 127 := rfl
