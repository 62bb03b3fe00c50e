/- method 126: X8_at -/
def b_X8_at_0 : List (Nat × Jvm.ClassFile.Instr × Nat) := [(0, .iload_n 1, 1), (1, .ifCond .lt 24, 3)]
set_option maxRecDepth 20000 in
theorem k_X8_at_0 {sc : xm_Sc} : xm_bok (xe_cy (XE sc) 126) b_X8_at_0 := by show xm_bok cX8_at _; unfold xm_bok; decide +kernel
def b_X8_at_4 : List (Nat × Jvm.ClassFile.Instr × Nat) := [(4, .iload_n 1, 1), (5, .aload_n 0, 1), (6, .getfield 15, 3), (9, .if_icmp .ge 16, 3)]
set_option maxRecDepth 20000 in
theorem k_X8_at_4 {sc : xm_Sc} : xm_bok (xe_cy (XE sc) 126) b_X8_at_4 := by show xm_bok cX8_at _; unfold xm_bok; decide +kernel
def b_X8_at_12 : List (Nat × Jvm.ClassFile.Instr × Nat) := [(12, .aload_n 0, 1), (13, .getfield 9, 3), (16, .iload_n 1, 1), (17, .baload, 1), (18, .sipush 255, 3), (21, .iand, 1), (22, .goto 4, 3)]
set_option maxRecDepth 20000 in
theorem k_X8_at_12 {sc : xm_Sc} : xm_bok (xe_cy (XE sc) 126) b_X8_at_12 := by show xm_bok cX8_at _; unfold xm_bok; decide +kernel
def b_X8_at_25 : List (Nat × Jvm.ClassFile.Instr × Nat) := [(25, .iconst 0, 1)]
set_option maxRecDepth 20000 in
theorem k_X8_at_25 {sc : xm_Sc} : xm_bok (xe_cy (XE sc) 126) b_X8_at_25 := by show xm_bok cX8_at _; unfold xm_bok; decide +kernel
def b_X8_at_26 : List (Nat × Jvm.ClassFile.Instr × Nat) := [(26, .ireturn, 1)]
set_option maxRecDepth 20000 in
theorem k_X8_at_26 {sc : xm_Sc} : xm_bok (xe_cy (XE sc) 126) b_X8_at_26 := by show xm_bok cX8_at _; unfold xm_bok; decide +kernel
set_option maxRecDepth 20000 in
theorem cn_126 {sc : xm_Sc} : xe_cn (XE sc) 126 = 8 := rfl
set_option maxRecDepth 20000 in
theorem ml_126 {sc : xm_Sc} : xe_ml (XE sc) 126 = 2 := rfl
set_option maxRecDepth 20000 in
theorem ry_126 {sc : xm_Sc} : xe_ry (XE sc) 126 = (some .int) := rfl
set_option maxRecDepth 20000 in
theorem is_126 {sc : xm_Sc} : xe_is (XE sc) 126 = false := rfl
set_option maxRecDepth 20000 in
theorem np_126 {sc : xm_Sc} : xe_np (XE sc) 126 = 1 := rfl
/- method 127: X8_bit -/
def b_X8_bit_0 : List (Nat × Jvm.ClassFile.Instr × Nat) := [(0, .aload_n 0, 1), (1, .iload_n 1, 1), (2, .iconst 3, 1), (3, .ishr, 1), (4, .invokevirtual 35, 3)]
set_option maxRecDepth 20000 in
theorem k_X8_bit_0 {sc : xm_Sc} : xm_bok (xe_cy (XE sc) 127) b_X8_bit_0 := by show xm_bok cX8_bit _; unfold xm_bok; decide +kernel
def b_X8_bit_7 : List (Nat × Jvm.ClassFile.Instr × Nat) := [(7, .bipush 7, 2), (9, .iload_n 1, 1), (10, .bipush 7, 2), (12, .iand, 1), (13, .isub, 1), (14, .ishr, 1), (15, .iconst 1, 1), (16, .iand, 1), (17, .ireturn, 1)]
set_option maxRecDepth 20000 in
theorem k_X8_bit_7 {sc : xm_Sc} : xm_bok (xe_cy (XE sc) 127) b_X8_bit_7 := by show xm_bok cX8_bit _; unfold xm_bok; decide +kernel
set_option maxRecDepth 20000 in
theorem cn_127 {sc : xm_Sc} : xe_cn (XE sc) 127 = 8 := rfl
set_option maxRecDepth 20000 in
theorem ml_127 {sc : xm_Sc} : xe_ml (XE sc) 127 = 2 := rfl
set_option maxRecDepth 20000 in
theorem ry_127 {sc : xm_Sc} : xe_ry (XE sc) 127 = (some .int) := rfl
set_option maxRecDepth 20000 in
theorem is_127 {sc : xm_Sc} : xe_is (XE sc) 127 = false := rfl
set_option maxRecDepth 20000 in
theorem np_127 {sc : xm_Sc} : xe_np (XE sc) 127 = 1 := rfl
/- method 128: X8_clear -/
def b_X8_clear_0 : List (Nat × Jvm.ClassFile.Instr × Nat) := [(0, .aload_n 0, 1), (1, .iconst 0, 1), (2, .putfield 15, 3), (5, .aload_n 0, 1), (6, .iconst 0, 1), (7, .putfield 19, 3), (10, .aload_n 0, 1), (11, .iconst 0, 1), (12, .putfield 22, 3), (15, .return_, 1)]
set_option maxRecDepth 20000 in
theorem k_X8_clear_0 {sc : xm_Sc} : xm_bok (xe_cy (XE sc) 128) b_X8_clear_0 := by show xm_bok cX8_clear _; unfold xm_bok; decide +kernel
set_option maxRecDepth 20000 in
theorem cn_128 {sc : xm_Sc} : xe_cn (XE sc) 128 = 8 := rfl
set_option maxRecDepth 20000 in
theorem ml_128 {sc : xm_Sc} : xe_ml (XE sc) 128 = 1 := rfl
set_option maxRecDepth 20000 in
theorem ry_128 {sc : xm_Sc} : xe_ry (XE sc) 128 = none := rfl
set_option maxRecDepth 20000 in
theorem is_128 {sc : xm_Sc} : xe_is (XE sc) 128 = false := rfl
set_option maxRecDepth 20000 in
theorem np_128 {sc : xm_Sc} : xe_np (XE sc) 128 = 0 := rfl
/- method 129: X8_copy -/
def b_X8_copy_0 : List (Nat × Jvm.ClassFile.Instr × Nat) := [(0, .aload_n 0, 1), (1, .invokevirtual 26, 3)]
set_option maxRecDepth 20000 in
theorem k_X8_copy_0 {sc : xm_Sc} : xm_bok (xe_cy (XE sc) 129) b_X8_copy_0 := by show xm_bok cX8_copy _; unfold xm_bok; decide +kernel
def b_X8_copy_4 : List (Nat × Jvm.ClassFile.Instr × Nat) := [(4, .aload_n 0, 1), (5, .aload_n 1, 1), (6, .getfield 15, 3), (9, .putfield 15, 3), (12, .aload_n 1, 1), (13, .getfield 9, 3), (16, .iconst 0, 1), (17, .aload_n 0, 1), (18, .getfield 9, 3), (21, .iconst 0, 1), (22, .aload_n 0, 1), (23, .getfield 15, 3), (26, .invokestatic 29, 3)]
set_option maxRecDepth 20000 in
theorem k_X8_copy_4 {sc : xm_Sc} : xm_bok (xe_cy (XE sc) 129) b_X8_copy_4 := by show xm_bok cX8_copy _; unfold xm_bok; decide +kernel
def b_X8_copy_29 : List (Nat × Jvm.ClassFile.Instr × Nat) := [(29, .return_, 1)]
set_option maxRecDepth 20000 in
theorem k_X8_copy_29 {sc : xm_Sc} : xm_bok (xe_cy (XE sc) 129) b_X8_copy_29 := by show xm_bok cX8_copy _; unfold xm_bok; decide +kernel
set_option maxRecDepth 20000 in
theorem cn_129 {sc : xm_Sc} : xe_cn (XE sc) 129 = 8 := rfl
set_option maxRecDepth 20000 in
theorem ml_129 {sc : xm_Sc} : xe_ml (XE sc) 129 = 2 := rfl
set_option maxRecDepth 20000 in
theorem ry_129 {sc : xm_Sc} : xe_ry (XE sc) 129 = none := rfl
set_option maxRecDepth 20000 in
theorem is_129 {sc : xm_Sc} : xe_is (XE sc) 129 = false := rfl
set_option maxRecDepth 20000 in
theorem np_129 {sc : xm_Sc} : xe_np (XE sc) 129 = 1 := rfl
/- method 130: X8_digit -/
def b_X8_digit_0 : List (Nat × Jvm.ClassFile.Instr × Nat) := [(0, .iload_n 0, 1), (1, .bipush 48, 2), (3, .if_icmp .lt 14, 3)]
set_option maxRecDepth 20000 in
theorem k_X8_digit_0 {sc : xm_Sc} : xm_bok (xe_cy (XE sc) 130) b_X8_digit_0 := by show xm_bok cX8_digit _; unfold xm_bok; decide +kernel
def b_X8_digit_6 : List (Nat × Jvm.ClassFile.Instr × Nat) := [(6, .iload_n 0, 1), (7, .bipush 57, 2), (9, .if_icmp .gt 8, 3)]
set_option maxRecDepth 20000 in
theorem k_X8_digit_6 {sc : xm_Sc} : xm_bok (xe_cy (XE sc) 130) b_X8_digit_6 := by show xm_bok cX8_digit _; unfold xm_bok; decide +kernel
def b_X8_digit_12 : List (Nat × Jvm.ClassFile.Instr × Nat) := [(12, .iload_n 0, 1), (13, .bipush 48, 2), (15, .isub, 1), (16, .ireturn, 1)]
set_option maxRecDepth 20000 in
theorem k_X8_digit_12 {sc : xm_Sc} : xm_bok (xe_cy (XE sc) 130) b_X8_digit_12 := by show xm_bok cX8_digit _; unfold xm_bok; decide +kernel
def b_X8_digit_17 : List (Nat × Jvm.ClassFile.Instr × Nat) := [(17, .iload_n 0, 1), (18, .bipush 97, 2), (20, .if_icmp .lt 19, 3)]
set_option maxRecDepth 20000 in
theorem k_X8_digit_17 {sc : xm_Sc} : xm_bok (xe_cy (XE sc) 130) b_X8_digit_17 := by show xm_bok cX8_digit _; unfold xm_bok; decide +kernel
def b_X8_digit_23 : List (Nat × Jvm.ClassFile.Instr × Nat) := [(23, .iload_n 0, 1), (24, .bipush 102, 2), (26, .if_icmp .gt 13, 3)]
set_option maxRecDepth 20000 in
theorem k_X8_digit_23 {sc : xm_Sc} : xm_bok (xe_cy (XE sc) 130) b_X8_digit_23 := by show xm_bok cX8_digit _; unfold xm_bok; decide +kernel
def b_X8_digit_29 : List (Nat × Jvm.ClassFile.Instr × Nat) := [(29, .iload_n 0, 1), (30, .bipush 97, 2), (32, .isub, 1), (33, .bipush 10, 2), (35, .iadd, 1), (36, .goto 4, 3)]
set_option maxRecDepth 20000 in
theorem k_X8_digit_29 {sc : xm_Sc} : xm_bok (xe_cy (XE sc) 130) b_X8_digit_29 := by show xm_bok cX8_digit _; unfold xm_bok; decide +kernel
def b_X8_digit_39 : List (Nat × Jvm.ClassFile.Instr × Nat) := [(39, .iconst (-1), 1)]
set_option maxRecDepth 20000 in
theorem k_X8_digit_39 {sc : xm_Sc} : xm_bok (xe_cy (XE sc) 130) b_X8_digit_39 := by show xm_bok cX8_digit _; unfold xm_bok; decide +kernel
def b_X8_digit_40 : List (Nat × Jvm.ClassFile.Instr × Nat) := [(40, .ireturn, 1)]
set_option maxRecDepth 20000 in
theorem k_X8_digit_40 {sc : xm_Sc} : xm_bok (xe_cy (XE sc) 130) b_X8_digit_40 := by show xm_bok cX8_digit _; unfold xm_bok; decide +kernel
set_option maxRecDepth 20000 in
theorem cn_130 {sc : xm_Sc} : xe_cn (XE sc) 130 = 8 := rfl
set_option maxRecDepth 20000 in
theorem ml_130 {sc : xm_Sc} : xe_ml (XE sc) 130 = 1 := rfl
set_option maxRecDepth 20000 in
theorem ry_130 {sc : xm_Sc} : xe_ry (XE sc) 130 = (some .int) := rfl
set_option maxRecDepth 20000 in
theorem is_130 {sc : xm_Sc} : xe_is (XE sc) 130 = true := rfl
set_option maxRecDepth 20000 in
theorem np_130 {sc : xm_Sc} : xe_np (XE sc) 130 = 1 := rfl
/- method 131: X8_isZero -/
def b_X8_isZero_0 : List (Nat × Jvm.ClassFile.Instr × Nat) := [(0, .iconst 0, 1), (1, .istore_n 3, 1)]
set_option maxRecDepth 20000 in
theorem k_X8_isZero_0 {sc : xm_Sc} : xm_bok (xe_cy (XE sc) 131) b_X8_isZero_0 := by show xm_bok cX8_isZero _; unfold xm_bok; decide +kernel
def b_X8_isZero_2 : List (Nat × Jvm.ClassFile.Instr × Nat) := [(2, .iload_n 3, 1), (3, .iload_n 2, 1), (4, .if_icmp .ge 21, 3)]
set_option maxRecDepth 20000 in
theorem k_X8_isZero_2 {sc : xm_Sc} : xm_bok (xe_cy (XE sc) 131) b_X8_isZero_2 := by show xm_bok cX8_isZero _; unfold xm_bok; decide +kernel
def b_X8_isZero_7 : List (Nat × Jvm.ClassFile.Instr × Nat) := [(7, .aload_n 0, 1), (8, .iload_n 1, 1), (9, .iload_n 3, 1), (10, .iadd, 1), (11, .invokevirtual 39, 3)]
set_option maxRecDepth 20000 in
theorem k_X8_isZero_7 {sc : xm_Sc} : xm_bok (xe_cy (XE sc) 131) b_X8_isZero_7 := by show xm_bok cX8_isZero _; unfold xm_bok; decide +kernel
def b_X8_isZero_14 : List (Nat × Jvm.ClassFile.Instr × Nat) := [(14, .ifCond .eq 5, 3)]
set_option maxRecDepth 20000 in
theorem k_X8_isZero_14 {sc : xm_Sc} : xm_bok (xe_cy (XE sc) 131) b_X8_isZero_14 := by show xm_bok cX8_isZero _; unfold xm_bok; decide +kernel
def b_X8_isZero_17 : List (Nat × Jvm.ClassFile.Instr × Nat) := [(17, .iconst 0, 1), (18, .ireturn, 1)]
set_option maxRecDepth 20000 in
theorem k_X8_isZero_17 {sc : xm_Sc} : xm_bok (xe_cy (XE sc) 131) b_X8_isZero_17 := by show xm_bok cX8_isZero _; unfold xm_bok; decide +kernel
def b_X8_isZero_19 : List (Nat × Jvm.ClassFile.Instr × Nat) := [(19, .iinc 3 1, 3), (22, .goto (-20), 3)]
set_option maxRecDepth 20000 in
theorem k_X8_isZero_19 {sc : xm_Sc} : xm_bok (xe_cy (XE sc) 131) b_X8_isZero_19 := by show xm_bok cX8_isZero _; unfold xm_bok; decide +kernel
def b_X8_isZero_25 : List (Nat × Jvm.ClassFile.Instr × Nat) := [(25, .iconst 1, 1), (26, .ireturn, 1)]
set_option maxRecDepth 20000 in
theorem k_X8_isZero_25 {sc : xm_Sc} : xm_bok (xe_cy (XE sc) 131) b_X8_isZero_25 := by show xm_bok cX8_isZero _; unfold xm_bok; decide +kernel
set_option maxRecDepth 20000 in
theorem cn_131 {sc : xm_Sc} : xe_cn (XE sc) 131 = 8 := rfl
set_option maxRecDepth 20000 in
theorem ml_131 {sc : xm_Sc} : xe_ml (XE sc) 131 = 4 := rfl
set_option maxRecDepth 20000 in
theorem ry_131 {sc : xm_Sc} : xe_ry (XE sc) 131 = (some .boolean) := rfl
set_option maxRecDepth 20000 in
theorem is_131 {sc : xm_Sc} : xe_is (XE sc) 131 = false := rfl
set_option maxRecDepth 20000 in
theorem np_131 {sc : xm_Sc} : xe_np (XE sc) 131 = 2 := rfl
/- method 132: X8_lengthOf -/
def b_X8_lengthOf_0 : List (Nat × Jvm.ClassFile.Instr × Nat) := [(0, .iconst 0, 1), (1, .istore_n 1, 1), (2, .iconst 1, 1), (3, .istore_n 2, 1)]
set_option maxRecDepth 20000 in
theorem k_X8_lengthOf_0 {sc : xm_Sc} : xm_bok (xe_cy (XE sc) 132) b_X8_lengthOf_0 := by show xm_bok cX8_lengthOf _; unfold xm_bok; decide +kernel
def b_X8_lengthOf_4 : List (Nat × Jvm.ClassFile.Instr × Nat) := [(4, .iload_n 2, 1), (5, .bipush 31, 2), (7, .if_icmp .ge 17, 3)]
set_option maxRecDepth 20000 in
theorem k_X8_lengthOf_4 {sc : xm_Sc} : xm_bok (xe_cy (XE sc) 132) b_X8_lengthOf_4 := by show xm_bok cX8_lengthOf _; unfold xm_bok; decide +kernel
def b_X8_lengthOf_10 : List (Nat × Jvm.ClassFile.Instr × Nat) := [(10, .iload_n 0, 1), (11, .iload_n 2, 1), (12, .ishr, 1), (13, .ifCond .eq 5, 3)]
set_option maxRecDepth 20000 in
theorem k_X8_lengthOf_10 {sc : xm_Sc} : xm_bok (xe_cy (XE sc) 132) b_X8_lengthOf_10 := by show xm_bok cX8_lengthOf _; unfold xm_bok; decide +kernel
def b_X8_lengthOf_16 : List (Nat × Jvm.ClassFile.Instr × Nat) := [(16, .iload_n 2, 1), (17, .istore_n 1, 1)]
set_option maxRecDepth 20000 in
theorem k_X8_lengthOf_16 {sc : xm_Sc} : xm_bok (xe_cy (XE sc) 132) b_X8_lengthOf_16 := by show xm_bok cX8_lengthOf _; unfold xm_bok; decide +kernel
def b_X8_lengthOf_18 : List (Nat × Jvm.ClassFile.Instr × Nat) := [(18, .iinc 2 1, 3), (21, .goto (-17), 3)]
set_option maxRecDepth 20000 in
theorem k_X8_lengthOf_18 {sc : xm_Sc} : xm_bok (xe_cy (XE sc) 132) b_X8_lengthOf_18 := by show xm_bok cX8_lengthOf _; unfold xm_bok; decide +kernel
def b_X8_lengthOf_24 : List (Nat × Jvm.ClassFile.Instr × Nat) := [(24, .iload_n 1, 1), (25, .ireturn, 1)]
set_option maxRecDepth 20000 in
theorem k_X8_lengthOf_24 {sc : xm_Sc} : xm_bok (xe_cy (XE sc) 132) b_X8_lengthOf_24 := by show xm_bok cX8_lengthOf _; unfold xm_bok; decide +kernel
set_option maxRecDepth 20000 in
theorem cn_132 {sc : xm_Sc} : xe_cn (XE sc) 132 = 8 := rfl
set_option maxRecDepth 20000 in
theorem ml_132 {sc : xm_Sc} : xe_ml (XE sc) 132 = 3 := rfl
set_option maxRecDepth 20000 in
theorem ry_132 {sc : xm_Sc} : xe_ry (XE sc) 132 = (some .int) := rfl
set_option maxRecDepth 20000 in
theorem is_132 {sc : xm_Sc} : xe_is (XE sc) 132 = true := rfl
set_option maxRecDepth 20000 in
theorem np_132 {sc : xm_Sc} : xe_np (XE sc) 132 = 1 := rfl
/- method 133: X8_put -/
def b_X8_put_0 : List (Nat × Jvm.ClassFile.Instr × Nat) := [(0, .aload_n 0, 1), (1, .getfield 15, 3), (4, .sipush 8192, 3), (7, .if_icmp .ge 27, 3)]
set_option maxRecDepth 20000 in
theorem k_X8_put_0 {sc : xm_Sc} : xm_bok (xe_cy (XE sc) 133) b_X8_put_0 := by show xm_bok cX8_put _; unfold xm_bok; decide +kernel
def b_X8_put_10 : List (Nat × Jvm.ClassFile.Instr × Nat) := [(10, .aload_n 0, 1), (11, .getfield 9, 3), (14, .aload_n 0, 1), (15, .getfield 15, 3), (18, .iload_n 1, 1), (19, .i2b, 1), (20, .bastore, 1), (21, .aload_n 0, 1), (22, .dup, 1), (23, .getfield 15, 3), (26, .iconst 1, 1), (27, .iadd, 1), (28, .putfield 15, 3), (31, .goto 8, 3)]
set_option maxRecDepth 20000 in
theorem k_X8_put_10 {sc : xm_Sc} : xm_bok (xe_cy (XE sc) 133) b_X8_put_10 := by show xm_bok cX8_put _; unfold xm_bok; decide +kernel
def b_X8_put_34 : List (Nat × Jvm.ClassFile.Instr × Nat) := [(34, .aload_n 0, 1), (35, .iconst 1, 1), (36, .putfield 22, 3)]
set_option maxRecDepth 20000 in
theorem k_X8_put_34 {sc : xm_Sc} : xm_bok (xe_cy (XE sc) 133) b_X8_put_34 := by show xm_bok cX8_put _; unfold xm_bok; decide +kernel
def b_X8_put_39 : List (Nat × Jvm.ClassFile.Instr × Nat) := [(39, .return_, 1)]
set_option maxRecDepth 20000 in
theorem k_X8_put_39 {sc : xm_Sc} : xm_bok (xe_cy (XE sc) 133) b_X8_put_39 := by show xm_bok cX8_put _; unfold xm_bok; decide +kernel
set_option maxRecDepth 20000 in
theorem cn_133 {sc : xm_Sc} : xe_cn (XE sc) 133 = 8 := rfl
set_option maxRecDepth 20000 in
theorem ml_133 {sc : xm_Sc} : xe_ml (XE sc) 133 = 2 := rfl
set_option maxRecDepth 20000 in
theorem ry_133 {sc : xm_Sc} : xe_ry (XE sc) 133 = none := rfl
set_option maxRecDepth 20000 in
theorem is_133 {sc : xm_Sc} : xe_is (XE sc) 133 = false := rfl
set_option maxRecDepth 20000 in
theorem np_133 {sc : xm_Sc} : xe_np (XE sc) 133 = 1 := rfl
/- method 134: X8_putBit -/
def b_X8_putBit_0 : List (Nat × Jvm.ClassFile.Instr × Nat) := [(0, .aload_n 0, 1), (1, .getfield 19, 3), (4, .bipush 7, 2), (6, .iand, 1), (7, .ifCond .ne 8, 3)]
set_option maxRecDepth 20000 in
theorem k_X8_putBit_0 {sc : xm_Sc} : xm_bok (xe_cy (XE sc) 134) b_X8_putBit_0 := by show xm_bok cX8_putBit _; unfold xm_bok; decide +kernel
def b_X8_putBit_10 : List (Nat × Jvm.ClassFile.Instr × Nat) := [(10, .aload_n 0, 1), (11, .iconst 0, 1), (12, .invokevirtual 42, 3)]
set_option maxRecDepth 20000 in
theorem k_X8_putBit_10 {sc : xm_Sc} : xm_bok (xe_cy (XE sc) 134) b_X8_putBit_10 := by show xm_bok cX8_putBit _; unfold xm_bok; decide +kernel
def b_X8_putBit_15 : List (Nat × Jvm.ClassFile.Instr × Nat) := [(15, .aload_n 0, 1), (16, .getfield 22, 3), (19, .ifCond .ne 35, 3)]
set_option maxRecDepth 20000 in
theorem k_X8_putBit_15 {sc : xm_Sc} : xm_bok (xe_cy (XE sc) 134) b_X8_putBit_15 := by show xm_bok cX8_putBit _; unfold xm_bok; decide +kernel
def b_X8_putBit_22 : List (Nat × Jvm.ClassFile.Instr × Nat) := [(22, .iload_n 1, 1), (23, .ifCond .eq 31, 3)]
set_option maxRecDepth 20000 in
theorem k_X8_putBit_22 {sc : xm_Sc} : xm_bok (xe_cy (XE sc) 134) b_X8_putBit_22 := by show xm_bok cX8_putBit _; unfold xm_bok; decide +kernel
def b_X8_putBit_26 : List (Nat × Jvm.ClassFile.Instr × Nat) := [(26, .aload_n 0, 1), (27, .getfield 9, 3), (30, .aload_n 0, 1), (31, .getfield 15, 3), (34, .iconst 1, 1), (35, .isub, 1), (36, .dup2, 1), (37, .baload, 1), (38, .iconst 1, 1), (39, .bipush 7, 2), (41, .aload_n 0, 1), (42, .getfield 19, 3), (45, .bipush 7, 2), (47, .iand, 1), (48, .isub, 1), (49, .ishl, 1), (50, .i2b, 1), (51, .ior, 1), (52, .i2b, 1), (53, .bastore, 1)]
set_option maxRecDepth 20000 in
theorem k_X8_putBit_26 {sc : xm_Sc} : xm_bok (xe_cy (XE sc) 134) b_X8_putBit_26 := by show xm_bok cX8_putBit _; unfold xm_bok; decide +kernel
def b_X8_putBit_54 : List (Nat × Jvm.ClassFile.Instr × Nat) := [(54, .aload_n 0, 1), (55, .aload_n 0, 1), (56, .getfield 19, 3), (59, .iconst 1, 1), (60, .iadd, 1), (61, .bipush 7, 2), (63, .iand, 1), (64, .putfield 19, 3), (67, .return_, 1)]
set_option maxRecDepth 20000 in
theorem k_X8_putBit_54 {sc : xm_Sc} : xm_bok (xe_cy (XE sc) 134) b_X8_putBit_54 := by show xm_bok cX8_putBit _; unfold xm_bok; decide +kernel
set_option maxRecDepth 20000 in
theorem cn_134 {sc : xm_Sc} : xe_cn (XE sc) 134 = 8 := rfl
set_option maxRecDepth 20000 in
theorem ml_134 {sc : xm_Sc} : xe_ml (XE sc) 134 = 2 := rfl
set_option maxRecDepth 20000 in
theorem ry_134 {sc : xm_Sc} : xe_ry (XE sc) 134 = none := rfl
set_option maxRecDepth 20000 in
theorem is_134 {sc : xm_Sc} : xe_is (XE sc) 134 = false := rfl
set_option maxRecDepth 20000 in
theorem np_134 {sc : xm_Sc} : xe_np (XE sc) 134 = 1 := rfl
/- method 135: X8_putBits -/
def b_X8_putBits_0 : List (Nat × Jvm.ClassFile.Instr × Nat) := [(0, .iload_n 3, 1), (1, .iconst 1, 1), (2, .isub, 1), (3, .istore 4, 2)]
set_option maxRecDepth 20000 in
theorem k_X8_putBits_0 {sc : xm_Sc} : xm_bok (xe_cy (XE sc) 135) b_X8_putBits_0 := by show xm_bok cX8_putBits _; unfold xm_bok; decide +kernel
def b_X8_putBits_5 : List (Nat × Jvm.ClassFile.Instr × Nat) := [(5, .iload 4, 2), (7, .ifCond .lt 20, 3)]
set_option maxRecDepth 20000 in
theorem k_X8_putBits_5 {sc : xm_Sc} : xm_bok (xe_cy (XE sc) 135) b_X8_putBits_5 := by show xm_bok cX8_putBits _; unfold xm_bok; decide +kernel
def b_X8_putBits_10 : List (Nat × Jvm.ClassFile.Instr × Nat) := [(10, .aload_n 0, 1), (11, .lload_n 1, 1), (12, .iload 4, 2), (14, .lushr, 1), (15, .l2i, 1), (16, .iconst 1, 1), (17, .iand, 1), (18, .invokevirtual 46, 3)]
set_option maxRecDepth 20000 in
theorem k_X8_putBits_10 {sc : xm_Sc} : xm_bok (xe_cy (XE sc) 135) b_X8_putBits_10 := by show xm_bok cX8_putBits _; unfold xm_bok; decide +kernel
def b_X8_putBits_21 : List (Nat × Jvm.ClassFile.Instr × Nat) := [(21, .iinc 4 (-1), 3), (24, .goto (-19), 3)]
set_option maxRecDepth 20000 in
theorem k_X8_putBits_21 {sc : xm_Sc} : xm_bok (xe_cy (XE sc) 135) b_X8_putBits_21 := by show xm_bok cX8_putBits _; unfold xm_bok; decide +kernel
def b_X8_putBits_27 : List (Nat × Jvm.ClassFile.Instr × Nat) := [(27, .return_, 1)]
set_option maxRecDepth 20000 in
theorem k_X8_putBits_27 {sc : xm_Sc} : xm_bok (xe_cy (XE sc) 135) b_X8_putBits_27 := by show xm_bok cX8_putBits _; unfold xm_bok; decide +kernel
set_option maxRecDepth 20000 in
theorem cn_135 {sc : xm_Sc} : xe_cn (XE sc) 135 = 8 := rfl
set_option maxRecDepth 20000 in
theorem ml_135 {sc : xm_Sc} : xe_ml (XE sc) 135 = 5 := rfl
set_option maxRecDepth 20000 in
theorem ry_135 {sc : xm_Sc} : xe_ry (XE sc) 135 = none := rfl
set_option maxRecDepth 20000 in
theorem is_135 {sc : xm_Sc} : xe_is (XE sc) 135 = false := rfl
set_option maxRecDepth 20000 in
theorem np_135 {sc : xm_Sc} : xe_np (XE sc) 135 = 2 := rfl
/- method 136: X8_putDigit -/
def b_X8_putDigit_0 : List (Nat × Jvm.ClassFile.Instr × Nat) := [(0, .aload_n 0, 1), (1, .iload_n 1, 1), (2, .bipush 10, 2), (4, .if_icmp .ge 10, 3)]
set_option maxRecDepth 20000 in
theorem k_X8_putDigit_0 {sc : xm_Sc} : xm_bok (xe_cy (XE sc) 136) b_X8_putDigit_0 := by show xm_bok cX8_putDigit _; unfold xm_bok; decide +kernel
def b_X8_putDigit_7 : List (Nat × Jvm.ClassFile.Instr × Nat) := [(7, .bipush 48, 2), (9, .iload_n 1, 1), (10, .iadd, 1), (11, .goto 10, 3)]
set_option maxRecDepth 20000 in
theorem k_X8_putDigit_7 {sc : xm_Sc} : xm_bok (xe_cy (XE sc) 136) b_X8_putDigit_7 := by show xm_bok cX8_putDigit _; unfold xm_bok; decide +kernel
def b_X8_putDigit_14 : List (Nat × Jvm.ClassFile.Instr × Nat) := [(14, .bipush 97, 2), (16, .iload_n 1, 1), (17, .iadd, 1), (18, .bipush 10, 2), (20, .isub, 1)]
set_option maxRecDepth 20000 in
theorem k_X8_putDigit_14 {sc : xm_Sc} : xm_bok (xe_cy (XE sc) 136) b_X8_putDigit_14 := by show xm_bok cX8_putDigit _; unfold xm_bok; decide +kernel
def b_X8_putDigit_21 : List (Nat × Jvm.ClassFile.Instr × Nat) := [(21, .invokevirtual 42, 3)]
set_option maxRecDepth 20000 in
theorem k_X8_putDigit_21 {sc : xm_Sc} : xm_bok (xe_cy (XE sc) 136) b_X8_putDigit_21 := by show xm_bok cX8_putDigit _; unfold xm_bok; decide +kernel
def b_X8_putDigit_24 : List (Nat × Jvm.ClassFile.Instr × Nat) := [(24, .return_, 1)]
set_option maxRecDepth 20000 in
theorem k_X8_putDigit_24 {sc : xm_Sc} : xm_bok (xe_cy (XE sc) 136) b_X8_putDigit_24 := by show xm_bok cX8_putDigit _; unfold xm_bok; decide +kernel
set_option maxRecDepth 20000 in
theorem cn_136 {sc : xm_Sc} : xe_cn (XE sc) 136 = 8 := rfl
set_option maxRecDepth 20000 in
theorem ml_136 {sc : xm_Sc} : xe_ml (XE sc) 136 = 2 := rfl
set_option maxRecDepth 20000 in
theorem ry_136 {sc : xm_Sc} : xe_ry (XE sc) 136 = none := rfl
set_option maxRecDepth 20000 in
theorem is_136 {sc : xm_Sc} : xe_is (XE sc) 136 = false := rfl
set_option maxRecDepth 20000 in
theorem np_136 {sc : xm_Sc} : xe_np (XE sc) 136 = 1 := rfl
/- method 137: X8_putLetters -/
def b_X8_putLetters_0 : List (Nat × Jvm.ClassFile.Instr × Nat) := [(0, .bipush 56, 2), (2, .istore_n 3, 1)]
set_option maxRecDepth 20000 in
theorem k_X8_putLetters_0 {sc : xm_Sc} : xm_bok (xe_cy (XE sc) 137) b_X8_putLetters_0 := by show xm_bok cX8_putLetters _; unfold xm_bok; decide +kernel
def b_X8_putLetters_3 : List (Nat × Jvm.ClassFile.Instr × Nat) := [(3, .iload_n 3, 1), (4, .ifCond .lt 30, 3)]
set_option maxRecDepth 20000 in
theorem k_X8_putLetters_3 {sc : xm_Sc} : xm_bok (xe_cy (XE sc) 137) b_X8_putLetters_3 := by show xm_bok cX8_putLetters _; unfold xm_bok; decide +kernel
def b_X8_putLetters_7 : List (Nat × Jvm.ClassFile.Instr × Nat) := [(7, .lload_n 1, 1), (8, .iload_n 3, 1), (9, .lushr, 1), (10, .l2i, 1), (11, .sipush 255, 3), (14, .iand, 1), (15, .istore 4, 2), (17, .iload 4, 2), (19, .ifCond .eq 9, 3)]
set_option maxRecDepth 20000 in
theorem k_X8_putLetters_7 {sc : xm_Sc} : xm_bok (xe_cy (XE sc) 137) b_X8_putLetters_7 := by show xm_bok cX8_putLetters _; unfold xm_bok; decide +kernel
def b_X8_putLetters_22 : List (Nat × Jvm.ClassFile.Instr × Nat) := [(22, .aload_n 0, 1), (23, .iload 4, 2), (25, .invokevirtual 42, 3)]
set_option maxRecDepth 20000 in
theorem k_X8_putLetters_22 {sc : xm_Sc} : xm_bok (xe_cy (XE sc) 137) b_X8_putLetters_22 := by show xm_bok cX8_putLetters _; unfold xm_bok; decide +kernel
def b_X8_putLetters_28 : List (Nat × Jvm.ClassFile.Instr × Nat) := [(28, .iinc 3 (-8), 3), (31, .goto (-28), 3)]
set_option maxRecDepth 20000 in
theorem k_X8_putLetters_28 {sc : xm_Sc} : xm_bok (xe_cy (XE sc) 137) b_X8_putLetters_28 := by show xm_bok cX8_putLetters _; unfold xm_bok; decide +kernel
def b_X8_putLetters_34 : List (Nat × Jvm.ClassFile.Instr × Nat) := [(34, .return_, 1)]
set_option maxRecDepth 20000 in
theorem k_X8_putLetters_34 {sc : xm_Sc} : xm_bok (xe_cy (XE sc) 137) b_X8_putLetters_34 := by show xm_bok cX8_putLetters _; unfold xm_bok; decide +kernel
set_option maxRecDepth 20000 in
theorem cn_137 {sc : xm_Sc} : xe_cn (XE sc) 137 = 8 := rfl
set_option maxRecDepth 20000 in
theorem ml_137 {sc : xm_Sc} : xe_ml (XE sc) 137 = 5 := rfl
set_option maxRecDepth 20000 in
theorem ry_137 {sc : xm_Sc} : xe_ry (XE sc) 137 = none := rfl
set_option maxRecDepth 20000 in
theorem is_137 {sc : xm_Sc} : xe_is (XE sc) 137 = false := rfl
set_option maxRecDepth 20000 in
theorem np_137 {sc : xm_Sc} : xe_np (XE sc) 137 = 1 := rfl
/- method 138: X8_putNatural -/
def b_X8_putNatural_0 : List (Nat × Jvm.ClassFile.Instr × Nat) := [(0, .iconst 0, 1), (1, .istore_n 2, 1), (2, .iload_n 1, 1), (3, .istore_n 3, 1)]
set_option maxRecDepth 20000 in
theorem k_X8_putNatural_0 {sc : xm_Sc} : xm_bok (xe_cy (XE sc) 138) b_X8_putNatural_0 := by show xm_bok cX8_putNatural _; unfold xm_bok; decide +kernel
def b_X8_putNatural_4 : List (Nat × Jvm.ClassFile.Instr × Nat) := [(4, .iload_n 3, 1), (5, .iconst 1, 1), (6, .if_icmp .le 25, 3)]
set_option maxRecDepth 20000 in
theorem k_X8_putNatural_4 {sc : xm_Sc} : xm_bok (xe_cy (XE sc) 138) b_X8_putNatural_4 := by show xm_bok cX8_putNatural _; unfold xm_bok; decide +kernel
def b_X8_putNatural_9 : List (Nat × Jvm.ClassFile.Instr × Nat) := [(9, .iload_n 2, 1), (10, .bipush 8, 2), (12, .if_icmp .ge 19, 3)]
set_option maxRecDepth 20000 in
theorem k_X8_putNatural_9 {sc : xm_Sc} : xm_bok (xe_cy (XE sc) 138) b_X8_putNatural_9 := by show xm_bok cX8_putNatural _; unfold xm_bok; decide +kernel
def b_X8_putNatural_15 : List (Nat × Jvm.ClassFile.Instr × Nat) := [(15, .aload_n 0, 1), (16, .iconst 1, 1), (17, .invokevirtual 46, 3)]
set_option maxRecDepth 20000 in
theorem k_X8_putNatural_15 {sc : xm_Sc} : xm_bok (xe_cy (XE sc) 138) b_X8_putNatural_15 := by show xm_bok cX8_putNatural _; unfold xm_bok; decide +kernel
def b_X8_putNatural_20 : List (Nat × Jvm.ClassFile.Instr × Nat) := [(20, .iinc 2 1, 3), (23, .iload_n 3, 1), (24, .invokestatic 49, 3)]
set_option maxRecDepth 20000 in
theorem k_X8_putNatural_20 {sc : xm_Sc} : xm_bok (xe_cy (XE sc) 138) b_X8_putNatural_20 := by show xm_bok cX8_putNatural _; unfold xm_bok; decide +kernel
def b_X8_putNatural_27 : List (Nat × Jvm.ClassFile.Instr × Nat) := [(27, .istore_n 3, 1), (28, .goto (-24), 3)]
set_option maxRecDepth 20000 in
theorem k_X8_putNatural_27 {sc : xm_Sc} : xm_bok (xe_cy (XE sc) 138) b_X8_putNatural_27 := by show xm_bok cX8_putNatural _; unfold xm_bok; decide +kernel
def b_X8_putNatural_31 : List (Nat × Jvm.ClassFile.Instr × Nat) := [(31, .aload_n 0, 1), (32, .iconst 0, 1), (33, .invokevirtual 46, 3)]
set_option maxRecDepth 20000 in
theorem k_X8_putNatural_31 {sc : xm_Sc} : xm_bok (xe_cy (XE sc) 138) b_X8_putNatural_31 := by show xm_bok cX8_putNatural _; unfold xm_bok; decide +kernel
def b_X8_putNatural_36 : List (Nat × Jvm.ClassFile.Instr × Nat) := [(36, .iload_n 2, 1), (37, .iconst 1, 1), (38, .isub, 1), (39, .istore_n 3, 1)]
set_option maxRecDepth 20000 in
theorem k_X8_putNatural_36 {sc : xm_Sc} : xm_bok (xe_cy (XE sc) 138) b_X8_putNatural_36 := by show xm_bok cX8_putNatural _; unfold xm_bok; decide +kernel
def b_X8_putNatural_40 : List (Nat × Jvm.ClassFile.Instr × Nat) := [(40, .iload_n 3, 1), (41, .ifCond .lt 46, 3)]
set_option maxRecDepth 20000 in
theorem k_X8_putNatural_40 {sc : xm_Sc} : xm_bok (xe_cy (XE sc) 138) b_X8_putNatural_40 := by show xm_bok cX8_putNatural _; unfold xm_bok; decide +kernel
def b_X8_putNatural_44 : List (Nat × Jvm.ClassFile.Instr × Nat) := [(44, .iload_n 1, 1), (45, .istore 4, 2), (47, .iconst 0, 1), (48, .istore 5, 2)]
set_option maxRecDepth 20000 in
theorem k_X8_putNatural_44 {sc : xm_Sc} : xm_bok (xe_cy (XE sc) 138) b_X8_putNatural_44 := by show xm_bok cX8_putNatural _; unfold xm_bok; decide +kernel
def b_X8_putNatural_50 : List (Nat × Jvm.ClassFile.Instr × Nat) := [(50, .iload 5, 2), (52, .iload_n 3, 1), (53, .if_icmp .ge 16, 3)]
set_option maxRecDepth 20000 in
theorem k_X8_putNatural_50 {sc : xm_Sc} : xm_bok (xe_cy (XE sc) 138) b_X8_putNatural_50 := by show xm_bok cX8_putNatural _; unfold xm_bok; decide +kernel
def b_X8_putNatural_56 : List (Nat × Jvm.ClassFile.Instr × Nat) := [(56, .iload 4, 2), (58, .invokestatic 49, 3)]
set_option maxRecDepth 20000 in
theorem k_X8_putNatural_56 {sc : xm_Sc} : xm_bok (xe_cy (XE sc) 138) b_X8_putNatural_56 := by show xm_bok cX8_putNatural _; unfold xm_bok; decide +kernel
def b_X8_putNatural_61 : List (Nat × Jvm.ClassFile.Instr × Nat) := [(61, .istore 4, 2), (63, .iinc 5 1, 3), (66, .goto (-16), 3)]
set_option maxRecDepth 20000 in
theorem k_X8_putNatural_61 {sc : xm_Sc} : xm_bok (xe_cy (XE sc) 138) b_X8_putNatural_61 := by show xm_bok cX8_putNatural _; unfold xm_bok; decide +kernel
def b_X8_putNatural_69 : List (Nat × Jvm.ClassFile.Instr × Nat) := [(69, .aload_n 0, 1), (70, .iload 4, 2), (72, .i2l, 1), (73, .iload 4, 2), (75, .invokestatic 49, 3)]
set_option maxRecDepth 20000 in
theorem k_X8_putNatural_69 {sc : xm_Sc} : xm_bok (xe_cy (XE sc) 138) b_X8_putNatural_69 := by show xm_bok cX8_putNatural _; unfold xm_bok; decide +kernel
def b_X8_putNatural_78 : List (Nat × Jvm.ClassFile.Instr × Nat) := [(78, .invokevirtual 52, 3)]
set_option maxRecDepth 20000 in
theorem k_X8_putNatural_78 {sc : xm_Sc} : xm_bok (xe_cy (XE sc) 138) b_X8_putNatural_78 := by show xm_bok cX8_putNatural _; unfold xm_bok; decide +kernel
def b_X8_putNatural_81 : List (Nat × Jvm.ClassFile.Instr × Nat) := [(81, .iinc 3 (-1), 3), (84, .goto (-44), 3)]
set_option maxRecDepth 20000 in
theorem k_X8_putNatural_81 {sc : xm_Sc} : xm_bok (xe_cy (XE sc) 138) b_X8_putNatural_81 := by show xm_bok cX8_putNatural _; unfold xm_bok; decide +kernel
def b_X8_putNatural_87 : List (Nat × Jvm.ClassFile.Instr × Nat) := [(87, .return_, 1)]
set_option maxRecDepth 20000 in
theorem k_X8_putNatural_87 {sc : xm_Sc} : xm_bok (xe_cy (XE sc) 138) b_X8_putNatural_87 := by show xm_bok cX8_putNatural _; unfold xm_bok; decide +kernel
set_option maxRecDepth 20000 in
theorem cn_138 {sc : xm_Sc} : xe_cn (XE sc) 138 = 8 := rfl
set_option maxRecDepth 20000 in
theorem ml_138 {sc : xm_Sc} : xe_ml (XE sc) 138 = 6 := rfl
set_option maxRecDepth 20000 in
theorem ry_138 {sc : xm_Sc} : xe_ry (XE sc) 138 = none := rfl
set_option maxRecDepth 20000 in
theorem is_138 {sc : xm_Sc} : xe_is (XE sc) 138 = false := rfl
set_option maxRecDepth 20000 in
theorem np_138 {sc : xm_Sc} : xe_np (XE sc) 138 = 1 := rfl
/- method 139: X8_putNumber -/
def b_X8_putNumber_0 : List (Nat × Jvm.ClassFile.Instr × Nat) := [(0, .iload_n 1, 1), (1, .bipush 100, 2), (3, .if_icmp .lt 17, 3)]
set_option maxRecDepth 20000 in
theorem k_X8_putNumber_0 {sc : xm_Sc} : xm_bok (xe_cy (XE sc) 139) b_X8_putNumber_0 := by show xm_bok cX8_putNumber _; unfold xm_bok; decide +kernel
def b_X8_putNumber_6 : List (Nat × Jvm.ClassFile.Instr × Nat) := [(6, .aload_n 0, 1), (7, .bipush 48, 2), (9, .iload_n 1, 1), (10, .bipush 100, 2), (12, .idiv, 1), (13, .bipush 10, 2), (15, .irem, 1), (16, .iadd, 1), (17, .invokevirtual 42, 3)]
set_option maxRecDepth 20000 in
theorem k_X8_putNumber_6 {sc : xm_Sc} : xm_bok (xe_cy (XE sc) 139) b_X8_putNumber_6 := by show xm_bok cX8_putNumber _; unfold xm_bok; decide +kernel
def b_X8_putNumber_20 : List (Nat × Jvm.ClassFile.Instr × Nat) := [(20, .iload_n 1, 1), (21, .bipush 10, 2), (23, .if_icmp .lt 17, 3)]
set_option maxRecDepth 20000 in
theorem k_X8_putNumber_20 {sc : xm_Sc} : xm_bok (xe_cy (XE sc) 139) b_X8_putNumber_20 := by show xm_bok cX8_putNumber _; unfold xm_bok; decide +kernel
def b_X8_putNumber_26 : List (Nat × Jvm.ClassFile.Instr × Nat) := [(26, .aload_n 0, 1), (27, .bipush 48, 2), (29, .iload_n 1, 1), (30, .bipush 10, 2), (32, .idiv, 1), (33, .bipush 10, 2), (35, .irem, 1), (36, .iadd, 1), (37, .invokevirtual 42, 3)]
set_option maxRecDepth 20000 in
theorem k_X8_putNumber_26 {sc : xm_Sc} : xm_bok (xe_cy (XE sc) 139) b_X8_putNumber_26 := by show xm_bok cX8_putNumber _; unfold xm_bok; decide +kernel
def b_X8_putNumber_40 : List (Nat × Jvm.ClassFile.Instr × Nat) := [(40, .aload_n 0, 1), (41, .bipush 48, 2), (43, .iload_n 1, 1), (44, .bipush 10, 2), (46, .irem, 1), (47, .iadd, 1), (48, .invokevirtual 42, 3)]
set_option maxRecDepth 20000 in
theorem k_X8_putNumber_40 {sc : xm_Sc} : xm_bok (xe_cy (XE sc) 139) b_X8_putNumber_40 := by show xm_bok cX8_putNumber _; unfold xm_bok; decide +kernel
def b_X8_putNumber_51 : List (Nat × Jvm.ClassFile.Instr × Nat) := [(51, .return_, 1)]
set_option maxRecDepth 20000 in
theorem k_X8_putNumber_51 {sc : xm_Sc} : xm_bok (xe_cy (XE sc) 139) b_X8_putNumber_51 := by show xm_bok cX8_putNumber _; unfold xm_bok; decide +kernel
set_option maxRecDepth 20000 in
theorem cn_139 {sc : xm_Sc} : xe_cn (XE sc) 139 = 8 := rfl
set_option maxRecDepth 20000 in
theorem ml_139 {sc : xm_Sc} : xe_ml (XE sc) 139 = 2 := rfl
set_option maxRecDepth 20000 in
theorem ry_139 {sc : xm_Sc} : xe_ry (XE sc) 139 = none := rfl
set_option maxRecDepth 20000 in
theorem is_139 {sc : xm_Sc} : xe_is (XE sc) 139 = false := rfl
set_option maxRecDepth 20000 in
theorem np_139 {sc : xm_Sc} : xe_np (XE sc) 139 = 1 := rfl
/- method 140: X8_putText -/
def b_X8_putText_0 : List (Nat × Jvm.ClassFile.Instr × Nat) := [(0, .iconst 0, 1), (1, .istore_n 2, 1)]
set_option maxRecDepth 20000 in
theorem k_X8_putText_0 {sc : xm_Sc} : xm_bok (xe_cy (XE sc) 140) b_X8_putText_0 := by show xm_bok cX8_putText _; unfold xm_bok; decide +kernel
def b_X8_putText_2 : List (Nat × Jvm.ClassFile.Instr × Nat) := [(2, .iload_n 2, 1), (3, .aload_n 1, 1), (4, .invokevirtual 56, 3)]
set_option maxRecDepth 20000 in
theorem k_X8_putText_2 {sc : xm_Sc} : xm_bok (xe_cy (XE sc) 140) b_X8_putText_2 := by show xm_bok cX8_putText _; unfold xm_bok; decide +kernel
def b_X8_putText_7 : List (Nat × Jvm.ClassFile.Instr × Nat) := [(7, .if_icmp .ge 18, 3)]
set_option maxRecDepth 20000 in
theorem k_X8_putText_7 {sc : xm_Sc} : xm_bok (xe_cy (XE sc) 140) b_X8_putText_7 := by show xm_bok cX8_putText _; unfold xm_bok; decide +kernel
def b_X8_putText_10 : List (Nat × Jvm.ClassFile.Instr × Nat) := [(10, .aload_n 0, 1), (11, .aload_n 1, 1), (12, .iload_n 2, 1), (13, .invokevirtual 62, 3)]
set_option maxRecDepth 20000 in
theorem k_X8_putText_10 {sc : xm_Sc} : xm_bok (xe_cy (XE sc) 140) b_X8_putText_10 := by show xm_bok cX8_putText _; unfold xm_bok; decide +kernel
def b_X8_putText_16 : List (Nat × Jvm.ClassFile.Instr × Nat) := [(16, .invokevirtual 42, 3)]
set_option maxRecDepth 20000 in
theorem k_X8_putText_16 {sc : xm_Sc} : xm_bok (xe_cy (XE sc) 140) b_X8_putText_16 := by show xm_bok cX8_putText _; unfold xm_bok; decide +kernel
def b_X8_putText_19 : List (Nat × Jvm.ClassFile.Instr × Nat) := [(19, .iinc 2 1, 3), (22, .goto (-20), 3)]
set_option maxRecDepth 20000 in
theorem k_X8_putText_19 {sc : xm_Sc} : xm_bok (xe_cy (XE sc) 140) b_X8_putText_19 := by show xm_bok cX8_putText _; unfold xm_bok; decide +kernel
def b_X8_putText_25 : List (Nat × Jvm.ClassFile.Instr × Nat) := [(25, .return_, 1)]
set_option maxRecDepth 20000 in
theorem k_X8_putText_25 {sc : xm_Sc} : xm_bok (xe_cy (XE sc) 140) b_X8_putText_25 := by show xm_bok cX8_putText _; unfold xm_bok; decide +kernel
set_option maxRecDepth 20000 in
theorem cn_140 {sc : xm_Sc} : xe_cn (XE sc) 140 = 8 := rfl
set_option maxRecDepth 20000 in
theorem ml_140 {sc : xm_Sc} : xe_ml (XE sc) 140 = 3 := rfl
set_option maxRecDepth 20000 in
theorem ry_140 {sc : xm_Sc} : xe_ry (XE sc) 140 = none := rfl
set_option maxRecDepth 20000 in
theorem is_140 {sc : xm_Sc} : xe_is (XE sc) 140 = false := rfl
set_option maxRecDepth 20000 in
theorem np_140 {sc : xm_Sc} : xe_np (XE sc) 140 = 1 := rfl
/- method 178: X11_again -/
def b_X11_again_0 : List (Nat × Jvm.ClassFile.Instr × Nat) := [(0, .aload_n 0, 1), (1, .getfield 10, 3), (4, .aload_n 0, 1), (5, .getfield 16, 3), (8, .invokevirtual 197, 3)]
set_option maxRecDepth 20000 in
theorem k_X11_again_0 {sc : xm_Sc} : xm_bok (xe_cy (XE sc) 178) b_X11_again_0 := by show xm_bok cX11_again _; unfold xm_bok; decide +kernel
def b_X11_again_11 : List (Nat × Jvm.ClassFile.Instr × Nat) := [(11, .aload_n 0, 1), (12, .getfield 10, 3), (15, .getfield 85, 3), (18, .ireturn, 1)]
set_option maxRecDepth 20000 in
theorem k_X11_again_11 {sc : xm_Sc} : xm_bok (xe_cy (XE sc) 178) b_X11_again_11 := by show xm_bok cX11_again _; unfold xm_bok; decide +kernel
set_option maxRecDepth 20000 in
theorem cn_178 {sc : xm_Sc} : xe_cn (XE sc) 178 = 11 := rfl
set_option maxRecDepth 20000 in
theorem ml_178 {sc : xm_Sc} : xe_ml (XE sc) 178 = 1 := rfl
set_option maxRecDepth 20000 in
theorem ry_178 {sc : xm_Sc} : xe_ry (XE sc) 178 = (some .int) := rfl
set_option maxRecDepth 20000 in
theorem is_178 {sc : xm_Sc} : xe_is (XE sc) 178 = false := rfl
set_option maxRecDepth 20000 in
theorem np_178 {sc : xm_Sc} : xe_np (XE sc) 178 = 0 := rfl
/- method 179: X11_feed -/
def b_X11_feed_0 : List (Nat × Jvm.ClassFile.Instr × Nat) := [(0, .iload_n 1, 1), (1, .iconst 1, 1), (2, .if_icmp .lt 9, 3)]
set_option maxRecDepth 20000 in
theorem k_X11_feed_0 {sc : xm_Sc} : xm_bok (xe_cy (XE sc) 179) b_X11_feed_0 := by show xm_bok cX11_feed _; unfold xm_bok; decide +kernel
def b_X11_feed_5 : List (Nat × Jvm.ClassFile.Instr × Nat) := [(5, .iload_n 1, 1), (6, .bipush 8, 2), (8, .if_icmp .le 13, 3)]
set_option maxRecDepth 20000 in
theorem k_X11_feed_5 {sc : xm_Sc} : xm_bok (xe_cy (XE sc) 179) b_X11_feed_5 := by show xm_bok cX11_feed _; unfold xm_bok; decide +kernel
def b_X11_feed_21 : List (Nat × Jvm.ClassFile.Instr × Nat) := [(21, .aload_n 0, 1), (22, .getfield 10, 3), (25, .getfield 85, 3), (28, .iload_n 1, 1), (29, .iadd, 1), (30, .sipush 8192, 3), (33, .if_icmp .le 13, 3)]
set_option maxRecDepth 20000 in
theorem k_X11_feed_21 {sc : xm_Sc} : xm_bok (xe_cy (XE sc) 179) b_X11_feed_21 := by show xm_bok cX11_feed _; unfold xm_bok; decide +kernel
def b_X11_feed_46 : List (Nat × Jvm.ClassFile.Instr × Nat) := [(46, .iconst 0, 1), (47, .istore 4, 2)]
set_option maxRecDepth 20000 in
theorem k_X11_feed_46 {sc : xm_Sc} : xm_bok (xe_cy (XE sc) 179) b_X11_feed_46 := by show xm_bok cX11_feed _; unfold xm_bok; decide +kernel
def b_X11_feed_49 : List (Nat × Jvm.ClassFile.Instr × Nat) := [(49, .iload 4, 2), (51, .iload_n 1, 1), (52, .if_icmp .ge 28, 3)]
set_option maxRecDepth 20000 in
theorem k_X11_feed_49 {sc : xm_Sc} : xm_bok (xe_cy (XE sc) 179) b_X11_feed_49 := by show xm_bok cX11_feed _; unfold xm_bok; decide +kernel
def b_X11_feed_55 : List (Nat × Jvm.ClassFile.Instr × Nat) := [(55, .aload_n 0, 1), (56, .getfield 10, 3), (59, .lload_n 2, 1), (60, .bipush 8, 2), (62, .iload 4, 2), (64, .imul, 1), (65, .lushr, 1), (66, .l2i, 1), (67, .sipush 255, 3), (70, .iand, 1), (71, .invokevirtual 94, 3)]
set_option maxRecDepth 20000 in
theorem k_X11_feed_55 {sc : xm_Sc} : xm_bok (xe_cy (XE sc) 179) b_X11_feed_55 := by show xm_bok cX11_feed _; unfold xm_bok; decide +kernel
def b_X11_feed_74 : List (Nat × Jvm.ClassFile.Instr × Nat) := [(74, .iinc 4 1, 3), (77, .goto (-28), 3)]
set_option maxRecDepth 20000 in
theorem k_X11_feed_74 {sc : xm_Sc} : xm_bok (xe_cy (XE sc) 179) b_X11_feed_74 := by show xm_bok cX11_feed _; unfold xm_bok; decide +kernel
def b_X11_feed_80 : List (Nat × Jvm.ClassFile.Instr × Nat) := [(80, .aload_n 0, 1), (81, .getfield 10, 3), (84, .getfield 85, 3), (87, .ireturn, 1)]
set_option maxRecDepth 20000 in
theorem k_X11_feed_80 {sc : xm_Sc} : xm_bok (xe_cy (XE sc) 179) b_X11_feed_80 := by show xm_bok cX11_feed _; unfold xm_bok; decide +kernel
set_option maxRecDepth 20000 in
theorem cn_179 {sc : xm_Sc} : xe_cn (XE sc) 179 = 11 := rfl
set_option maxRecDepth 20000 in
theorem ml_179 {sc : xm_Sc} : xe_ml (XE sc) 179 = 5 := rfl
set_option maxRecDepth 20000 in
theorem ry_179 {sc : xm_Sc} : xe_ry (XE sc) 179 = (some .int) := rfl
set_option maxRecDepth 20000 in
theorem is_179 {sc : xm_Sc} : xe_is (XE sc) 179 = false := rfl
set_option maxRecDepth 20000 in
theorem np_179 {sc : xm_Sc} : xe_np (XE sc) 179 = 2 := rfl
/- method 185: X11_out -/
def b_X11_out_0 : List (Nat × Jvm.ClassFile.Instr × Nat) := [(0, .iload_n 1, 1), (1, .ifCond .lt 14, 3)]
set_option maxRecDepth 20000 in
theorem k_X11_out_0 {sc : xm_Sc} : xm_bok (xe_cy (XE sc) 185) b_X11_out_0 := by show xm_bok cX11_out _; unfold xm_bok; decide +kernel
def b_X11_out_4 : List (Nat × Jvm.ClassFile.Instr × Nat) := [(4, .iload_n 1, 1), (5, .aload_n 0, 1), (6, .getfield 16, 3), (9, .getfield 85, 3), (12, .if_icmp .lt 14, 3)]
set_option maxRecDepth 20000 in
theorem k_X11_out_4 {sc : xm_Sc} : xm_bok (xe_cy (XE sc) 185) b_X11_out_4 := by show xm_bok cX11_out _; unfold xm_bok; decide +kernel
def b_X11_out_26 : List (Nat × Jvm.ClassFile.Instr × Nat) := [(26, .lconst 0, 1), (27, .lstore_n 2, 1), (28, .bipush 7, 2), (30, .istore 4, 2)]
set_option maxRecDepth 20000 in
theorem k_X11_out_26 {sc : xm_Sc} : xm_bok (xe_cy (XE sc) 185) b_X11_out_26 := by show xm_bok cX11_out _; unfold xm_bok; decide +kernel
def b_X11_out_32 : List (Nat × Jvm.ClassFile.Instr × Nat) := [(32, .iload 4, 2), (34, .ifCond .lt 27, 3)]
set_option maxRecDepth 20000 in
theorem k_X11_out_32 {sc : xm_Sc} : xm_bok (xe_cy (XE sc) 185) b_X11_out_32 := by show xm_bok cX11_out _; unfold xm_bok; decide +kernel
def b_X11_out_37 : List (Nat × Jvm.ClassFile.Instr × Nat) := [(37, .lload_n 2, 1), (38, .bipush 8, 2), (40, .lshl, 1), (41, .aload_n 0, 1), (42, .getfield 16, 3), (45, .iload_n 1, 1), (46, .iload 4, 2), (48, .iadd, 1), (49, .invokevirtual 281, 3)]
set_option maxRecDepth 20000 in
theorem k_X11_out_37 {sc : xm_Sc} : xm_bok (xe_cy (XE sc) 185) b_X11_out_37 := by show xm_bok cX11_out _; unfold xm_bok; decide +kernel
def b_X11_out_52 : List (Nat × Jvm.ClassFile.Instr × Nat) := [(52, .i2l, 1), (53, .lor, 1), (54, .lstore_n 2, 1), (55, .iinc 4 (-1), 3), (58, .goto (-26), 3)]
set_option maxRecDepth 20000 in
theorem k_X11_out_52 {sc : xm_Sc} : xm_bok (xe_cy (XE sc) 185) b_X11_out_52 := by show xm_bok cX11_out _; unfold xm_bok; decide +kernel
def b_X11_out_61 : List (Nat × Jvm.ClassFile.Instr × Nat) := [(61, .lload_n 2, 1), (62, .lreturn, 1)]
set_option maxRecDepth 20000 in
theorem k_X11_out_61 {sc : xm_Sc} : xm_bok (xe_cy (XE sc) 185) b_X11_out_61 := by show xm_bok cX11_out _; unfold xm_bok; decide +kernel
set_option maxRecDepth 20000 in
theorem cn_185 {sc : xm_Sc} : xe_cn (XE sc) 185 = 11 := rfl
set_option maxRecDepth 20000 in
theorem ml_185 {sc : xm_Sc} : xe_ml (XE sc) 185 = 5 := rfl
set_option maxRecDepth 20000 in
theorem ry_185 {sc : xm_Sc} : xe_ry (XE sc) 185 = (some .long) := rfl
set_option maxRecDepth 20000 in
theorem is_185 {sc : xm_Sc} : xe_is (XE sc) 185 = false := rfl
set_option maxRecDepth 20000 in
theorem np_185 {sc : xm_Sc} : xe_np (XE sc) 185 = 1 := rfl
/- method 196: X11_wipe -/
def b_X11_wipe_0 : List (Nat × Jvm.ClassFile.Instr × Nat) := [(0, .aload_n 0, 1), (1, .getfield 10, 3), (4, .getfield 85, 3), (7, .istore_n 1, 1), (8, .aload_n 0, 1), (9, .getfield 10, 3), (12, .invokevirtual 98, 3)]
set_option maxRecDepth 20000 in
theorem k_X11_wipe_0 {sc : xm_Sc} : xm_bok (xe_cy (XE sc) 196) b_X11_wipe_0 := by show xm_bok cX11_wipe _; unfold xm_bok; decide +kernel
def b_X11_wipe_15 : List (Nat × Jvm.ClassFile.Instr × Nat) := [(15, .iload_n 1, 1), (16, .ireturn, 1)]
set_option maxRecDepth 20000 in
theorem k_X11_wipe_15 {sc : xm_Sc} : xm_bok (xe_cy (XE sc) 196) b_X11_wipe_15 := by show xm_bok cX11_wipe _; unfold xm_bok; decide +kernel
set_option maxRecDepth 20000 in
theorem cn_196 {sc : xm_Sc} : xe_cn (XE sc) 196 = 11 := rfl
set_option maxRecDepth 20000 in
theorem ml_196 {sc : xm_Sc} : xe_ml (XE sc) 196 = 2 := rfl
set_option maxRecDepth 20000 in
theorem ry_196 {sc : xm_Sc} : xe_ry (XE sc) 196 = (some .int) := rfl
set_option maxRecDepth 20000 in
theorem is_196 {sc : xm_Sc} : xe_is (XE sc) 196 = false := rfl
set_option maxRecDepth 20000 in
theorem np_196 {sc : xm_Sc} : xe_np (XE sc) 196 = 0 := rfl
/- method 200: X12_again -/
def b_X12_again_0 : List (Nat × Jvm.ClassFile.Instr × Nat) := [(0, .aload_n 0, 1), (1, .iconst 0, 1), (2, .putfield 205, 3), (5, .iconst 0, 1), (6, .istore_n 1, 1)]
set_option maxRecDepth 20000 in
theorem k_X12_again_0 {sc : xm_Sc} : xm_bok (xe_cy (XE sc) 200) b_X12_again_0 := by show xm_bok cX12_again _; unfold xm_bok; decide +kernel
def b_X12_again_7 : List (Nat × Jvm.ClassFile.Instr × Nat) := [(7, .iload_n 1, 1), (8, .aload_n 0, 1), (9, .getfield 220, 3), (12, .if_icmp .ge 21, 3)]
set_option maxRecDepth 20000 in
theorem k_X12_again_7 {sc : xm_Sc} : xm_bok (xe_cy (XE sc) 200) b_X12_again_7 := by show xm_bok cX12_again _; unfold xm_bok; decide +kernel
def b_X12_again_15 : List (Nat × Jvm.ClassFile.Instr × Nat) := [(15, .aload_n 0, 1), (16, .getfield 7, 3), (19, .iload_n 1, 1), (20, .aload_n 0, 1), (21, .getfield 13, 3), (24, .iload_n 1, 1), (25, .iaload, 1), (26, .iastore, 1), (27, .iinc 1 1, 3), (30, .goto (-23), 3)]
set_option maxRecDepth 20000 in
theorem k_X12_again_15 {sc : xm_Sc} : xm_bok (xe_cy (XE sc) 200) b_X12_again_15 := by show xm_bok cX12_again _; unfold xm_bok; decide +kernel
def b_X12_again_33 : List (Nat × Jvm.ClassFile.Instr × Nat) := [(33, .aload_n 0, 1), (34, .aload_n 0, 1), (35, .getfield 220, 3), (38, .putfield 215, 3), (41, .aload_n 0, 1), (42, .getfield 220, 3), (45, .ireturn, 1)]
set_option maxRecDepth 20000 in
theorem k_X12_again_33 {sc : xm_Sc} : xm_bok (xe_cy (XE sc) 200) b_X12_again_33 := by show xm_bok cX12_again _; unfold xm_bok; decide +kernel
set_option maxRecDepth 20000 in
theorem cn_200 {sc : xm_Sc} : xe_cn (XE sc) 200 = 12 := rfl
set_option maxRecDepth 20000 in
theorem ml_200 {sc : xm_Sc} : xe_ml (XE sc) 200 = 2 := rfl
set_option maxRecDepth 20000 in
theorem ry_200 {sc : xm_Sc} : xe_ry (XE sc) 200 = (some .int) := rfl
set_option maxRecDepth 20000 in
theorem is_200 {sc : xm_Sc} : xe_is (XE sc) 200 = false := rfl
set_option maxRecDepth 20000 in
theorem np_200 {sc : xm_Sc} : xe_np (XE sc) 200 = 0 := rfl
/- method 221: X12_feed -/
def b_X12_feed_0 : List (Nat × Jvm.ClassFile.Instr × Nat) := [(0, .aload_n 0, 1), (1, .iload_n 1, 1), (2, .iconst 1, 1), (3, .bipush 8, 2), (5, .invokestatic 211, 3)]
set_option maxRecDepth 20000 in
theorem k_X12_feed_0 {sc : xm_Sc} : xm_bok (xe_cy (XE sc) 221) b_X12_feed_0 := by show xm_bok cX12_feed _; unfold xm_bok; decide +kernel
def b_X12_feed_8 : List (Nat × Jvm.ClassFile.Instr × Nat) := [(8, .ifCond .ne 7, 3)]
set_option maxRecDepth 20000 in
theorem k_X12_feed_8 {sc : xm_Sc} : xm_bok (xe_cy (XE sc) 221) b_X12_feed_8 := by show xm_bok cX12_feed _; unfold xm_bok; decide +kernel
def b_X12_feed_11 : List (Nat × Jvm.ClassFile.Instr × Nat) := [(11, .iconst 1, 1), (12, .goto 20, 3)]
set_option maxRecDepth 20000 in
theorem k_X12_feed_11 {sc : xm_Sc} : xm_bok (xe_cy (XE sc) 221) b_X12_feed_11 := by show xm_bok cX12_feed _; unfold xm_bok; decide +kernel
def b_X12_feed_15 : List (Nat × Jvm.ClassFile.Instr × Nat) := [(15, .aload_n 0, 1), (16, .getfield 215, 3), (19, .iload_n 1, 1), (20, .iadd, 1), (21, .sipush 8192, 3), (24, .if_icmp .le 7, 3)]
set_option maxRecDepth 20000 in
theorem k_X12_feed_15 {sc : xm_Sc} : xm_bok (xe_cy (XE sc) 221) b_X12_feed_15 := by show xm_bok cX12_feed _; unfold xm_bok; decide +kernel
def b_X12_feed_27 : List (Nat × Jvm.ClassFile.Instr × Nat) := [(27, .iconst 2, 1), (28, .goto 4, 3)]
set_option maxRecDepth 20000 in
theorem k_X12_feed_27 {sc : xm_Sc} : xm_bok (xe_cy (XE sc) 221) b_X12_feed_27 := by show xm_bok cX12_feed _; unfold xm_bok; decide +kernel
def b_X12_feed_31 : List (Nat × Jvm.ClassFile.Instr × Nat) := [(31, .iconst 0, 1)]
set_option maxRecDepth 20000 in
theorem k_X12_feed_31 {sc : xm_Sc} : xm_bok (xe_cy (XE sc) 221) b_X12_feed_31 := by show xm_bok cX12_feed _; unfold xm_bok; decide +kernel
def b_X12_feed_32 : List (Nat × Jvm.ClassFile.Instr × Nat) := [(32, .putfield 205, 3), (35, .aload_n 0, 1), (36, .getfield 205, 3), (39, .ifCond .le 5, 3)]
set_option maxRecDepth 20000 in
theorem k_X12_feed_32 {sc : xm_Sc} : xm_bok (xe_cy (XE sc) 221) b_X12_feed_32 := by show xm_bok cX12_feed _; unfold xm_bok; decide +kernel
def b_X12_feed_42 : List (Nat × Jvm.ClassFile.Instr × Nat) := [(42, .iconst 0, 1), (43, .ireturn, 1)]
set_option maxRecDepth 20000 in
theorem k_X12_feed_42 {sc : xm_Sc} : xm_bok (xe_cy (XE sc) 221) b_X12_feed_42 := by show xm_bok cX12_feed _; unfold xm_bok; decide +kernel
def b_X12_feed_44 : List (Nat × Jvm.ClassFile.Instr × Nat) := [(44, .iconst 0, 1), (45, .istore 4, 2)]
set_option maxRecDepth 20000 in
theorem k_X12_feed_44 {sc : xm_Sc} : xm_bok (xe_cy (XE sc) 221) b_X12_feed_44 := by show xm_bok cX12_feed _; unfold xm_bok; decide +kernel
def b_X12_feed_47 : List (Nat × Jvm.ClassFile.Instr × Nat) := [(47, .iload 4, 2), (49, .iload_n 1, 1), (50, .if_icmp .ge 40, 3)]
set_option maxRecDepth 20000 in
theorem k_X12_feed_47 {sc : xm_Sc} : xm_bok (xe_cy (XE sc) 221) b_X12_feed_47 := by show xm_bok cX12_feed _; unfold xm_bok; decide +kernel
def b_X12_feed_53 : List (Nat × Jvm.ClassFile.Instr × Nat) := [(53, .aload_n 0, 1), (54, .getfield 7, 3), (57, .aload_n 0, 1), (58, .getfield 215, 3), (61, .lload_n 2, 1), (62, .bipush 8, 2), (64, .iload 4, 2), (66, .imul, 1), (67, .lshr, 1), (68, .ldc2_w 218, 3), (71, .land, 1), (72, .l2i, 1), (73, .iastore, 1), (74, .aload_n 0, 1), (75, .dup, 1), (76, .getfield 215, 3), (79, .iconst 1, 1), (80, .iadd, 1), (81, .putfield 215, 3), (84, .iinc 4 1, 3), (87, .goto (-40), 3)]
set_option maxRecDepth 20000 in
theorem k_X12_feed_53 {sc : xm_Sc} : xm_bok (xe_cy (XE sc) 221) b_X12_feed_53 := by show xm_bok cX12_feed _; unfold xm_bok; decide +kernel
def b_X12_feed_90 : List (Nat × Jvm.ClassFile.Instr × Nat) := [(90, .aload_n 0, 1), (91, .getfield 215, 3), (94, .ireturn, 1)]
set_option maxRecDepth 20000 in
theorem k_X12_feed_90 {sc : xm_Sc} : xm_bok (xe_cy (XE sc) 221) b_X12_feed_90 := by show xm_bok cX12_feed _; unfold xm_bok; decide +kernel
set_option maxRecDepth 20000 in
theorem cn_221 {sc : xm_Sc} : xe_cn (XE sc) 221 = 12 := rfl
set_option maxRecDepth 20000 in
theorem ml_221 {sc : xm_Sc} : xe_ml (XE sc) 221 = 5 := rfl
set_option maxRecDepth 20000 in
theorem ry_221 {sc : xm_Sc} : xe_ry (XE sc) 221 = (some .int) := rfl
set_option maxRecDepth 20000 in
theorem is_221 {sc : xm_Sc} : xe_is (XE sc) 221 = false := rfl
set_option maxRecDepth 20000 in
theorem np_221 {sc : xm_Sc} : xe_np (XE sc) 221 = 2 := rfl
/- method 274: X12_out -/
def b_X12_out_0 : List (Nat × Jvm.ClassFile.Instr × Nat) := [(0, .aload_n 0, 1), (1, .iload_n 1, 1), (2, .iconst 0, 1), (3, .aload_n 0, 1), (4, .getfield 220, 3), (7, .iconst 1, 1), (8, .isub, 1), (9, .invokestatic 211, 3)]
set_option maxRecDepth 20000 in
theorem k_X12_out_0 {sc : xm_Sc} : xm_bok (xe_cy (XE sc) 274) b_X12_out_0 := by show xm_bok cX12_out _; unfold xm_bok; decide +kernel
def b_X12_out_12 : List (Nat × Jvm.ClassFile.Instr × Nat) := [(12, .ifCond .eq 7, 3)]
set_option maxRecDepth 20000 in
theorem k_X12_out_12 {sc : xm_Sc} : xm_bok (xe_cy (XE sc) 274) b_X12_out_12 := by show xm_bok cX12_out _; unfold xm_bok; decide +kernel
def b_X12_out_15 : List (Nat × Jvm.ClassFile.Instr × Nat) := [(15, .iconst 0, 1), (16, .goto 4, 3)]
set_option maxRecDepth 20000 in
theorem k_X12_out_15 {sc : xm_Sc} : xm_bok (xe_cy (XE sc) 274) b_X12_out_15 := by show xm_bok cX12_out _; unfold xm_bok; decide +kernel
def b_X12_out_19 : List (Nat × Jvm.ClassFile.Instr × Nat) := [(19, .iconst 1, 1)]
set_option maxRecDepth 20000 in
theorem k_X12_out_19 {sc : xm_Sc} : xm_bok (xe_cy (XE sc) 274) b_X12_out_19 := by show xm_bok cX12_out _; unfold xm_bok; decide +kernel
def b_X12_out_20 : List (Nat × Jvm.ClassFile.Instr × Nat) := [(20, .putfield 205, 3), (23, .lconst 0, 1), (24, .lstore_n 2, 1), (25, .bipush 7, 2), (27, .istore 4, 2)]
set_option maxRecDepth 20000 in
theorem k_X12_out_20 {sc : xm_Sc} : xm_bok (xe_cy (XE sc) 274) b_X12_out_20 := by show xm_bok cX12_out _; unfold xm_bok; decide +kernel
def b_X12_out_29 : List (Nat × Jvm.ClassFile.Instr × Nat) := [(29, .iload 4, 2), (31, .ifCond .lt 47, 3)]
set_option maxRecDepth 20000 in
theorem k_X12_out_29 {sc : xm_Sc} : xm_bok (xe_cy (XE sc) 274) b_X12_out_29 := by show xm_bok cX12_out _; unfold xm_bok; decide +kernel
def b_X12_out_34 : List (Nat × Jvm.ClassFile.Instr × Nat) := [(34, .aload_n 0, 1), (35, .getfield 205, 3), (38, .ifCond .ne 40, 3)]
set_option maxRecDepth 20000 in
theorem k_X12_out_34 {sc : xm_Sc} : xm_bok (xe_cy (XE sc) 274) b_X12_out_34 := by show xm_bok cX12_out _; unfold xm_bok; decide +kernel
def b_X12_out_41 : List (Nat × Jvm.ClassFile.Instr × Nat) := [(41, .lload_n 2, 1), (42, .bipush 8, 2), (44, .lshl, 1), (45, .iload_n 1, 1), (46, .iload 4, 2), (48, .iadd, 1), (49, .aload_n 0, 1), (50, .getfield 220, 3), (53, .if_icmp .ge 15, 3)]
set_option maxRecDepth 20000 in
theorem k_X12_out_41 {sc : xm_Sc} : xm_bok (xe_cy (XE sc) 274) b_X12_out_41 := by show xm_bok cX12_out _; unfold xm_bok; decide +kernel
def b_X12_out_56 : List (Nat × Jvm.ClassFile.Instr × Nat) := [(56, .aload_n 0, 1), (57, .getfield 13, 3), (60, .iload_n 1, 1), (61, .iload 4, 2), (63, .iadd, 1), (64, .iaload, 1), (65, .goto 4, 3)]
set_option maxRecDepth 20000 in
theorem k_X12_out_56 {sc : xm_Sc} : xm_bok (xe_cy (XE sc) 274) b_X12_out_56 := by show xm_bok cX12_out _; unfold xm_bok; decide +kernel
def b_X12_out_68 : List (Nat × Jvm.ClassFile.Instr × Nat) := [(68, .iconst 0, 1)]
set_option maxRecDepth 20000 in
theorem k_X12_out_68 {sc : xm_Sc} : xm_bok (xe_cy (XE sc) 274) b_X12_out_68 := by show xm_bok cX12_out _; unfold xm_bok; decide +kernel
def b_X12_out_69 : List (Nat × Jvm.ClassFile.Instr × Nat) := [(69, .i2l, 1), (70, .lor, 1), (71, .lstore_n 2, 1), (72, .iinc 4 (-1), 3), (75, .goto (-46), 3)]
set_option maxRecDepth 20000 in
theorem k_X12_out_69 {sc : xm_Sc} : xm_bok (xe_cy (XE sc) 274) b_X12_out_69 := by show xm_bok cX12_out _; unfold xm_bok; decide +kernel
def b_X12_out_78 : List (Nat × Jvm.ClassFile.Instr × Nat) := [(78, .lload_n 2, 1), (79, .lreturn, 1)]
set_option maxRecDepth 20000 in
theorem k_X12_out_78 {sc : xm_Sc} : xm_bok (xe_cy (XE sc) 274) b_X12_out_78 := by show xm_bok cX12_out _; unfold xm_bok; decide +kernel
set_option maxRecDepth 20000 in
theorem cn_274 {sc : xm_Sc} : xe_cn (XE sc) 274 = 12 := rfl
set_option maxRecDepth 20000 in
theorem ml_274 {sc : xm_Sc} : xe_ml (XE sc) 274 = 5 := rfl
set_option maxRecDepth 20000 in
theorem ry_274 {sc : xm_Sc} : xe_ry (XE sc) 274 = (some .long) := rfl
set_option maxRecDepth 20000 in
theorem is_274 {sc : xm_Sc} : xe_is (XE sc) 274 = false := rfl
set_option maxRecDepth 20000 in
theorem np_274 {sc : xm_Sc} : xe_np (XE sc) 274 = 1 := rfl
/- method 309: X12_thrown -/
def b_X12_thrown_0 : List (Nat × Jvm.ClassFile.Instr × Nat) := [(0, .aload_n 0, 1), (1, .getfield 205, 3), (4, .ireturn, 1)]
set_option maxRecDepth 20000 in
theorem k_X12_thrown_0 {sc : xm_Sc} : xm_bok (xe_cy (XE sc) 309) b_X12_thrown_0 := by show xm_bok cX12_thrown _; unfold xm_bok; decide +kernel
set_option maxRecDepth 20000 in
theorem cn_309 {sc : xm_Sc} : xe_cn (XE sc) 309 = 12 := rfl
set_option maxRecDepth 20000 in
theorem ml_309 {sc : xm_Sc} : xe_ml (XE sc) 309 = 1 := rfl
set_option maxRecDepth 20000 in
theorem ry_309 {sc : xm_Sc} : xe_ry (XE sc) 309 = (some .int) := rfl
set_option maxRecDepth 20000 in
theorem is_309 {sc : xm_Sc} : xe_is (XE sc) 309 = false := rfl
set_option maxRecDepth 20000 in
theorem np_309 {sc : xm_Sc} : xe_np (XE sc) 309 = 0 := rfl
/- method 318: X12_wipe -/
def b_X12_wipe_0 : List (Nat × Jvm.ClassFile.Instr × Nat) := [(0, .aload_n 0, 1), (1, .iconst 0, 1), (2, .putfield 205, 3), (5, .aload_n 0, 1), (6, .getfield 215, 3), (9, .istore_n 1, 1), (10, .aload_n 0, 1), (11, .iconst 0, 1), (12, .putfield 215, 3), (15, .iload_n 1, 1), (16, .ireturn, 1)]
set_option maxRecDepth 20000 in
theorem k_X12_wipe_0 {sc : xm_Sc} : xm_bok (xe_cy (XE sc) 318) b_X12_wipe_0 := by show xm_bok cX12_wipe _; unfold xm_bok; decide +kernel
set_option maxRecDepth 20000 in
theorem cn_318 {sc : xm_Sc} : xe_cn (XE sc) 318 = 12 := rfl
set_option maxRecDepth 20000 in
theorem ml_318 {sc : xm_Sc} : xe_ml (XE sc) 318 = 2 := rfl
set_option maxRecDepth 20000 in
theorem ry_318 {sc : xm_Sc} : xe_ry (XE sc) 318 = (some .int) := rfl
set_option maxRecDepth 20000 in
theorem is_318 {sc : xm_Sc} : xe_is (XE sc) 318 = false := rfl
set_option maxRecDepth 20000 in
theorem np_318 {sc : xm_Sc} : xe_np (XE sc) 318 = 0 := rfl
/- method 319: X12_within -/
def b_X12_within_0 : List (Nat × Jvm.ClassFile.Instr × Nat) := [(0, .iload_n 0, 1), (1, .iload_n 1, 1), (2, .if_icmp .lt 12, 3)]
set_option maxRecDepth 20000 in
theorem k_X12_within_0 {sc : xm_Sc} : xm_bok (xe_cy (XE sc) 319) b_X12_within_0 := by show xm_bok cX12_within _; unfold xm_bok; decide +kernel
def b_X12_within_5 : List (Nat × Jvm.ClassFile.Instr × Nat) := [(5, .iload_n 0, 1), (6, .iload_n 2, 1), (7, .if_icmp .gt 7, 3)]
set_option maxRecDepth 20000 in
theorem k_X12_within_5 {sc : xm_Sc} : xm_bok (xe_cy (XE sc) 319) b_X12_within_5 := by show xm_bok cX12_within _; unfold xm_bok; decide +kernel
def b_X12_within_10 : List (Nat × Jvm.ClassFile.Instr × Nat) := [(10, .iconst 1, 1), (11, .goto 4, 3)]
set_option maxRecDepth 20000 in
theorem k_X12_within_10 {sc : xm_Sc} : xm_bok (xe_cy (XE sc) 319) b_X12_within_10 := by show xm_bok cX12_within _; unfold xm_bok; decide +kernel
def b_X12_within_14 : List (Nat × Jvm.ClassFile.Instr × Nat) := [(14, .iconst 0, 1)]
set_option maxRecDepth 20000 in
theorem k_X12_within_14 {sc : xm_Sc} : xm_bok (xe_cy (XE sc) 319) b_X12_within_14 := by show xm_bok cX12_within _; unfold xm_bok; decide +kernel
def b_X12_within_15 : List (Nat × Jvm.ClassFile.Instr × Nat) := [(15, .ireturn, 1)]
set_option maxRecDepth 20000 in
theorem k_X12_within_15 {sc : xm_Sc} : xm_bok (xe_cy (XE sc) 319) b_X12_within_15 := by show xm_bok cX12_within _; unfold xm_bok; decide +kernel
set_option maxRecDepth 20000 in
theorem cn_319 {sc : xm_Sc} : xe_cn (XE sc) 319 = 12 := rfl
set_option maxRecDepth 20000 in
theorem ml_319 {sc : xm_Sc} : xe_ml (XE sc) 319 = 3 := rfl
set_option maxRecDepth 20000 in
theorem ry_319 {sc : xm_Sc} : xe_ry (XE sc) 319 = (some .boolean) := rfl
set_option maxRecDepth 20000 in
theorem is_319 {sc : xm_Sc} : xe_is (XE sc) 319 = true := rfl
set_option maxRecDepth 20000 in
theorem np_319 {sc : xm_Sc} : xe_np (XE sc) 319 = 3 := rfl
set_option maxRecDepth 20000 in
theorem fl_8_9 {sc : xm_Sc} : xe_fl (XE sc) 8 9 = some (8, 0) := rfl
set_option maxRecDepth 20000 in
theorem fl_8_15 {sc : xm_Sc} : xe_fl (XE sc) 8 15 = some (8, 1) := rfl
set_option maxRecDepth 20000 in
theorem fl_8_19 {sc : xm_Sc} : xe_fl (XE sc) 8 19 = some (8, 3) := rfl
set_option maxRecDepth 20000 in
theorem fl_8_22 {sc : xm_Sc} : xe_fl (XE sc) 8 22 = some (8, 2) := rfl
set_option maxRecDepth 20000 in
theorem lk_8_26 {sc : xm_Sc} : xe_lk (XE sc) 8 26 = some 128 := rfl
set_option maxRecDepth 20000 in
theorem lk_8_29 {sc : xm_Sc} : xe_lk (XE sc) 8 29 = some 330 := rfl
set_option maxRecDepth 20000 in
theorem lk_8_35 {sc : xm_Sc} : xe_lk (XE sc) 8 35 = some 126 := rfl
set_option maxRecDepth 20000 in
theorem lk_8_39 {sc : xm_Sc} : xe_lk (XE sc) 8 39 = some 127 := rfl
set_option maxRecDepth 20000 in
theorem lk_8_42 {sc : xm_Sc} : xe_lk (XE sc) 8 42 = some 133 := rfl
set_option maxRecDepth 20000 in
theorem lk_8_46 {sc : xm_Sc} : xe_lk (XE sc) 8 46 = some 134 := rfl
set_option maxRecDepth 20000 in
theorem lk_8_49 {sc : xm_Sc} : xe_lk (XE sc) 8 49 = some 132 := rfl
set_option maxRecDepth 20000 in
theorem lk_8_52 {sc : xm_Sc} : xe_lk (XE sc) 8 52 = some 135 := rfl
set_option maxRecDepth 20000 in
theorem fl_11_10 {sc : xm_Sc} : xe_fl (XE sc) 11 10 = some (11, 0) := rfl
set_option maxRecDepth 20000 in
theorem fl_11_16 {sc : xm_Sc} : xe_fl (XE sc) 11 16 = some (11, 1) := rfl
set_option maxRecDepth 20000 in
theorem fl_11_19 {sc : xm_Sc} : xe_fl (XE sc) 11 19 = some (11, 2) := rfl
set_option maxRecDepth 20000 in
theorem fl_11_32 {sc : xm_Sc} : xe_fl (XE sc) 11 32 = some (11, 4) := rfl
set_option maxRecDepth 20000 in
theorem fl_11_41 {sc : xm_Sc} : xe_fl (XE sc) 11 41 = some (11, 5) := rfl
set_option maxRecDepth 20000 in
theorem fl_11_48 {sc : xm_Sc} : xe_fl (XE sc) 11 48 = some (11, 6) := rfl
set_option maxRecDepth 20000 in
theorem fl_11_57 {sc : xm_Sc} : xe_fl (XE sc) 11 57 = some (11, 7) := rfl
set_option maxRecDepth 20000 in
theorem fl_11_64 {sc : xm_Sc} : xe_fl (XE sc) 11 64 = some (11, 8) := rfl
set_option maxRecDepth 20000 in
theorem fl_11_71 {sc : xm_Sc} : xe_fl (XE sc) 11 71 = some (11, 9) := rfl
set_option maxRecDepth 20000 in
theorem fl_11_75 {sc : xm_Sc} : xe_fl (XE sc) 11 75 = some (11, 10) := rfl
set_option maxRecDepth 20000 in
theorem fl_11_85 {sc : xm_Sc} : xe_fl (XE sc) 11 85 = some (8, 1) := rfl
set_option maxRecDepth 20000 in
theorem fl_11_105 {sc : xm_Sc} : xe_fl (XE sc) 11 105 = some (11, 11) := rfl
set_option maxRecDepth 20000 in
theorem fl_11_119 {sc : xm_Sc} : xe_fl (XE sc) 11 119 = some (6, 0) := rfl
set_option maxRecDepth 20000 in
theorem fl_11_128 {sc : xm_Sc} : xe_fl (XE sc) 11 128 = some (6, 13) := rfl
set_option maxRecDepth 20000 in
theorem fl_11_132 {sc : xm_Sc} : xe_fl (XE sc) 11 132 = some (6, 6) := rfl
set_option maxRecDepth 20000 in
theorem fl_11_150 {sc : xm_Sc} : xe_fl (XE sc) 11 150 = some (6, 1) := rfl
set_option maxRecDepth 20000 in
theorem fl_11_152 {sc : xm_Sc} : xe_fl (XE sc) 11 152 = some (6, 4) := rfl
set_option maxRecDepth 20000 in
theorem fl_11_173 {sc : xm_Sc} : xe_fl (XE sc) 11 173 = some (11, 12) := rfl
set_option maxRecDepth 20000 in
theorem fl_11_176 {sc : xm_Sc} : xe_fl (XE sc) 11 176 = some (4, 0) := rfl
set_option maxRecDepth 20000 in
theorem fl_11_179 {sc : xm_Sc} : xe_fl (XE sc) 11 179 = some (11, 13) := rfl
set_option maxRecDepth 20000 in
theorem fl_11_182 {sc : xm_Sc} : xe_fl (XE sc) 11 182 = some (4, 1) := rfl
set_option maxRecDepth 20000 in
theorem fl_11_185 {sc : xm_Sc} : xe_fl (XE sc) 11 185 = some (11, 14) := rfl
set_option maxRecDepth 20000 in
theorem fl_11_191 {sc : xm_Sc} : xe_fl (XE sc) 11 191 = some (11, 15) := rfl
set_option maxRecDepth 20000 in
theorem fl_11_210 {sc : xm_Sc} : xe_fl (XE sc) 11 210 = some (6, 2) := rfl
set_option maxRecDepth 20000 in
theorem fl_11_213 {sc : xm_Sc} : xe_fl (XE sc) 11 213 = some (6, 3) := rfl
set_option maxRecDepth 20000 in
theorem fl_11_216 {sc : xm_Sc} : xe_fl (XE sc) 11 216 = some (6, 8) := rfl
set_option maxRecDepth 20000 in
theorem fl_11_219 {sc : xm_Sc} : xe_fl (XE sc) 11 219 = some (6, 9) := rfl
set_option maxRecDepth 20000 in
theorem fl_11_222 {sc : xm_Sc} : xe_fl (XE sc) 11 222 = some (6, 10) := rfl
set_option maxRecDepth 20000 in
theorem fl_11_240 {sc : xm_Sc} : xe_fl (XE sc) 11 240 = some (10, 7) := rfl
set_option maxRecDepth 20000 in
theorem fl_11_251 {sc : xm_Sc} : xe_fl (XE sc) 11 251 = some (9, 0) := rfl
set_option maxRecDepth 20000 in
theorem fl_11_254 {sc : xm_Sc} : xe_fl (XE sc) 11 254 = some (11, 16) := rfl
set_option maxRecDepth 20000 in
theorem fl_11_255 {sc : xm_Sc} : xe_fl (XE sc) 11 255 = some (8, 2) := rfl
set_option maxRecDepth 20000 in
theorem fl_11_276 {sc : xm_Sc} : xe_fl (XE sc) 11 276 = some (6, 12) := rfl
set_option maxRecDepth 20000 in
theorem fl_11_292 {sc : xm_Sc} : xe_fl (XE sc) 11 292 = some (6, 14) := rfl
set_option maxRecDepth 20000 in
theorem ki_11_146 {sc : xm_Sc} : xe_kI (XE sc) 11 146 = some 1000000 := rfl
set_option maxRecDepth 20000 in
theorem lk_11_94 {sc : xm_Sc} : xe_lk (XE sc) 11 94 = some 133 := rfl
set_option maxRecDepth 20000 in
theorem lk_11_98 {sc : xm_Sc} : xe_lk (XE sc) 11 98 = some 128 := rfl
set_option maxRecDepth 20000 in
theorem lk_11_101 {sc : xm_Sc} : xe_lk (XE sc) 11 101 = some 74 := rfl
set_option maxRecDepth 20000 in
theorem lk_11_108 {sc : xm_Sc} : xe_lk (XE sc) 11 108 = some 107 := rfl
set_option maxRecDepth 20000 in
theorem lk_11_111 {sc : xm_Sc} : xe_lk (XE sc) 11 111 = some 106 := rfl
set_option maxRecDepth 20000 in
theorem lk_11_114 {sc : xm_Sc} : xe_lk (XE sc) 11 114 = some 121 := rfl
set_option maxRecDepth 20000 in
theorem lk_11_124 {sc : xm_Sc} : xe_lk (XE sc) 11 124 = some 197 := rfl
set_option maxRecDepth 20000 in
theorem lk_11_136 {sc : xm_Sc} : xe_lk (XE sc) 11 136 = some 168 := rfl
set_option maxRecDepth 20000 in
theorem lk_11_142 {sc : xm_Sc} : xe_lk (XE sc) 11 142 = some 103 := rfl
set_option maxRecDepth 20000 in
theorem lk_11_147 {sc : xm_Sc} : xe_lk (XE sc) 11 147 = some 101 := rfl
set_option maxRecDepth 20000 in
theorem lk_11_155 {sc : xm_Sc} : xe_lk (XE sc) 11 155 = some 9 := rfl
set_option maxRecDepth 20000 in
theorem lk_11_158 {sc : xm_Sc} : xe_lk (XE sc) 11 158 = some 88 := rfl
set_option maxRecDepth 20000 in
theorem lk_11_162 {sc : xm_Sc} : xe_lk (XE sc) 11 162 = some 110 := rfl
set_option maxRecDepth 20000 in
theorem lk_11_166 {sc : xm_Sc} : xe_lk (XE sc) 11 166 = some 111 := rfl
set_option maxRecDepth 20000 in
theorem lk_11_169 {sc : xm_Sc} : xe_lk (XE sc) 11 169 = some 84 := rfl
set_option maxRecDepth 20000 in
theorem lk_11_188 {sc : xm_Sc} : xe_lk (XE sc) 11 188 = some 87 := rfl
set_option maxRecDepth 20000 in
theorem lk_11_194 {sc : xm_Sc} : xe_lk (XE sc) 11 194 = some 186 := rfl
set_option maxRecDepth 20000 in
theorem lk_11_197 {sc : xm_Sc} : xe_lk (XE sc) 11 197 = some 129 := rfl
set_option maxRecDepth 20000 in
theorem lk_11_201 {sc : xm_Sc} : xe_lk (XE sc) 11 201 = some 180 := rfl
set_option maxRecDepth 20000 in
theorem lk_11_227 {sc : xm_Sc} : xe_lk (XE sc) 11 227 = some 123 := rfl
set_option maxRecDepth 20000 in
theorem lk_11_231 {sc : xm_Sc} : xe_lk (XE sc) 11 231 = some 112 := rfl
set_option maxRecDepth 20000 in
theorem lk_11_235 {sc : xm_Sc} : xe_lk (XE sc) 11 235 = some 125 := rfl
set_option maxRecDepth 20000 in
theorem lk_11_243 {sc : xm_Sc} : xe_lk (XE sc) 11 243 = some 176 := rfl
set_option maxRecDepth 20000 in
theorem lk_11_247 {sc : xm_Sc} : xe_lk (XE sc) 11 247 = some 160 := rfl
set_option maxRecDepth 20000 in
theorem lk_11_259 {sc : xm_Sc} : xe_lk (XE sc) 11 259 = some 115 := rfl
set_option maxRecDepth 20000 in
theorem lk_11_262 {sc : xm_Sc} : xe_lk (XE sc) 11 262 = some 191 := rfl
set_option maxRecDepth 20000 in
theorem lk_11_265 {sc : xm_Sc} : xe_lk (XE sc) 11 265 = some 177 := rfl
set_option maxRecDepth 20000 in
theorem lk_11_269 {sc : xm_Sc} : xe_lk (XE sc) 11 269 = some 192 := rfl
set_option maxRecDepth 20000 in
theorem lk_11_272 {sc : xm_Sc} : xe_lk (XE sc) 11 272 = some 174 := rfl
set_option maxRecDepth 20000 in
theorem lk_11_281 {sc : xm_Sc} : xe_lk (XE sc) 11 281 = some 126 := rfl
set_option maxRecDepth 20000 in
theorem lk_11_286 {sc : xm_Sc} : xe_lk (XE sc) 11 286 = some 183 := rfl
set_option maxRecDepth 20000 in
theorem lk_11_289 {sc : xm_Sc} : xe_lk (XE sc) 11 289 = some 102 := rfl
set_option maxRecDepth 20000 in
theorem fl_12_7 {sc : xm_Sc} : xe_fl (XE sc) 12 7 = some (12, 1) := rfl
set_option maxRecDepth 20000 in
theorem fl_12_13 {sc : xm_Sc} : xe_fl (XE sc) 12 13 = some (12, 3) := rfl
set_option maxRecDepth 20000 in
theorem fl_12_16 {sc : xm_Sc} : xe_fl (XE sc) 12 16 = some (12, 6) := rfl
set_option maxRecDepth 20000 in
theorem fl_12_19 {sc : xm_Sc} : xe_fl (XE sc) 12 19 = some (12, 7) := rfl
set_option maxRecDepth 20000 in
theorem fl_12_22 {sc : xm_Sc} : xe_fl (XE sc) 12 22 = some (12, 8) := rfl
set_option maxRecDepth 20000 in
theorem fl_12_25 {sc : xm_Sc} : xe_fl (XE sc) 12 25 = some (12, 9) := rfl
set_option maxRecDepth 20000 in
theorem fl_12_28 {sc : xm_Sc} : xe_fl (XE sc) 12 28 = some (12, 10) := rfl
set_option maxRecDepth 20000 in
theorem fl_12_31 {sc : xm_Sc} : xe_fl (XE sc) 12 31 = some (12, 11) := rfl
set_option maxRecDepth 20000 in
theorem fl_12_34 {sc : xm_Sc} : xe_fl (XE sc) 12 34 = some (12, 12) := rfl
set_option maxRecDepth 20000 in
theorem fl_12_37 {sc : xm_Sc} : xe_fl (XE sc) 12 37 = some (12, 13) := rfl
set_option maxRecDepth 20000 in
theorem fl_12_40 {sc : xm_Sc} : xe_fl (XE sc) 12 40 = some (12, 15) := rfl
set_option maxRecDepth 20000 in
theorem fl_12_43 {sc : xm_Sc} : xe_fl (XE sc) 12 43 = some (12, 16) := rfl
set_option maxRecDepth 20000 in
theorem fl_12_48 {sc : xm_Sc} : xe_fl (XE sc) 12 48 = some (12, 17) := rfl
set_option maxRecDepth 20000 in
theorem fl_12_51 {sc : xm_Sc} : xe_fl (XE sc) 12 51 = some (12, 18) := rfl
set_option maxRecDepth 20000 in
theorem fl_12_54 {sc : xm_Sc} : xe_fl (XE sc) 12 54 = some (12, 20) := rfl
set_option maxRecDepth 20000 in
theorem fl_12_57 {sc : xm_Sc} : xe_fl (XE sc) 12 57 = some (12, 21) := rfl
set_option maxRecDepth 20000 in
theorem fl_12_60 {sc : xm_Sc} : xe_fl (XE sc) 12 60 = some (12, 22) := rfl
set_option maxRecDepth 20000 in
theorem fl_12_63 {sc : xm_Sc} : xe_fl (XE sc) 12 63 = some (12, 23) := rfl
set_option maxRecDepth 20000 in
theorem fl_12_66 {sc : xm_Sc} : xe_fl (XE sc) 12 66 = some (12, 24) := rfl
set_option maxRecDepth 20000 in
theorem fl_12_69 {sc : xm_Sc} : xe_fl (XE sc) 12 69 = some (12, 25) := rfl
set_option maxRecDepth 20000 in
theorem fl_12_72 {sc : xm_Sc} : xe_fl (XE sc) 12 72 = some (12, 26) := rfl
set_option maxRecDepth 20000 in
theorem fl_12_75 {sc : xm_Sc} : xe_fl (XE sc) 12 75 = some (12, 27) := rfl
set_option maxRecDepth 20000 in
theorem fl_12_78 {sc : xm_Sc} : xe_fl (XE sc) 12 78 = some (12, 28) := rfl
set_option maxRecDepth 20000 in
theorem fl_12_82 {sc : xm_Sc} : xe_fl (XE sc) 12 82 = some (12, 29) := rfl
set_option maxRecDepth 20000 in
theorem fl_12_85 {sc : xm_Sc} : xe_fl (XE sc) 12 85 = some (12, 30) := rfl
set_option maxRecDepth 20000 in
theorem fl_12_88 {sc : xm_Sc} : xe_fl (XE sc) 12 88 = some (12, 31) := rfl
set_option maxRecDepth 20000 in
theorem fl_12_91 {sc : xm_Sc} : xe_fl (XE sc) 12 91 = some (12, 41) := rfl
set_option maxRecDepth 20000 in
theorem fl_12_94 {sc : xm_Sc} : xe_fl (XE sc) 12 94 = some (12, 42) := rfl
set_option maxRecDepth 20000 in
theorem fl_12_97 {sc : xm_Sc} : xe_fl (XE sc) 12 97 = some (12, 43) := rfl
set_option maxRecDepth 20000 in
theorem fl_12_100 {sc : xm_Sc} : xe_fl (XE sc) 12 100 = some (12, 44) := rfl
set_option maxRecDepth 20000 in
theorem fl_12_103 {sc : xm_Sc} : xe_fl (XE sc) 12 103 = some (12, 45) := rfl
set_option maxRecDepth 20000 in
theorem fl_12_106 {sc : xm_Sc} : xe_fl (XE sc) 12 106 = some (12, 46) := rfl
set_option maxRecDepth 20000 in
theorem fl_12_109 {sc : xm_Sc} : xe_fl (XE sc) 12 109 = some (12, 47) := rfl
set_option maxRecDepth 20000 in
theorem fl_12_112 {sc : xm_Sc} : xe_fl (XE sc) 12 112 = some (12, 48) := rfl
set_option maxRecDepth 20000 in
theorem fl_12_115 {sc : xm_Sc} : xe_fl (XE sc) 12 115 = some (12, 49) := rfl
set_option maxRecDepth 20000 in
theorem fl_12_118 {sc : xm_Sc} : xe_fl (XE sc) 12 118 = some (12, 51) := rfl
set_option maxRecDepth 20000 in
theorem fl_12_121 {sc : xm_Sc} : xe_fl (XE sc) 12 121 = some (12, 52) := rfl
set_option maxRecDepth 20000 in
theorem fl_12_124 {sc : xm_Sc} : xe_fl (XE sc) 12 124 = some (12, 53) := rfl
set_option maxRecDepth 20000 in
theorem fl_12_127 {sc : xm_Sc} : xe_fl (XE sc) 12 127 = some (12, 54) := rfl
set_option maxRecDepth 20000 in
theorem fl_12_130 {sc : xm_Sc} : xe_fl (XE sc) 12 130 = some (12, 55) := rfl
set_option maxRecDepth 20000 in
theorem fl_12_134 {sc : xm_Sc} : xe_fl (XE sc) 12 134 = some (12, 56) := rfl
set_option maxRecDepth 20000 in
theorem fl_12_137 {sc : xm_Sc} : xe_fl (XE sc) 12 137 = some (12, 57) := rfl
set_option maxRecDepth 20000 in
theorem fl_12_141 {sc : xm_Sc} : xe_fl (XE sc) 12 141 = some (12, 58) := rfl
set_option maxRecDepth 20000 in
theorem fl_12_145 {sc : xm_Sc} : xe_fl (XE sc) 12 145 = some (12, 59) := rfl
set_option maxRecDepth 20000 in
theorem fl_12_148 {sc : xm_Sc} : xe_fl (XE sc) 12 148 = some (12, 60) := rfl
set_option maxRecDepth 20000 in
theorem fl_12_151 {sc : xm_Sc} : xe_fl (XE sc) 12 151 = some (12, 62) := rfl
set_option maxRecDepth 20000 in
theorem fl_12_154 {sc : xm_Sc} : xe_fl (XE sc) 12 154 = some (12, 63) := rfl
set_option maxRecDepth 20000 in
theorem fl_12_157 {sc : xm_Sc} : xe_fl (XE sc) 12 157 = some (12, 64) := rfl
set_option maxRecDepth 20000 in
theorem fl_12_160 {sc : xm_Sc} : xe_fl (XE sc) 12 160 = some (12, 68) := rfl
set_option maxRecDepth 20000 in
theorem fl_12_163 {sc : xm_Sc} : xe_fl (XE sc) 12 163 = some (12, 69) := rfl
set_option maxRecDepth 20000 in
theorem fl_12_166 {sc : xm_Sc} : xe_fl (XE sc) 12 166 = some (12, 70) := rfl
set_option maxRecDepth 20000 in
theorem fl_12_169 {sc : xm_Sc} : xe_fl (XE sc) 12 169 = some (12, 71) := rfl
set_option maxRecDepth 20000 in
theorem fl_12_172 {sc : xm_Sc} : xe_fl (XE sc) 12 172 = some (12, 72) := rfl
set_option maxRecDepth 20000 in
theorem fl_12_175 {sc : xm_Sc} : xe_fl (XE sc) 12 175 = some (12, 73) := rfl
set_option maxRecDepth 20000 in
theorem fl_12_178 {sc : xm_Sc} : xe_fl (XE sc) 12 178 = some (12, 86) := rfl
set_option maxRecDepth 20000 in
theorem fl_12_181 {sc : xm_Sc} : xe_fl (XE sc) 12 181 = some (12, 87) := rfl
set_option maxRecDepth 20000 in
theorem fl_12_184 {sc : xm_Sc} : xe_fl (XE sc) 12 184 = some (12, 89) := rfl
set_option maxRecDepth 20000 in
theorem fl_12_187 {sc : xm_Sc} : xe_fl (XE sc) 12 187 = some (12, 90) := rfl
set_option maxRecDepth 20000 in
theorem fl_12_190 {sc : xm_Sc} : xe_fl (XE sc) 12 190 = some (12, 91) := rfl
set_option maxRecDepth 20000 in
theorem fl_12_193 {sc : xm_Sc} : xe_fl (XE sc) 12 193 = some (12, 93) := rfl
set_option maxRecDepth 20000 in
theorem fl_12_205 {sc : xm_Sc} : xe_fl (XE sc) 12 205 = some (12, 0) := rfl
set_option maxRecDepth 20000 in
theorem fl_12_215 {sc : xm_Sc} : xe_fl (XE sc) 12 215 = some (12, 2) := rfl
set_option maxRecDepth 20000 in
theorem fl_12_220 {sc : xm_Sc} : xe_fl (XE sc) 12 220 = some (12, 4) := rfl
set_option maxRecDepth 20000 in
theorem fl_12_223 {sc : xm_Sc} : xe_fl (XE sc) 12 223 = some (12, 5) := rfl
set_option maxRecDepth 20000 in
theorem fl_12_226 {sc : xm_Sc} : xe_fl (XE sc) 12 226 = some (12, 14) := rfl
set_option maxRecDepth 20000 in
theorem fl_12_233 {sc : xm_Sc} : xe_fl (XE sc) 12 233 = some (12, 50) := rfl
set_option maxRecDepth 20000 in
theorem fl_12_262 {sc : xm_Sc} : xe_fl (XE sc) 12 262 = some (12, 40) := rfl
set_option maxRecDepth 20000 in
theorem fl_12_289 {sc : xm_Sc} : xe_fl (XE sc) 12 289 = some (12, 61) := rfl
set_option maxRecDepth 20000 in
theorem fl_12_330 {sc : xm_Sc} : xe_fl (XE sc) 12 330 = some (12, 67) := rfl
set_option maxRecDepth 20000 in
theorem fl_12_333 {sc : xm_Sc} : xe_fl (XE sc) 12 333 = some (12, 65) := rfl
set_option maxRecDepth 20000 in
theorem fl_12_336 {sc : xm_Sc} : xe_fl (XE sc) 12 336 = some (12, 66) := rfl
set_option maxRecDepth 20000 in
theorem fl_12_357 {sc : xm_Sc} : xe_fl (XE sc) 12 357 = some (12, 33) := rfl
set_option maxRecDepth 20000 in
theorem fl_12_378 {sc : xm_Sc} : xe_fl (XE sc) 12 378 = some (12, 19) := rfl
set_option maxRecDepth 20000 in
theorem fl_12_381 {sc : xm_Sc} : xe_fl (XE sc) 12 381 = some (12, 32) := rfl
set_option maxRecDepth 20000 in
theorem fl_12_413 {sc : xm_Sc} : xe_fl (XE sc) 12 413 = some (12, 34) := rfl
set_option maxRecDepth 20000 in
theorem fl_12_494 {sc : xm_Sc} : xe_fl (XE sc) 12 494 = some (12, 74) := rfl
set_option maxRecDepth 20000 in
theorem fl_12_497 {sc : xm_Sc} : xe_fl (XE sc) 12 497 = some (12, 80) := rfl
set_option maxRecDepth 20000 in
theorem fl_12_501 {sc : xm_Sc} : xe_fl (XE sc) 12 501 = some (12, 76) := rfl
set_option maxRecDepth 20000 in
theorem fl_12_504 {sc : xm_Sc} : xe_fl (XE sc) 12 504 = some (12, 78) := rfl
set_option maxRecDepth 20000 in
theorem fl_12_507 {sc : xm_Sc} : xe_fl (XE sc) 12 507 = some (12, 77) := rfl
set_option maxRecDepth 20000 in
theorem fl_12_510 {sc : xm_Sc} : xe_fl (XE sc) 12 510 = some (12, 79) := rfl
set_option maxRecDepth 20000 in
theorem fl_12_513 {sc : xm_Sc} : xe_fl (XE sc) 12 513 = some (12, 75) := rfl
set_option maxRecDepth 20000 in
theorem fl_12_544 {sc : xm_Sc} : xe_fl (XE sc) 12 544 = some (12, 35) := rfl
set_option maxRecDepth 20000 in
theorem fl_12_547 {sc : xm_Sc} : xe_fl (XE sc) 12 547 = some (12, 37) := rfl
set_option maxRecDepth 20000 in
theorem fl_12_552 {sc : xm_Sc} : xe_fl (XE sc) 12 552 = some (12, 38) := rfl
set_option maxRecDepth 20000 in
theorem fl_12_555 {sc : xm_Sc} : xe_fl (XE sc) 12 555 = some (12, 39) := rfl
set_option maxRecDepth 20000 in
theorem fl_12_577 {sc : xm_Sc} : xe_fl (XE sc) 12 577 = some (12, 36) := rfl
set_option maxRecDepth 20000 in
theorem fl_12_592 {sc : xm_Sc} : xe_fl (XE sc) 12 592 = some (12, 81) := rfl
set_option maxRecDepth 20000 in
theorem fl_12_595 {sc : xm_Sc} : xe_fl (XE sc) 12 595 = some (12, 82) := rfl
set_option maxRecDepth 20000 in
theorem fl_12_598 {sc : xm_Sc} : xe_fl (XE sc) 12 598 = some (12, 84) := rfl
set_option maxRecDepth 20000 in
theorem fl_12_601 {sc : xm_Sc} : xe_fl (XE sc) 12 601 = some (12, 83) := rfl
set_option maxRecDepth 20000 in
theorem fl_12_610 {sc : xm_Sc} : xe_fl (XE sc) 12 610 = some (12, 85) := rfl
set_option maxRecDepth 20000 in
theorem fl_12_629 {sc : xm_Sc} : xe_fl (XE sc) 12 629 = some (12, 88) := rfl
set_option maxRecDepth 20000 in
theorem fl_12_656 {sc : xm_Sc} : xe_fl (XE sc) 12 656 = some (12, 92) := rfl
set_option maxRecDepth 20000 in
theorem ki_12_659 {sc : xm_Sc} : xe_kI (XE sc) 12 659 = some 65536 := rfl
set_option maxRecDepth 20000 in
theorem kl_12_199 {sc : xm_Sc} : xe_kL (XE sc) 12 199 = some 64 := rfl
set_option maxRecDepth 20000 in
theorem kl_12_209 {sc : xm_Sc} : xe_kL (XE sc) 12 209 = some 2147483647 := rfl
set_option maxRecDepth 20000 in
theorem kl_12_218 {sc : xm_Sc} : xe_kL (XE sc) 12 218 = some 255 := rfl
set_option maxRecDepth 20000 in
theorem kl_12_419 {sc : xm_Sc} : xe_kL (XE sc) 12 419 = some (-9223372036854775808) := rfl
set_option maxRecDepth 20000 in
theorem kl_12_428 {sc : xm_Sc} : xe_kL (XE sc) 12 428 = some (-1) := rfl
set_option maxRecDepth 20000 in
theorem kl_12_430 {sc : xm_Sc} : xe_kL (XE sc) 12 430 = some 4294967295 := rfl
set_option maxRecDepth 20000 in
theorem kl_12_535 {sc : xm_Sc} : xe_kL (XE sc) 12 535 = some 1000000 := rfl
set_option maxRecDepth 20000 in
theorem kl_12_550 {sc : xm_Sc} : xe_kL (XE sc) 12 550 = some 2 := rfl
set_option maxRecDepth 20000 in
theorem gs_12_196 {sc : xm_Sc} : xe_gs (XE sc) 12 196 = some 205 := rfl
set_option maxRecDepth 20000 in
theorem gs_12_314 {sc : xm_Sc} : xe_gs (XE sc) 12 314 = some 206 := rfl
set_option maxRecDepth 20000 in
theorem gs_12_317 {sc : xm_Sc} : xe_gs (XE sc) 12 317 = some 207 := rfl
set_option maxRecDepth 20000 in
theorem lk_12_201 {sc : xm_Sc} : xe_lk (XE sc) 12 201 = some 250 := rfl
set_option maxRecDepth 20000 in
theorem lk_12_211 {sc : xm_Sc} : xe_lk (XE sc) 12 211 = some 319 := rfl
set_option maxRecDepth 20000 in
theorem lk_12_229 {sc : xm_Sc} : xe_lk (XE sc) 12 229 = some 214 := rfl
set_option maxRecDepth 20000 in
theorem lk_12_236 {sc : xm_Sc} : xe_lk (XE sc) 12 236 = some 213 := rfl
set_option maxRecDepth 20000 in
theorem lk_12_240 {sc : xm_Sc} : xe_lk (XE sc) 12 240 = some 223 := rfl
set_option maxRecDepth 20000 in
theorem lk_12_243 {sc : xm_Sc} : xe_lk (XE sc) 12 243 = some 209 := rfl
set_option maxRecDepth 20000 in
theorem lk_12_246 {sc : xm_Sc} : xe_lk (XE sc) 12 246 = some 273 := rfl
set_option maxRecDepth 20000 in
theorem lk_12_250 {sc : xm_Sc} : xe_lk (XE sc) 12 250 = some 242 := rfl
set_option maxRecDepth 20000 in
theorem lk_12_254 {sc : xm_Sc} : xe_lk (XE sc) 12 254 = some 212 := rfl
set_option maxRecDepth 20000 in
theorem lk_12_258 {sc : xm_Sc} : xe_lk (XE sc) 12 258 = some 241 := rfl
set_option maxRecDepth 20000 in
theorem lk_12_265 {sc : xm_Sc} : xe_lk (XE sc) 12 265 = some 227 := rfl
set_option maxRecDepth 20000 in
theorem lk_12_268 {sc : xm_Sc} : xe_lk (XE sc) 12 268 = some 314 := rfl
set_option maxRecDepth 20000 in
theorem lk_12_271 {sc : xm_Sc} : xe_lk (XE sc) 12 271 = some 204 := rfl
set_option maxRecDepth 20000 in
theorem lk_12_274 {sc : xm_Sc} : xe_lk (XE sc) 12 274 = some 205 := rfl
set_option maxRecDepth 20000 in
theorem lk_12_277 {sc : xm_Sc} : xe_lk (XE sc) 12 277 = some 316 := rfl
set_option maxRecDepth 20000 in
theorem lk_12_280 {sc : xm_Sc} : xe_lk (XE sc) 12 280 = some 292 := rfl
set_option maxRecDepth 20000 in
theorem lk_12_283 {sc : xm_Sc} : xe_lk (XE sc) 12 283 = some 305 := rfl
set_option maxRecDepth 20000 in
theorem lk_12_286 {sc : xm_Sc} : xe_lk (XE sc) 12 286 = some 237 := rfl
set_option maxRecDepth 20000 in
theorem lk_12_292 {sc : xm_Sc} : xe_lk (XE sc) 12 292 = some 236 := rfl
set_option maxRecDepth 20000 in
theorem lk_12_296 {sc : xm_Sc} : xe_lk (XE sc) 12 296 = some 254 := rfl
set_option maxRecDepth 20000 in
theorem lk_12_299 {sc : xm_Sc} : xe_lk (XE sc) 12 299 = some 217 := rfl
set_option maxRecDepth 20000 in
theorem lk_12_302 {sc : xm_Sc} : xe_lk (XE sc) 12 302 = some 276 := rfl
set_option maxRecDepth 20000 in
theorem lk_12_305 {sc : xm_Sc} : xe_lk (XE sc) 12 305 = some 300 := rfl
set_option maxRecDepth 20000 in
theorem lk_12_308 {sc : xm_Sc} : xe_lk (XE sc) 12 308 = some 218 := rfl
set_option maxRecDepth 20000 in
theorem lk_12_311 {sc : xm_Sc} : xe_lk (XE sc) 12 311 = some 311 := rfl
set_option maxRecDepth 20000 in
theorem lk_12_320 {sc : xm_Sc} : xe_lk (XE sc) 12 320 = some 263 := rfl
set_option maxRecDepth 20000 in
theorem lk_12_323 {sc : xm_Sc} : xe_lk (XE sc) 12 323 = some 248 := rfl
set_option maxRecDepth 20000 in
theorem lk_12_326 {sc : xm_Sc} : xe_lk (XE sc) 12 326 = some 222 := rfl
set_option maxRecDepth 20000 in
theorem lk_12_339 {sc : xm_Sc} : xe_lk (XE sc) 12 339 = some 208 := rfl
set_option maxRecDepth 20000 in
theorem lk_12_342 {sc : xm_Sc} : xe_lk (XE sc) 12 342 = some 210 := rfl
set_option maxRecDepth 20000 in
theorem lk_12_345 {sc : xm_Sc} : xe_lk (XE sc) 12 345 = some 266 := rfl
set_option maxRecDepth 20000 in
theorem lk_12_348 {sc : xm_Sc} : xe_lk (XE sc) 12 348 = some 281 := rfl
set_option maxRecDepth 20000 in
theorem lk_12_351 {sc : xm_Sc} : xe_lk (XE sc) 12 351 = some 225 := rfl
set_option maxRecDepth 20000 in
theorem lk_12_354 {sc : xm_Sc} : xe_lk (XE sc) 12 354 = some 234 := rfl
set_option maxRecDepth 20000 in
theorem lk_12_360 {sc : xm_Sc} : xe_lk (XE sc) 12 360 = some 282 := rfl
set_option maxRecDepth 20000 in
theorem lk_12_363 {sc : xm_Sc} : xe_lk (XE sc) 12 363 = some 231 := rfl
set_option maxRecDepth 20000 in
theorem lk_12_366 {sc : xm_Sc} : xe_lk (XE sc) 12 366 = some 238 := rfl
set_option maxRecDepth 20000 in
theorem lk_12_369 {sc : xm_Sc} : xe_lk (XE sc) 12 369 = some 224 := rfl
set_option maxRecDepth 20000 in
theorem lk_12_372 {sc : xm_Sc} : xe_lk (XE sc) 12 372 = some 228 := rfl
set_option maxRecDepth 20000 in
theorem lk_12_375 {sc : xm_Sc} : xe_lk (XE sc) 12 375 = some 284 := rfl
set_option maxRecDepth 20000 in
theorem lk_12_384 {sc : xm_Sc} : xe_lk (XE sc) 12 384 = some 245 := rfl
set_option maxRecDepth 20000 in
theorem lk_12_387 {sc : xm_Sc} : xe_lk (XE sc) 12 387 = some 289 := rfl
set_option maxRecDepth 20000 in
theorem lk_12_390 {sc : xm_Sc} : xe_lk (XE sc) 12 390 = some 288 := rfl
set_option maxRecDepth 20000 in
theorem lk_12_393 {sc : xm_Sc} : xe_lk (XE sc) 12 393 = some 211 := rfl
set_option maxRecDepth 20000 in
theorem lk_12_396 {sc : xm_Sc} : xe_lk (XE sc) 12 396 = some 247 := rfl
set_option maxRecDepth 20000 in
theorem lk_12_400 {sc : xm_Sc} : xe_lk (XE sc) 12 400 = some 306 := rfl
set_option maxRecDepth 20000 in
theorem lk_12_403 {sc : xm_Sc} : xe_lk (XE sc) 12 403 = some 295 := rfl
set_option maxRecDepth 20000 in
theorem lk_12_406 {sc : xm_Sc} : xe_lk (XE sc) 12 406 = some 202 := rfl
set_option maxRecDepth 20000 in
theorem lk_12_410 {sc : xm_Sc} : xe_lk (XE sc) 12 410 = some 283 := rfl
set_option maxRecDepth 20000 in
theorem lk_12_416 {sc : xm_Sc} : xe_lk (XE sc) 12 416 = some 244 := rfl
set_option maxRecDepth 20000 in
theorem lk_12_421 {sc : xm_Sc} : xe_lk (XE sc) 12 421 = some 207 := rfl
set_option maxRecDepth 20000 in
theorem lk_12_425 {sc : xm_Sc} : xe_lk (XE sc) 12 425 = some 280 := rfl
set_option maxRecDepth 20000 in
theorem lk_12_432 {sc : xm_Sc} : xe_lk (XE sc) 12 432 = some 260 := rfl
set_option maxRecDepth 20000 in
theorem lk_12_436 {sc : xm_Sc} : xe_lk (XE sc) 12 436 = some 279 := rfl
set_option maxRecDepth 20000 in
theorem lk_12_440 {sc : xm_Sc} : xe_lk (XE sc) 12 440 = some 229 := rfl
set_option maxRecDepth 20000 in
theorem lk_12_443 {sc : xm_Sc} : xe_lk (XE sc) 12 443 = some 286 := rfl
set_option maxRecDepth 20000 in
theorem lk_12_446 {sc : xm_Sc} : xe_lk (XE sc) 12 446 = some 293 := rfl
set_option maxRecDepth 20000 in
theorem lk_12_450 {sc : xm_Sc} : xe_lk (XE sc) 12 450 = some 299 := rfl
set_option maxRecDepth 20000 in
theorem lk_12_454 {sc : xm_Sc} : xe_lk (XE sc) 12 454 = some 262 := rfl
set_option maxRecDepth 20000 in
theorem lk_12_458 {sc : xm_Sc} : xe_lk (XE sc) 12 458 = some 264 := rfl
set_option maxRecDepth 20000 in
theorem lk_12_462 {sc : xm_Sc} : xe_lk (XE sc) 12 462 = some 272 := rfl
set_option maxRecDepth 20000 in
theorem lk_12_465 {sc : xm_Sc} : xe_lk (XE sc) 12 465 = some 201 := rfl
set_option maxRecDepth 20000 in
theorem lk_12_468 {sc : xm_Sc} : xe_lk (XE sc) 12 468 = some 269 := rfl
set_option maxRecDepth 20000 in
theorem lk_12_471 {sc : xm_Sc} : xe_lk (XE sc) 12 471 = some 298 := rfl
set_option maxRecDepth 20000 in
theorem lk_12_475 {sc : xm_Sc} : xe_lk (XE sc) 12 475 = some 277 := rfl
set_option maxRecDepth 20000 in
theorem lk_12_479 {sc : xm_Sc} : xe_lk (XE sc) 12 479 = some 271 := rfl
set_option maxRecDepth 20000 in
theorem lk_12_483 {sc : xm_Sc} : xe_lk (XE sc) 12 483 = some 235 := rfl
set_option maxRecDepth 20000 in
theorem lk_12_487 {sc : xm_Sc} : xe_lk (XE sc) 12 487 = some 270 := rfl
set_option maxRecDepth 20000 in
theorem lk_12_491 {sc : xm_Sc} : xe_lk (XE sc) 12 491 = some 294 := rfl
set_option maxRecDepth 20000 in
theorem lk_12_516 {sc : xm_Sc} : xe_lk (XE sc) 12 516 = some 203 := rfl
set_option maxRecDepth 20000 in
theorem lk_12_520 {sc : xm_Sc} : xe_lk (XE sc) 12 520 = some 215 := rfl
set_option maxRecDepth 20000 in
theorem lk_12_523 {sc : xm_Sc} : xe_lk (XE sc) 12 523 = some 230 := rfl
set_option maxRecDepth 20000 in
theorem lk_12_526 {sc : xm_Sc} : xe_lk (XE sc) 12 526 = some 249 := rfl
set_option maxRecDepth 20000 in
theorem lk_12_529 {sc : xm_Sc} : xe_lk (XE sc) 12 529 = some 239 := rfl
set_option maxRecDepth 20000 in
theorem lk_12_532 {sc : xm_Sc} : xe_lk (XE sc) 12 532 = some 304 := rfl
set_option maxRecDepth 20000 in
theorem lk_12_537 {sc : xm_Sc} : xe_lk (XE sc) 12 537 = some 278 := rfl
set_option maxRecDepth 20000 in
theorem lk_12_541 {sc : xm_Sc} : xe_lk (XE sc) 12 541 = some 226 := rfl
set_option maxRecDepth 20000 in
theorem lk_12_558 {sc : xm_Sc} : xe_lk (XE sc) 12 558 = some 307 := rfl
set_option maxRecDepth 20000 in
theorem lk_12_561 {sc : xm_Sc} : xe_lk (XE sc) 12 561 = some 232 := rfl
set_option maxRecDepth 20000 in
theorem lk_12_564 {sc : xm_Sc} : xe_lk (XE sc) 12 564 = some 313 := rfl
set_option maxRecDepth 20000 in
theorem lk_12_568 {sc : xm_Sc} : xe_lk (XE sc) 12 568 = some 308 := rfl
set_option maxRecDepth 20000 in
theorem lk_12_571 {sc : xm_Sc} : xe_lk (XE sc) 12 571 = some 258 := rfl
set_option maxRecDepth 20000 in
theorem lk_12_574 {sc : xm_Sc} : xe_lk (XE sc) 12 574 = some 303 := rfl
set_option maxRecDepth 20000 in
theorem lk_12_580 {sc : xm_Sc} : xe_lk (XE sc) 12 580 = some 257 := rfl
set_option maxRecDepth 20000 in
theorem lk_12_583 {sc : xm_Sc} : xe_lk (XE sc) 12 583 = some 256 := rfl
set_option maxRecDepth 20000 in
theorem lk_12_586 {sc : xm_Sc} : xe_lk (XE sc) 12 586 = some 259 := rfl
set_option maxRecDepth 20000 in
theorem lk_12_589 {sc : xm_Sc} : xe_lk (XE sc) 12 589 = some 255 := rfl
set_option maxRecDepth 20000 in
theorem lk_12_604 {sc : xm_Sc} : xe_lk (XE sc) 12 604 = some 328 := rfl
set_option maxRecDepth 20000 in
theorem lk_12_607 {sc : xm_Sc} : xe_lk (XE sc) 12 607 = some 233 := rfl
set_option maxRecDepth 20000 in
theorem lk_12_613 {sc : xm_Sc} : xe_lk (XE sc) 12 613 = some 267 := rfl
set_option maxRecDepth 20000 in
theorem lk_12_616 {sc : xm_Sc} : xe_lk (XE sc) 12 616 = some 275 := rfl
set_option maxRecDepth 20000 in
theorem lk_12_619 {sc : xm_Sc} : xe_lk (XE sc) 12 619 = some 310 := rfl
set_option maxRecDepth 20000 in
theorem lk_12_623 {sc : xm_Sc} : xe_lk (XE sc) 12 623 = some 265 := rfl
set_option maxRecDepth 20000 in
theorem lk_12_626 {sc : xm_Sc} : xe_lk (XE sc) 12 626 = some 253 := rfl
set_option maxRecDepth 20000 in
theorem lk_12_632 {sc : xm_Sc} : xe_lk (XE sc) 12 632 = some 240 := rfl
set_option maxRecDepth 20000 in
theorem lk_12_635 {sc : xm_Sc} : xe_lk (XE sc) 12 635 = some 302 := rfl
set_option maxRecDepth 20000 in
theorem lk_12_638 {sc : xm_Sc} : xe_lk (XE sc) 12 638 = some 301 := rfl
set_option maxRecDepth 20000 in
theorem lk_12_641 {sc : xm_Sc} : xe_lk (XE sc) 12 641 = some 285 := rfl
set_option maxRecDepth 20000 in
theorem lk_12_644 {sc : xm_Sc} : xe_lk (XE sc) 12 644 = some 246 := rfl
set_option maxRecDepth 20000 in
theorem lk_12_647 {sc : xm_Sc} : xe_lk (XE sc) 12 647 = some 206 := rfl
set_option maxRecDepth 20000 in
theorem lk_12_650 {sc : xm_Sc} : xe_lk (XE sc) 12 650 = some 243 := rfl
set_option maxRecDepth 20000 in
theorem lk_12_653 {sc : xm_Sc} : xe_lk (XE sc) 12 653 = some 220 := rfl
set_option maxRecDepth 20000 in
theorem lk_12_660 {sc : xm_Sc} : xe_lk (XE sc) 12 660 = some 323 := rfl
set_option maxRecDepth 20000 in
theorem lk_12_663 {sc : xm_Sc} : xe_lk (XE sc) 12 663 = some 219 := rfl
set_option maxRecDepth 20000 in
theorem lk_12_666 {sc : xm_Sc} : xe_lk (XE sc) 12 666 = some 324 := rfl
set_option maxRecDepth 20000 in
theorem lk_12_670 {sc : xm_Sc} : xe_lk (XE sc) 12 670 = some 325 := rfl
set_option maxRecDepth 20000 in
theorem lk_12_673 {sc : xm_Sc} : xe_lk (XE sc) 12 673 = some 326 := rfl
set_option maxRecDepth 20000 in
theorem lk_12_676 {sc : xm_Sc} : xe_lk (XE sc) 12 676 = some 216 := rfl
set_option maxRecDepth 20000 in
theorem lk_12_679 {sc : xm_Sc} : xe_lk (XE sc) 12 679 = some 261 := rfl
set_option maxRecDepth 20000 in
theorem lk_12_682 {sc : xm_Sc} : xe_lk (XE sc) 12 682 = some 320 := rfl
set_option maxRecDepth 20000 in
theorem lk_12_685 {sc : xm_Sc} : xe_lk (XE sc) 12 685 = some 327 := rfl
set_option maxRecDepth 20000 in
theorem lk_12_688 {sc : xm_Sc} : xe_lk (XE sc) 12 688 = some 297 := rfl
