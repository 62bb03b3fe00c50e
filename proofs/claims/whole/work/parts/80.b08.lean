/- method 126: X8_at -/
def b_X8_at_0 : List (Nat × Jvm.ClassFile.Instr × Nat) := [(0, .iload_n 1, 1), (1, .ifCond .lt 24, 3)]
set_option maxRecDepth 20000 in
theorem k_X8_at_0 {sc : xm_Sc} : xm_bok (xe_cy (XE sc) 126) b_X8_at_0 := by show xm_bok cX8_at _; unfold xm_bok; decide +kernel
def b_X8_at_4 : List (Nat × Jvm.ClassFile.Instr × Nat) := [(4, .iload_n 1, 1), (5, .aload_n 0, 1), (6, .getfield 15, 3), (9, .if_icmp .ge 16, 3)]
set_option maxRecDepth 20000 in
theorem k_X8_at_4 {sc : xm_Sc} : xm_bok (xe_cy (XE sc) 126) b_X8_at_4 := by show xm_bok cX8_at _; unfold xm_bok; decide +kernel
def b_X8_at_12 : List (Nat × Jvm.ClassFile.Instr × Nat) := [(12, .aload_n 0, 1), (13, .getfield 9, 3), (16, .iload_n 1, 1), (17, .baload, 1), (18, .sipush 255, 3), (21, .iand, 1), (22, .goto 4, 3)]
set_option maxRecDepth 20000 in
theorem k_X8_at_12 {sc : xm_Sc} : xm_bok (xe_cy (XE sc) 126) b_X8_at_12 := by show xm_bok cX8_at _; unfold xm_bok; decide +kernel
def b_X8_at_25 : List (Nat × Jvm.ClassFile.Instr × Nat) := [(25, .iconst 0, 1)]
set_option maxRecDepth 20000 in
theorem k_X8_at_25 {sc : xm_Sc} : xm_bok (xe_cy (XE sc) 126) b_X8_at_25 := by show xm_bok cX8_at _; unfold xm_bok; decide +kernel
def b_X8_at_26 : List (Nat × Jvm.ClassFile.Instr × Nat) := [(26, .ireturn, 1)]
set_option maxRecDepth 20000 in
theorem k_X8_at_26 {sc : xm_Sc} : xm_bok (xe_cy (XE sc) 126) b_X8_at_26 := by show xm_bok cX8_at _; unfold xm_bok; decide +kernel
set_option maxRecDepth 20000 in
theorem cn_126 {sc : xm_Sc} : xe_cn (XE sc) 126 = 8 := rfl
set_option maxRecDepth 20000 in
theorem ml_126 {sc : xm_Sc} : xe_ml (XE sc) 126 = 2 := rfl
set_option maxRecDepth 20000 in
theorem ry_126 {sc : xm_Sc} : xe_ry (XE sc) 126 = (some .int) := rfl
set_option maxRecDepth 20000 in
theorem is_126 {sc : xm_Sc} : xe_is (XE sc) 126 = false := rfl
set_option maxRecDepth 20000 in
theorem np_126 {sc : xm_Sc} : xe_np (XE sc) 126 = 1 := rfl
/- method 127: X8_bit -/
def b_X8_bit_0 : List (Nat × Jvm.ClassFile.Instr × Nat) := [(0, .aload_n 0, 1), (1, .iload_n 1, 1), (2, .iconst 3, 1), (3, .ishr, 1), (4, .invokevirtual 35, 3)]
set_option maxRecDepth 20000 in
theorem k_X8_bit_0 {sc : xm_Sc} : xm_bok (xe_cy (XE sc) 127) b_X8_bit_0 := by show xm_bok cX8_bit _; unfold xm_bok; decide +kernel
def b_X8_bit_7 : List (Nat × Jvm.ClassFile.Instr × Nat) := [(7, .bipush 7, 2), (9, .iload_n 1, 1), (10, .bipush 7, 2), (12, .iand, 1), (13, .isub, 1), (14, .ishr, 1), (15, .iconst 1, 1), (16, .iand, 1), (17, .ireturn, 1)]
set_option maxRecDepth 20000 in
theorem k_X8_bit_7 {sc : xm_Sc} : xm_bok (xe_cy (XE sc) 127) b_X8_bit_7 := by show xm_bok cX8_bit _; unfold xm_bok; decide +kernel
set_option maxRecDepth 20000 in
theorem cn_127 {sc : xm_Sc} : xe_cn (XE sc) 127 = 8 := rfl
set_option maxRecDepth 20000 in
theorem ml_127 {sc : xm_Sc} : xe_ml (XE sc) 127 = 2 := rfl
set_option maxRecDepth 20000 in
theorem ry_127 {sc : xm_Sc} : xe_ry (XE sc) 127 = (some .int) := rfl
set_option maxRecDepth 20000 in
theorem is_127 {sc : xm_Sc} : xe_is (XE sc) 127 = false := rfl
set_option maxRecDepth 20000 in
theorem np_127 {sc : xm_Sc} : xe_np (XE sc) 127 = 1 := rfl
/- method 128: X8_clear -/
def b_X8_clear_0 : List (Nat × Jvm.ClassFile.Instr × Nat) := [(0, .aload_n 0, 1), (1, .iconst 0, 1), (2, .putfield 15, 3), (5, .aload_n 0, 1), (6, .iconst 0, 1), (7, .putfield 19, 3), (10, .aload_n 0, 1), (11, .iconst 0, 1), (12, .putfield 22, 3), (15, .return_, 1)]
set_option maxRecDepth 20000 in
theorem k_X8_clear_0 {sc : xm_Sc} : xm_bok (xe_cy (XE sc) 128) b_X8_clear_0 := by show xm_bok cX8_clear _; unfold xm_bok; decide +kernel
set_option maxRecDepth 20000 in
theorem cn_128 {sc : xm_Sc} : xe_cn (XE sc) 128 = 8 := rfl
set_option maxRecDepth 20000 in
theorem ml_128 {sc : xm_Sc} : xe_ml (XE sc) 128 = 1 := rfl
set_option maxRecDepth 20000 in
theorem ry_128 {sc : xm_Sc} : xe_ry (XE sc) 128 = none := rfl
set_option maxRecDepth 20000 in
theorem is_128 {sc : xm_Sc} : xe_is (XE sc) 128 = false := rfl
set_option maxRecDepth 20000 in
theorem np_128 {sc : xm_Sc} : xe_np (XE sc) 128 = 0 := rfl
/- method 129: X8_copy -/
def b_X8_copy_0 : List (Nat × Jvm.ClassFile.Instr × Nat) := [(0, .aload_n 0, 1), (1, .invokevirtual 26, 3)]
set_option maxRecDepth 20000 in
theorem k_X8_copy_0 {sc : xm_Sc} : xm_bok (xe_cy (XE sc) 129) b_X8_copy_0 := by show xm_bok cX8_copy _; unfold xm_bok; decide +kernel
def b_X8_copy_4 : List (Nat × Jvm.ClassFile.Instr × Nat) := [(4, .aload_n 0, 1), (5, .aload_n 1, 1), (6, .getfield 15, 3), (9, .putfield 15, 3), (12, .aload_n 1, 1), (13, .getfield 9, 3), (16, .iconst 0, 1), (17, .aload_n 0, 1), (18, .getfield 9, 3), (21, .iconst 0, 1), (22, .aload_n 0, 1), (23, .getfield 15, 3), (26, .invokestatic 29, 3)]
set_option maxRecDepth 20000 in
theorem k_X8_copy_4 {sc : xm_Sc} : xm_bok (xe_cy (XE sc) 129) b_X8_copy_4 := by show xm_bok cX8_copy _; unfold xm_bok; decide +kernel
def b_X8_copy_29 : List (Nat × Jvm.ClassFile.Instr × Nat) := [(29, .return_, 1)]
set_option maxRecDepth 20000 in
theorem k_X8_copy_29 {sc : xm_Sc} : xm_bok (xe_cy (XE sc) 129) b_X8_copy_29 := by show xm_bok cX8_copy _; unfold xm_bok; decide +kernel
set_option maxRecDepth 20000 in
theorem cn_129 {sc : xm_Sc} : xe_cn (XE sc) 129 = 8 := rfl
set_option maxRecDepth 20000 in
theorem ml_129 {sc : xm_Sc} : xe_ml (XE sc) 129 = 2 := rfl
set_option maxRecDepth 20000 in
theorem ry_129 {sc : xm_Sc} : xe_ry (XE sc) 129 = none := rfl
set_option maxRecDepth 20000 in
theorem is_129 {sc : xm_Sc} : xe_is (XE sc) 129 = false := rfl
set_option maxRecDepth 20000 in
theorem np_129 {sc : xm_Sc} : xe_np (XE sc) 129 = 1 := rfl
/- method 130: X8_digit -/
def b_X8_digit_0 : List (Nat × Jvm.ClassFile.Instr × Nat) := [(0, .iload_n 0, 1), (1, .bipush 48, 2), (3, .if_icmp .lt 14, 3)]
set_option maxRecDepth 20000 in
theorem k_X8_digit_0 {sc : xm_Sc} : xm_bok (xe_cy (XE sc) 130) b_X8_digit_0 := by show xm_bok cX8_digit _; unfold xm_bok; decide +kernel
def b_X8_digit_6 : List (Nat × Jvm.ClassFile.Instr × Nat) := [(6, .iload_n 0, 1), (7, .bipush 57, 2), (9, .if_icmp .gt 8, 3)]
set_option maxRecDepth 20000 in
theorem k_X8_digit_6 {sc : xm_Sc} : xm_bok (xe_cy (XE sc) 130) b_X8_digit_6 := by show xm_bok cX8_digit _; unfold xm_bok; decide +kernel
def b_X8_digit_12 : List (Nat × Jvm.ClassFile.Instr × Nat) := [(12, .iload_n 0, 1), (13, .bipush 48, 2), (15, .isub, 1), (16, .ireturn, 1)]
set_option maxRecDepth 20000 in
theorem k_X8_digit_12 {sc : xm_Sc} : xm_bok (xe_cy (XE sc) 130) b_X8_digit_12 := by show xm_bok cX8_digit _; unfold xm_bok; decide +kernel
def b_X8_digit_17 : List (Nat × Jvm.ClassFile.Instr × Nat) := [(17, .iload_n 0, 1), (18, .bipush 97, 2), (20, .if_icmp .lt 19, 3)]
set_option maxRecDepth 20000 in
theorem k_X8_digit_17 {sc : xm_Sc} : xm_bok (xe_cy (XE sc) 130) b_X8_digit_17 := by show xm_bok cX8_digit _; unfold xm_bok; decide +kernel
def b_X8_digit_23 : List (Nat × Jvm.ClassFile.Instr × Nat) := [(23, .iload_n 0, 1), (24, .bipush 102, 2), (26, .if_icmp .gt 13, 3)]
set_option maxRecDepth 20000 in
theorem k_X8_digit_23 {sc : xm_Sc} : xm_bok (xe_cy (XE sc) 130) b_X8_digit_23 := by show xm_bok cX8_digit _; unfold xm_bok; decide +kernel
def b_X8_digit_29 : List (Nat × Jvm.ClassFile.Instr × Nat) := [(29, .iload_n 0, 1), (30, .bipush 97, 2), (32, .isub, 1), (33, .bipush 10, 2), (35, .iadd, 1), (36, .goto 4, 3)]
set_option maxRecDepth 20000 in
theorem k_X8_digit_29 {sc : xm_Sc} : xm_bok (xe_cy (XE sc) 130) b_X8_digit_29 := by show xm_bok cX8_digit _; unfold xm_bok; decide +kernel
def b_X8_digit_39 : List (Nat × Jvm.ClassFile.Instr × Nat) := [(39, .iconst (-1), 1)]
set_option maxRecDepth 20000 in
theorem k_X8_digit_39 {sc : xm_Sc} : xm_bok (xe_cy (XE sc) 130) b_X8_digit_39 := by show xm_bok cX8_digit _; unfold xm_bok; decide +kernel
def b_X8_digit_40 : List (Nat × Jvm.ClassFile.Instr × Nat) := [(40, .ireturn, 1)]
set_option maxRecDepth 20000 in
theorem k_X8_digit_40 {sc : xm_Sc} : xm_bok (xe_cy (XE sc) 130) b_X8_digit_40 := by show xm_bok cX8_digit _; unfold xm_bok; decide +kernel
set_option maxRecDepth 20000 in
theorem cn_130 {sc : xm_Sc} : xe_cn (XE sc) 130 = 8 := rfl
set_option maxRecDepth 20000 in
theorem ml_130 {sc : xm_Sc} : xe_ml (XE sc) 130 = 1 := rfl
set_option maxRecDepth 20000 in
theorem ry_130 {sc : xm_Sc} : xe_ry (XE sc) 130 = (some .int) := rfl
set_option maxRecDepth 20000 in
theorem is_130 {sc : xm_Sc} : xe_is (XE sc) 130 = true := rfl
set_option maxRecDepth 20000 in
theorem np_130 {sc : xm_Sc} : xe_np (XE sc) 130 = 1 := rfl
/- method 131: X8_isZero -/
def b_X8_isZero_0 : List (Nat × Jvm.ClassFile.Instr × Nat) := [(0, .iconst 0, 1), (1, .istore_n 3, 1)]
set_option maxRecDepth 20000 in
theorem k_X8_isZero_0 {sc : xm_Sc} : xm_bok (xe_cy (XE sc) 131) b_X8_isZero_0 := by show xm_bok cX8_isZero _; unfold xm_bok; decide +kernel
def b_X8_isZero_2 : List (Nat × Jvm.ClassFile.Instr × Nat) := [(2, .iload_n 3, 1), (3, .iload_n 2, 1), (4, .if_icmp .ge 21, 3)]
set_option maxRecDepth 20000 in
theorem k_X8_isZero_2 {sc : xm_Sc} : xm_bok (xe_cy (XE sc) 131) b_X8_isZero_2 := by show xm_bok cX8_isZero _; unfold xm_bok; decide +kernel
def b_X8_isZero_7 : List (Nat × Jvm.ClassFile.Instr × Nat) := [(7, .aload_n 0, 1), (8, .iload_n 1, 1), (9, .iload_n 3, 1), (10, .iadd, 1), (11, .invokevirtual 39, 3)]
set_option maxRecDepth 20000 in
theorem k_X8_isZero_7 {sc : xm_Sc} : xm_bok (xe_cy (XE sc) 131) b_X8_isZero_7 := by show xm_bok cX8_isZero _; unfold xm_bok; decide +kernel
def b_X8_isZero_14 : List (Nat × Jvm.ClassFile.Instr × Nat) := [(14, .ifCond .eq 5, 3)]
set_option maxRecDepth 20000 in
theorem k_X8_isZero_14 {sc : xm_Sc} : xm_bok (xe_cy (XE sc) 131) b_X8_isZero_14 := by show xm_bok cX8_isZero _; unfold xm_bok; decide +kernel
def b_X8_isZero_17 : List (Nat × Jvm.ClassFile.Instr × Nat) := [(17, .iconst 0, 1), (18, .ireturn, 1)]
set_option maxRecDepth 20000 in
theorem k_X8_isZero_17 {sc : xm_Sc} : xm_bok (xe_cy (XE sc) 131) b_X8_isZero_17 := by show xm_bok cX8_isZero _; unfold xm_bok; decide +kernel
def b_X8_isZero_19 : List (Nat × Jvm.ClassFile.Instr × Nat) := [(19, .iinc 3 1, 3), (22, .goto (-20), 3)]
set_option maxRecDepth 20000 in
theorem k_X8_isZero_19 {sc : xm_Sc} : xm_bok (xe_cy (XE sc) 131) b_X8_isZero_19 := by show xm_bok cX8_isZero _; unfold xm_bok; decide +kernel
def b_X8_isZero_25 : List (Nat × Jvm.ClassFile.Instr × Nat) := [(25, .iconst 1, 1), (26, .ireturn, 1)]
set_option maxRecDepth 20000 in
theorem k_X8_isZero_25 {sc : xm_Sc} : xm_bok (xe_cy (XE sc) 131) b_X8_isZero_25 := by show xm_bok cX8_isZero _; unfold xm_bok; decide +kernel
set_option maxRecDepth 20000 in
theorem cn_131 {sc : xm_Sc} : xe_cn (XE sc) 131 = 8 := rfl
set_option maxRecDepth 20000 in
theorem ml_131 {sc : xm_Sc} : xe_ml (XE sc) 131 = 4 := rfl
set_option maxRecDepth 20000 in
theorem ry_131 {sc : xm_Sc} : xe_ry (XE sc) 131 = (some .boolean) := rfl
set_option maxRecDepth 20000 in
theorem is_131 {sc : xm_Sc} : xe_is (XE sc) 131 = false := rfl
set_option maxRecDepth 20000 in
theorem np_131 {sc : xm_Sc} : xe_np (XE sc) 131 = 2 := rfl
/- method 132: X8_lengthOf -/
def b_X8_lengthOf_0 : List (Nat × Jvm.ClassFile.Instr × Nat) := [(0, .iconst 0, 1), (1, .istore_n 1, 1), (2, .iconst 1, 1), (3, .istore_n 2, 1)]
set_option maxRecDepth 20000 in
theorem k_X8_lengthOf_0 {sc : xm_Sc} : xm_bok (xe_cy (XE sc) 132) b_X8_lengthOf_0 := by show xm_bok cX8_lengthOf _; unfold xm_bok; decide +kernel
def b_X8_lengthOf_4 : List (Nat × Jvm.ClassFile.Instr × Nat) := [(4, .iload_n 2, 1), (5, .bipush 31, 2), (7, .if_icmp .ge 17, 3)]
set_option maxRecDepth 20000 in
theorem k_X8_lengthOf_4 {sc : xm_Sc} : xm_bok (xe_cy (XE sc) 132) b_X8_lengthOf_4 := by show xm_bok cX8_lengthOf _; unfold xm_bok; decide +kernel
def b_X8_lengthOf_10 : List (Nat × Jvm.ClassFile.Instr × Nat) := [(10, .iload_n 0, 1), (11, .iload_n 2, 1), (12, .ishr, 1), (13, .ifCond .eq 5, 3)]
set_option maxRecDepth 20000 in
theorem k_X8_lengthOf_10 {sc : xm_Sc} : xm_bok (xe_cy (XE sc) 132) b_X8_lengthOf_10 := by show xm_bok cX8_lengthOf _; unfold xm_bok; decide +kernel
def b_X8_lengthOf_16 : List (Nat × Jvm.ClassFile.Instr × Nat) := [(16, .iload_n 2, 1), (17, .istore_n 1, 1)]
set_option maxRecDepth 20000 in
theorem k_X8_lengthOf_16 {sc : xm_Sc} : xm_bok (xe_cy (XE sc) 132) b_X8_lengthOf_16 := by show xm_bok cX8_lengthOf _; unfold xm_bok; decide +kernel
def b_X8_lengthOf_18 : List (Nat × Jvm.ClassFile.Instr × Nat) := [(18, .iinc 2 1, 3), (21, .goto (-17), 3)]
set_option maxRecDepth 20000 in
theorem k_X8_lengthOf_18 {sc : xm_Sc} : xm_bok (xe_cy (XE sc) 132) b_X8_lengthOf_18 := by show xm_bok cX8_lengthOf _; unfold xm_bok; decide +kernel
def b_X8_lengthOf_24 : List (Nat × Jvm.ClassFile.Instr × Nat) := [(24, .iload_n 1, 1), (25, .ireturn, 1)]
set_option maxRecDepth 20000 in
theorem k_X8_lengthOf_24 {sc : xm_Sc} : xm_bok (xe_cy (XE sc) 132) b_X8_lengthOf_24 := by show xm_bok cX8_lengthOf _; unfold xm_bok; decide +kernel
set_option maxRecDepth 20000 in
theorem cn_132 {sc : xm_Sc} : xe_cn (XE sc) 132 = 8 := rfl
set_option maxRecDepth 20000 in
theorem ml_132 {sc : xm_Sc} : xe_ml (XE sc) 132 = 3 := rfl
set_option maxRecDepth 20000 in
theorem ry_132 {sc : xm_Sc} : xe_ry (XE sc) 132 = (some .int) := rfl
set_option maxRecDepth 20000 in
theorem is_132 {sc : xm_Sc} : xe_is (XE sc) 132 = true := rfl
set_option maxRecDepth 20000 in
theorem np_132 {sc : xm_Sc} : xe_np (XE sc) 132 = 1 := rfl
/- method 133: X8_put -/
def b_X8_put_0 : List (Nat × Jvm.ClassFile.Instr × Nat) := [(0, .aload_n 0, 1), (1, .getfield 15, 3), (4, .sipush 8192, 3), (7, .if_icmp .ge 27, 3)]
set_option maxRecDepth 20000 in
theorem k_X8_put_0 {sc : xm_Sc} : xm_bok (xe_cy (XE sc) 133) b_X8_put_0 := by show xm_bok cX8_put _; unfold xm_bok; decide +kernel
def b_X8_put_10 : List (Nat × Jvm.ClassFile.Instr × Nat) := [(10, .aload_n 0, 1), (11, .getfield 9, 3), (14, .aload_n 0, 1), (15, .getfield 15, 3), (18, .iload_n 1, 1), (19, .i2b, 1), (20, .bastore, 1), (21, .aload_n 0, 1), (22, .dup, 1), (23, .getfield 15, 3), (26, .iconst 1, 1), (27, .iadd, 1), (28, .putfield 15, 3), (31, .goto 8, 3)]
set_option maxRecDepth 20000 in
theorem k_X8_put_10 {sc : xm_Sc} : xm_bok (xe_cy (XE sc) 133) b_X8_put_10 := by show xm_bok cX8_put _; unfold xm_bok; decide +kernel
def b_X8_put_34 : List (Nat × Jvm.ClassFile.Instr × Nat) := [(34, .aload_n 0, 1), (35, .iconst 1, 1), (36, .putfield 22, 3)]
set_option maxRecDepth 20000 in
theorem k_X8_put_34 {sc : xm_Sc} : xm_bok (xe_cy (XE sc) 133) b_X8_put_34 := by show xm_bok cX8_put _; unfold xm_bok; decide +kernel
def b_X8_put_39 : List (Nat × Jvm.ClassFile.Instr × Nat) := [(39, .return_, 1)]
set_option maxRecDepth 20000 in
theorem k_X8_put_39 {sc : xm_Sc} : xm_bok (xe_cy (XE sc) 133) b_X8_put_39 := by show xm_bok cX8_put _; unfold xm_bok; decide +kernel
set_option maxRecDepth 20000 in
theorem cn_133 {sc : xm_Sc} : xe_cn (XE sc) 133 = 8 := rfl
set_option maxRecDepth 20000 in
theorem ml_133 {sc : xm_Sc} : xe_ml (XE sc) 133 = 2 := rfl
set_option maxRecDepth 20000 in
theorem ry_133 {sc : xm_Sc} : xe_ry (XE sc) 133 = none := rfl
set_option maxRecDepth 20000 in
theorem is_133 {sc : xm_Sc} : xe_is (XE sc) 133 = false := rfl
set_option maxRecDepth 20000 in
theorem np_133 {sc : xm_Sc} : xe_np (XE sc) 133 = 1 := rfl
/- method 134: X8_putBit -/
def b_X8_putBit_0 : List (Nat × Jvm.ClassFile.Instr × Nat) := [(0, .aload_n 0, 1), (1, .getfield 19, 3), (4, .bipush 7, 2), (6, .iand, 1), (7, .ifCond .ne 8, 3)]
set_option maxRecDepth 20000 in
theorem k_X8_putBit_0 {sc : xm_Sc} : xm_bok (xe_cy (XE sc) 134) b_X8_putBit_0 := by show xm_bok cX8_putBit _; unfold xm_bok; decide +kernel
def b_X8_putBit_10 : List (Nat × Jvm.ClassFile.Instr × Nat) := [(10, .aload_n 0, 1), (11, .iconst 0, 1), (12, .invokevirtual 42, 3)]
set_option maxRecDepth 20000 in
theorem k_X8_putBit_10 {sc : xm_Sc} : xm_bok (xe_cy (XE sc) 134) b_X8_putBit_10 := by show xm_bok cX8_putBit _; unfold xm_bok; decide +kernel
def b_X8_putBit_15 : List (Nat × Jvm.ClassFile.Instr × Nat) := [(15, .aload_n 0, 1), (16, .getfield 22, 3), (19, .ifCond .ne 35, 3)]
set_option maxRecDepth 20000 in
theorem k_X8_putBit_15 {sc : xm_Sc} : xm_bok (xe_cy (XE sc) 134) b_X8_putBit_15 := by show xm_bok cX8_putBit _; unfold xm_bok; decide +kernel
def b_X8_putBit_22 : List (Nat × Jvm.ClassFile.Instr × Nat) := [(22, .iload_n 1, 1), (23, .ifCond .eq 31, 3)]
set_option maxRecDepth 20000 in
theorem k_X8_putBit_22 {sc : xm_Sc} : xm_bok (xe_cy (XE sc) 134) b_X8_putBit_22 := by show xm_bok cX8_putBit _; unfold xm_bok; decide +kernel
def b_X8_putBit_26 : List (Nat × Jvm.ClassFile.Instr × Nat) := [(26, .aload_n 0, 1), (27, .getfield 9, 3), (30, .aload_n 0, 1), (31, .getfield 15, 3), (34, .iconst 1, 1), (35, .isub, 1), (36, .dup2, 1), (37, .baload, 1), (38, .iconst 1, 1), (39, .bipush 7, 2), (41, .aload_n 0, 1), (42, .getfield 19, 3), (45, .bipush 7, 2), (47, .iand, 1), (48, .isub, 1), (49, .ishl, 1), (50, .i2b, 1), (51, .ior, 1), (52, .i2b, 1), (53, .bastore, 1)]
set_option maxRecDepth 20000 in
theorem k_X8_putBit_26 {sc : xm_Sc} : xm_bok (xe_cy (XE sc) 134) b_X8_putBit_26 := by show xm_bok cX8_putBit _; unfold xm_bok; decide +kernel
def b_X8_putBit_54 : List (Nat × Jvm.ClassFile.Instr × Nat) := [(54, .aload_n 0, 1), (55, .aload_n 0, 1), (56, .getfield 19, 3), (59, .iconst 1, 1), (60, .iadd, 1), (61, .bipush 7, 2), (63, .iand, 1), (64, .putfield 19, 3), (67, .return_, 1)]
set_option maxRecDepth 20000 in
theorem k_X8_putBit_54 {sc : xm_Sc} : xm_bok (xe_cy (XE sc) 134) b_X8_putBit_54 := by show xm_bok cX8_putBit _; unfold xm_bok; decide +kernel
set_option maxRecDepth 20000 in
theorem cn_134 {sc : xm_Sc} : xe_cn (XE sc) 134 = 8 := rfl
set_option maxRecDepth 20000 in
theorem ml_134 {sc : xm_Sc} : xe_ml (XE sc) 134 = 2 := rfl
set_option maxRecDepth 20000 in
theorem ry_134 {sc : xm_Sc} : xe_ry (XE sc) 134 = none := rfl
set_option maxRecDepth 20000 in
theorem is_134 {sc : xm_Sc} : xe_is (XE sc) 134 = false := rfl
set_option maxRecDepth 20000 in
theorem np_134 {sc : xm_Sc} : xe_np (XE sc) 134 = 1 := rfl
/- method 135: X8_putBits -/
def b_X8_putBits_0 : List (Nat × Jvm.ClassFile.Instr × Nat) := [(0, .iload_n 3, 1), (1, .iconst 1, 1), (2, .isub, 1), (3, .istore 4, 2)]
set_option maxRecDepth 20000 in
theorem k_X8_putBits_0 {sc : xm_Sc} : xm_bok (xe_cy (XE sc) 135) b_X8_putBits_0 := by show xm_bok cX8_putBits _; unfold xm_bok; decide +kernel
def b_X8_putBits_5 : List (Nat × Jvm.ClassFile.Instr × Nat) := [(5, .iload 4, 2), (7, .ifCond .lt 20, 3)]
set_option maxRecDepth 20000 in
theorem k_X8_putBits_5 {sc : xm_Sc} : xm_bok (xe_cy (XE sc) 135) b_X8_putBits_5 := by show xm_bok cX8_putBits _; unfold xm_bok; decide +kernel
def b_X8_putBits_10 : List (Nat × Jvm.ClassFile.Instr × Nat) := [(10, .aload_n 0, 1), (11, .lload_n 1, 1), (12, .iload 4, 2), (14, .lushr, 1), (15, .l2i, 1), (16, .iconst 1, 1), (17, .iand, 1), (18, .invokevirtual 46, 3)]
set_option maxRecDepth 20000 in
theorem k_X8_putBits_10 {sc : xm_Sc} : xm_bok (xe_cy (XE sc) 135) b_X8_putBits_10 := by show xm_bok cX8_putBits _; unfold xm_bok; decide +kernel
def b_X8_putBits_21 : List (Nat × Jvm.ClassFile.Instr × Nat) := [(21, .iinc 4 (-1), 3), (24, .goto (-19), 3)]
set_option maxRecDepth 20000 in
theorem k_X8_putBits_21 {sc : xm_Sc} : xm_bok (xe_cy (XE sc) 135) b_X8_putBits_21 := by show xm_bok cX8_putBits _; unfold xm_bok; decide +kernel
def b_X8_putBits_27 : List (Nat × Jvm.ClassFile.Instr × Nat) := [(27, .return_, 1)]
set_option maxRecDepth 20000 in
theorem k_X8_putBits_27 {sc : xm_Sc} : xm_bok (xe_cy (XE sc) 135) b_X8_putBits_27 := by show xm_bok cX8_putBits _; unfold xm_bok; decide +kernel
set_option maxRecDepth 20000 in
theorem cn_135 {sc : xm_Sc} : xe_cn (XE sc) 135 = 8 := rfl
set_option maxRecDepth 20000 in
theorem ml_135 {sc : xm_Sc} : xe_ml (XE sc) 135 = 5 := rfl
set_option maxRecDepth 20000 in
theorem ry_135 {sc : xm_Sc} : xe_ry (XE sc) 135 = none := rfl
set_option maxRecDepth 20000 in
theorem is_135 {sc : xm_Sc} : xe_is (XE sc) 135 = false := rfl
set_option maxRecDepth 20000 in
theorem np_135 {sc : xm_Sc} : xe_np (XE sc) 135 = 2 := rfl
/- method 136: X8_putDigit -/
def b_X8_putDigit_0 : List (Nat × Jvm.ClassFile.Instr × Nat) := [(0, .aload_n 0, 1), (1, .iload_n 1, 1), (2, .bipush 10, 2), (4, .if_icmp .ge 10, 3)]
set_option maxRecDepth 20000 in
theorem k_X8_putDigit_0 {sc : xm_Sc} : xm_bok (xe_cy (XE sc) 136) b_X8_putDigit_0 := by show xm_bok cX8_putDigit _; unfold xm_bok; decide +kernel
def b_X8_putDigit_7 : List (Nat × Jvm.ClassFile.Instr × Nat) := [(7, .bipush 48, 2), (9, .iload_n 1, 1), (10, .iadd, 1), (11, .goto 10, 3)]
set_option maxRecDepth 20000 in
theorem k_X8_putDigit_7 {sc : xm_Sc} : xm_bok (xe_cy (XE sc) 136) b_X8_putDigit_7 := by show xm_bok cX8_putDigit _; unfold xm_bok; decide +kernel
def b_X8_putDigit_14 : List (Nat × Jvm.ClassFile.Instr × Nat) := [(14, .bipush 97, 2), (16, .iload_n 1, 1), (17, .iadd, 1), (18, .bipush 10, 2), (20, .isub, 1)]
set_option maxRecDepth 20000 in
theorem k_X8_putDigit_14 {sc : xm_Sc} : xm_bok (xe_cy (XE sc) 136) b_X8_putDigit_14 := by show xm_bok cX8_putDigit _; unfold xm_bok; decide +kernel
def b_X8_putDigit_21 : List (Nat × Jvm.ClassFile.Instr × Nat) := [(21, .invokevirtual 42, 3)]
set_option maxRecDepth 20000 in
theorem k_X8_putDigit_21 {sc : xm_Sc} : xm_bok (xe_cy (XE sc) 136) b_X8_putDigit_21 := by show xm_bok cX8_putDigit _; unfold xm_bok; decide +kernel
def b_X8_putDigit_24 : List (Nat × Jvm.ClassFile.Instr × Nat) := [(24, .return_, 1)]
set_option maxRecDepth 20000 in
theorem k_X8_putDigit_24 {sc : xm_Sc} : xm_bok (xe_cy (XE sc) 136) b_X8_putDigit_24 := by show xm_bok cX8_putDigit _; unfold xm_bok; decide +kernel
set_option maxRecDepth 20000 in
theorem cn_136 {sc : xm_Sc} : xe_cn (XE sc) 136 = 8 := rfl
set_option maxRecDepth 20000 in
theorem ml_136 {sc : xm_Sc} : xe_ml (XE sc) 136 = 2 := rfl
set_option maxRecDepth 20000 in
theorem ry_136 {sc : xm_Sc} : xe_ry (XE sc) 136 = none := rfl
set_option maxRecDepth 20000 in
theorem is_136 {sc : xm_Sc} : xe_is (XE sc) 136 = false := rfl
set_option maxRecDepth 20000 in
theorem np_136 {sc : xm_Sc} : xe_np (XE sc) 136 = 1 := rfl
/- method 137: X8_putLetters -/
def b_X8_putLetters_0 : List (Nat × Jvm.ClassFile.Instr × Nat) := [(0, .bipush 56, 2), (2, .istore_n 3, 1)]
set_option maxRecDepth 20000 in
theorem k_X8_putLetters_0 {sc : xm_Sc} : xm_bok (xe_cy (XE sc) 137) b_X8_putLetters_0 := by show xm_bok cX8_putLetters _; unfold xm_bok; decide +kernel
def b_X8_putLetters_3 : List (Nat × Jvm.ClassFile.Instr × Nat) := [(3, .iload_n 3, 1), (4, .ifCond .lt 30, 3)]
set_option maxRecDepth 20000 in
theorem k_X8_putLetters_3 {sc : xm_Sc} : xm_bok (xe_cy (XE sc) 137) b_X8_putLetters_3 := by show xm_bok cX8_putLetters _; unfold xm_bok; decide +kernel
def b_X8_putLetters_7 : List (Nat × Jvm.ClassFile.Instr × Nat) := [(7, .lload_n 1, 1), (8, .iload_n 3, 1), (9, .lushr, 1), (10, .l2i, 1), (11, .sipush 255, 3), (14, .iand, 1), (15, .istore 4, 2), (17, .iload 4, 2), (19, .ifCond .eq 9, 3)]
set_option maxRecDepth 20000 in
theorem k_X8_putLetters_7 {sc : xm_Sc} : xm_bok (xe_cy (XE sc) 137) b_X8_putLetters_7 := by show xm_bok cX8_putLetters _; unfold xm_bok; decide +kernel
def b_X8_putLetters_22 : List (Nat × Jvm.ClassFile.Instr × Nat) := [(22, .aload_n 0, 1), (23, .iload 4, 2), (25, .invokevirtual 42, 3)]
set_option maxRecDepth 20000 in
theorem k_X8_putLetters_22 {sc : xm_Sc} : xm_bok (xe_cy (XE sc) 137) b_X8_putLetters_22 := by show xm_bok cX8_putLetters _; unfold xm_bok; decide +kernel
def b_X8_putLetters_28 : List (Nat × Jvm.ClassFile.Instr × Nat) := [(28, .iinc 3 (-8), 3), (31, .goto (-28), 3)]
set_option maxRecDepth 20000 in
theorem k_X8_putLetters_28 {sc : xm_Sc} : xm_bok (xe_cy (XE sc) 137) b_X8_putLetters_28 := by show xm_bok cX8_putLetters _; unfold xm_bok; decide +kernel
def b_X8_putLetters_34 : List (Nat × Jvm.ClassFile.Instr × Nat) := [(34, .return_, 1)]
set_option maxRecDepth 20000 in
theorem k_X8_putLetters_34 {sc : xm_Sc} : xm_bok (xe_cy (XE sc) 137) b_X8_putLetters_34 := by show xm_bok cX8_putLetters _; unfold xm_bok; decide +kernel
set_option maxRecDepth 20000 in
theorem cn_137 {sc : xm_Sc} : xe_cn (XE sc) 137 = 8 := rfl
set_option maxRecDepth 20000 in
theorem ml_137 {sc : xm_Sc} : xe_ml (XE sc) 137 = 5 := rfl
set_option maxRecDepth 20000 in
theorem ry_137 {sc : xm_Sc} : xe_ry (XE sc) 137 = none := rfl
set_option maxRecDepth 20000 in
theorem is_137 {sc : xm_Sc} : xe_is (XE sc) 137 = false := rfl
set_option maxRecDepth 20000 in
theorem np_137 {sc : xm_Sc} : xe_np (XE sc) 137 = 1 := rfl
/- method 138: X8_putNatural -/
def b_X8_putNatural_0 : List (Nat × Jvm.ClassFile.Instr × Nat) := [(0, .iconst 0, 1), (1, .istore_n 2, 1), (2, .iload_n 1, 1), (3, .istore_n 3, 1)]
set_option maxRecDepth 20000 in
theorem k_X8_putNatural_0 {sc : xm_Sc} : xm_bok (xe_cy (XE sc) 138) b_X8_putNatural_0 := by show xm_bok cX8_putNatural _; unfold xm_bok; decide +kernel
def b_X8_putNatural_4 : List (Nat × Jvm.ClassFile.Instr × Nat) := [(4, .iload_n 3, 1), (5, .iconst 1, 1), (6, .if_icmp .le 25, 3)]
set_option maxRecDepth 20000 in
theorem k_X8_putNatural_4 {sc : xm_Sc} : xm_bok (xe_cy (XE sc) 138) b_X8_putNatural_4 := by show xm_bok cX8_putNatural _; unfold xm_bok; decide +kernel
def b_X8_putNatural_9 : List (Nat × Jvm.ClassFile.Instr × Nat) := [(9, .iload_n 2, 1), (10, .bipush 8, 2), (12, .if_icmp .ge 19, 3)]
set_option maxRecDepth 20000 in
theorem k_X8_putNatural_9 {sc : xm_Sc} : xm_bok (xe_cy (XE sc) 138) b_X8_putNatural_9 := by show xm_bok cX8_putNatural _; unfold xm_bok; decide +kernel
def b_X8_putNatural_15 : List (Nat × Jvm.ClassFile.Instr × Nat) := [(15, .aload_n 0, 1), (16, .iconst 1, 1), (17, .invokevirtual 46, 3)]
set_option maxRecDepth 20000 in
theorem k_X8_putNatural_15 {sc : xm_Sc} : xm_bok (xe_cy (XE sc) 138) b_X8_putNatural_15 := by show xm_bok cX8_putNatural _; unfold xm_bok; decide +kernel
def b_X8_putNatural_20 : List (Nat × Jvm.ClassFile.Instr × Nat) := [(20, .iinc 2 1, 3), (23, .iload_n 3, 1), (24, .invokestatic 49, 3)]
set_option maxRecDepth 20000 in
theorem k_X8_putNatural_20 {sc : xm_Sc} : xm_bok (xe_cy (XE sc) 138) b_X8_putNatural_20 := by show xm_bok cX8_putNatural _; unfold xm_bok; decide +kernel
def b_X8_putNatural_27 : List (Nat × Jvm.ClassFile.Instr × Nat) := [(27, .istore_n 3, 1), (28, .goto (-24), 3)]
set_option maxRecDepth 20000 in
theorem k_X8_putNatural_27 {sc : xm_Sc} : xm_bok (xe_cy (XE sc) 138) b_X8_putNatural_27 := by show xm_bok cX8_putNatural _; unfold xm_bok; decide +kernel
def b_X8_putNatural_31 : List (Nat × Jvm.ClassFile.Instr × Nat) := [(31, .aload_n 0, 1), (32, .iconst 0, 1), (33, .invokevirtual 46, 3)]
set_option maxRecDepth 20000 in
theorem k_X8_putNatural_31 {sc : xm_Sc} : xm_bok (xe_cy (XE sc) 138) b_X8_putNatural_31 := by show xm_bok cX8_putNatural _; unfold xm_bok; decide +kernel
def b_X8_putNatural_36 : List (Nat × Jvm.ClassFile.Instr × Nat) := [(36, .iload_n 2, 1), (37, .iconst 1, 1), (38, .isub, 1), (39, .istore_n 3, 1)]
set_option maxRecDepth 20000 in
theorem k_X8_putNatural_36 {sc : xm_Sc} : xm_bok (xe_cy (XE sc) 138) b_X8_putNatural_36 := by show xm_bok cX8_putNatural _; unfold xm_bok; decide +kernel
def b_X8_putNatural_40 : List (Nat × Jvm.ClassFile.Instr × Nat) := [(40, .iload_n 3, 1), (41, .ifCond .lt 46, 3)]
set_option maxRecDepth 20000 in
theorem k_X8_putNatural_40 {sc : xm_Sc} : xm_bok (xe_cy (XE sc) 138) b_X8_putNatural_40 := by show xm_bok cX8_putNatural _; unfold xm_bok; decide +kernel
def b_X8_putNatural_44 : List (Nat × Jvm.ClassFile.Instr × Nat) := [(44, .iload_n 1, 1), (45, .istore 4, 2), (47, .iconst 0, 1), (48, .istore 5, 2)]
set_option maxRecDepth 20000 in
theorem k_X8_putNatural_44 {sc : xm_Sc} : xm_bok (xe_cy (XE sc) 138) b_X8_putNatural_44 := by show xm_bok cX8_putNatural _; unfold xm_bok; decide +kernel
def b_X8_putNatural_50 : List (Nat × Jvm.ClassFile.Instr × Nat) := [(50, .iload 5, 2), (52, .iload_n 3, 1), (53, .if_icmp .ge 16, 3)]
set_option maxRecDepth 20000 in
theorem k_X8_putNatural_50 {sc : xm_Sc} : xm_bok (xe_cy (XE sc) 138) b_X8_putNatural_50 := by show xm_bok cX8_putNatural _; unfold xm_bok; decide +kernel
def b_X8_putNatural_56 : List (Nat × Jvm.ClassFile.Instr × Nat) := [(56, .iload 4, 2), (58, .invokestatic 49, 3)]
set_option maxRecDepth 20000 in
theorem k_X8_putNatural_56 {sc : xm_Sc} : xm_bok (xe_cy (XE sc) 138) b_X8_putNatural_56 := by show xm_bok cX8_putNatural _; unfold xm_bok; decide +kernel
def b_X8_putNatural_61 : List (Nat × Jvm.ClassFile.Instr × Nat) := [(61, .istore 4, 2), (63, .iinc 5 1, 3), (66, .goto (-16), 3)]
set_option maxRecDepth 20000 in
theorem k_X8_putNatural_61 {sc : xm_Sc} : xm_bok (xe_cy (XE sc) 138) b_X8_putNatural_61 := by show xm_bok cX8_putNatural _; unfold xm_bok; decide +kernel
def b_X8_putNatural_69 : List (Nat × Jvm.ClassFile.Instr × Nat) := [(69, .aload_n 0, 1), (70, .iload 4, 2), (72, .i2l, 1), (73, .iload 4, 2), (75, .invokestatic 49, 3)]
set_option maxRecDepth 20000 in
theorem k_X8_putNatural_69 {sc : xm_Sc} : xm_bok (xe_cy (XE sc) 138) b_X8_putNatural_69 := by show xm_bok cX8_putNatural _; unfold xm_bok; decide +kernel
def b_X8_putNatural_78 : List (Nat × Jvm.ClassFile.Instr × Nat) := [(78, .invokevirtual 52, 3)]
set_option maxRecDepth 20000 in
theorem k_X8_putNatural_78 {sc : xm_Sc} : xm_bok (xe_cy (XE sc) 138) b_X8_putNatural_78 := by show xm_bok cX8_putNatural _; unfold xm_bok; decide +kernel
def b_X8_putNatural_81 : List (Nat × Jvm.ClassFile.Instr × Nat) := [(81, .iinc 3 (-1), 3), (84, .goto (-44), 3)]
set_option maxRecDepth 20000 in
theorem k_X8_putNatural_81 {sc : xm_Sc} : xm_bok (xe_cy (XE sc) 138) b_X8_putNatural_81 := by show xm_bok cX8_putNatural _; unfold xm_bok; decide +kernel
def b_X8_putNatural_87 : List (Nat × Jvm.ClassFile.Instr × Nat) := [(87, .return_, 1)]
set_option maxRecDepth 20000 in
theorem k_X8_putNatural_87 {sc : xm_Sc} : xm_bok (xe_cy (XE sc) 138) b_X8_putNatural_87 := by show xm_bok cX8_putNatural _; unfold xm_bok; decide +kernel
set_option maxRecDepth 20000 in
theorem cn_138 {sc : xm_Sc} : xe_cn (XE sc) 138 = 8 := rfl
set_option maxRecDepth 20000 in
theorem ml_138 {sc : xm_Sc} : xe_ml (XE sc) 138 = 6 := rfl
set_option maxRecDepth 20000 in
theorem ry_138 {sc : xm_Sc} : xe_ry (XE sc) 138 = none := rfl
set_option maxRecDepth 20000 in
theorem is_138 {sc : xm_Sc} : xe_is (XE sc) 138 = false := rfl
set_option maxRecDepth 20000 in
theorem np_138 {sc : xm_Sc} : xe_np (XE sc) 138 = 1 := rfl
/- method 139: X8_putNumber -/
def b_X8_putNumber_0 : List (Nat × Jvm.ClassFile.Instr × Nat) := [(0, .iload_n 1, 1), (1, .bipush 100, 2), (3, .if_icmp .lt 17, 3)]
set_option maxRecDepth 20000 in
theorem k_X8_putNumber_0 {sc : xm_Sc} : xm_bok (xe_cy (XE sc) 139) b_X8_putNumber_0 := by show xm_bok cX8_putNumber _; unfold xm_bok; decide +kernel
def b_X8_putNumber_6 : List (Nat × Jvm.ClassFile.Instr × Nat) := [(6, .aload_n 0, 1), (7, .bipush 48, 2), (9, .iload_n 1, 1), (10, .bipush 100, 2), (12, .idiv, 1), (13, .bipush 10, 2), (15, .irem, 1), (16, .iadd, 1), (17, .invokevirtual 42, 3)]
set_option maxRecDepth 20000 in
theorem k_X8_putNumber_6 {sc : xm_Sc} : xm_bok (xe_cy (XE sc) 139) b_X8_putNumber_6 := by show xm_bok cX8_putNumber _; unfold xm_bok; decide +kernel
def b_X8_putNumber_20 : List (Nat × Jvm.ClassFile.Instr × Nat) := [(20, .iload_n 1, 1), (21, .bipush 10, 2), (23, .if_icmp .lt 17, 3)]
set_option maxRecDepth 20000 in
theorem k_X8_putNumber_20 {sc : xm_Sc} : xm_bok (xe_cy (XE sc) 139) b_X8_putNumber_20 := by show xm_bok cX8_putNumber _; unfold xm_bok; decide +kernel
def b_X8_putNumber_26 : List (Nat × Jvm.ClassFile.Instr × Nat) := [(26, .aload_n 0, 1), (27, .bipush 48, 2), (29, .iload_n 1, 1), (30, .bipush 10, 2), (32, .idiv, 1), (33, .bipush 10, 2), (35, .irem, 1), (36, .iadd, 1), (37, .invokevirtual 42, 3)]
set_option maxRecDepth 20000 in
theorem k_X8_putNumber_26 {sc : xm_Sc} : xm_bok (xe_cy (XE sc) 139) b_X8_putNumber_26 := by show xm_bok cX8_putNumber _; unfold xm_bok; decide +kernel
def b_X8_putNumber_40 : List (Nat × Jvm.ClassFile.Instr × Nat) := [(40, .aload_n 0, 1), (41, .bipush 48, 2), (43, .iload_n 1, 1), (44, .bipush 10, 2), (46, .irem, 1), (47, .iadd, 1), (48, .invokevirtual 42, 3)]
set_option maxRecDepth 20000 in
theorem k_X8_putNumber_40 {sc : xm_Sc} : xm_bok (xe_cy (XE sc) 139) b_X8_putNumber_40 := by show xm_bok cX8_putNumber _; unfold xm_bok; decide +kernel
def b_X8_putNumber_51 : List (Nat × Jvm.ClassFile.Instr × Nat) := [(51, .return_, 1)]
set_option maxRecDepth 20000 in
theorem k_X8_putNumber_51 {sc : xm_Sc} : xm_bok (xe_cy (XE sc) 139) b_X8_putNumber_51 := by show xm_bok cX8_putNumber _; unfold xm_bok; decide +kernel
set_option maxRecDepth 20000 in
theorem cn_139 {sc : xm_Sc} : xe_cn (XE sc) 139 = 8 := rfl
set_option maxRecDepth 20000 in
theorem ml_139 {sc : xm_Sc} : xe_ml (XE sc) 139 = 2 := rfl
set_option maxRecDepth 20000 in
theorem ry_139 {sc : xm_Sc} : xe_ry (XE sc) 139 = none := rfl
set_option maxRecDepth 20000 in
theorem is_139 {sc : xm_Sc} : xe_is (XE sc) 139 = false := rfl
set_option maxRecDepth 20000 in
theorem np_139 {sc : xm_Sc} : xe_np (XE sc) 139 = 1 := rfl
/- method 140: X8_putText -/
def b_X8_putText_0 : List (Nat × Jvm.ClassFile.Instr × Nat) := [(0, .iconst 0, 1), (1, .istore_n 2, 1)]
set_option maxRecDepth 20000 in
theorem k_X8_putText_0 {sc : xm_Sc} : xm_bok (xe_cy (XE sc) 140) b_X8_putText_0 := by show xm_bok cX8_putText _; unfold xm_bok; decide +kernel
def b_X8_putText_2 : List (Nat × Jvm.ClassFile.Instr × Nat) := [(2, .iload_n 2, 1), (3, .aload_n 1, 1), (4, .invokevirtual 56, 3)]
set_option maxRecDepth 20000 in
theorem k_X8_putText_2 {sc : xm_Sc} : xm_bok (xe_cy (XE sc) 140) b_X8_putText_2 := by show xm_bok cX8_putText _; unfold xm_bok; decide +kernel
def b_X8_putText_7 : List (Nat × Jvm.ClassFile.Instr × Nat) := [(7, .if_icmp .ge 18, 3)]
set_option maxRecDepth 20000 in
theorem k_X8_putText_7 {sc : xm_Sc} : xm_bok (xe_cy (XE sc) 140) b_X8_putText_7 := by show xm_bok cX8_putText _; unfold xm_bok; decide +kernel
def b_X8_putText_10 : List (Nat × Jvm.ClassFile.Instr × Nat) := [(10, .aload_n 0, 1), (11, .aload_n 1, 1), (12, .iload_n 2, 1), (13, .invokevirtual 62, 3)]
set_option maxRecDepth 20000 in
theorem k_X8_putText_10 {sc : xm_Sc} : xm_bok (xe_cy (XE sc) 140) b_X8_putText_10 := by show xm_bok cX8_putText _; unfold xm_bok; decide +kernel
def b_X8_putText_16 : List (Nat × Jvm.ClassFile.Instr × Nat) := [(16, .invokevirtual 42, 3)]
set_option maxRecDepth 20000 in
theorem k_X8_putText_16 {sc : xm_Sc} : xm_bok (xe_cy (XE sc) 140) b_X8_putText_16 := by show xm_bok cX8_putText _; unfold xm_bok; decide +kernel
def b_X8_putText_19 : List (Nat × Jvm.ClassFile.Instr × Nat) := [(19, .iinc 2 1, 3), (22, .goto (-20), 3)]
set_option maxRecDepth 20000 in
theorem k_X8_putText_19 {sc : xm_Sc} : xm_bok (xe_cy (XE sc) 140) b_X8_putText_19 := by show xm_bok cX8_putText _; unfold xm_bok; decide +kernel
def b_X8_putText_25 : List (Nat × Jvm.ClassFile.Instr × Nat) := [(25, .return_, 1)]
set_option maxRecDepth 20000 in
theorem k_X8_putText_25 {sc : xm_Sc} : xm_bok (xe_cy (XE sc) 140) b_X8_putText_25 := by show xm_bok cX8_putText _; unfold xm_bok; decide +kernel
set_option maxRecDepth 20000 in
theorem cn_140 {sc : xm_Sc} : xe_cn (XE sc) 140 = 8 := rfl
set_option maxRecDepth 20000 in
theorem ml_140 {sc : xm_Sc} : xe_ml (XE sc) 140 = 3 := rfl
set_option maxRecDepth 20000 in
theorem ry_140 {sc : xm_Sc} : xe_ry (XE sc) 140 = none := rfl
set_option maxRecDepth 20000 in
theorem is_140 {sc : xm_Sc} : xe_is (XE sc) 140 = false := rfl
set_option maxRecDepth 20000 in
theorem np_140 {sc : xm_Sc} : xe_np (XE sc) 140 = 1 := rfl
set_option maxRecDepth 20000 in
theorem fl_8_9 {sc : xm_Sc} : xe_fl (XE sc) 8 9 = some (8, 0) := rfl
set_option maxRecDepth 20000 in
theorem fl_8_15 {sc : xm_Sc} : xe_fl (XE sc) 8 15 = some (8, 1) := rfl
set_option maxRecDepth 20000 in
theorem fl_8_19 {sc : xm_Sc} : xe_fl (XE sc) 8 19 = some (8, 3) := rfl
set_option maxRecDepth 20000 in
theorem fl_8_22 {sc : xm_Sc} : xe_fl (XE sc) 8 22 = some (8, 2) := rfl
set_option maxRecDepth 20000 in
theorem lk_8_26 {sc : xm_Sc} : xe_lk (XE sc) 8 26 = some 128 := rfl
set_option maxRecDepth 20000 in
theorem lk_8_29 {sc : xm_Sc} : xe_lk (XE sc) 8 29 = some 330 := rfl
set_option maxRecDepth 20000 in
theorem lk_8_35 {sc : xm_Sc} : xe_lk (XE sc) 8 35 = some 126 := rfl
set_option maxRecDepth 20000 in
theorem lk_8_39 {sc : xm_Sc} : xe_lk (XE sc) 8 39 = some 127 := rfl
set_option maxRecDepth 20000 in
theorem lk_8_42 {sc : xm_Sc} : xe_lk (XE sc) 8 42 = some 133 := rfl
set_option maxRecDepth 20000 in
theorem lk_8_46 {sc : xm_Sc} : xe_lk (XE sc) 8 46 = some 134 := rfl
set_option maxRecDepth 20000 in
theorem lk_8_49 {sc : xm_Sc} : xe_lk (XE sc) 8 49 = some 132 := rfl
set_option maxRecDepth 20000 in
theorem lk_8_52 {sc : xm_Sc} : xe_lk (XE sc) 8 52 = some 135 := rfl
