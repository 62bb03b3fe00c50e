set_option maxRecDepth 100000 in
theorem ggX3_readProgram_X6_clear : GoodIn wsX3_readProgram wsX6_clear := goodIn_r _ [14, 15, 16, 17, 275, 276, 277, 278, 279, 280, 281, 282, 283, 284, 285, 286, 287, 288, 289, 290] (by decide +kernel) (by decide +kernel)
set_option maxRecDepth 100000 in
theorem gX3_readProgram_X6_clear : GoodIn wsX3_readProgram (wsV RX3 19 RX6 yX6_clear wsX6_clear) := goodIn_app (goodIn_of _ (by decide +kernel)) ggX3_readProgram_X6_clear
set_option maxRecDepth 100000 in
theorem ggX3_readProgram_X8_copy : GoodIn wsX3_readProgram wsX8_copy := goodIn_r _ [22, 23, 24, 25, 26, 27, 28, 29, 30, 31, 21, 32, 33, 34, 291, 292, 293, 294] (by decide +kernel) (by decide +kernel)
set_option maxRecDepth 100000 in
theorem gX3_readProgram_X8_copy : GoodIn wsX3_readProgram (wsV RX3 28 RX8 yX8_copy wsX8_copy) := goodIn_app (goodIn_of _ (by decide +kernel)) ggX3_readProgram_X8_copy
set_option maxRecDepth 100000 in
theorem ggX3_readProgram_X3_readNatural : GoodIn wsX3_readProgram wsX3_readNatural := goodIn_r _ [39, 4, 6, 3, 7, 40, 41, 42, 21, 43, 44, 45, 46, 47, 23, 24, 48, 49, 50, 38, 51, 269, 270, 271, 272, 273, 274, 291, 292, 293, 294] rfl rfl
set_option maxRecDepth 100000 in
theorem gX3_readProgram_X3_readNatural : GoodIn wsX3_readProgram (wsV RX3 50 RX3 yX3_readNatural wsX3_readNatural) := goodIn_app (goodIn_of _ (by decide +kernel)) ggX3_readProgram_X3_readNatural
theorem dX3_readProgram_0 : decode cX3_readProgram 0 = .ok (.aload_n 0, 1) := by decide +kernel
theorem dX3_readProgram_1 : decode cX3_readProgram 1 = .ok (.aload_n 2, 1) := by decide +kernel
theorem dX3_readProgram_2 : decode cX3_readProgram 2 = .ok (.putfield 15, 3) := by decide +kernel
theorem dX3_readProgram_5 : decode cX3_readProgram 5 = .ok (.aload_n 0, 1) := by decide +kernel
theorem dX3_readProgram_6 : decode cX3_readProgram 6 = .ok (.getfield 15, 3) := by decide +kernel
theorem dX3_readProgram_9 : decode cX3_readProgram 9 = .ok (.invokevirtual 19, 3) := by decide +kernel
theorem dX3_readProgram_12 : decode cX3_readProgram 12 = .ok (.aload_n 0, 1) := by decide +kernel
theorem dX3_readProgram_13 : decode cX3_readProgram 13 = .ok (.getfield 15, 3) := by decide +kernel
theorem dX3_readProgram_16 : decode cX3_readProgram 16 = .ok (.getfield 24, 3) := by decide +kernel
theorem dX3_readProgram_19 : decode cX3_readProgram 19 = .ok (.aload_n 1, 1) := by decide +kernel
theorem dX3_readProgram_20 : decode cX3_readProgram 20 = .ok (.invokevirtual 28, 3) := by decide +kernel
theorem dX3_readProgram_23 : decode cX3_readProgram 23 = .ok (.aload_n 0, 1) := by decide +kernel
theorem dX3_readProgram_24 : decode cX3_readProgram 24 = .ok (.aload_n 0, 1) := by decide +kernel
theorem dX3_readProgram_25 : decode cX3_readProgram 25 = .ok (.getfield 15, 3) := by decide +kernel
theorem dX3_readProgram_28 : decode cX3_readProgram 28 = .ok (.getfield 24, 3) := by decide +kernel
theorem dX3_readProgram_31 : decode cX3_readProgram 31 = .ok (.putfield 34, 3) := by decide +kernel
theorem dX3_readProgram_34 : decode cX3_readProgram 34 = .ok (.aload_n 0, 1) := by decide +kernel
theorem dX3_readProgram_35 : decode cX3_readProgram 35 = .ok (.iconst 0, 1) := by decide +kernel
theorem dX3_readProgram_36 : decode cX3_readProgram 36 = .ok (.putfield 37, 3) := by decide +kernel
theorem dX3_readProgram_39 : decode cX3_readProgram 39 = .ok (.aload_n 0, 1) := by decide +kernel
theorem dX3_readProgram_40 : decode cX3_readProgram 40 = .ok (.bipush 8, 2) := by decide +kernel
theorem dX3_readProgram_42 : decode cX3_readProgram 42 = .ok (.aload_n 0, 1) := by decide +kernel
theorem dX3_readProgram_43 : decode cX3_readProgram 43 = .ok (.getfield 34, 3) := by decide +kernel
theorem dX3_readProgram_46 : decode cX3_readProgram 46 = .ok (.getfield 41, 3) := by decide +kernel
theorem dX3_readProgram_49 : decode cX3_readProgram 49 = .ok (.imul, 1) := by decide +kernel
theorem dX3_readProgram_50 : decode cX3_readProgram 50 = .ok (.putfield 44, 3) := by decide +kernel
theorem dX3_readProgram_53 : decode cX3_readProgram 53 = .ok (.aload_n 0, 1) := by decide +kernel
theorem dX3_readProgram_54 : decode cX3_readProgram 54 = .ok (.iconst 0, 1) := by decide +kernel
theorem dX3_readProgram_55 : decode cX3_readProgram 55 = .ok (.putfield 47, 3) := by decide +kernel
theorem dX3_readProgram_58 : decode cX3_readProgram 58 = .ok (.aload_n 0, 1) := by decide +kernel
theorem dX3_readProgram_59 : decode cX3_readProgram 59 = .ok (.invokevirtual 50, 3) := by decide +kernel
theorem dX3_readProgram_62 : decode cX3_readProgram 62 = .ok (.istore_n 3, 1) := by decide +kernel
theorem dX3_readProgram_63 : decode cX3_readProgram 63 = .ok (.aload_n 0, 1) := by decide +kernel
theorem dX3_readProgram_64 : decode cX3_readProgram 64 = .ok (.getfield 47, 3) := by decide +kernel
theorem dX3_readProgram_67 : decode cX3_readProgram 67 = .ok (.ifCond .ne 15, 3) := by decide +kernel
theorem dX3_readProgram_70 : decode cX3_readProgram 70 = .ok (.iload_n 3, 1) := by decide +kernel
theorem dX3_readProgram_71 : decode cX3_readProgram 71 = .ok (.sipush 400, 3) := by decide +kernel
theorem dX3_readProgram_74 : decode cX3_readProgram 74 = .ok (.if_icmp .le 8, 3) := by decide +kernel
theorem dX3_readProgram_77 : decode cX3_readProgram 77 = .ok (.aload_n 0, 1) := by decide +kernel
theorem dX3_readProgram_78 : decode cX3_readProgram 78 = .ok (.iconst 4, 1) := by decide +kernel
theorem dX3_readProgram_79 : decode cX3_readProgram 79 = .ok (.putfield 47, 3) := by decide +kernel
theorem dX3_readProgram_82 : decode cX3_readProgram 82 = .ok (.iconst 0, 1) := by decide +kernel
theorem dX3_readProgram_83 : decode cX3_readProgram 83 = .ok (.istore 4, 2) := by decide +kernel
theorem dX3_readProgram_85 : decode cX3_readProgram 85 = .ok (.iload 4, 2) := by decide +kernel
theorem dX3_readProgram_87 : decode cX3_readProgram 87 = .ok (.iload_n 3, 1) := by decide +kernel
theorem dX3_readProgram_88 : decode cX3_readProgram 88 = .ok (.if_icmp .ge 20, 3) := by decide +kernel
theorem dX3_readProgram_91 : decode cX3_readProgram 91 = .ok (.aload_n 0, 1) := by decide +kernel
theorem dX3_readProgram_92 : decode cX3_readProgram 92 = .ok (.getfield 47, 3) := by decide +kernel
theorem dX3_readProgram_95 : decode cX3_readProgram 95 = .ok (.ifCond .ne 13, 3) := by decide +kernel
theorem dX3_readProgram_98 : decode cX3_readProgram 98 = .ok (.aload_n 0, 1) := by decide +kernel
theorem dX3_readProgram_99 : decode cX3_readProgram 99 = .ok (.invokevirtual 54, 3) := by decide +kernel
theorem dX3_readProgram_102 : decode cX3_readProgram 102 = .ok (.iinc 4 1, 3) := by decide +kernel
theorem dX3_readProgram_105 : decode cX3_readProgram 105 = .ok (.goto (-20), 3) := by decide +kernel
theorem dX3_readProgram_108 : decode cX3_readProgram 108 = .ok (.aload_n 0, 1) := by decide +kernel
theorem dX3_readProgram_109 : decode cX3_readProgram 109 = .ok (.getfield 47, 3) := by decide +kernel
theorem dX3_readProgram_112 : decode cX3_readProgram 112 = .ok (.ifCond .eq 8, 3) := by decide +kernel
theorem dX3_readProgram_115 : decode cX3_readProgram 115 = .ok (.aload_n 0, 1) := by decide +kernel
theorem dX3_readProgram_116 : decode cX3_readProgram 116 = .ok (.getfield 47, 3) := by decide +kernel
theorem dX3_readProgram_119 : decode cX3_readProgram 119 = .ok (.ireturn, 1) := by decide +kernel
theorem dX3_readProgram_120 : decode cX3_readProgram 120 = .ok (.aload_n 0, 1) := by decide +kernel
theorem dX3_readProgram_121 : decode cX3_readProgram 121 = .ok (.getfield 9, 3) := by decide +kernel
theorem dX3_readProgram_124 : decode cX3_readProgram 124 = .ok (.aload_n 0, 1) := by decide +kernel
theorem dX3_readProgram_125 : decode cX3_readProgram 125 = .ok (.getfield 15, 3) := by decide +kernel
theorem dX3_readProgram_128 : decode cX3_readProgram 128 = .ok (.aload_n 0, 1) := by decide +kernel
theorem dX3_readProgram_129 : decode cX3_readProgram 129 = .ok (.getfield 15, 3) := by decide +kernel
theorem dX3_readProgram_132 : decode cX3_readProgram 132 = .ok (.getfield 57, 3) := by decide +kernel
theorem dX3_readProgram_135 : decode cX3_readProgram 135 = .ok (.iconst 1, 1) := by decide +kernel
theorem dX3_readProgram_136 : decode cX3_readProgram 136 = .ok (.isub, 1) := by decide +kernel
theorem dX3_readProgram_137 : decode cX3_readProgram 137 = .ok (.invokevirtual 60, 3) := by decide +kernel
theorem dX3_readProgram_140 : decode cX3_readProgram 140 = .ok (.aload_n 0, 1) := by decide +kernel
theorem dX3_readProgram_141 : decode cX3_readProgram 141 = .ok (.getfield 9, 3) := by decide +kernel
theorem dX3_readProgram_144 : decode cX3_readProgram 144 = .ok (.aload_n 0, 1) := by decide +kernel
theorem dX3_readProgram_145 : decode cX3_readProgram 145 = .ok (.getfield 15, 3) := by decide +kernel
theorem dX3_readProgram_148 : decode cX3_readProgram 148 = .ok (.getfield 57, 3) := by decide +kernel
theorem dX3_readProgram_151 : decode cX3_readProgram 151 = .ok (.invokevirtual 66, 3) := by decide +kernel
theorem dX3_readProgram_154 : decode cX3_readProgram 154 = .ok (.ifCond .ne 5, 3) := by decide +kernel
theorem dX3_readProgram_157 : decode cX3_readProgram 157 = .ok (.iconst 5, 1) := by decide +kernel
theorem dX3_readProgram_158 : decode cX3_readProgram 158 = .ok (.ireturn, 1) := by decide +kernel
theorem dX3_readProgram_159 : decode cX3_readProgram 159 = .ok (.aload_n 0, 1) := by decide +kernel
theorem dX3_readProgram_160 : decode cX3_readProgram 160 = .ok (.getfield 9, 3) := by decide +kernel
theorem dX3_readProgram_163 : decode cX3_readProgram 163 = .ok (.aload_n 0, 1) := by decide +kernel
theorem dX3_readProgram_164 : decode cX3_readProgram 164 = .ok (.getfield 15, 3) := by decide +kernel
theorem dX3_readProgram_167 : decode cX3_readProgram 167 = .ok (.invokevirtual 70, 3) := by decide +kernel
theorem dX3_readProgram_170 : decode cX3_readProgram 170 = .ok (.istore 4, 2) := by decide +kernel
theorem dX3_readProgram_172 : decode cX3_readProgram 172 = .ok (.iload 4, 2) := by decide +kernel
theorem dX3_readProgram_174 : decode cX3_readProgram 174 = .ok (.ifCond .eq 6, 3) := by decide +kernel
theorem dX3_readProgram_177 : decode cX3_readProgram 177 = .ok (.iload 4, 2) := by decide +kernel
theorem dX3_readProgram_179 : decode cX3_readProgram 179 = .ok (.ireturn, 1) := by decide +kernel
theorem dX3_readProgram_180 : decode cX3_readProgram 180 = .ok (.aload_n 0, 1) := by decide +kernel
theorem dX3_readProgram_181 : decode cX3_readProgram 181 = .ok (.getfield 9, 3) := by decide +kernel
theorem dX3_readProgram_184 : decode cX3_readProgram 184 = .ok (.aload_n 0, 1) := by decide +kernel
theorem dX3_readProgram_185 : decode cX3_readProgram 185 = .ok (.getfield 15, 3) := by decide +kernel
theorem dX3_readProgram_188 : decode cX3_readProgram 188 = .ok (.invokevirtual 74, 3) := by decide +kernel
theorem dX3_readProgram_191 : decode cX3_readProgram 191 = .ok (.ifCond .le 6, 3) := by decide +kernel
theorem dX3_readProgram_194 : decode cX3_readProgram 194 = .ok (.bipush 6, 2) := by decide +kernel
theorem dX3_readProgram_196 : decode cX3_readProgram 196 = .ok (.ireturn, 1) := by decide +kernel
theorem dX3_readProgram_197 : decode cX3_readProgram 197 = .ok (.aload_n 0, 1) := by decide +kernel
theorem dX3_readProgram_198 : decode cX3_readProgram 198 = .ok (.invokevirtual 77, 3) := by decide +kernel
theorem dX3_readProgram_201 : decode cX3_readProgram 201 = .ok (.aload_n 0, 1) := by decide +kernel
theorem dX3_readProgram_202 : decode cX3_readProgram 202 = .ok (.getfield 47, 3) := by decide +kernel
theorem dX3_readProgram_205 : decode cX3_readProgram 205 = .ok (.ireturn, 1) := by decide +kernel
theorem dX3_readBits_0 : decode cX3_readBits 0 = .ok (.aload_n 0, 1) := by decide +kernel
theorem dX3_readBits_1 : decode cX3_readBits 1 = .ok (.getfield 47, 3) := by decide +kernel
theorem dX3_readBits_4 : decode cX3_readBits 4 = .ok (.ifCond .ne 21, 3) := by decide +kernel
theorem dX3_readBits_7 : decode cX3_readBits 7 = .ok (.aload_n 0, 1) := by decide +kernel
theorem dX3_readBits_8 : decode cX3_readBits 8 = .ok (.getfield 44, 3) := by decide +kernel
theorem dX3_readBits_11 : decode cX3_readBits 11 = .ok (.aload_n 0, 1) := by decide +kernel
theorem dX3_readBits_12 : decode cX3_readBits 12 = .ok (.getfield 37, 3) := by decide +kernel
theorem dX3_readBits_15 : decode cX3_readBits 15 = .ok (.isub, 1) := by decide +kernel
theorem dX3_readBits_16 : decode cX3_readBits 16 = .ok (.iload_n 1, 1) := by decide +kernel
theorem dX3_readBits_17 : decode cX3_readBits 17 = .ok (.if_icmp .ge 8, 3) := by decide +kernel
theorem dX3_readBits_20 : decode cX3_readBits 20 = .ok (.aload_n 0, 1) := by decide +kernel
theorem dX3_readBits_21 : decode cX3_readBits 21 = .ok (.iconst 1, 1) := by decide +kernel
theorem dX3_readBits_22 : decode cX3_readBits 22 = .ok (.putfield 47, 3) := by decide +kernel
theorem dX3_readBits_25 : decode cX3_readBits 25 = .ok (.aload_n 0, 1) := by decide +kernel
theorem dX3_readBits_26 : decode cX3_readBits 26 = .ok (.getfield 47, 3) := by decide +kernel
theorem dX3_readBits_29 : decode cX3_readBits 29 = .ok (.ifCond .eq 5, 3) := by decide +kernel
theorem dX3_readBits_32 : decode cX3_readBits 32 = .ok (.iconst 0, 1) := by decide +kernel
theorem dX3_readBits_33 : decode cX3_readBits 33 = .ok (.ireturn, 1) := by decide +kernel
theorem dX3_readBits_34 : decode cX3_readBits 34 = .ok (.iconst 0, 1) := by decide +kernel
theorem dX3_readBits_35 : decode cX3_readBits 35 = .ok (.istore_n 2, 1) := by decide +kernel
theorem dX3_readBits_36 : decode cX3_readBits 36 = .ok (.iconst 0, 1) := by decide +kernel
theorem dX3_readBits_37 : decode cX3_readBits 37 = .ok (.istore_n 3, 1) := by decide +kernel
theorem dX3_readBits_38 : decode cX3_readBits 38 = .ok (.iload_n 3, 1) := by decide +kernel
theorem dX3_readBits_39 : decode cX3_readBits 39 = .ok (.iload_n 1, 1) := by decide +kernel
theorem dX3_readBits_40 : decode cX3_readBits 40 = .ok (.if_icmp .ge 27, 3) := by decide +kernel
theorem dX3_readBits_43 : decode cX3_readBits 43 = .ok (.iload_n 2, 1) := by decide +kernel
theorem dX3_readBits_44 : decode cX3_readBits 44 = .ok (.iconst 1, 1) := by decide +kernel
theorem dX3_readBits_45 : decode cX3_readBits 45 = .ok (.ishl, 1) := by decide +kernel
theorem dX3_readBits_46 : decode cX3_readBits 46 = .ok (.aload_n 0, 1) := by decide +kernel
theorem dX3_readBits_47 : decode cX3_readBits 47 = .ok (.getfield 34, 3) := by decide +kernel
theorem dX3_readBits_50 : decode cX3_readBits 50 = .ok (.aload_n 0, 1) := by decide +kernel
theorem dX3_readBits_51 : decode cX3_readBits 51 = .ok (.getfield 37, 3) := by decide +kernel
theorem dX3_readBits_54 : decode cX3_readBits 54 = .ok (.iload_n 3, 1) := by decide +kernel
theorem dX3_readBits_55 : decode cX3_readBits 55 = .ok (.iadd, 1) := by decide +kernel
theorem dX3_readBits_56 : decode cX3_readBits 56 = .ok (.invokevirtual 139, 3) := by decide +kernel
theorem dX3_readBits_59 : decode cX3_readBits 59 = .ok (.ior, 1) := by decide +kernel
theorem dX3_readBits_60 : decode cX3_readBits 60 = .ok (.istore_n 2, 1) := by decide +kernel
theorem dX3_readBits_61 : decode cX3_readBits 61 = .ok (.iinc 3 1, 3) := by decide +kernel
theorem dX3_readBits_64 : decode cX3_readBits 64 = .ok (.goto (-26), 3) := by decide +kernel
theorem dX3_readBits_67 : decode cX3_readBits 67 = .ok (.aload_n 0, 1) := by decide +kernel
theorem dX3_readBits_68 : decode cX3_readBits 68 = .ok (.dup, 1) := by decide +kernel
theorem dX3_readBits_69 : decode cX3_readBits 69 = .ok (.getfield 37, 3) := by decide +kernel
theorem dX3_readBits_72 : decode cX3_readBits 72 = .ok (.iload_n 1, 1) := by decide +kernel
theorem dX3_readBits_73 : decode cX3_readBits 73 = .ok (.iadd, 1) := by decide +kernel
theorem dX3_readBits_74 : decode cX3_readBits 74 = .ok (.putfield 37, 3) := by decide +kernel
theorem dX3_readBits_77 : decode cX3_readBits 77 = .ok (.iload_n 2, 1) := by decide +kernel
theorem dX3_readBits_78 : decode cX3_readBits 78 = .ok (.ireturn, 1) := by decide +kernel
set_option maxRecDepth 100000 in
theorem ggX3_readNatural_X3_readBits : GoodIn wsX3_readNatural wsX3_readBits := goodIn_r _ [20, 4, 2, 1, 3, 5, 6, 7, 8, 9, 10, 11, 12, 13, 14, 15, 21, 22, 23, 24, 25, 26, 27, 28, 29, 30] (by decide +kernel) (by decide +kernel)
set_option maxRecDepth 100000 in
theorem gX3_readNatural_X3_readBits : GoodIn wsX3_readNatural (wsV RX3 80 RX3 yX3_readBits wsX3_readBits) := goodIn_app (goodIn_of _ (by decide +kernel)) ggX3_readNatural_X3_readBits
theorem dX3_readNatural_0 : decode cX3_readNatural 0 = .ok (.iconst 0, 1) := by decide +kernel
theorem dX3_readNatural_1 : decode cX3_readNatural 1 = .ok (.istore_n 1, 1) := by decide +kernel
theorem dX3_readNatural_2 : decode cX3_readNatural 2 = .ok (.aload_n 0, 1) := by decide +kernel
theorem dX3_readNatural_3 : decode cX3_readNatural 3 = .ok (.getfield 37, 3) := by decide +kernel
theorem dX3_readNatural_6 : decode cX3_readNatural 6 = .ok (.aload_n 0, 1) := by decide +kernel
theorem dX3_readNatural_7 : decode cX3_readNatural 7 = .ok (.getfield 44, 3) := by decide +kernel
theorem dX3_readNatural_10 : decode cX3_readNatural 10 = .ok (.if_icmp .ge 34, 3) := by decide +kernel
theorem dX3_readNatural_13 : decode cX3_readNatural 13 = .ok (.aload_n 0, 1) := by decide +kernel
theorem dX3_readNatural_14 : decode cX3_readNatural 14 = .ok (.getfield 34, 3) := by decide +kernel
theorem dX3_readNatural_17 : decode cX3_readNatural 17 = .ok (.aload_n 0, 1) := by decide +kernel
theorem dX3_readNatural_18 : decode cX3_readNatural 18 = .ok (.getfield 37, 3) := by decide +kernel
theorem dX3_readNatural_21 : decode cX3_readNatural 21 = .ok (.invokevirtual 139, 3) := by decide +kernel
theorem dX3_readNatural_24 : decode cX3_readNatural 24 = .ok (.iconst 1, 1) := by decide +kernel
theorem dX3_readNatural_25 : decode cX3_readNatural 25 = .ok (.if_icmp .ne 19, 3) := by decide +kernel
theorem dX3_readNatural_28 : decode cX3_readNatural 28 = .ok (.iinc 1 1, 3) := by decide +kernel
theorem dX3_readNatural_31 : decode cX3_readNatural 31 = .ok (.aload_n 0, 1) := by decide +kernel
theorem dX3_readNatural_32 : decode cX3_readNatural 32 = .ok (.dup, 1) := by decide +kernel
theorem dX3_readNatural_33 : decode cX3_readNatural 33 = .ok (.getfield 37, 3) := by decide +kernel
theorem dX3_readNatural_36 : decode cX3_readNatural 36 = .ok (.iconst 1, 1) := by decide +kernel
theorem dX3_readNatural_37 : decode cX3_readNatural 37 = .ok (.iadd, 1) := by decide +kernel
theorem dX3_readNatural_38 : decode cX3_readNatural 38 = .ok (.putfield 37, 3) := by decide +kernel
theorem dX3_readNatural_41 : decode cX3_readNatural 41 = .ok (.goto (-39), 3) := by decide +kernel
theorem dX3_readNatural_44 : decode cX3_readNatural 44 = .ok (.aload_n 0, 1) := by decide +kernel
theorem dX3_readNatural_45 : decode cX3_readNatural 45 = .ok (.iconst 1, 1) := by decide +kernel
theorem dX3_readNatural_46 : decode cX3_readNatural 46 = .ok (.invokevirtual 80, 3) := by decide +kernel
theorem dX3_readNatural_49 : decode cX3_readNatural 49 = .ok (.pop, 1) := by decide +kernel
theorem dX3_readNatural_50 : decode cX3_readNatural 50 = .ok (.iconst 1, 1) := by decide +kernel
theorem dX3_readNatural_51 : decode cX3_readNatural 51 = .ok (.istore_n 2, 1) := by decide +kernel
theorem dX3_readNatural_52 : decode cX3_readNatural 52 = .ok (.iconst 0, 1) := by decide +kernel
theorem dX3_readNatural_53 : decode cX3_readNatural 53 = .ok (.istore_n 3, 1) := by decide +kernel
theorem dX3_readNatural_54 : decode cX3_readNatural 54 = .ok (.iload_n 3, 1) := by decide +kernel
theorem dX3_readNatural_55 : decode cX3_readNatural 55 = .ok (.iload_n 1, 1) := by decide +kernel
theorem dX3_readNatural_56 : decode cX3_readNatural 56 = .ok (.if_icmp .ge 40, 3) := by decide +kernel
theorem dX3_readNatural_59 : decode cX3_readNatural 59 = .ok (.aload_n 0, 1) := by decide +kernel
theorem dX3_readNatural_60 : decode cX3_readNatural 60 = .ok (.getfield 47, 3) := by decide +kernel
theorem dX3_readNatural_63 : decode cX3_readNatural 63 = .ok (.ifCond .ne 33, 3) := by decide +kernel
theorem dX3_readNatural_66 : decode cX3_readNatural 66 = .ok (.iload_n 2, 1) := by decide +kernel
theorem dX3_readNatural_67 : decode cX3_readNatural 67 = .ok (.bipush 15, 2) := by decide +kernel
theorem dX3_readNatural_69 : decode cX3_readNatural 69 = .ok (.if_icmp .le 11, 3) := by decide +kernel
theorem dX3_readNatural_72 : decode cX3_readNatural 72 = .ok (.aload_n 0, 1) := by decide +kernel
theorem dX3_readNatural_73 : decode cX3_readNatural 73 = .ok (.iconst 4, 1) := by decide +kernel
theorem dX3_readNatural_74 : decode cX3_readNatural 74 = .ok (.putfield 47, 3) := by decide +kernel
theorem dX3_readNatural_77 : decode cX3_readNatural 77 = .ok (.goto 13, 3) := by decide +kernel
theorem dX3_readNatural_80 : decode cX3_readNatural 80 = .ok (.iconst 1, 1) := by decide +kernel
theorem dX3_readNatural_81 : decode cX3_readNatural 81 = .ok (.iload_n 2, 1) := by decide +kernel
theorem dX3_readNatural_82 : decode cX3_readNatural 82 = .ok (.ishl, 1) := by decide +kernel
theorem dX3_readNatural_83 : decode cX3_readNatural 83 = .ok (.aload_n 0, 1) := by decide +kernel
theorem dX3_readNatural_84 : decode cX3_readNatural 84 = .ok (.iload_n 2, 1) := by decide +kernel
theorem dX3_readNatural_85 : decode cX3_readNatural 85 = .ok (.invokevirtual 80, 3) := by decide +kernel
theorem dX3_readNatural_88 : decode cX3_readNatural 88 = .ok (.ior, 1) := by decide +kernel
theorem dX3_readNatural_89 : decode cX3_readNatural 89 = .ok (.istore_n 2, 1) := by decide +kernel
theorem dX3_readNatural_90 : decode cX3_readNatural 90 = .ok (.iinc 3 1, 3) := by decide +kernel
theorem dX3_readNatural_93 : decode cX3_readNatural 93 = .ok (.goto (-39), 3) := by decide +kernel
theorem dX3_readNatural_96 : decode cX3_readNatural 96 = .ok (.iload_n 2, 1) := by decide +kernel
theorem dX3_readNatural_97 : decode cX3_readNatural 97 = .ok (.ireturn, 1) := by decide +kernel
theorem dX6_clear_0 : decode cX6_clear 0 = .ok (.aload_n 0, 1) := by decide +kernel
theorem dX6_clear_1 : decode cX6_clear 1 = .ok (.iconst 0, 1) := by decide +kernel
theorem dX6_clear_2 : decode cX6_clear 2 = .ok (.putfield 59, 3) := by decide +kernel
theorem dX6_clear_5 : decode cX6_clear 5 = .ok (.aload_n 0, 1) := by decide +kernel
theorem dX6_clear_6 : decode cX6_clear 6 = .ok (.iconst 0, 1) := by decide +kernel
theorem dX6_clear_7 : decode cX6_clear 7 = .ok (.putfield 63, 3) := by decide +kernel
theorem dX6_clear_10 : decode cX6_clear 10 = .ok (.aload_n 0, 1) := by decide +kernel
theorem dX6_clear_11 : decode cX6_clear 11 = .ok (.iconst 0, 1) := by decide +kernel
theorem dX6_clear_12 : decode cX6_clear 12 = .ok (.putfield 66, 3) := by decide +kernel
theorem dX6_clear_15 : decode cX6_clear 15 = .ok (.return_, 1) := by decide +kernel
set_option maxRecDepth 100000 in
theorem ggX9_tell_X6_clear : GoodIn wsX9_tell wsX6_clear := goodIn_r _ [16, 17, 18, 19, 394, 395, 396, 397, 398, 399, 400, 401, 402, 403, 404, 405, 406, 407, 408, 409] (by decide +kernel) (by decide +kernel)
set_option maxRecDepth 100000 in
theorem gX9_tell_X6_clear : GoodIn wsX9_tell (wsV RX9 40 RX6 yX6_clear wsX6_clear) := goodIn_app (goodIn_of _ (by decide +kernel)) ggX9_tell_X6_clear
set_option maxRecDepth 100000 in
theorem ggX9_tell_X9_readDefinition : GoodIn wsX9_tell wsX9_readDefinition := goodIn_r _ [24, 25, 6, 26, 27, 28, 29, 30, 23, 31, 32, 5, 1, 33, 34, 35, 36, 37, 38, 39, 40, 41, 42, 43, 44, 45, 46, 47, 48, 49, 50, 51, 52, 4, 3, 53, 54, 55, 56, 7, 57, 8, 58, 59, 60, 61, 62, 63, 64, 65, 66, 67, 68, 69, 70, 71, 2, 72, 73, 74, 75, 76, 77, 78, 79, 80, 81, 82, 83, 84, 85, 9, 10, 86, 87, 88, 89, 90, 91, 92, 93, 94, 95, 96, 97, 98, 99, 100, 101, 102, 103, 104, 105, 15, 106, 107, 108, 109, 110, 111, 112, 113, 114, 115, 17, 116, 117, 118, 119, 120, 121, 122, 123, 124, 125, 126, 127, 128, 129, 130, 131, 132, 133, 134, 135, 18, 136, 137, 138, 139, 140, 141, 142, 143, 144, 145, 146, 147, 148, 149, 150, 151, 363, 364, 365, 366, 367, 368, 369, 370, 371, 372, 373, 374, 375, 376, 377, 378, 379, 390, 391, 392, 393, 394, 395, 396, 397, 398, 399, 400, 401, 402, 403, 404, 405, 406, 407, 408, 409, 380, 381, 382, 383, 384, 385, 386, 387, 388, 389] rfl rfl
set_option maxRecDepth 100000 in
theorem gX9_tell_X9_readDefinition : GoodIn wsX9_tell (wsV RX9 58 RX9 yX9_readDefinition wsX9_readDefinition) := goodIn_app (goodIn_of _ (by decide +kernel)) ggX9_tell_X9_readDefinition
set_option maxRecDepth 100000 in
theorem ggX9_tell_X8_clear : GoodIn wsX9_tell wsX8_clear := goodIn_r _ [302, 39, 303, 304, 390, 391, 392, 393] (by decide +kernel) (by decide +kernel)
set_option maxRecDepth 100000 in
theorem gX9_tell_X8_clear : GoodIn wsX9_tell (wsV RX9 86 RX8 yX8_clear wsX8_clear) := goodIn_app (goodIn_of _ (by decide +kernel)) ggX9_tell_X8_clear
theorem dX9_tell_0 : decode cX9_tell 0 = .ok (.aload_n 0, 1) := by decide +kernel
theorem dX9_tell_1 : decode cX9_tell 1 = .ok (.aload_n 1, 1) := by decide +kernel
theorem dX9_tell_2 : decode cX9_tell 2 = .ok (.putfield 32, 3) := by decide +kernel
theorem dX9_tell_5 : decode cX9_tell 5 = .ok (.aload_n 0, 1) := by decide +kernel
theorem dX9_tell_6 : decode cX9_tell 6 = .ok (.aload_n 2, 1) := by decide +kernel
theorem dX9_tell_7 : decode cX9_tell 7 = .ok (.putfield 36, 3) := by decide +kernel
theorem dX9_tell_10 : decode cX9_tell 10 = .ok (.aload_n 0, 1) := by decide +kernel
theorem dX9_tell_11 : decode cX9_tell 11 = .ok (.getfield 36, 3) := by decide +kernel
theorem dX9_tell_14 : decode cX9_tell 14 = .ok (.invokevirtual 40, 3) := by decide +kernel
theorem dX9_tell_17 : decode cX9_tell 17 = .ok (.aload_n 0, 1) := by decide +kernel
theorem dX9_tell_18 : decode cX9_tell 18 = .ok (.iconst 0, 1) := by decide +kernel
theorem dX9_tell_19 : decode cX9_tell 19 = .ok (.putfield 45, 3) := by decide +kernel
theorem dX9_tell_22 : decode cX9_tell 22 = .ok (.aload_n 0, 1) := by decide +kernel
theorem dX9_tell_23 : decode cX9_tell 23 = .ok (.iconst 0, 1) := by decide +kernel
theorem dX9_tell_24 : decode cX9_tell 24 = .ok (.putfield 49, 3) := by decide +kernel
theorem dX9_tell_27 : decode cX9_tell 27 = .ok (.aload_n 0, 1) := by decide +kernel
theorem dX9_tell_28 : decode cX9_tell 28 = .ok (.iconst 0, 1) := by decide +kernel
theorem dX9_tell_29 : decode cX9_tell 29 = .ok (.putfield 52, 3) := by decide +kernel
theorem dX9_tell_32 : decode cX9_tell 32 = .ok (.aload_n 0, 1) := by decide +kernel
theorem dX9_tell_33 : decode cX9_tell 33 = .ok (.iconst 0, 1) := by decide +kernel
theorem dX9_tell_34 : decode cX9_tell 34 = .ok (.putfield 55, 3) := by decide +kernel
theorem dX9_tell_37 : decode cX9_tell 37 = .ok (.iconst 0, 1) := by decide +kernel
theorem dX9_tell_38 : decode cX9_tell 38 = .ok (.istore 4, 2) := by decide +kernel
theorem dX9_tell_40 : decode cX9_tell 40 = .ok (.iload 4, 2) := by decide +kernel
theorem dX9_tell_42 : decode cX9_tell 42 = .ok (.sipush 512, 3) := by decide +kernel
theorem dX9_tell_45 : decode cX9_tell 45 = .ok (.if_icmp .ge 17, 3) := by decide +kernel
theorem dX9_tell_48 : decode cX9_tell 48 = .ok (.aload_n 0, 1) := by decide +kernel
theorem dX9_tell_49 : decode cX9_tell 49 = .ok (.getfield 25, 3) := by decide +kernel
theorem dX9_tell_52 : decode cX9_tell 52 = .ok (.iload 4, 2) := by decide +kernel
theorem dX9_tell_54 : decode cX9_tell 54 = .ok (.iconst (-1), 1) := by decide +kernel
theorem dX9_tell_55 : decode cX9_tell 55 = .ok (.iastore, 1) := by decide +kernel
theorem dX9_tell_56 : decode cX9_tell 56 = .ok (.iinc 4 1, 3) := by decide +kernel
theorem dX9_tell_59 : decode cX9_tell 59 = .ok (.goto (-19), 3) := by decide +kernel
theorem dX9_tell_62 : decode cX9_tell 62 = .ok (.iconst 1, 1) := by decide +kernel
theorem dX9_tell_63 : decode cX9_tell 63 = .ok (.istore 4, 2) := by decide +kernel
theorem dX9_tell_65 : decode cX9_tell 65 = .ok (.iconst 0, 1) := by decide +kernel
theorem dX9_tell_66 : decode cX9_tell 66 = .ok (.istore 5, 2) := by decide +kernel
theorem dX9_tell_68 : decode cX9_tell 68 = .ok (.iload 5, 2) := by decide +kernel
theorem dX9_tell_70 : decode cX9_tell 70 = .ok (.sipush 8192, 3) := by decide +kernel
theorem dX9_tell_73 : decode cX9_tell 73 = .ok (.if_icmp .ge 20, 3) := by decide +kernel
theorem dX9_tell_76 : decode cX9_tell 76 = .ok (.iload 4, 2) := by decide +kernel
theorem dX9_tell_78 : decode cX9_tell 78 = .ok (.ifCond .eq 15, 3) := by decide +kernel
theorem dX9_tell_81 : decode cX9_tell 81 = .ok (.aload_n 0, 1) := by decide +kernel
theorem dX9_tell_82 : decode cX9_tell 82 = .ok (.invokevirtual 58, 3) := by decide +kernel
theorem dX9_tell_85 : decode cX9_tell 85 = .ok (.istore 4, 2) := by decide +kernel
theorem dX9_tell_87 : decode cX9_tell 87 = .ok (.iinc 5 1, 3) := by decide +kernel
theorem dX9_tell_90 : decode cX9_tell 90 = .ok (.goto (-22), 3) := by decide +kernel
theorem dX9_tell_93 : decode cX9_tell 93 = .ok (.aload_n 0, 1) := by decide +kernel
theorem dX9_tell_94 : decode cX9_tell 94 = .ok (.getfield 49, 3) := by decide +kernel
theorem dX9_tell_97 : decode cX9_tell 97 = .ok (.ifCond .eq 8, 3) := by decide +kernel
theorem dX9_tell_100 : decode cX9_tell 100 = .ok (.aload_n 0, 1) := by decide +kernel
theorem dX9_tell_101 : decode cX9_tell 101 = .ok (.getfield 49, 3) := by decide +kernel
theorem dX9_tell_104 : decode cX9_tell 104 = .ok (.ireturn, 1) := by decide +kernel
theorem dX9_tell_105 : decode cX9_tell 105 = .ok (.aload_n 0, 1) := by decide +kernel
theorem dX9_tell_106 : decode cX9_tell 106 = .ok (.getfield 55, 3) := by decide +kernel
theorem dX9_tell_109 : decode cX9_tell 109 = .ok (.ifCond .le 17, 3) := by decide +kernel
theorem dX9_tell_112 : decode cX9_tell 112 = .ok (.aload_n 0, 1) := by decide +kernel
theorem dX9_tell_113 : decode cX9_tell 113 = .ok (.getfield 19, 3) := by decide +kernel
theorem dX9_tell_116 : decode cX9_tell 116 = .ok (.aload_n 0, 1) := by decide +kernel
theorem dX9_tell_117 : decode cX9_tell 117 = .ok (.getfield 55, 3) := by decide +kernel
theorem dX9_tell_120 : decode cX9_tell 120 = .ok (.iconst 1, 1) := by decide +kernel
theorem dX9_tell_121 : decode cX9_tell 121 = .ok (.isub, 1) := by decide +kernel
theorem dX9_tell_122 : decode cX9_tell 122 = .ok (.iaload, 1) := by decide +kernel
theorem dX9_tell_123 : decode cX9_tell 123 = .ok (.goto 4, 3) := by decide +kernel
theorem dX9_tell_126 : decode cX9_tell 126 = .ok (.iconst 0, 1) := by decide +kernel
theorem dX9_tell_127 : decode cX9_tell 127 = .ok (.istore 5, 2) := by decide +kernel
theorem dX9_tell_129 : decode cX9_tell 129 = .ok (.aload_n 0, 1) := by decide +kernel
theorem dX9_tell_130 : decode cX9_tell 130 = .ok (.getfield 28, 3) := by decide +kernel
theorem dX9_tell_133 : decode cX9_tell 133 = .ok (.aload_n 0, 1) := by decide +kernel
theorem dX9_tell_134 : decode cX9_tell 134 = .ok (.getfield 36, 3) := by decide +kernel
theorem dX9_tell_137 : decode cX9_tell 137 = .ok (.iload 5, 2) := by decide +kernel
theorem dX9_tell_139 : decode cX9_tell 139 = .ok (.invokevirtual 62, 3) := by decide +kernel
theorem dX9_tell_142 : decode cX9_tell 142 = .ok (.aload_n 0, 1) := by decide +kernel
theorem dX9_tell_143 : decode cX9_tell 143 = .ok (.getfield 28, 3) := by decide +kernel
theorem dX9_tell_146 : decode cX9_tell 146 = .ok (.aload_n 0, 1) := by decide +kernel
theorem dX9_tell_147 : decode cX9_tell 147 = .ok (.getfield 36, 3) := by decide +kernel
theorem dX9_tell_150 : decode cX9_tell 150 = .ok (.invokevirtual 68, 3) := by decide +kernel
theorem dX9_tell_153 : decode cX9_tell 153 = .ok (.istore 6, 2) := by decide +kernel
theorem dX9_tell_155 : decode cX9_tell 155 = .ok (.iload 6, 2) := by decide +kernel
theorem dX9_tell_157 : decode cX9_tell 157 = .ok (.ifCond .eq 6, 3) := by decide +kernel
theorem dX9_tell_160 : decode cX9_tell 160 = .ok (.iload 6, 2) := by decide +kernel
theorem dX9_tell_162 : decode cX9_tell 162 = .ok (.ireturn, 1) := by decide +kernel
theorem dX9_tell_163 : decode cX9_tell 163 = .ok (.aload_n 0, 1) := by decide +kernel
theorem dX9_tell_164 : decode cX9_tell 164 = .ok (.getfield 28, 3) := by decide +kernel
theorem dX9_tell_167 : decode cX9_tell 167 = .ok (.aload_n 0, 1) := by decide +kernel
theorem dX9_tell_168 : decode cX9_tell 168 = .ok (.getfield 36, 3) := by decide +kernel
theorem dX9_tell_171 : decode cX9_tell 171 = .ok (.invokevirtual 72, 3) := by decide +kernel
theorem dX9_tell_174 : decode cX9_tell 174 = .ok (.pop, 1) := by decide +kernel
theorem dX9_tell_175 : decode cX9_tell 175 = .ok (.aload_n 0, 1) := by decide +kernel
theorem dX9_tell_176 : decode cX9_tell 176 = .ok (.getfield 28, 3) := by decide +kernel
theorem dX9_tell_179 : decode cX9_tell 179 = .ok (.aload_n 0, 1) := by decide +kernel
theorem dX9_tell_180 : decode cX9_tell 180 = .ok (.getfield 36, 3) := by decide +kernel
theorem dX9_tell_183 : decode cX9_tell 183 = .ok (.aload_n 0, 1) := by decide +kernel
theorem dX9_tell_184 : decode cX9_tell 184 = .ok (.getfield 28, 3) := by decide +kernel
theorem dX9_tell_187 : decode cX9_tell 187 = .ok (.iload 5, 2) := by decide +kernel
theorem dX9_tell_189 : decode cX9_tell 189 = .ok (.invokevirtual 75, 3) := by decide +kernel
theorem dX9_tell_192 : decode cX9_tell 192 = .ok (.invokevirtual 62, 3) := by decide +kernel
theorem dX9_tell_195 : decode cX9_tell 195 = .ok (.aload_n 0, 1) := by decide +kernel
theorem dX9_tell_196 : decode cX9_tell 196 = .ok (.getfield 28, 3) := by decide +kernel
theorem dX9_tell_199 : decode cX9_tell 199 = .ok (.getfield 79, 3) := by decide +kernel
theorem dX9_tell_202 : decode cX9_tell 202 = .ok (.sipush 400, 3) := by decide +kernel
theorem dX9_tell_205 : decode cX9_tell 205 = .ok (.if_icmp .le 5, 3) := by decide +kernel
theorem dX9_tell_208 : decode cX9_tell 208 = .ok (.iconst 4, 1) := by decide +kernel
theorem dX9_tell_209 : decode cX9_tell 209 = .ok (.ireturn, 1) := by decide +kernel
theorem dX9_tell_210 : decode cX9_tell 210 = .ok (.aload_n 0, 1) := by decide +kernel
theorem dX9_tell_211 : decode cX9_tell 211 = .ok (.aload_n 3, 1) := by decide +kernel
theorem dX9_tell_212 : decode cX9_tell 212 = .ok (.invokevirtual 82, 3) := by decide +kernel
theorem dX9_tell_215 : decode cX9_tell 215 = .ok (.istore 6, 2) := by decide +kernel
theorem dX9_tell_217 : decode cX9_tell 217 = .ok (.iload 6, 2) := by decide +kernel
theorem dX9_tell_219 : decode cX9_tell 219 = .ok (.ifCond .eq 6, 3) := by decide +kernel
theorem dX9_tell_222 : decode cX9_tell 222 = .ok (.iload 6, 2) := by decide +kernel
theorem dX9_tell_224 : decode cX9_tell 224 = .ok (.ireturn, 1) := by decide +kernel
theorem dX9_tell_225 : decode cX9_tell 225 = .ok (.aload_n 3, 1) := by decide +kernel
theorem dX9_tell_226 : decode cX9_tell 226 = .ok (.invokevirtual 86, 3) := by decide +kernel
theorem dX9_tell_229 : decode cX9_tell 229 = .ok (.aload_n 0, 1) := by decide +kernel
theorem dX9_tell_230 : decode cX9_tell 230 = .ok (.aload_n 3, 1) := by decide +kernel
theorem dX9_tell_231 : decode cX9_tell 231 = .ok (.invokevirtual 89, 3) := by decide +kernel
theorem dX9_tell_234 : decode cX9_tell 234 = .ok (.aload_n 3, 1) := by decide +kernel
theorem dX9_tell_235 : decode cX9_tell 235 = .ok (.getfield 93, 3) := by decide +kernel
theorem dX9_tell_238 : decode cX9_tell 238 = .ok (.ifCond .eq 7, 3) := by decide +kernel
theorem dX9_tell_241 : decode cX9_tell 241 = .ok (.iconst 4, 1) := by decide +kernel
theorem dX9_tell_242 : decode cX9_tell 242 = .ok (.goto 4, 3) := by decide +kernel
theorem dX9_tell_245 : decode cX9_tell 245 = .ok (.iconst 0, 1) := by decide +kernel
theorem dX9_tell_246 : decode cX9_tell 246 = .ok (.ireturn, 1) := by decide +kernel
set_option maxRecDepth 100000 in
theorem ggX9_readDefinition_X9_nextWord : GoodIn wsX9_readDefinition wsX9_nextWord := goodIn_r _ [9, 3, 10, 11, 4, 12, 13, 1, 14, 15, 16, 17, 18, 19, 20, 21, 22, 8, 23, 24, 25, 26, 27, 28, 142, 143, 144, 145, 146, 147, 148, 149, 150, 151, 152, 153, 154, 155, 156, 157, 158, 159, 160, 161, 162] rfl rfl
set_option maxRecDepth 100000 in
theorem gX9_readDefinition_X9_nextWord : GoodIn wsX9_readDefinition (wsV RX9 97 RX9 yX9_nextWord wsX9_nextWord) := goodIn_app (goodIn_of _ (by decide +kernel)) ggX9_readDefinition_X9_nextWord
set_option maxRecDepth 100000 in
theorem ggX9_readDefinition_X9_refuse : GoodIn wsX9_readDefinition wsX9_refuse := goodIn_r _ [32, 33, 34, 142, 143, 144, 145, 146, 147, 148, 149, 150, 151, 152, 153, 154, 155, 156, 157, 158] (by decide +kernel) (by decide +kernel)
set_option maxRecDepth 100000 in
theorem gX9_readDefinition_X9_refuse : GoodIn wsX9_readDefinition (wsV RX9 110 RX9 yX9_refuse wsX9_refuse) := goodIn_app (goodIn_of _ (by decide +kernel)) ggX9_readDefinition_X9_refuse
theorem dX9_readDefinition_0 : decode cX9_readDefinition 0 = .ok (.aload_n 0, 1) := by decide +kernel
theorem dX9_readDefinition_1 : decode cX9_readDefinition 1 = .ok (.invokevirtual 97, 3) := by decide +kernel
theorem dX9_readDefinition_4 : decode cX9_readDefinition 4 = .ok (.aload_n 0, 1) := by decide +kernel
theorem dX9_readDefinition_5 : decode cX9_readDefinition 5 = .ok (.getfield 100, 3) := by decide +kernel
theorem dX9_readDefinition_8 : decode cX9_readDefinition 8 = .ok (.ifCond .ne 12, 3) := by decide +kernel
theorem dX9_readDefinition_11 : decode cX9_readDefinition 11 = .ok (.aload_n 0, 1) := by decide +kernel
theorem dX9_readDefinition_12 : decode cX9_readDefinition 12 = .ok (.getfield 55, 3) := by decide +kernel
theorem dX9_readDefinition_15 : decode cX9_readDefinition 15 = .ok (.ifCond .le 5, 3) := by decide +kernel
theorem dX9_readDefinition_18 : decode cX9_readDefinition 18 = .ok (.iconst 0, 1) := by decide +kernel
theorem dX9_readDefinition_19 : decode cX9_readDefinition 19 = .ok (.ireturn, 1) := by decide +kernel
theorem dX9_readDefinition_20 : decode cX9_readDefinition 20 = .ok (.aload_n 0, 1) := by decide +kernel
theorem dX9_readDefinition_21 : decode cX9_readDefinition 21 = .ok (.getfield 103, 3) := by decide +kernel
theorem dX9_readDefinition_24 : decode cX9_readDefinition 24 = .ok (.lstore_n 1, 1) := by decide +kernel
theorem dX9_readDefinition_25 : decode cX9_readDefinition 25 = .ok (.lload_n 1, 1) := by decide +kernel
theorem dX9_readDefinition_26 : decode cX9_readDefinition 26 = .ok (.lconst 0, 1) := by decide +kernel
theorem dX9_readDefinition_27 : decode cX9_readDefinition 27 = .ok (.lcmp, 1) := by decide +kernel
theorem dX9_readDefinition_28 : decode cX9_readDefinition 28 = .ok (.ifCond .ne 15, 3) := by decide +kernel
theorem dX9_readDefinition_31 : decode cX9_readDefinition 31 = .ok (.aload_n 0, 1) := by decide +kernel
theorem dX9_readDefinition_32 : decode cX9_readDefinition 32 = .ok (.iconst 1, 1) := by decide +kernel
theorem dX9_readDefinition_33 : decode cX9_readDefinition 33 = .ok (.aload_n 0, 1) := by decide +kernel
theorem dX9_readDefinition_34 : decode cX9_readDefinition 34 = .ok (.getfield 107, 3) := by decide +kernel
theorem dX9_readDefinition_37 : decode cX9_readDefinition 37 = .ok (.invokevirtual 110, 3) := by decide +kernel
theorem dX9_readDefinition_40 : decode cX9_readDefinition 40 = .ok (.pop, 1) := by decide +kernel
theorem dX9_readDefinition_41 : decode cX9_readDefinition 41 = .ok (.iconst 0, 1) := by decide +kernel
theorem dX9_readDefinition_42 : decode cX9_readDefinition 42 = .ok (.ireturn, 1) := by decide +kernel
theorem dX9_readDefinition_43 : decode cX9_readDefinition 43 = .ok (.aload_n 0, 1) := by decide +kernel
theorem dX9_readDefinition_44 : decode cX9_readDefinition 44 = .ok (.lload_n 1, 1) := by decide +kernel
theorem dX9_readDefinition_45 : decode cX9_readDefinition 45 = .ok (.invokevirtual 114, 3) := by decide +kernel
theorem dX9_readDefinition_48 : decode cX9_readDefinition 48 = .ok (.ifCond .lt 15, 3) := by decide +kernel
theorem dX9_readDefinition_51 : decode cX9_readDefinition 51 = .ok (.aload_n 0, 1) := by decide +kernel
theorem dX9_readDefinition_52 : decode cX9_readDefinition 52 = .ok (.iconst 2, 1) := by decide +kernel
theorem dX9_readDefinition_53 : decode cX9_readDefinition 53 = .ok (.aload_n 0, 1) := by decide +kernel
theorem dX9_readDefinition_54 : decode cX9_readDefinition 54 = .ok (.getfield 107, 3) := by decide +kernel
theorem dX9_readDefinition_57 : decode cX9_readDefinition 57 = .ok (.invokevirtual 110, 3) := by decide +kernel
theorem dX9_readDefinition_60 : decode cX9_readDefinition 60 = .ok (.pop, 1) := by decide +kernel
theorem dX9_readDefinition_61 : decode cX9_readDefinition 61 = .ok (.iconst 0, 1) := by decide +kernel
theorem dX9_readDefinition_62 : decode cX9_readDefinition 62 = .ok (.ireturn, 1) := by decide +kernel
theorem dX9_readDefinition_63 : decode cX9_readDefinition 63 = .ok (.aload_n 0, 1) := by decide +kernel
theorem dX9_readDefinition_64 : decode cX9_readDefinition 64 = .ok (.invokevirtual 97, 3) := by decide +kernel
theorem dX9_readDefinition_67 : decode cX9_readDefinition 67 = .ok (.aload_n 0, 1) := by decide +kernel
theorem dX9_readDefinition_68 : decode cX9_readDefinition 68 = .ok (.getfield 100, 3) := by decide +kernel
theorem dX9_readDefinition_71 : decode cX9_readDefinition 71 = .ok (.iconst 2, 1) := by decide +kernel
theorem dX9_readDefinition_72 : decode cX9_readDefinition 72 = .ok (.if_icmp .eq 15, 3) := by decide +kernel
theorem dX9_readDefinition_75 : decode cX9_readDefinition 75 = .ok (.aload_n 0, 1) := by decide +kernel
theorem dX9_readDefinition_76 : decode cX9_readDefinition 76 = .ok (.iconst 1, 1) := by decide +kernel
theorem dX9_readDefinition_77 : decode cX9_readDefinition 77 = .ok (.aload_n 0, 1) := by decide +kernel
theorem dX9_readDefinition_78 : decode cX9_readDefinition 78 = .ok (.getfield 107, 3) := by decide +kernel
theorem dX9_readDefinition_81 : decode cX9_readDefinition 81 = .ok (.invokevirtual 110, 3) := by decide +kernel
theorem dX9_readDefinition_84 : decode cX9_readDefinition 84 = .ok (.pop, 1) := by decide +kernel
theorem dX9_readDefinition_85 : decode cX9_readDefinition 85 = .ok (.iconst 0, 1) := by decide +kernel
theorem dX9_readDefinition_86 : decode cX9_readDefinition 86 = .ok (.ireturn, 1) := by decide +kernel
theorem dX9_readDefinition_87 : decode cX9_readDefinition 87 = .ok (.aload_n 0, 1) := by decide +kernel
theorem dX9_readDefinition_88 : decode cX9_readDefinition 88 = .ok (.invokevirtual 118, 3) := by decide +kernel
theorem dX9_readDefinition_91 : decode cX9_readDefinition 91 = .ok (.istore_n 3, 1) := by decide +kernel
theorem dX9_readDefinition_92 : decode cX9_readDefinition 92 = .ok (.iload_n 3, 1) := by decide +kernel
theorem dX9_readDefinition_93 : decode cX9_readDefinition 93 = .ok (.ifCond .lt 9, 3) := by decide +kernel
theorem dX9_readDefinition_96 : decode cX9_readDefinition 96 = .ok (.aload_n 0, 1) := by decide +kernel
theorem dX9_readDefinition_97 : decode cX9_readDefinition 97 = .ok (.lload_n 1, 1) := by decide +kernel
theorem dX9_readDefinition_98 : decode cX9_readDefinition 98 = .ok (.iload_n 3, 1) := by decide +kernel
theorem dX9_readDefinition_99 : decode cX9_readDefinition 99 = .ok (.invokevirtual 122, 3) := by decide +kernel
theorem dX9_readDefinition_102 : decode cX9_readDefinition 102 = .ok (.iload_n 3, 1) := by decide +kernel
theorem dX9_readDefinition_103 : decode cX9_readDefinition 103 = .ok (.ifCond .lt 7, 3) := by decide +kernel
theorem dX9_readDefinition_106 : decode cX9_readDefinition 106 = .ok (.iconst 1, 1) := by decide +kernel
theorem dX9_readDefinition_107 : decode cX9_readDefinition 107 = .ok (.goto 4, 3) := by decide +kernel
theorem dX9_readDefinition_110 : decode cX9_readDefinition 110 = .ok (.iconst 0, 1) := by decide +kernel
theorem dX9_readDefinition_111 : decode cX9_readDefinition 111 = .ok (.ireturn, 1) := by decide +kernel
theorem dX9_refuse_0 : decode cX9_refuse 0 = .ok (.aload_n 0, 1) := by decide +kernel
theorem dX9_refuse_1 : decode cX9_refuse 1 = .ok (.iload_n 1, 1) := by decide +kernel
theorem dX9_refuse_2 : decode cX9_refuse 2 = .ok (.putfield 49, 3) := by decide +kernel
theorem dX9_refuse_5 : decode cX9_refuse 5 = .ok (.aload_n 0, 1) := by decide +kernel
theorem dX9_refuse_6 : decode cX9_refuse 6 = .ok (.iload_n 2, 1) := by decide +kernel
theorem dX9_refuse_7 : decode cX9_refuse 7 = .ok (.putfield 45, 3) := by decide +kernel
theorem dX9_refuse_10 : decode cX9_refuse 10 = .ok (.iconst (-1), 1) := by decide +kernel
theorem dX9_refuse_11 : decode cX9_refuse 11 = .ok (.ireturn, 1) := by decide +kernel
set_option maxRecDepth 100000 in
theorem ggX9_nextWord_X8_at : GoodIn wsX9_nextWord wsX8_at := goodIn_r _ [12, 13, 14, 41, 42, 43, 44] (by decide +kernel) (by decide +kernel)
set_option maxRecDepth 100000 in
theorem gX9_nextWord_X8_at : GoodIn wsX9_nextWord (wsV RX9 130 RX8 yX8_at wsX8_at) := goodIn_app (goodIn_of _ (by decide +kernel)) ggX9_nextWord_X8_at
theorem dX9_nextWord_0 : decode cX9_nextWord 0 = .ok (.aload_n 0, 1) := by decide +kernel
theorem dX9_nextWord_1 : decode cX9_nextWord 1 = .ok (.lconst 0, 1) := by decide +kernel
theorem dX9_nextWord_2 : decode cX9_nextWord 2 = .ok (.putfield 103, 3) := by decide +kernel
theorem dX9_nextWord_5 : decode cX9_nextWord 5 = .ok (.aload_n 0, 1) := by decide +kernel
theorem dX9_nextWord_6 : decode cX9_nextWord 6 = .ok (.iconst (-1), 1) := by decide +kernel
theorem dX9_nextWord_7 : decode cX9_nextWord 7 = .ok (.putfield 126, 3) := by decide +kernel
theorem dX9_nextWord_10 : decode cX9_nextWord 10 = .ok (.aload_n 0, 1) := by decide +kernel
theorem dX9_nextWord_11 : decode cX9_nextWord 11 = .ok (.aload_n 0, 1) := by decide +kernel
theorem dX9_nextWord_12 : decode cX9_nextWord 12 = .ok (.getfield 52, 3) := by decide +kernel
theorem dX9_nextWord_15 : decode cX9_nextWord 15 = .ok (.putfield 107, 3) := by decide +kernel
theorem dX9_nextWord_18 : decode cX9_nextWord 18 = .ok (.aload_n 0, 1) := by decide +kernel
theorem dX9_nextWord_19 : decode cX9_nextWord 19 = .ok (.getfield 107, 3) := by decide +kernel
theorem dX9_nextWord_22 : decode cX9_nextWord 22 = .ok (.aload_n 0, 1) := by decide +kernel
theorem dX9_nextWord_23 : decode cX9_nextWord 23 = .ok (.getfield 32, 3) := by decide +kernel
theorem dX9_nextWord_26 : decode cX9_nextWord 26 = .ok (.getfield 129, 3) := by decide +kernel
theorem dX9_nextWord_29 : decode cX9_nextWord 29 = .ok (.if_icmp .ge 48, 3) := by decide +kernel
theorem dX9_nextWord_32 : decode cX9_nextWord 32 = .ok (.aload_n 0, 1) := by decide +kernel
theorem dX9_nextWord_33 : decode cX9_nextWord 33 = .ok (.getfield 32, 3) := by decide +kernel
theorem dX9_nextWord_36 : decode cX9_nextWord 36 = .ok (.aload_n 0, 1) := by decide +kernel
theorem dX9_nextWord_37 : decode cX9_nextWord 37 = .ok (.getfield 107, 3) := by decide +kernel
theorem dX9_nextWord_40 : decode cX9_nextWord 40 = .ok (.invokevirtual 130, 3) := by decide +kernel
theorem dX9_nextWord_43 : decode cX9_nextWord 43 = .ok (.bipush 10, 2) := by decide +kernel
theorem dX9_nextWord_45 : decode cX9_nextWord 45 = .ok (.if_icmp .eq 19, 3) := by decide +kernel
theorem dX9_nextWord_48 : decode cX9_nextWord 48 = .ok (.aload_n 0, 1) := by decide +kernel
theorem dX9_nextWord_49 : decode cX9_nextWord 49 = .ok (.getfield 32, 3) := by decide +kernel
theorem dX9_nextWord_52 : decode cX9_nextWord 52 = .ok (.aload_n 0, 1) := by decide +kernel
theorem dX9_nextWord_53 : decode cX9_nextWord 53 = .ok (.getfield 107, 3) := by decide +kernel
theorem dX9_nextWord_56 : decode cX9_nextWord 56 = .ok (.invokevirtual 130, 3) := by decide +kernel
theorem dX9_nextWord_59 : decode cX9_nextWord 59 = .ok (.bipush 32, 2) := by decide +kernel
theorem dX9_nextWord_61 : decode cX9_nextWord 61 = .ok (.if_icmp .ne 16, 3) := by decide +kernel
theorem dX9_nextWord_64 : decode cX9_nextWord 64 = .ok (.aload_n 0, 1) := by decide +kernel
theorem dX9_nextWord_65 : decode cX9_nextWord 65 = .ok (.dup, 1) := by decide +kernel
theorem dX9_nextWord_66 : decode cX9_nextWord 66 = .ok (.getfield 107, 3) := by decide +kernel
theorem dX9_nextWord_69 : decode cX9_nextWord 69 = .ok (.iconst 1, 1) := by decide +kernel
theorem dX9_nextWord_70 : decode cX9_nextWord 70 = .ok (.iadd, 1) := by decide +kernel
theorem dX9_nextWord_71 : decode cX9_nextWord 71 = .ok (.putfield 107, 3) := by decide +kernel
theorem dX9_nextWord_74 : decode cX9_nextWord 74 = .ok (.goto (-56), 3) := by decide +kernel
theorem dX9_nextWord_77 : decode cX9_nextWord 77 = .ok (.aload_n 0, 1) := by decide +kernel
theorem dX9_nextWord_78 : decode cX9_nextWord 78 = .ok (.aload_n 0, 1) := by decide +kernel
theorem dX9_nextWord_79 : decode cX9_nextWord 79 = .ok (.getfield 107, 3) := by decide +kernel
theorem dX9_nextWord_82 : decode cX9_nextWord 82 = .ok (.putfield 52, 3) := by decide +kernel
theorem dX9_nextWord_85 : decode cX9_nextWord 85 = .ok (.aload_n 0, 1) := by decide +kernel
theorem dX9_nextWord_86 : decode cX9_nextWord 86 = .ok (.getfield 107, 3) := by decide +kernel
theorem dX9_nextWord_89 : decode cX9_nextWord 89 = .ok (.aload_n 0, 1) := by decide +kernel
theorem dX9_nextWord_90 : decode cX9_nextWord 90 = .ok (.getfield 32, 3) := by decide +kernel
theorem dX9_nextWord_93 : decode cX9_nextWord 93 = .ok (.getfield 129, 3) := by decide +kernel
theorem dX9_nextWord_96 : decode cX9_nextWord 96 = .ok (.if_icmp .lt 9, 3) := by decide +kernel
theorem dX9_nextWord_99 : decode cX9_nextWord 99 = .ok (.aload_n 0, 1) := by decide +kernel
theorem dX9_nextWord_100 : decode cX9_nextWord 100 = .ok (.iconst 0, 1) := by decide +kernel
theorem dX9_nextWord_101 : decode cX9_nextWord 101 = .ok (.putfield 100, 3) := by decide +kernel
theorem dX9_nextWord_104 : decode cX9_nextWord 104 = .ok (.return_, 1) := by decide +kernel
theorem dX9_nextWord_105 : decode cX9_nextWord 105 = .ok (.aload_n 0, 1) := by decide +kernel
theorem dX9_nextWord_106 : decode cX9_nextWord 106 = .ok (.aload_n 0, 1) := by decide +kernel
theorem dX9_nextWord_107 : decode cX9_nextWord 107 = .ok (.getfield 107, 3) := by decide +kernel
theorem dX9_nextWord_110 : decode cX9_nextWord 110 = .ok (.iconst 1, 1) := by decide +kernel
theorem dX9_nextWord_111 : decode cX9_nextWord 111 = .ok (.iadd, 1) := by decide +kernel
theorem dX9_nextWord_112 : decode cX9_nextWord 112 = .ok (.putfield 52, 3) := by decide +kernel
theorem dX9_nextWord_115 : decode cX9_nextWord 115 = .ok (.aload_n 0, 1) := by decide +kernel
theorem dX9_nextWord_116 : decode cX9_nextWord 116 = .ok (.getfield 32, 3) := by decide +kernel
theorem dX9_nextWord_119 : decode cX9_nextWord 119 = .ok (.aload_n 0, 1) := by decide +kernel
theorem dX9_nextWord_120 : decode cX9_nextWord 120 = .ok (.getfield 107, 3) := by decide +kernel
theorem dX9_nextWord_123 : decode cX9_nextWord 123 = .ok (.invokevirtual 130, 3) := by decide +kernel
theorem dX9_nextWord_126 : decode cX9_nextWord 126 = .ok (.istore_n 1, 1) := by decide +kernel
theorem dX9_nextWord_127 : decode cX9_nextWord 127 = .ok (.iload_n 1, 1) := by decide +kernel
theorem dX9_nextWord_128 : decode cX9_nextWord 128 = .ok (.bipush 61, 2) := by decide +kernel
theorem dX9_nextWord_130 : decode cX9_nextWord 130 = .ok (.if_icmp .ne 11, 3) := by decide +kernel
theorem dX9_nextWord_133 : decode cX9_nextWord 133 = .ok (.aload_n 0, 1) := by decide +kernel
theorem dX9_nextWord_134 : decode cX9_nextWord 134 = .ok (.iconst 2, 1) := by decide +kernel
theorem dX9_nextWord_135 : decode cX9_nextWord 135 = .ok (.putfield 100, 3) := by decide +kernel
theorem dX9_nextWord_138 : decode cX9_nextWord 138 = .ok (.goto 99, 3) := by decide +kernel
theorem dX9_nextWord_141 : decode cX9_nextWord 141 = .ok (.iload_n 1, 1) := by decide +kernel
theorem dX9_nextWord_142 : decode cX9_nextWord 142 = .ok (.bipush 40, 2) := by decide +kernel
theorem dX9_nextWord_144 : decode cX9_nextWord 144 = .ok (.if_icmp .ne 11, 3) := by decide +kernel
theorem dX9_nextWord_147 : decode cX9_nextWord 147 = .ok (.aload_n 0, 1) := by decide +kernel
theorem dX9_nextWord_148 : decode cX9_nextWord 148 = .ok (.iconst 3, 1) := by decide +kernel
theorem dX9_nextWord_149 : decode cX9_nextWord 149 = .ok (.putfield 100, 3) := by decide +kernel
theorem dX9_nextWord_152 : decode cX9_nextWord 152 = .ok (.goto 85, 3) := by decide +kernel
theorem dX9_nextWord_155 : decode cX9_nextWord 155 = .ok (.iload_n 1, 1) := by decide +kernel
theorem dX9_nextWord_156 : decode cX9_nextWord 156 = .ok (.bipush 41, 2) := by decide +kernel
theorem dX9_nextWord_158 : decode cX9_nextWord 158 = .ok (.if_icmp .ne 11, 3) := by decide +kernel
theorem dX9_nextWord_161 : decode cX9_nextWord 161 = .ok (.aload_n 0, 1) := by decide +kernel
theorem dX9_nextWord_162 : decode cX9_nextWord 162 = .ok (.iconst 4, 1) := by decide +kernel
theorem dX9_nextWord_163 : decode cX9_nextWord 163 = .ok (.putfield 100, 3) := by decide +kernel
theorem dX9_nextWord_166 : decode cX9_nextWord 166 = .ok (.goto 71, 3) := by decide +kernel
theorem dX9_nextWord_169 : decode cX9_nextWord 169 = .ok (.iload_n 1, 1) := by decide +kernel
theorem dX9_nextWord_170 : decode cX9_nextWord 170 = .ok (.invokestatic 133, 3) := by decide +kernel
theorem dX9_nextWord_173 : decode cX9_nextWord 173 = .ok (.ifCond .ne 11, 3) := by decide +kernel
theorem dX9_nextWord_176 : decode cX9_nextWord 176 = .ok (.aload_n 0, 1) := by decide +kernel
theorem dX9_nextWord_177 : decode cX9_nextWord 177 = .ok (.iconst 1, 1) := by decide +kernel
theorem dX9_nextWord_178 : decode cX9_nextWord 178 = .ok (.putfield 100, 3) := by decide +kernel
theorem dX9_nextWord_181 : decode cX9_nextWord 181 = .ok (.goto 56, 3) := by decide +kernel
theorem dX9_nextWord_184 : decode cX9_nextWord 184 = .ok (.aload_n 0, 1) := by decide +kernel
theorem dX9_nextWord_185 : decode cX9_nextWord 185 = .ok (.iconst 5, 1) := by decide +kernel
theorem dX9_nextWord_186 : decode cX9_nextWord 186 = .ok (.putfield 100, 3) := by decide +kernel
theorem dX9_nextWord_189 : decode cX9_nextWord 189 = .ok (.aload_n 0, 1) := by decide +kernel
theorem dX9_nextWord_190 : decode cX9_nextWord 190 = .ok (.getfield 52, 3) := by decide +kernel
theorem dX9_nextWord_193 : decode cX9_nextWord 193 = .ok (.aload_n 0, 1) := by decide +kernel
theorem dX9_nextWord_194 : decode cX9_nextWord 194 = .ok (.getfield 32, 3) := by decide +kernel
theorem dX9_nextWord_197 : decode cX9_nextWord 197 = .ok (.getfield 129, 3) := by decide +kernel
theorem dX9_nextWord_200 : decode cX9_nextWord 200 = .ok (.if_icmp .ge 33, 3) := by decide +kernel
theorem dX9_nextWord_203 : decode cX9_nextWord 203 = .ok (.aload_n 0, 1) := by decide +kernel
theorem dX9_nextWord_204 : decode cX9_nextWord 204 = .ok (.getfield 32, 3) := by decide +kernel
theorem dX9_nextWord_207 : decode cX9_nextWord 207 = .ok (.aload_n 0, 1) := by decide +kernel
theorem dX9_nextWord_208 : decode cX9_nextWord 208 = .ok (.getfield 52, 3) := by decide +kernel
theorem dX9_nextWord_211 : decode cX9_nextWord 211 = .ok (.invokevirtual 130, 3) := by decide +kernel
theorem dX9_nextWord_214 : decode cX9_nextWord 214 = .ok (.invokestatic 133, 3) := by decide +kernel
theorem dX9_nextWord_217 : decode cX9_nextWord 217 = .ok (.ifCond .eq 16, 3) := by decide +kernel
theorem dX9_nextWord_220 : decode cX9_nextWord 220 = .ok (.aload_n 0, 1) := by decide +kernel
theorem dX9_nextWord_221 : decode cX9_nextWord 221 = .ok (.dup, 1) := by decide +kernel
theorem dX9_nextWord_222 : decode cX9_nextWord 222 = .ok (.getfield 52, 3) := by decide +kernel
theorem dX9_nextWord_225 : decode cX9_nextWord 225 = .ok (.iconst 1, 1) := by decide +kernel
theorem dX9_nextWord_226 : decode cX9_nextWord 226 = .ok (.iadd, 1) := by decide +kernel
theorem dX9_nextWord_227 : decode cX9_nextWord 227 = .ok (.putfield 52, 3) := by decide +kernel
theorem dX9_nextWord_230 : decode cX9_nextWord 230 = .ok (.goto (-41), 3) := by decide +kernel
theorem dX9_nextWord_233 : decode cX9_nextWord 233 = .ok (.aload_n 0, 1) := by decide +kernel
theorem dX9_nextWord_234 : decode cX9_nextWord 234 = .ok (.invokevirtual 137, 3) := by decide +kernel
theorem dX9_nextWord_237 : decode cX9_nextWord 237 = .ok (.return_, 1) := by decide +kernel
set_option maxRecDepth 100000 in
theorem ggX11_feed_X8_put : GoodIn wsX11_feed wsX8_put := goodIn_r _ [11, 12, 13, 14, 32, 33, 34, 35] (by decide +kernel) (by decide +kernel)
set_option maxRecDepth 100000 in
theorem gX11_feed_X8_put : GoodIn wsX11_feed (wsV RX11 94 RX8 yX8_put wsX8_put) := goodIn_app (goodIn_of _ (by decide +kernel)) ggX11_feed_X8_put
theorem dX11_feed_0 : decode cX11_feed 0 = .ok (.iload_n 1, 1) := by decide +kernel
theorem dX11_feed_1 : decode cX11_feed 1 = .ok (.iconst 1, 1) := by decide +kernel
theorem dX11_feed_2 : decode cX11_feed 2 = .ok (.if_icmp .lt 9, 3) := by decide +kernel
theorem dX11_feed_5 : decode cX11_feed 5 = .ok (.iload_n 1, 1) := by decide +kernel
theorem dX11_feed_6 : decode cX11_feed 6 = .ok (.bipush 8, 2) := by decide +kernel
theorem dX11_feed_8 : decode cX11_feed 8 = .ok (.if_icmp .le 13, 3) := by decide +kernel
theorem dX11_feed_11 : decode cX11_feed 11 = .ok (.new 78, 3) := by decide +kernel
theorem dX11_feed_14 : decode cX11_feed 14 = .ok (.dup, 1) := by decide +kernel
theorem dX11_feed_15 : decode cX11_feed 15 = .ok (.ldc 80, 2) := by decide +kernel
theorem dX11_feed_17 : decode cX11_feed 17 = .ok (.invokespecial 82, 3) := by decide +kernel
theorem dX11_feed_20 : decode cX11_feed 20 = .ok (.athrow, 1) := by decide +kernel
theorem dX11_feed_21 : decode cX11_feed 21 = .ok (.aload_n 0, 1) := by decide +kernel
theorem dX11_feed_22 : decode cX11_feed 22 = .ok (.getfield 10, 3) := by decide +kernel
theorem dX11_feed_25 : decode cX11_feed 25 = .ok (.getfield 85, 3) := by decide +kernel
theorem dX11_feed_28 : decode cX11_feed 28 = .ok (.iload_n 1, 1) := by decide +kernel
theorem dX11_feed_29 : decode cX11_feed 29 = .ok (.iadd, 1) := by decide +kernel
theorem dX11_feed_30 : decode cX11_feed 30 = .ok (.sipush 8192, 3) := by decide +kernel
theorem dX11_feed_33 : decode cX11_feed 33 = .ok (.if_icmp .le 13, 3) := by decide +kernel
theorem dX11_feed_36 : decode cX11_feed 36 = .ok (.new 89, 3) := by decide +kernel
theorem dX11_feed_39 : decode cX11_feed 39 = .ok (.dup, 1) := by decide +kernel
theorem dX11_feed_40 : decode cX11_feed 40 = .ok (.ldc 91, 2) := by decide +kernel
theorem dX11_feed_42 : decode cX11_feed 42 = .ok (.invokespecial 93, 3) := by decide +kernel
theorem dX11_feed_45 : decode cX11_feed 45 = .ok (.athrow, 1) := by decide +kernel
theorem dX11_feed_46 : decode cX11_feed 46 = .ok (.iconst 0, 1) := by decide +kernel
theorem dX11_feed_47 : decode cX11_feed 47 = .ok (.istore 4, 2) := by decide +kernel
theorem dX11_feed_49 : decode cX11_feed 49 = .ok (.iload 4, 2) := by decide +kernel
theorem dX11_feed_51 : decode cX11_feed 51 = .ok (.iload_n 1, 1) := by decide +kernel
theorem dX11_feed_52 : decode cX11_feed 52 = .ok (.if_icmp .ge 28, 3) := by decide +kernel
theorem dX11_feed_55 : decode cX11_feed 55 = .ok (.aload_n 0, 1) := by decide +kernel
theorem dX11_feed_56 : decode cX11_feed 56 = .ok (.getfield 10, 3) := by decide +kernel
theorem dX11_feed_59 : decode cX11_feed 59 = .ok (.lload_n 2, 1) := by decide +kernel
theorem dX11_feed_60 : decode cX11_feed 60 = .ok (.bipush 8, 2) := by decide +kernel
theorem dX11_feed_62 : decode cX11_feed 62 = .ok (.iload 4, 2) := by decide +kernel
theorem dX11_feed_64 : decode cX11_feed 64 = .ok (.imul, 1) := by decide +kernel
theorem dX11_feed_65 : decode cX11_feed 65 = .ok (.lushr, 1) := by decide +kernel
theorem dX11_feed_66 : decode cX11_feed 66 = .ok (.l2i, 1) := by decide +kernel
theorem dX11_feed_67 : decode cX11_feed 67 = .ok (.sipush 255, 3) := by decide +kernel
theorem dX11_feed_70 : decode cX11_feed 70 = .ok (.iand, 1) := by decide +kernel
theorem dX11_feed_71 : decode cX11_feed 71 = .ok (.invokevirtual 94, 3) := by decide +kernel
theorem dX11_feed_74 : decode cX11_feed 74 = .ok (.iinc 4 1, 3) := by decide +kernel
theorem dX11_feed_77 : decode cX11_feed 77 = .ok (.goto (-28), 3) := by decide +kernel
theorem dX11_feed_80 : decode cX11_feed 80 = .ok (.aload_n 0, 1) := by decide +kernel
theorem dX11_feed_81 : decode cX11_feed 81 = .ok (.getfield 10, 3) := by decide +kernel
theorem dX11_feed_84 : decode cX11_feed 84 = .ok (.getfield 85, 3) := by decide +kernel
theorem dX11_feed_87 : decode cX11_feed 87 = .ok (.ireturn, 1) := by decide +kernel
set_option maxRecDepth 100000 in
theorem ggX11_wipe_X8_clear : GoodIn wsX11_wipe wsX8_clear := goodIn_r _ [7, 8, 9, 10, 28, 29, 30, 31] (by decide +kernel) (by decide +kernel)
set_option maxRecDepth 100000 in
theorem gX11_wipe_X8_clear : GoodIn wsX11_wipe (wsV RX11 98 RX8 yX8_clear wsX8_clear) := goodIn_app (goodIn_of _ (by decide +kernel)) ggX11_wipe_X8_clear
theorem dX11_wipe_0 : decode cX11_wipe 0 = .ok (.aload_n 0, 1) := by decide +kernel
theorem dX11_wipe_1 : decode cX11_wipe 1 = .ok (.getfield 10, 3) := by decide +kernel
theorem dX11_wipe_4 : decode cX11_wipe 4 = .ok (.getfield 85, 3) := by decide +kernel
theorem dX11_wipe_7 : decode cX11_wipe 7 = .ok (.istore_n 1, 1) := by decide +kernel
theorem dX11_wipe_8 : decode cX11_wipe 8 = .ok (.aload_n 0, 1) := by decide +kernel
theorem dX11_wipe_9 : decode cX11_wipe 9 = .ok (.getfield 10, 3) := by decide +kernel
theorem dX11_wipe_12 : decode cX11_wipe 12 = .ok (.invokevirtual 98, 3) := by decide +kernel
theorem dX11_wipe_15 : decode cX11_wipe 15 = .ok (.iload_n 1, 1) := by decide +kernel
theorem dX11_wipe_16 : decode cX11_wipe 16 = .ok (.ireturn, 1) := by decide +kernel
set_option maxRecDepth 100000 in
theorem ggX11_load_X3_readProgram : GoodIn wsX11_load wsX3_readProgram := goodIn_r _ [12, 13, 14, 15, 16, 17, 18, 19, 20, 21, 22, 23, 24, 25, 26, 27, 28, 29, 30, 31, 32, 33, 34, 35, 36, 37, 38, 39, 40, 41, 42, 43, 44, 45, 46, 47, 48, 49, 11, 50, 51, 52, 53, 54, 55, 56, 57, 58, 59, 60, 61, 62, 63, 64, 65, 66, 67, 68, 69, 70, 71, 72, 73, 74, 75, 76, 77, 78, 79, 80, 81, 82, 83, 84, 85, 86, 87, 88, 89, 90, 91, 92, 93, 94, 95, 96, 97, 98, 99, 100, 101, 102, 103, 104, 105, 106, 107, 108, 109, 110, 111, 112, 113, 114, 115, 116, 117, 118, 119, 120, 121, 122, 123, 124, 125, 126, 127, 128, 129, 130, 131, 132, 133, 134, 135, 136, 137, 138, 139, 140, 141, 142, 143, 144, 145, 146, 147, 148, 149, 150, 151, 152, 153, 154, 155, 156, 157, 158, 159, 160, 161, 162, 163, 164, 165, 166, 167, 168, 169, 170, 171, 172, 173, 174, 175, 176, 177, 178, 179, 180, 181, 182, 183, 184, 185, 186, 187, 188, 189, 190, 191, 192, 193, 194, 195, 196, 197, 198, 199, 200, 201, 202, 203, 204, 205, 206, 207, 208, 209, 210, 211, 212, 213, 214, 215, 216, 217, 218, 219, 220, 221, 222, 223, 224, 225, 226, 227, 228, 229, 230, 231, 232, 233, 234, 235, 236, 237, 238, 239, 240, 241, 242, 243, 244, 245, 246, 247, 248, 249, 250, 251, 252, 253, 254, 255, 256, 257, 258, 259, 260, 261, 262, 263, 264, 265, 266, 267, 268, 269, 270, 271, 272, 273, 274, 275, 276, 277, 278, 279, 345, 346, 347, 348, 349, 350, 351, 352, 353, 354, 355, 356, 357, 358, 359, 360, 361, 362, 363, 364, 365, 366, 367, 368, 369, 370, 371, 372, 373, 374, 375, 376, 377, 378, 379, 380, 381, 382, 383, 384, 385, 386, 387, 388, 389, 390, 391, 392, 393, 394, 395, 396, 397, 398, 399, 400] rfl rfl
set_option maxRecDepth 100000 in
theorem gX11_load_X3_readProgram : GoodIn wsX11_load (wsV RX11 101 RX3 yX3_readProgram wsX3_readProgram) := goodIn_app (goodIn_of _ (by decide +kernel)) ggX11_load_X3_readProgram
set_option maxRecDepth 100000 in
theorem ggX11_load_X8_clear : GoodIn wsX11_load wsX8_clear := goodIn_r _ [44, 35, 45, 46, 367, 368, 369, 370] (by decide +kernel) (by decide +kernel)
set_option maxRecDepth 100000 in
theorem gX11_load_X8_clear : GoodIn wsX11_load (wsV RX11 98 RX8 yX8_clear wsX8_clear) := goodIn_app (goodIn_of _ (by decide +kernel)) ggX11_load_X8_clear
theorem dX11_load_0 : decode cX11_load 0 = .ok (.aload_n 0, 1) := by decide +kernel
theorem dX11_load_1 : decode cX11_load 1 = .ok (.aload_n 0, 1) := by decide +kernel
theorem dX11_load_2 : decode cX11_load 2 = .ok (.getfield 57, 3) := by decide +kernel
theorem dX11_load_5 : decode cX11_load 5 = .ok (.aload_n 0, 1) := by decide +kernel
theorem dX11_load_6 : decode cX11_load 6 = .ok (.getfield 10, 3) := by decide +kernel
theorem dX11_load_9 : decode cX11_load 9 = .ok (.aload_n 0, 1) := by decide +kernel
theorem dX11_load_10 : decode cX11_load 10 = .ok (.getfield 75, 3) := by decide +kernel
theorem dX11_load_13 : decode cX11_load 13 = .ok (.invokevirtual 101, 3) := by decide +kernel
theorem dX11_load_16 : decode cX11_load 16 = .ok (.putfield 105, 3) := by decide +kernel
theorem dX11_load_19 : decode cX11_load 19 = .ok (.aload_n 0, 1) := by decide +kernel
theorem dX11_load_20 : decode cX11_load 20 = .ok (.getfield 10, 3) := by decide +kernel
theorem dX11_load_23 : decode cX11_load 23 = .ok (.invokevirtual 98, 3) := by decide +kernel
theorem dX11_load_26 : decode cX11_load 26 = .ok (.aload_n 0, 1) := by decide +kernel
theorem dX11_load_27 : decode cX11_load 27 = .ok (.getfield 105, 3) := by decide +kernel
theorem dX11_load_30 : decode cX11_load 30 = .ok (.ifCond .ne 46, 3) := by decide +kernel
theorem dX11_load_33 : decode cX11_load 33 = .ok (.aload_n 0, 1) := by decide +kernel
theorem dX11_load_34 : decode cX11_load 34 = .ok (.getfield 71, 3) := by decide +kernel
theorem dX11_load_37 : decode cX11_load 37 = .ok (.astore_n 1, 1) := by decide +kernel
theorem dX11_load_38 : decode cX11_load 38 = .ok (.aload_n 0, 1) := by decide +kernel
theorem dX11_load_39 : decode cX11_load 39 = .ok (.aload_n 0, 1) := by decide +kernel
theorem dX11_load_40 : decode cX11_load 40 = .ok (.getfield 75, 3) := by decide +kernel
theorem dX11_load_43 : decode cX11_load 43 = .ok (.putfield 71, 3) := by decide +kernel
theorem dX11_load_46 : decode cX11_load 46 = .ok (.aload_n 0, 1) := by decide +kernel
theorem dX11_load_47 : decode cX11_load 47 = .ok (.aload_n 1, 1) := by decide +kernel
theorem dX11_load_48 : decode cX11_load 48 = .ok (.putfield 75, 3) := by decide +kernel
theorem dX11_load_51 : decode cX11_load 51 = .ok (.aload_n 0, 1) := by decide +kernel
theorem dX11_load_52 : decode cX11_load 52 = .ok (.getfield 71, 3) := by decide +kernel
theorem dX11_load_55 : decode cX11_load 55 = .ok (.invokevirtual 108, 3) := by decide +kernel
theorem dX11_load_58 : decode cX11_load 58 = .ok (.aload_n 0, 1) := by decide +kernel
theorem dX11_load_59 : decode cX11_load 59 = .ok (.getfield 71, 3) := by decide +kernel
theorem dX11_load_62 : decode cX11_load 62 = .ok (.aload_n 0, 1) := by decide +kernel
theorem dX11_load_63 : decode cX11_load 63 = .ok (.getfield 32, 3) := by decide +kernel
theorem dX11_load_66 : decode cX11_load 66 = .ok (.invokevirtual 111, 3) := by decide +kernel
theorem dX11_load_69 : decode cX11_load 69 = .ok (.aload_n 0, 1) := by decide +kernel
theorem dX11_load_70 : decode cX11_load 70 = .ok (.getfield 48, 3) := by decide +kernel
theorem dX11_load_73 : decode cX11_load 73 = .ok (.invokevirtual 114, 3) := by decide +kernel
theorem dX11_load_76 : decode cX11_load 76 = .ok (.aload_n 0, 1) := by decide +kernel
theorem dX11_load_77 : decode cX11_load 77 = .ok (.getfield 105, 3) := by decide +kernel
theorem dX11_load_80 : decode cX11_load 80 = .ok (.ireturn, 1) := by decide +kernel
set_option maxRecDepth 100000 in
theorem ggX11_run_X8_clear : GoodIn wsX11_run wsX8_clear := goodIn_r _ [436, 47, 437, 438, 539, 540, 541, 542] (by decide +kernel) (by decide +kernel)
set_option maxRecDepth 100000 in
theorem gX11_run_X8_clear : GoodIn wsX11_run (wsV RX11 98 RX8 yX8_clear wsX8_clear) := goodIn_app (goodIn_of _ (by decide +kernel)) ggX11_run_X8_clear
theorem dX11_run_0 : decode cX11_run 0 = .ok (.iload_n 1, 1) := by decide +kernel
theorem dX11_run_1 : decode cX11_run 1 = .ok (.iconst 1, 1) := by decide +kernel
theorem dX11_run_2 : decode cX11_run 2 = .ok (.if_icmp .lt 8, 3) := by decide +kernel
theorem dX11_run_5 : decode cX11_run 5 = .ok (.iload_n 2, 1) := by decide +kernel
theorem dX11_run_6 : decode cX11_run 6 = .ok (.iconst 1, 1) := by decide +kernel
theorem dX11_run_7 : decode cX11_run 7 = .ok (.if_icmp .ge 13, 3) := by decide +kernel
theorem dX11_run_10 : decode cX11_run 10 = .ok (.new 78, 3) := by decide +kernel
theorem dX11_run_13 : decode cX11_run 13 = .ok (.dup, 1) := by decide +kernel
theorem dX11_run_14 : decode cX11_run 14 = .ok (.ldc 117, 2) := by decide +kernel
theorem dX11_run_16 : decode cX11_run 16 = .ok (.invokespecial 82, 3) := by decide +kernel
theorem dX11_run_19 : decode cX11_run 19 = .ok (.athrow, 1) := by decide +kernel
theorem dX11_run_20 : decode cX11_run 20 = .ok (.aload_n 0, 1) := by decide +kernel
theorem dX11_run_21 : decode cX11_run 21 = .ok (.getfield 71, 3) := by decide +kernel
theorem dX11_run_24 : decode cX11_run 24 = .ok (.getfield 119, 3) := by decide +kernel
theorem dX11_run_27 : decode cX11_run 27 = .ok (.ifCond .ne 13, 3) := by decide +kernel
theorem dX11_run_30 : decode cX11_run 30 = .ok (.new 89, 3) := by decide +kernel
theorem dX11_run_33 : decode cX11_run 33 = .ok (.dup, 1) := by decide +kernel
theorem dX11_run_34 : decode cX11_run 34 = .ok (.ldc 122, 2) := by decide +kernel
theorem dX11_run_36 : decode cX11_run 36 = .ok (.invokespecial 93, 3) := by decide +kernel
theorem dX11_run_39 : decode cX11_run 39 = .ok (.athrow, 1) := by decide +kernel
theorem dX11_run_40 : decode cX11_run 40 = .ok (.aload_n 0, 1) := by decide +kernel
theorem dX11_run_41 : decode cX11_run 41 = .ok (.iload_n 1, 1) := by decide +kernel
theorem dX11_run_42 : decode cX11_run 42 = .ok (.iload_n 2, 1) := by decide +kernel
theorem dX11_run_43 : decode cX11_run 43 = .ok (.iload_n 3, 1) := by decide +kernel
theorem dX11_run_44 : decode cX11_run 44 = .ok (.invokevirtual 124, 3) := by decide +kernel
theorem dX11_run_47 : decode cX11_run 47 = .ok (.istore 4, 2) := by decide +kernel
theorem dX11_run_49 : decode cX11_run 49 = .ok (.aload_n 0, 1) := by decide +kernel
theorem dX11_run_50 : decode cX11_run 50 = .ok (.getfield 10, 3) := by decide +kernel
theorem dX11_run_53 : decode cX11_run 53 = .ok (.invokevirtual 98, 3) := by decide +kernel
theorem dX11_run_56 : decode cX11_run 56 = .ok (.iload 4, 2) := by decide +kernel
theorem dX11_run_58 : decode cX11_run 58 = .ok (.ireturn, 1) := by decide +kernel
theorem dX11_isNode_0 : decode cX11_isNode 0 = .ok (.iload_n 1, 1) := by decide +kernel
theorem dX11_isNode_1 : decode cX11_isNode 1 = .ok (.ifCond .lt 18, 3) := by decide +kernel
theorem dX11_isNode_4 : decode cX11_isNode 4 = .ok (.iload_n 1, 1) := by decide +kernel
theorem dX11_isNode_5 : decode cX11_isNode 5 = .ok (.aload_n 0, 1) := by decide +kernel
theorem dX11_isNode_6 : decode cX11_isNode 6 = .ok (.getfield 71, 3) := by decide +kernel
theorem dX11_isNode_9 : decode cX11_isNode 9 = .ok (.getfield 119, 3) := by decide +kernel
theorem dX11_isNode_12 : decode cX11_isNode 12 = .ok (.if_icmp .ge 7, 3) := by decide +kernel
theorem dX11_isNode_15 : decode cX11_isNode 15 = .ok (.iconst 1, 1) := by decide +kernel
theorem dX11_isNode_16 : decode cX11_isNode 16 = .ok (.goto 4, 3) := by decide +kernel
theorem dX11_isNode_19 : decode cX11_isNode 19 = .ok (.iconst 0, 1) := by decide +kernel
theorem dX11_isNode_20 : decode cX11_isNode 20 = .ok (.ireturn, 1) := by decide +kernel
set_option maxRecDepth 100000 in
theorem ggX11_node_X11_isNode : GoodIn wsX11_node wsX11_isNode := goodIn_r _ [15, 3, 16, 30, 31, 32, 33, 34, 35, 36, 37, 38, 39, 40, 41, 42, 43, 44, 45, 46, 47, 48, 49, 50, 51, 52, 53, 54, 55, 56, 57, 58, 59, 60, 61, 62] rfl rfl
set_option maxRecDepth 100000 in
theorem gX11_node_X11_isNode : GoodIn wsX11_node (wsV RX11 201 RX11 yX11_isNode wsX11_isNode) := goodIn_app (goodIn_of _ (by decide +kernel)) ggX11_node_X11_isNode
theorem dX11_node_0 : decode cX11_node 0 = .ok (.aload_n 0, 1) := by decide +kernel
theorem dX11_node_1 : decode cX11_node 1 = .ok (.iload_n 1, 1) := by decide +kernel
theorem dX11_node_2 : decode cX11_node 2 = .ok (.invokevirtual 201, 3) := by decide +kernel
theorem dX11_node_5 : decode cX11_node 5 = .ok (.ifCond .eq 13, 3) := by decide +kernel
theorem dX11_node_8 : decode cX11_node 8 = .ok (.iload_n 2, 1) := by decide +kernel
theorem dX11_node_9 : decode cX11_node 9 = .ok (.ifCond .lt 9, 3) := by decide +kernel
theorem dX11_node_12 : decode cX11_node 12 = .ok (.iload_n 2, 1) := by decide +kernel
theorem dX11_node_13 : decode cX11_node 13 = .ok (.bipush 7, 2) := by decide +kernel
theorem dX11_node_15 : decode cX11_node 15 = .ok (.if_icmp .le 13, 3) := by decide +kernel
theorem dX11_node_18 : decode cX11_node 18 = .ok (.new 205, 3) := by decide +kernel
theorem dX11_node_21 : decode cX11_node 21 = .ok (.dup, 1) := by decide +kernel
theorem dX11_node_22 : decode cX11_node 22 = .ok (.ldc 207, 2) := by decide +kernel
theorem dX11_node_24 : decode cX11_node 24 = .ok (.invokespecial 209, 3) := by decide +kernel
theorem dX11_node_27 : decode cX11_node 27 = .ok (.athrow, 1) := by decide +kernel
theorem dX11_node_28 : decode cX11_node 28 = .ok (.iload_n 2, 1) := by decide +kernel
theorem dX11_node_29 : decode cX11_node 29 = .ok (.tableswitch 137 0 6 #[43, 53, 89, 99, 108, 117, 127], 43) := by decide +kernel
theorem dX11_node_72 : decode cX11_node 72 = .ok (.aload_n 0, 1) := by decide +kernel
theorem dX11_node_73 : decode cX11_node 73 = .ok (.getfield 71, 3) := by decide +kernel
theorem dX11_node_76 : decode cX11_node 76 = .ok (.getfield 150, 3) := by decide +kernel
theorem dX11_node_79 : decode cX11_node 79 = .ok (.iload_n 1, 1) := by decide +kernel
theorem dX11_node_80 : decode cX11_node 80 = .ok (.iaload, 1) := by decide +kernel
theorem dX11_node_81 : decode cX11_node 81 = .ok (.ireturn, 1) := by decide +kernel
theorem dX11_node_82 : decode cX11_node 82 = .ok (.aload_n 0, 1) := by decide +kernel
theorem dX11_node_83 : decode cX11_node 83 = .ok (.getfield 71, 3) := by decide +kernel
theorem dX11_node_86 : decode cX11_node 86 = .ok (.getfield 150, 3) := by decide +kernel
theorem dX11_node_89 : decode cX11_node 89 = .ok (.iload_n 1, 1) := by decide +kernel
theorem dX11_node_90 : decode cX11_node 90 = .ok (.iaload, 1) := by decide +kernel
theorem dX11_node_91 : decode cX11_node 91 = .ok (.bipush 12, 2) := by decide +kernel
theorem dX11_node_93 : decode cX11_node 93 = .ok (.if_icmp .ne 15, 3) := by decide +kernel
theorem dX11_node_96 : decode cX11_node 96 = .ok (.aload_n 0, 1) := by decide +kernel
theorem dX11_node_97 : decode cX11_node 97 = .ok (.getfield 71, 3) := by decide +kernel
theorem dX11_node_100 : decode cX11_node 100 = .ok (.getfield 152, 3) := by decide +kernel
theorem dX11_node_103 : decode cX11_node 103 = .ok (.iload_n 1, 1) := by decide +kernel
theorem dX11_node_104 : decode cX11_node 104 = .ok (.iaload, 1) := by decide +kernel
theorem dX11_node_105 : decode cX11_node 105 = .ok (.goto 12, 3) := by decide +kernel
theorem dX11_node_108 : decode cX11_node 108 = .ok (.aload_n 0, 1) := by decide +kernel
theorem dX11_node_109 : decode cX11_node 109 = .ok (.getfield 71, 3) := by decide +kernel
theorem dX11_node_112 : decode cX11_node 112 = .ok (.getfield 210, 3) := by decide +kernel
theorem dX11_node_115 : decode cX11_node 115 = .ok (.iload_n 1, 1) := by decide +kernel
theorem dX11_node_116 : decode cX11_node 116 = .ok (.iaload, 1) := by decide +kernel
theorem dX11_node_117 : decode cX11_node 117 = .ok (.ireturn, 1) := by decide +kernel
theorem dX11_node_118 : decode cX11_node 118 = .ok (.aload_n 0, 1) := by decide +kernel
theorem dX11_node_119 : decode cX11_node 119 = .ok (.getfield 71, 3) := by decide +kernel
theorem dX11_node_122 : decode cX11_node 122 = .ok (.getfield 213, 3) := by decide +kernel
theorem dX11_node_125 : decode cX11_node 125 = .ok (.iload_n 1, 1) := by decide +kernel
theorem dX11_node_126 : decode cX11_node 126 = .ok (.iaload, 1) := by decide +kernel
theorem dX11_node_127 : decode cX11_node 127 = .ok (.ireturn, 1) := by decide +kernel
theorem dX11_node_128 : decode cX11_node 128 = .ok (.aload_n 0, 1) := by decide +kernel
theorem dX11_node_129 : decode cX11_node 129 = .ok (.getfield 71, 3) := by decide +kernel
theorem dX11_node_132 : decode cX11_node 132 = .ok (.iload_n 1, 1) := by decide +kernel
theorem dX11_node_133 : decode cX11_node 133 = .ok (.invokevirtual 162, 3) := by decide +kernel
theorem dX11_node_136 : decode cX11_node 136 = .ok (.ireturn, 1) := by decide +kernel
theorem dX11_node_137 : decode cX11_node 137 = .ok (.aload_n 0, 1) := by decide +kernel
theorem dX11_node_138 : decode cX11_node 138 = .ok (.getfield 71, 3) := by decide +kernel
theorem dX11_node_141 : decode cX11_node 141 = .ok (.iload_n 1, 1) := by decide +kernel
theorem dX11_node_142 : decode cX11_node 142 = .ok (.invokevirtual 166, 3) := by decide +kernel
theorem dX11_node_145 : decode cX11_node 145 = .ok (.ireturn, 1) := by decide +kernel
theorem dX11_node_146 : decode cX11_node 146 = .ok (.aload_n 0, 1) := by decide +kernel
theorem dX11_node_147 : decode cX11_node 147 = .ok (.getfield 71, 3) := by decide +kernel
theorem dX11_node_150 : decode cX11_node 150 = .ok (.getfield 216, 3) := by decide +kernel
theorem dX11_node_153 : decode cX11_node 153 = .ok (.iload_n 1, 1) := by decide +kernel
theorem dX11_node_154 : decode cX11_node 154 = .ok (.iaload, 1) := by decide +kernel
theorem dX11_node_155 : decode cX11_node 155 = .ok (.ireturn, 1) := by decide +kernel
theorem dX11_node_156 : decode cX11_node 156 = .ok (.aload_n 0, 1) := by decide +kernel
theorem dX11_node_157 : decode cX11_node 157 = .ok (.getfield 71, 3) := by decide +kernel
theorem dX11_node_160 : decode cX11_node 160 = .ok (.getfield 219, 3) := by decide +kernel
theorem dX11_node_163 : decode cX11_node 163 = .ok (.iload_n 1, 1) := by decide +kernel
theorem dX11_node_164 : decode cX11_node 164 = .ok (.iaload, 1) := by decide +kernel
theorem dX11_node_165 : decode cX11_node 165 = .ok (.ireturn, 1) := by decide +kernel
theorem dX11_node_166 : decode cX11_node 166 = .ok (.aload_n 0, 1) := by decide +kernel
theorem dX11_node_167 : decode cX11_node 167 = .ok (.getfield 71, 3) := by decide +kernel
theorem dX11_node_170 : decode cX11_node 170 = .ok (.getfield 222, 3) := by decide +kernel
theorem dX11_node_173 : decode cX11_node 173 = .ok (.iload_n 1, 1) := by decide +kernel
theorem dX11_node_174 : decode cX11_node 174 = .ok (.iaload, 1) := by decide +kernel
theorem dX11_node_175 : decode cX11_node 175 = .ok (.ireturn, 1) := by decide +kernel
set_option maxRecDepth 100000 in
theorem ggX11_root_X11_isNode : GoodIn wsX11_root wsX11_isNode := goodIn_r _ [9, 4, 10, 53, 54, 55, 56, 57, 58, 59, 60, 61, 62, 63, 64, 65, 66, 67, 68, 69, 70, 71, 72, 73, 74, 75, 76, 77, 78, 79, 80, 81, 82, 83, 84, 85] rfl rfl
set_option maxRecDepth 100000 in
theorem gX11_root_X11_isNode : GoodIn wsX11_root (wsV RX11 201 RX11 yX11_isNode wsX11_isNode) := goodIn_app (goodIn_of _ (by decide +kernel)) ggX11_root_X11_isNode
theorem dX11_root_0 : decode cX11_root 0 = .ok (.aload_n 0, 1) := by decide +kernel
theorem dX11_root_1 : decode cX11_root 1 = .ok (.iload_n 1, 1) := by decide +kernel
theorem dX11_root_2 : decode cX11_root 2 = .ok (.invokevirtual 201, 3) := by decide +kernel
theorem dX11_root_5 : decode cX11_root 5 = .ok (.ifCond .eq 13, 3) := by decide +kernel
theorem dX11_root_8 : decode cX11_root 8 = .ok (.iload_n 2, 1) := by decide +kernel
theorem dX11_root_9 : decode cX11_root 9 = .ok (.ifCond .lt 9, 3) := by decide +kernel
theorem dX11_root_12 : decode cX11_root 12 = .ok (.iload_n 2, 1) := by decide +kernel
theorem dX11_root_13 : decode cX11_root 13 = .ok (.bipush 7, 2) := by decide +kernel
theorem dX11_root_15 : decode cX11_root 15 = .ok (.if_icmp .le 13, 3) := by decide +kernel
theorem dX11_root_18 : decode cX11_root 18 = .ok (.new 205, 3) := by decide +kernel
theorem dX11_root_21 : decode cX11_root 21 = .ok (.dup, 1) := by decide +kernel
theorem dX11_root_22 : decode cX11_root 22 = .ok (.ldc 225, 2) := by decide +kernel
theorem dX11_root_24 : decode cX11_root 24 = .ok (.invokespecial 209, 3) := by decide +kernel
theorem dX11_root_27 : decode cX11_root 27 = .ok (.athrow, 1) := by decide +kernel
theorem dX11_root_28 : decode cX11_root 28 = .ok (.aload_n 0, 1) := by decide +kernel
theorem dX11_root_29 : decode cX11_root 29 = .ok (.getfield 48, 3) := by decide +kernel
theorem dX11_root_32 : decode cX11_root 32 = .ok (.aload_n 0, 1) := by decide +kernel
theorem dX11_root_33 : decode cX11_root 33 = .ok (.getfield 71, 3) := by decide +kernel
theorem dX11_root_36 : decode cX11_root 36 = .ok (.iload_n 1, 1) := by decide +kernel
theorem dX11_root_37 : decode cX11_root 37 = .ok (.iload_n 2, 1) := by decide +kernel
theorem dX11_root_38 : decode cX11_root 38 = .ok (.invokevirtual 227, 3) := by decide +kernel
theorem dX11_root_41 : decode cX11_root 41 = .ok (.lreturn, 1) := by decide +kernel
set_option maxRecDepth 100000 in
theorem ggX11_typeRoot_X11_isNode : GoodIn wsX11_typeRoot wsX11_isNode := goodIn_r _ [9, 3, 10, 59, 60, 61, 62, 63, 64, 65, 66, 67, 68, 69, 70, 71, 72, 73, 74, 75, 76, 77, 78, 79, 80, 81, 82, 83, 84, 85, 86, 87, 88, 89, 90, 91] rfl rfl
set_option maxRecDepth 100000 in
theorem gX11_typeRoot_X11_isNode : GoodIn wsX11_typeRoot (wsV RX11 201 RX11 yX11_isNode wsX11_isNode) := goodIn_app (goodIn_of _ (by decide +kernel)) ggX11_typeRoot_X11_isNode
theorem dX11_typeRoot_0 : decode cX11_typeRoot 0 = .ok (.aload_n 0, 1) := by decide +kernel
theorem dX11_typeRoot_1 : decode cX11_typeRoot 1 = .ok (.iload_n 1, 1) := by decide +kernel
theorem dX11_typeRoot_2 : decode cX11_typeRoot 2 = .ok (.invokevirtual 201, 3) := by decide +kernel
theorem dX11_typeRoot_5 : decode cX11_typeRoot 5 = .ok (.ifCond .eq 13, 3) := by decide +kernel
theorem dX11_typeRoot_8 : decode cX11_typeRoot 8 = .ok (.iload_n 3, 1) := by decide +kernel
theorem dX11_typeRoot_9 : decode cX11_typeRoot 9 = .ok (.ifCond .lt 9, 3) := by decide +kernel
theorem dX11_typeRoot_12 : decode cX11_typeRoot 12 = .ok (.iload_n 3, 1) := by decide +kernel
theorem dX11_typeRoot_13 : decode cX11_typeRoot 13 = .ok (.bipush 7, 2) := by decide +kernel
theorem dX11_typeRoot_15 : decode cX11_typeRoot 15 = .ok (.if_icmp .le 13, 3) := by decide +kernel
theorem dX11_typeRoot_18 : decode cX11_typeRoot 18 = .ok (.new 205, 3) := by decide +kernel
theorem dX11_typeRoot_21 : decode cX11_typeRoot 21 = .ok (.dup, 1) := by decide +kernel
theorem dX11_typeRoot_22 : decode cX11_typeRoot 22 = .ok (.ldc 225, 2) := by decide +kernel
theorem dX11_typeRoot_24 : decode cX11_typeRoot 24 = .ok (.invokespecial 209, 3) := by decide +kernel
theorem dX11_typeRoot_27 : decode cX11_typeRoot 27 = .ok (.athrow, 1) := by decide +kernel
theorem dX11_typeRoot_28 : decode cX11_typeRoot 28 = .ok (.aload_n 0, 1) := by decide +kernel
theorem dX11_typeRoot_29 : decode cX11_typeRoot 29 = .ok (.getfield 71, 3) := by decide +kernel
theorem dX11_typeRoot_32 : decode cX11_typeRoot 32 = .ok (.iload_n 1, 1) := by decide +kernel
theorem dX11_typeRoot_33 : decode cX11_typeRoot 33 = .ok (.iload_n 2, 1) := by decide +kernel
theorem dX11_typeRoot_34 : decode cX11_typeRoot 34 = .ok (.invokevirtual 231, 3) := by decide +kernel
theorem dX11_typeRoot_37 : decode cX11_typeRoot 37 = .ok (.istore 4, 2) := by decide +kernel
theorem dX11_typeRoot_39 : decode cX11_typeRoot 39 = .ok (.iload 4, 2) := by decide +kernel
theorem dX11_typeRoot_41 : decode cX11_typeRoot 41 = .ok (.ifCond .ge 7, 3) := by decide +kernel
theorem dX11_typeRoot_44 : decode cX11_typeRoot 44 = .ok (.lconst 0, 1) := by decide +kernel
theorem dX11_typeRoot_45 : decode cX11_typeRoot 45 = .ok (.goto 17, 3) := by decide +kernel
theorem dX11_typeRoot_48 : decode cX11_typeRoot 48 = .ok (.aload_n 0, 1) := by decide +kernel
theorem dX11_typeRoot_49 : decode cX11_typeRoot 49 = .ok (.getfield 48, 3) := by decide +kernel
theorem dX11_typeRoot_52 : decode cX11_typeRoot 52 = .ok (.aload_n 0, 1) := by decide +kernel
theorem dX11_typeRoot_53 : decode cX11_typeRoot 53 = .ok (.getfield 71, 3) := by decide +kernel
theorem dX11_typeRoot_56 : decode cX11_typeRoot 56 = .ok (.iload 4, 2) := by decide +kernel
theorem dX11_typeRoot_58 : decode cX11_typeRoot 58 = .ok (.iload_n 3, 1) := by decide +kernel
theorem dX11_typeRoot_59 : decode cX11_typeRoot 59 = .ok (.invokevirtual 235, 3) := by decide +kernel
theorem dX11_typeRoot_62 : decode cX11_typeRoot 62 = .ok (.lreturn, 1) := by decide +kernel
set_option maxRecDepth 100000 in
theorem ggX11_type_X11_isNode : GoodIn wsX11_type wsX11_isNode := goodIn_r _ [11, 3, 12, 66, 67, 68, 69, 70, 71, 72, 73, 74, 75, 76, 77, 78, 79, 80, 81, 82, 83, 84, 85, 86, 87, 88, 89, 90, 91, 92, 93, 94, 95, 96, 97, 98] rfl rfl
set_option maxRecDepth 100000 in
theorem gX11_type_X11_isNode : GoodIn wsX11_type (wsV RX11 201 RX11 yX11_isNode wsX11_isNode) := goodIn_app (goodIn_of _ (by decide +kernel)) ggX11_type_X11_isNode
set_option maxRecDepth 100000 in
theorem ggX11_type_X8_clear : GoodIn wsX11_type wsX8_clear := goodIn_r _ [24, 25, 26, 27, 111, 112, 113, 114] (by decide +kernel) (by decide +kernel)
set_option maxRecDepth 100000 in
theorem gX11_type_X8_clear : GoodIn wsX11_type (wsV RX11 98 RX8 yX8_clear wsX8_clear) := goodIn_app (goodIn_of _ (by decide +kernel)) ggX11_type_X8_clear
theorem dX11_type_0 : decode cX11_type 0 = .ok (.aload_n 0, 1) := by decide +kernel
theorem dX11_type_1 : decode cX11_type 1 = .ok (.iload_n 1, 1) := by decide +kernel
theorem dX11_type_2 : decode cX11_type 2 = .ok (.invokevirtual 201, 3) := by decide +kernel
theorem dX11_type_5 : decode cX11_type 5 = .ok (.ifCond .ne 13, 3) := by decide +kernel
theorem dX11_type_8 : decode cX11_type 8 = .ok (.new 205, 3) := by decide +kernel
theorem dX11_type_11 : decode cX11_type 11 = .ok (.dup, 1) := by decide +kernel
theorem dX11_type_12 : decode cX11_type 12 = .ok (.ldc 238, 2) := by decide +kernel
theorem dX11_type_14 : decode cX11_type 14 = .ok (.invokespecial 209, 3) := by decide +kernel
theorem dX11_type_17 : decode cX11_type 17 = .ok (.athrow, 1) := by decide +kernel
theorem dX11_type_18 : decode cX11_type 18 = .ok (.aload_n 0, 1) := by decide +kernel
theorem dX11_type_19 : decode cX11_type 19 = .ok (.getfield 71, 3) := by decide +kernel
theorem dX11_type_22 : decode cX11_type 22 = .ok (.iload_n 1, 1) := by decide +kernel
theorem dX11_type_23 : decode cX11_type 23 = .ok (.iload_n 2, 1) := by decide +kernel
theorem dX11_type_24 : decode cX11_type 24 = .ok (.invokevirtual 231, 3) := by decide +kernel
theorem dX11_type_27 : decode cX11_type 27 = .ok (.istore_n 3, 1) := by decide +kernel
theorem dX11_type_28 : decode cX11_type 28 = .ok (.iload_n 3, 1) := by decide +kernel
theorem dX11_type_29 : decode cX11_type 29 = .ok (.ifCond .ge 6, 3) := by decide +kernel
theorem dX11_type_32 : decode cX11_type 32 = .ok (.bipush (-2), 2) := by decide +kernel
theorem dX11_type_34 : decode cX11_type 34 = .ok (.ireturn, 1) := by decide +kernel
theorem dX11_type_35 : decode cX11_type 35 = .ok (.aload_n 0, 1) := by decide +kernel
theorem dX11_type_36 : decode cX11_type 36 = .ok (.getfield 71, 3) := by decide +kernel
theorem dX11_type_39 : decode cX11_type 39 = .ok (.getfield 128, 3) := by decide +kernel
theorem dX11_type_42 : decode cX11_type 42 = .ok (.getfield 240, 3) := by decide +kernel
theorem dX11_type_45 : decode cX11_type 45 = .ok (.iload_n 3, 1) := by decide +kernel
theorem dX11_type_46 : decode cX11_type 46 = .ok (.iaload, 1) := by decide +kernel
theorem dX11_type_47 : decode cX11_type 47 = .ok (.sipush 300, 3) := by decide +kernel
theorem dX11_type_50 : decode cX11_type 50 = .ok (.if_icmp .le 5, 3) := by decide +kernel
theorem dX11_type_53 : decode cX11_type 53 = .ok (.iconst (-1), 1) := by decide +kernel
theorem dX11_type_54 : decode cX11_type 54 = .ok (.ireturn, 1) := by decide +kernel
theorem dX11_type_55 : decode cX11_type 55 = .ok (.aload_n 0, 1) := by decide +kernel
theorem dX11_type_56 : decode cX11_type 56 = .ok (.getfield 19, 3) := by decide +kernel
theorem dX11_type_59 : decode cX11_type 59 = .ok (.invokevirtual 98, 3) := by decide +kernel
theorem dX11_type_62 : decode cX11_type 62 = .ok (.aload_n 0, 1) := by decide +kernel
theorem dX11_type_63 : decode cX11_type 63 = .ok (.getfield 71, 3) := by decide +kernel
theorem dX11_type_66 : decode cX11_type 66 = .ok (.getfield 128, 3) := by decide +kernel
theorem dX11_type_69 : decode cX11_type 69 = .ok (.iload_n 3, 1) := by decide +kernel
theorem dX11_type_70 : decode cX11_type 70 = .ok (.aload_n 0, 1) := by decide +kernel
theorem dX11_type_71 : decode cX11_type 71 = .ok (.getfield 19, 3) := by decide +kernel
theorem dX11_type_74 : decode cX11_type 74 = .ok (.invokevirtual 243, 3) := by decide +kernel
theorem dX11_type_77 : decode cX11_type 77 = .ok (.aload_n 0, 1) := by decide +kernel
theorem dX11_type_78 : decode cX11_type 78 = .ok (.invokevirtual 194, 3) := by decide +kernel
theorem dX11_type_81 : decode cX11_type 81 = .ok (.ireturn, 1) := by decide +kernel
set_option maxRecDepth 100000 in
theorem ggX11_say_X9_tell : GoodIn wsX11_say wsX9_tell := goodIn_r _ [11, 12, 13, 14, 15, 16, 17, 18, 19, 20, 21, 22, 23, 24, 25, 26, 27, 28, 29, 30, 31, 32, 33, 10, 34, 35, 36, 37, 38, 39, 40, 41, 42, 43, 44, 45, 46, 47, 48, 49, 50, 51, 52, 53, 54, 55, 56, 57, 58, 59, 60, 61, 62, 63, 64, 65, 66, 67, 68, 69, 70, 71, 72, 73, 74, 75, 76, 77, 78, 79, 80, 81, 82, 83, 84, 85, 86, 87, 88, 89, 90, 91, 92, 93, 94, 95, 96, 97, 98, 99, 100, 101, 102, 103, 104, 105, 106, 107, 108, 109, 110, 111, 112, 113, 114, 115, 116, 117, 118, 119, 120, 121, 122, 123, 124, 125, 126, 127, 128, 129, 130, 131, 132, 133, 134, 135, 136, 137, 138, 139, 140, 141, 142, 143, 144, 145, 146, 147, 148, 149, 150, 151, 152, 153, 154, 155, 156, 157, 158, 159, 160, 161, 162, 163, 164, 165, 166, 167, 168, 169, 170, 171, 172, 173, 174, 175, 176, 177, 178, 179, 180, 181, 182, 183, 184, 185, 186, 187, 188, 189, 190, 191, 192, 193, 194, 195, 196, 197, 198, 199, 200, 201, 202, 203, 204, 205, 206, 207, 208, 209, 210, 211, 212, 213, 214, 215, 216, 217, 218, 219, 220, 221, 222, 223, 224, 225, 226, 227, 228, 229, 230, 231, 232, 233, 234, 235, 236, 237, 238, 239, 240, 241, 242, 243, 244, 245, 246, 247, 248, 249, 250, 251, 252, 253, 254, 255, 256, 257, 258, 259, 260, 261, 262, 263, 264, 265, 266, 267, 268, 269, 270, 271, 272, 273, 274, 275, 276, 277, 278, 279, 280, 281, 282, 283, 284, 285, 286, 287, 288, 289, 290, 291, 292, 293, 294, 295, 296, 297, 298, 299, 300, 301, 302, 303, 304, 305, 306, 307, 308, 309, 310, 311, 312, 313, 314, 315, 316, 317, 318, 319, 320, 321, 322, 323, 324, 325, 326, 327, 328, 329, 330, 331, 332, 333, 334, 335, 336, 337, 338, 339, 340, 341, 342, 343, 344, 345, 346, 347, 348, 349, 350, 351, 352, 353, 354, 355, 356, 357, 358, 359, 360, 361, 362, 363, 364, 365, 366, 367, 368, 369, 370, 371, 372, 407, 408, 409, 410, 411, 412, 413, 414, 415, 416, 417, 418, 419, 420, 421, 422, 423, 424, 425, 426, 427, 428, 429, 430, 431, 432, 433, 434, 435, 436, 437, 438, 439, 440, 441, 442, 443, 444, 445, 446, 447, 448, 449, 450, 451, 452, 453, 454, 455, 456, 457, 458, 459, 460, 461, 462, 463, 464, 465, 466, 467, 468, 469, 470, 471, 472, 473] rfl rfl
set_option maxRecDepth 100000 in
theorem gX11_say_X9_tell : GoodIn wsX11_say (wsV RX11 247 RX9 yX9_tell wsX9_tell) := goodIn_app (goodIn_of _ (by decide +kernel)) ggX11_say_X9_tell
set_option maxRecDepth 100000 in
theorem ggX11_say_X8_clear : GoodIn wsX11_say wsX8_clear := goodIn_r _ [312, 49, 313, 314, 434, 435, 436, 437] (by decide +kernel) (by decide +kernel)
set_option maxRecDepth 100000 in
theorem gX11_say_X8_clear : GoodIn wsX11_say (wsV RX11 98 RX8 yX8_clear wsX8_clear) := goodIn_app (goodIn_of _ (by decide +kernel)) ggX11_say_X8_clear
theorem dX11_say_0 : decode cX11_say 0 = .ok (.aload_n 0, 1) := by decide +kernel
theorem dX11_say_1 : decode cX11_say 1 = .ok (.getfield 64, 3) := by decide +kernel
theorem dX11_say_4 : decode cX11_say 4 = .ok (.aload_n 0, 1) := by decide +kernel
theorem dX11_say_5 : decode cX11_say 5 = .ok (.getfield 10, 3) := by decide +kernel
theorem dX11_say_8 : decode cX11_say 8 = .ok (.aload_n 0, 1) := by decide +kernel
theorem dX11_say_9 : decode cX11_say 9 = .ok (.getfield 75, 3) := by decide +kernel
theorem dX11_say_12 : decode cX11_say 12 = .ok (.aload_n 0, 1) := by decide +kernel
theorem dX11_say_13 : decode cX11_say 13 = .ok (.getfield 19, 3) := by decide +kernel
theorem dX11_say_16 : decode cX11_say 16 = .ok (.invokevirtual 247, 3) := by decide +kernel
theorem dX11_say_19 : decode cX11_say 19 = .ok (.istore_n 1, 1) := by decide +kernel
theorem dX11_say_20 : decode cX11_say 20 = .ok (.aload_n 0, 1) := by decide +kernel
theorem dX11_say_21 : decode cX11_say 21 = .ok (.aload_n 0, 1) := by decide +kernel
theorem dX11_say_22 : decode cX11_say 22 = .ok (.getfield 64, 3) := by decide +kernel
theorem dX11_say_25 : decode cX11_say 25 = .ok (.getfield 251, 3) := by decide +kernel
theorem dX11_say_28 : decode cX11_say 28 = .ok (.putfield 254, 3) := by decide +kernel
theorem dX11_say_31 : decode cX11_say 31 = .ok (.aload_n 0, 1) := by decide +kernel
theorem dX11_say_32 : decode cX11_say 32 = .ok (.getfield 10, 3) := by decide +kernel
theorem dX11_say_35 : decode cX11_say 35 = .ok (.invokevirtual 98, 3) := by decide +kernel
theorem dX11_say_38 : decode cX11_say 38 = .ok (.iload_n 1, 1) := by decide +kernel
theorem dX11_say_39 : decode cX11_say 39 = .ok (.ifCond .ne 8, 3) := by decide +kernel
theorem dX11_say_42 : decode cX11_say 42 = .ok (.aload_n 0, 1) := by decide +kernel
theorem dX11_say_43 : decode cX11_say 43 = .ok (.invokevirtual 194, 3) := by decide +kernel
theorem dX11_say_46 : decode cX11_say 46 = .ok (.pop, 1) := by decide +kernel
theorem dX11_say_47 : decode cX11_say 47 = .ok (.iload_n 1, 1) := by decide +kernel
theorem dX11_say_48 : decode cX11_say 48 = .ok (.ireturn, 1) := by decide +kernel
set_option maxRecDepth 100000 in
theorem ggX11_speak_X8_clear : GoodIn wsX11_speak wsX8_clear := goodIn_r _ [11, 12, 13, 14, 174, 175, 176, 177] (by decide +kernel) (by decide +kernel)
set_option maxRecDepth 100000 in
theorem gX11_speak_X8_clear : GoodIn wsX11_speak (wsV RX11 98 RX8 yX8_clear wsX8_clear) := goodIn_app (goodIn_of _ (by decide +kernel)) ggX11_speak_X8_clear
theorem dX11_speak_0 : decode cX11_speak 0 = .ok (.aload_n 0, 1) := by decide +kernel
theorem dX11_speak_1 : decode cX11_speak 1 = .ok (.getfield 71, 3) := by decide +kernel
theorem dX11_speak_4 : decode cX11_speak 4 = .ok (.getfield 119, 3) := by decide +kernel
theorem dX11_speak_7 : decode cX11_speak 7 = .ok (.ifCond .ne 13, 3) := by decide +kernel
theorem dX11_speak_10 : decode cX11_speak 10 = .ok (.new 89, 3) := by decide +kernel
theorem dX11_speak_13 : decode cX11_speak 13 = .ok (.dup, 1) := by decide +kernel
theorem dX11_speak_14 : decode cX11_speak 14 = .ok (.ldc 122, 2) := by decide +kernel
theorem dX11_speak_16 : decode cX11_speak 16 = .ok (.invokespecial 93, 3) := by decide +kernel
theorem dX11_speak_19 : decode cX11_speak 19 = .ok (.athrow, 1) := by decide +kernel
theorem dX11_speak_20 : decode cX11_speak 20 = .ok (.aload_n 0, 1) := by decide +kernel
theorem dX11_speak_21 : decode cX11_speak 21 = .ok (.getfield 19, 3) := by decide +kernel
theorem dX11_speak_24 : decode cX11_speak 24 = .ok (.invokevirtual 98, 3) := by decide +kernel
theorem dX11_speak_27 : decode cX11_speak 27 = .ok (.iconst 0, 1) := by decide +kernel
theorem dX11_speak_28 : decode cX11_speak 28 = .ok (.istore_n 1, 1) := by decide +kernel
theorem dX11_speak_29 : decode cX11_speak 29 = .ok (.iload_n 1, 1) := by decide +kernel
theorem dX11_speak_30 : decode cX11_speak 30 = .ok (.aload_n 0, 1) := by decide +kernel
theorem dX11_speak_31 : decode cX11_speak 31 = .ok (.getfield 71, 3) := by decide +kernel
theorem dX11_speak_34 : decode cX11_speak 34 = .ok (.getfield 119, 3) := by decide +kernel
theorem dX11_speak_37 : decode cX11_speak 37 = .ok (.if_icmp .ge 31, 3) := by decide +kernel
theorem dX11_speak_40 : decode cX11_speak 40 = .ok (.aload_n 0, 1) := by decide +kernel
theorem dX11_speak_41 : decode cX11_speak 41 = .ok (.getfield 19, 3) := by decide +kernel
theorem dX11_speak_44 : decode cX11_speak 44 = .ok (.getfield 255, 3) := by decide +kernel
theorem dX11_speak_47 : decode cX11_speak 47 = .ok (.ifCond .ne 21, 3) := by decide +kernel
theorem dX11_speak_50 : decode cX11_speak 50 = .ok (.aload_n 0, 1) := by decide +kernel
theorem dX11_speak_51 : decode cX11_speak 51 = .ok (.getfield 71, 3) := by decide +kernel
theorem dX11_speak_54 : decode cX11_speak 54 = .ok (.iload_n 1, 1) := by decide +kernel
theorem dX11_speak_55 : decode cX11_speak 55 = .ok (.aload_n 0, 1) := by decide +kernel
theorem dX11_speak_56 : decode cX11_speak 56 = .ok (.getfield 19, 3) := by decide +kernel
theorem dX11_speak_59 : decode cX11_speak 59 = .ok (.invokevirtual 259, 3) := by decide +kernel
theorem dX11_speak_62 : decode cX11_speak 62 = .ok (.iinc 1 1, 3) := by decide +kernel
theorem dX11_speak_65 : decode cX11_speak 65 = .ok (.goto (-36), 3) := by decide +kernel
theorem dX11_speak_68 : decode cX11_speak 68 = .ok (.aload_n 0, 1) := by decide +kernel
theorem dX11_speak_69 : decode cX11_speak 69 = .ok (.getfield 19, 3) := by decide +kernel
theorem dX11_speak_72 : decode cX11_speak 72 = .ok (.getfield 255, 3) := by decide +kernel
theorem dX11_speak_75 : decode cX11_speak 75 = .ok (.ifCond .eq 7, 3) := by decide +kernel
theorem dX11_speak_78 : decode cX11_speak 78 = .ok (.iconst (-1), 1) := by decide +kernel
theorem dX11_speak_79 : decode cX11_speak 79 = .ok (.goto 7, 3) := by decide +kernel
theorem dX11_speak_82 : decode cX11_speak 82 = .ok (.aload_n 0, 1) := by decide +kernel
theorem dX11_speak_83 : decode cX11_speak 83 = .ok (.invokevirtual 194, 3) := by decide +kernel
theorem dX11_speak_86 : decode cX11_speak 86 = .ok (.ireturn, 1) := by decide +kernel
set_option maxRecDepth 100000 in
theorem ggX11_again_X8_copy : GoodIn wsX11_again wsX8_copy := goodIn_r _ [8, 9, 10, 11, 12, 13, 14, 15, 16, 17, 7, 18, 19, 20, 38, 39, 40, 41] (by decide +kernel) (by decide +kernel)
set_option maxRecDepth 100000 in
theorem gX11_again_X8_copy : GoodIn wsX11_again (wsV RX11 197 RX8 yX8_copy wsX8_copy) := goodIn_app (goodIn_of _ (by decide +kernel)) ggX11_again_X8_copy
theorem dX11_again_0 : decode cX11_again 0 = .ok (.aload_n 0, 1) := by decide +kernel
theorem dX11_again_1 : decode cX11_again 1 = .ok (.getfield 10, 3) := by decide +kernel
theorem dX11_again_4 : decode cX11_again 4 = .ok (.aload_n 0, 1) := by decide +kernel
theorem dX11_again_5 : decode cX11_again 5 = .ok (.getfield 16, 3) := by decide +kernel
theorem dX11_again_8 : decode cX11_again 8 = .ok (.invokevirtual 197, 3) := by decide +kernel
theorem dX11_again_11 : decode cX11_again 11 = .ok (.aload_n 0, 1) := by decide +kernel
theorem dX11_again_12 : decode cX11_again 12 = .ok (.getfield 10, 3) := by decide +kernel
theorem dX11_again_15 : decode cX11_again 15 = .ok (.getfield 85, 3) := by decide +kernel
theorem dX11_again_18 : decode cX11_again 18 = .ok (.ireturn, 1) := by decide +kernel
set_option maxRecDepth 100000 in
theorem ggX11_value_X11_isNode : GoodIn wsX11_value wsX11_isNode := goodIn_r _ [9, 3, 10, 111, 112, 113, 114, 115, 116, 117, 118, 119, 120, 121, 122, 123, 124, 125, 126, 127, 128, 129, 130, 131, 132, 133, 134, 135, 136, 137, 138, 139, 140, 141, 142, 143] rfl rfl
set_option maxRecDepth 100000 in
theorem gX11_value_X11_isNode : GoodIn wsX11_value (wsV RX11 201 RX11 yX11_isNode wsX11_isNode) := goodIn_app (goodIn_of _ (by decide +kernel)) ggX11_value_X11_isNode
set_option maxRecDepth 100000 in
theorem ggX11_value_X8_clear : GoodIn wsX11_value wsX8_clear := goodIn_r _ [70, 45, 71, 72, 144, 145, 146, 147] (by decide +kernel) (by decide +kernel)
set_option maxRecDepth 100000 in
theorem gX11_value_X8_clear : GoodIn wsX11_value (wsV RX11 98 RX8 yX8_clear wsX8_clear) := goodIn_app (goodIn_of _ (by decide +kernel)) ggX11_value_X8_clear
theorem dX11_value_0 : decode cX11_value 0 = .ok (.aload_n 0, 1) := by decide +kernel
theorem dX11_value_1 : decode cX11_value 1 = .ok (.iload_n 1, 1) := by decide +kernel
theorem dX11_value_2 : decode cX11_value 2 = .ok (.invokevirtual 201, 3) := by decide +kernel
theorem dX11_value_5 : decode cX11_value 5 = .ok (.ifCond .ne 13, 3) := by decide +kernel
theorem dX11_value_8 : decode cX11_value 8 = .ok (.new 205, 3) := by decide +kernel
theorem dX11_value_11 : decode cX11_value 11 = .ok (.dup, 1) := by decide +kernel
theorem dX11_value_12 : decode cX11_value 12 = .ok (.ldc 238, 2) := by decide +kernel
theorem dX11_value_14 : decode cX11_value 14 = .ok (.invokespecial 209, 3) := by decide +kernel
theorem dX11_value_17 : decode cX11_value 17 = .ok (.athrow, 1) := by decide +kernel
theorem dX11_value_18 : decode cX11_value 18 = .ok (.aload_n 0, 1) := by decide +kernel
theorem dX11_value_19 : decode cX11_value 19 = .ok (.aload_n 0, 1) := by decide +kernel
theorem dX11_value_20 : decode cX11_value 20 = .ok (.getfield 71, 3) := by decide +kernel
theorem dX11_value_23 : decode cX11_value 23 = .ok (.iload_n 1, 1) := by decide +kernel
theorem dX11_value_24 : decode cX11_value 24 = .ok (.iload_n 2, 1) := by decide +kernel
theorem dX11_value_25 : decode cX11_value 25 = .ok (.invokevirtual 231, 3) := by decide +kernel
theorem dX11_value_28 : decode cX11_value 28 = .ok (.invokevirtual 262, 3) := by decide +kernel
theorem dX11_value_31 : decode cX11_value 31 = .ok (.istore_n 3, 1) := by decide +kernel
theorem dX11_value_32 : decode cX11_value 32 = .ok (.aload_n 0, 1) := by decide +kernel
theorem dX11_value_33 : decode cX11_value 33 = .ok (.getfield 10, 3) := by decide +kernel
theorem dX11_value_36 : decode cX11_value 36 = .ok (.invokevirtual 98, 3) := by decide +kernel
theorem dX11_value_39 : decode cX11_value 39 = .ok (.iload_n 3, 1) := by decide +kernel
theorem dX11_value_40 : decode cX11_value 40 = .ok (.ireturn, 1) := by decide +kernel
set_option maxRecDepth 100000 in
theorem ggX11_worth_X11_isNode : GoodIn wsX11_worth wsX11_isNode := goodIn_r _ [9, 3, 10, 100, 101, 102, 103, 104, 105, 106, 107, 108, 109, 110, 111, 112, 113, 114, 115, 116, 117, 118, 119, 120, 121, 122, 123, 124, 125, 126, 127, 128, 129, 130, 131, 132] rfl rfl
set_option maxRecDepth 100000 in
theorem gX11_worth_X11_isNode : GoodIn wsX11_worth (wsV RX11 201 RX11 yX11_isNode wsX11_isNode) := goodIn_app (goodIn_of _ (by decide +kernel)) ggX11_worth_X11_isNode
set_option maxRecDepth 100000 in
theorem ggX11_worth_X8_clear : GoodIn wsX11_worth wsX8_clear := goodIn_r _ [28, 29, 30, 31, 133, 134, 135, 136] (by decide +kernel) (by decide +kernel)
set_option maxRecDepth 100000 in
theorem gX11_worth_X8_clear : GoodIn wsX11_worth (wsV RX11 98 RX8 yX8_clear wsX8_clear) := goodIn_app (goodIn_of _ (by decide +kernel)) ggX11_worth_X8_clear
theorem dX11_worth_0 : decode cX11_worth 0 = .ok (.aload_n 0, 1) := by decide +kernel
theorem dX11_worth_1 : decode cX11_worth 1 = .ok (.iload_n 1, 1) := by decide +kernel
theorem dX11_worth_2 : decode cX11_worth 2 = .ok (.invokevirtual 201, 3) := by decide +kernel
theorem dX11_worth_5 : decode cX11_worth 5 = .ok (.ifCond .ne 13, 3) := by decide +kernel
theorem dX11_worth_8 : decode cX11_worth 8 = .ok (.new 205, 3) := by decide +kernel
theorem dX11_worth_11 : decode cX11_worth 11 = .ok (.dup, 1) := by decide +kernel
theorem dX11_worth_12 : decode cX11_worth 12 = .ok (.ldc 238, 2) := by decide +kernel
theorem dX11_worth_14 : decode cX11_worth 14 = .ok (.invokespecial 209, 3) := by decide +kernel
theorem dX11_worth_17 : decode cX11_worth 17 = .ok (.athrow, 1) := by decide +kernel
theorem dX11_worth_18 : decode cX11_worth 18 = .ok (.aload_n 0, 1) := by decide +kernel
theorem dX11_worth_19 : decode cX11_worth 19 = .ok (.aload_n 0, 1) := by decide +kernel
theorem dX11_worth_20 : decode cX11_worth 20 = .ok (.getfield 71, 3) := by decide +kernel
theorem dX11_worth_23 : decode cX11_worth 23 = .ok (.iload_n 1, 1) := by decide +kernel
theorem dX11_worth_24 : decode cX11_worth 24 = .ok (.iload_n 2, 1) := by decide +kernel
theorem dX11_worth_25 : decode cX11_worth 25 = .ok (.invokevirtual 231, 3) := by decide +kernel
theorem dX11_worth_28 : decode cX11_worth 28 = .ok (.invokevirtual 269, 3) := by decide +kernel
theorem dX11_worth_31 : decode cX11_worth 31 = .ok (.istore_n 3, 1) := by decide +kernel
theorem dX11_worth_32 : decode cX11_worth 32 = .ok (.aload_n 0, 1) := by decide +kernel
theorem dX11_worth_33 : decode cX11_worth 33 = .ok (.getfield 10, 3) := by decide +kernel
theorem dX11_worth_36 : decode cX11_worth 36 = .ok (.invokevirtual 98, 3) := by decide +kernel
theorem dX11_worth_39 : decode cX11_worth 39 = .ok (.iload_n 3, 1) := by decide +kernel
theorem dX11_worth_40 : decode cX11_worth 40 = .ok (.ireturn, 1) := by decide +kernel
set_option maxRecDepth 100000 in
theorem ggX11_write_X8_copy : GoodIn wsX11_write wsX8_copy := goodIn_r _ [12, 13, 14, 15, 16, 17, 18, 19, 20, 21, 11, 22, 23, 24, 58, 59, 60, 61] (by decide +kernel) (by decide +kernel)
set_option maxRecDepth 100000 in
theorem gX11_write_X8_copy : GoodIn wsX11_write (wsV RX11 197 RX8 yX8_copy wsX8_copy) := goodIn_app (goodIn_of _ (by decide +kernel)) ggX11_write_X8_copy
theorem dX11_write_0 : decode cX11_write 0 = .ok (.aload_n 0, 1) := by decide +kernel
theorem dX11_write_1 : decode cX11_write 1 = .ok (.getfield 71, 3) := by decide +kernel
theorem dX11_write_4 : decode cX11_write 4 = .ok (.getfield 119, 3) := by decide +kernel
theorem dX11_write_7 : decode cX11_write 7 = .ok (.ifCond .ne 13, 3) := by decide +kernel
theorem dX11_write_10 : decode cX11_write 10 = .ok (.new 89, 3) := by decide +kernel
theorem dX11_write_13 : decode cX11_write 13 = .ok (.dup, 1) := by decide +kernel
theorem dX11_write_14 : decode cX11_write 14 = .ok (.ldc 122, 2) := by decide +kernel
theorem dX11_write_16 : decode cX11_write 16 = .ok (.invokespecial 93, 3) := by decide +kernel
theorem dX11_write_19 : decode cX11_write 19 = .ok (.athrow, 1) := by decide +kernel
theorem dX11_write_20 : decode cX11_write 20 = .ok (.aload_n 0, 1) := by decide +kernel
theorem dX11_write_21 : decode cX11_write 21 = .ok (.getfield 16, 3) := by decide +kernel
theorem dX11_write_24 : decode cX11_write 24 = .ok (.aload_n 0, 1) := by decide +kernel
theorem dX11_write_25 : decode cX11_write 25 = .ok (.getfield 71, 3) := by decide +kernel
theorem dX11_write_28 : decode cX11_write 28 = .ok (.getfield 276, 3) := by decide +kernel
theorem dX11_write_31 : decode cX11_write 31 = .ok (.invokevirtual 197, 3) := by decide +kernel
theorem dX11_write_34 : decode cX11_write 34 = .ok (.aload_n 0, 1) := by decide +kernel
theorem dX11_write_35 : decode cX11_write 35 = .ok (.getfield 16, 3) := by decide +kernel
theorem dX11_write_38 : decode cX11_write 38 = .ok (.getfield 85, 3) := by decide +kernel
theorem dX11_write_41 : decode cX11_write 41 = .ok (.ireturn, 1) := by decide +kernel
set_option maxRecDepth 100000 in
theorem ggX11_out_X8_at : GoodIn wsX11_out wsX8_at := goodIn_r _ [9, 10, 11, 29, 30, 31, 32] (by decide +kernel) (by decide +kernel)
set_option maxRecDepth 100000 in
theorem gX11_out_X8_at : GoodIn wsX11_out (wsV RX11 281 RX8 yX8_at wsX8_at) := goodIn_app (goodIn_of _ (by decide +kernel)) ggX11_out_X8_at
theorem dX11_out_0 : decode cX11_out 0 = .ok (.iload_n 1, 1) := by decide +kernel
theorem dX11_out_1 : decode cX11_out 1 = .ok (.ifCond .lt 14, 3) := by decide +kernel
theorem dX11_out_4 : decode cX11_out 4 = .ok (.iload_n 1, 1) := by decide +kernel
theorem dX11_out_5 : decode cX11_out 5 = .ok (.aload_n 0, 1) := by decide +kernel
theorem dX11_out_6 : decode cX11_out 6 = .ok (.getfield 16, 3) := by decide +kernel
theorem dX11_out_9 : decode cX11_out 9 = .ok (.getfield 85, 3) := by decide +kernel
theorem dX11_out_12 : decode cX11_out 12 = .ok (.if_icmp .lt 14, 3) := by decide +kernel
theorem dX11_out_15 : decode cX11_out 15 = .ok (.new 205, 3) := by decide +kernel
theorem dX11_out_18 : decode cX11_out 18 = .ok (.dup, 1) := by decide +kernel
theorem dX11_out_19 : decode cX11_out 19 = .ok (.ldc_w 279, 3) := by decide +kernel
theorem dX11_out_22 : decode cX11_out 22 = .ok (.invokespecial 209, 3) := by decide +kernel
theorem dX11_out_25 : decode cX11_out 25 = .ok (.athrow, 1) := by decide +kernel
theorem dX11_out_26 : decode cX11_out 26 = .ok (.lconst 0, 1) := by decide +kernel
theorem dX11_out_27 : decode cX11_out 27 = .ok (.lstore_n 2, 1) := by decide +kernel
theorem dX11_out_28 : decode cX11_out 28 = .ok (.bipush 7, 2) := by decide +kernel
theorem dX11_out_30 : decode cX11_out 30 = .ok (.istore 4, 2) := by decide +kernel
theorem dX11_out_32 : decode cX11_out 32 = .ok (.iload 4, 2) := by decide +kernel
theorem dX11_out_34 : decode cX11_out 34 = .ok (.ifCond .lt 27, 3) := by decide +kernel
theorem dX11_out_37 : decode cX11_out 37 = .ok (.lload_n 2, 1) := by decide +kernel
theorem dX11_out_38 : decode cX11_out 38 = .ok (.bipush 8, 2) := by decide +kernel
theorem dX11_out_40 : decode cX11_out 40 = .ok (.lshl, 1) := by decide +kernel
theorem dX11_out_41 : decode cX11_out 41 = .ok (.aload_n 0, 1) := by decide +kernel
theorem dX11_out_42 : decode cX11_out 42 = .ok (.getfield 16, 3) := by decide +kernel
theorem dX11_out_45 : decode cX11_out 45 = .ok (.iload_n 1, 1) := by decide +kernel
theorem dX11_out_46 : decode cX11_out 46 = .ok (.iload 4, 2) := by decide +kernel
theorem dX11_out_48 : decode cX11_out 48 = .ok (.iadd, 1) := by decide +kernel
theorem dX11_out_49 : decode cX11_out 49 = .ok (.invokevirtual 281, 3) := by decide +kernel
theorem dX11_out_52 : decode cX11_out 52 = .ok (.i2l, 1) := by decide +kernel
theorem dX11_out_53 : decode cX11_out 53 = .ok (.lor, 1) := by decide +kernel
theorem dX11_out_54 : decode cX11_out 54 = .ok (.lstore_n 2, 1) := by decide +kernel
theorem dX11_out_55 : decode cX11_out 55 = .ok (.iinc 4 (-1), 3) := by decide +kernel
theorem dX11_out_58 : decode cX11_out 58 = .ok (.goto (-26), 3) := by decide +kernel
theorem dX11_out_61 : decode cX11_out 61 = .ok (.lload_n 2, 1) := by decide +kernel
theorem dX11_out_62 : decode cX11_out 62 = .ok (.lreturn, 1) := by decide +kernel
theorem dX11_look_0 : decode cX11_look 0 = .ok (.iload_n 1, 1) := by decide +kernel
theorem dX11_look_1 : decode cX11_look 1 = .ok (.ifCond .lt 9, 3) := by decide +kernel
theorem dX11_look_4 : decode cX11_look 4 = .ok (.iload_n 1, 1) := by decide +kernel
theorem dX11_look_5 : decode cX11_look 5 = .ok (.bipush 14, 2) := by decide +kernel
theorem dX11_look_7 : decode cX11_look 7 = .ok (.if_icmp .le 14, 3) := by decide +kernel
theorem dX11_look_10 : decode cX11_look 10 = .ok (.new 78, 3) := by decide +kernel
theorem dX11_look_13 : decode cX11_look 13 = .ok (.dup, 1) := by decide +kernel
theorem dX11_look_14 : decode cX11_look 14 = .ok (.ldc_w 284, 3) := by decide +kernel
theorem dX11_look_17 : decode cX11_look 17 = .ok (.invokespecial 82, 3) := by decide +kernel
theorem dX11_look_20 : decode cX11_look 20 = .ok (.athrow, 1) := by decide +kernel
theorem dX11_look_21 : decode cX11_look 21 = .ok (.iload_n 1, 1) := by decide +kernel
theorem dX11_look_22 : decode cX11_look 22 = .ok (.tableswitch 92 7 14 #[46, 54, 62, 67, 72, 77, 82, 87], 46) := by decide +kernel
theorem dX11_look_68 : decode cX11_look 68 = .ok (.aload_n 0, 1) := by decide +kernel
theorem dX11_look_69 : decode cX11_look 69 = .ok (.getfield 10, 3) := by decide +kernel
theorem dX11_look_72 : decode cX11_look 72 = .ok (.getfield 85, 3) := by decide +kernel
theorem dX11_look_75 : decode cX11_look 75 = .ok (.ireturn, 1) := by decide +kernel
theorem dX11_look_76 : decode cX11_look 76 = .ok (.aload_n 0, 1) := by decide +kernel
theorem dX11_look_77 : decode cX11_look 77 = .ok (.getfield 16, 3) := by decide +kernel
theorem dX11_look_80 : decode cX11_look 80 = .ok (.getfield 85, 3) := by decide +kernel
theorem dX11_look_83 : decode cX11_look 83 = .ok (.ireturn, 1) := by decide +kernel
theorem dX11_look_84 : decode cX11_look 84 = .ok (.aload_n 0, 1) := by decide +kernel
theorem dX11_look_85 : decode cX11_look 85 = .ok (.getfield 105, 3) := by decide +kernel
theorem dX11_look_88 : decode cX11_look 88 = .ok (.ireturn, 1) := by decide +kernel
theorem dX11_look_89 : decode cX11_look 89 = .ok (.aload_n 0, 1) := by decide +kernel
theorem dX11_look_90 : decode cX11_look 90 = .ok (.getfield 173, 3) := by decide +kernel
theorem dX11_look_93 : decode cX11_look 93 = .ok (.ireturn, 1) := by decide +kernel
theorem dX11_look_94 : decode cX11_look 94 = .ok (.aload_n 0, 1) := by decide +kernel
theorem dX11_look_95 : decode cX11_look 95 = .ok (.getfield 179, 3) := by decide +kernel
theorem dX11_look_98 : decode cX11_look 98 = .ok (.ireturn, 1) := by decide +kernel
theorem dX11_look_99 : decode cX11_look 99 = .ok (.aload_n 0, 1) := by decide +kernel
theorem dX11_look_100 : decode cX11_look 100 = .ok (.getfield 185, 3) := by decide +kernel
theorem dX11_look_103 : decode cX11_look 103 = .ok (.ireturn, 1) := by decide +kernel
theorem dX11_look_104 : decode cX11_look 104 = .ok (.aload_n 0, 1) := by decide +kernel
theorem dX11_look_105 : decode cX11_look 105 = .ok (.getfield 191, 3) := by decide +kernel
theorem dX11_look_108 : decode cX11_look 108 = .ok (.ireturn, 1) := by decide +kernel
theorem dX11_look_109 : decode cX11_look 109 = .ok (.aload_n 0, 1) := by decide +kernel
theorem dX11_look_110 : decode cX11_look 110 = .ok (.getfield 254, 3) := by decide +kernel
theorem dX11_look_113 : decode cX11_look 113 = .ok (.ireturn, 1) := by decide +kernel
theorem dX11_look_114 : decode cX11_look 114 = .ok (.aload_n 0, 1) := by decide +kernel
theorem dX11_look_115 : decode cX11_look 115 = .ok (.getfield 71, 3) := by decide +kernel
theorem dX11_look_118 : decode cX11_look 118 = .ok (.getfield 119, 3) := by decide +kernel
theorem dX11_look_121 : decode cX11_look 121 = .ok (.ifCond .ne 7, 3) := by decide +kernel
theorem dX11_look_124 : decode cX11_look 124 = .ok (.iconst 0, 1) := by decide +kernel
theorem dX11_look_125 : decode cX11_look 125 = .ok (.goto 8, 3) := by decide +kernel
theorem dX11_look_128 : decode cX11_look 128 = .ok (.aload_n 0, 1) := by decide +kernel
theorem dX11_look_129 : decode cX11_look 129 = .ok (.iload_n 1, 1) := by decide +kernel
theorem dX11_look_130 : decode cX11_look 130 = .ok (.invokevirtual 286, 3) := by decide +kernel
theorem dX11_look_133 : decode cX11_look 133 = .ok (.ireturn, 1) := by decide +kernel
theorem dX12_thrown_0 : decode cX12_thrown 0 = .ok (.aload_n 0, 1) := by decide +kernel
theorem dX12_thrown_1 : decode cX12_thrown 1 = .ok (.getfield 205, 3) := by decide +kernel
theorem dX12_thrown_4 : decode cX12_thrown 4 = .ok (.ireturn, 1) := by decide +kernel
set_option maxRecDepth 100000 in
theorem ggX12_feed_X12_within : GoodIn wsX12_feed wsX12_within := goodIn_r _ [8] (by decide +kernel) (by decide +kernel)
set_option maxRecDepth 100000 in
theorem gX12_feed_X12_within : GoodIn wsX12_feed (va_wsS RX12 211 yX12_within wsX12_within) := goodIn_app (goodIn_of _ (by decide +kernel)) ggX12_feed_X12_within
theorem dX12_feed_0 : decode cX12_feed 0 = .ok (.aload_n 0, 1) := by decide +kernel
theorem dX12_feed_1 : decode cX12_feed 1 = .ok (.iload_n 1, 1) := by decide +kernel
theorem dX12_feed_2 : decode cX12_feed 2 = .ok (.iconst 1, 1) := by decide +kernel
theorem dX12_feed_3 : decode cX12_feed 3 = .ok (.bipush 8, 2) := by decide +kernel
theorem dX12_feed_5 : decode cX12_feed 5 = .ok (.invokestatic 211, 3) := by decide +kernel
theorem dX12_feed_8 : decode cX12_feed 8 = .ok (.ifCond .ne 7, 3) := by decide +kernel
theorem dX12_feed_11 : decode cX12_feed 11 = .ok (.iconst 1, 1) := by decide +kernel
theorem dX12_feed_12 : decode cX12_feed 12 = .ok (.goto 20, 3) := by decide +kernel
theorem dX12_feed_15 : decode cX12_feed 15 = .ok (.aload_n 0, 1) := by decide +kernel
theorem dX12_feed_16 : decode cX12_feed 16 = .ok (.getfield 215, 3) := by decide +kernel
theorem dX12_feed_19 : decode cX12_feed 19 = .ok (.iload_n 1, 1) := by decide +kernel
theorem dX12_feed_20 : decode cX12_feed 20 = .ok (.iadd, 1) := by decide +kernel
theorem dX12_feed_21 : decode cX12_feed 21 = .ok (.sipush 8192, 3) := by decide +kernel
theorem dX12_feed_24 : decode cX12_feed 24 = .ok (.if_icmp .le 7, 3) := by decide +kernel
theorem dX12_feed_27 : decode cX12_feed 27 = .ok (.iconst 2, 1) := by decide +kernel
theorem dX12_feed_28 : decode cX12_feed 28 = .ok (.goto 4, 3) := by decide +kernel
theorem dX12_feed_31 : decode cX12_feed 31 = .ok (.iconst 0, 1) := by decide +kernel
theorem dX12_feed_32 : decode cX12_feed 32 = .ok (.putfield 205, 3) := by decide +kernel
theorem dX12_feed_35 : decode cX12_feed 35 = .ok (.aload_n 0, 1) := by decide +kernel
theorem dX12_feed_36 : decode cX12_feed 36 = .ok (.getfield 205, 3) := by decide +kernel
theorem dX12_feed_39 : decode cX12_feed 39 = .ok (.ifCond .le 5, 3) := by decide +kernel
theorem dX12_feed_42 : decode cX12_feed 42 = .ok (.iconst 0, 1) := by decide +kernel
theorem dX12_feed_43 : decode cX12_feed 43 = .ok (.ireturn, 1) := by decide +kernel
theorem dX12_feed_44 : decode cX12_feed 44 = .ok (.iconst 0, 1) := by decide +kernel
theorem dX12_feed_45 : decode cX12_feed 45 = .ok (.istore 4, 2) := by decide +kernel
theorem dX12_feed_47 : decode cX12_feed 47 = .ok (.iload 4, 2) := by decide +kernel
theorem dX12_feed_49 : decode cX12_feed 49 = .ok (.iload_n 1, 1) := by decide +kernel
theorem dX12_feed_50 : decode cX12_feed 50 = .ok (.if_icmp .ge 40, 3) := by decide +kernel
theorem dX12_feed_53 : decode cX12_feed 53 = .ok (.aload_n 0, 1) := by decide +kernel
theorem dX12_feed_54 : decode cX12_feed 54 = .ok (.getfield 7, 3) := by decide +kernel
theorem dX12_feed_57 : decode cX12_feed 57 = .ok (.aload_n 0, 1) := by decide +kernel
theorem dX12_feed_58 : decode cX12_feed 58 = .ok (.getfield 215, 3) := by decide +kernel
theorem dX12_feed_61 : decode cX12_feed 61 = .ok (.lload_n 2, 1) := by decide +kernel
theorem dX12_feed_62 : decode cX12_feed 62 = .ok (.bipush 8, 2) := by decide +kernel
theorem dX12_feed_64 : decode cX12_feed 64 = .ok (.iload 4, 2) := by decide +kernel
theorem dX12_feed_66 : decode cX12_feed 66 = .ok (.imul, 1) := by decide +kernel
theorem dX12_feed_67 : decode cX12_feed 67 = .ok (.lshr, 1) := by decide +kernel
theorem dX12_feed_68 : decode cX12_feed 68 = .ok (.ldc2_w 218, 3) := by decide +kernel
theorem dX12_feed_71 : decode cX12_feed 71 = .ok (.land, 1) := by decide +kernel
theorem dX12_feed_72 : decode cX12_feed 72 = .ok (.l2i, 1) := by decide +kernel
theorem dX12_feed_73 : decode cX12_feed 73 = .ok (.iastore, 1) := by decide +kernel
theorem dX12_feed_74 : decode cX12_feed 74 = .ok (.aload_n 0, 1) := by decide +kernel
theorem dX12_feed_75 : decode cX12_feed 75 = .ok (.dup, 1) := by decide +kernel
theorem dX12_feed_76 : decode cX12_feed 76 = .ok (.getfield 215, 3) := by decide +kernel
theorem dX12_feed_79 : decode cX12_feed 79 = .ok (.iconst 1, 1) := by decide +kernel
theorem dX12_feed_80 : decode cX12_feed 80 = .ok (.iadd, 1) := by decide +kernel
theorem dX12_feed_81 : decode cX12_feed 81 = .ok (.putfield 215, 3) := by decide +kernel
theorem dX12_feed_84 : decode cX12_feed 84 = .ok (.iinc 4 1, 3) := by decide +kernel
theorem dX12_feed_87 : decode cX12_feed 87 = .ok (.goto (-40), 3) := by decide +kernel
theorem dX12_feed_90 : decode cX12_feed 90 = .ok (.aload_n 0, 1) := by decide +kernel
theorem dX12_feed_91 : decode cX12_feed 91 = .ok (.getfield 215, 3) := by decide +kernel
theorem dX12_feed_94 : decode cX12_feed 94 = .ok (.ireturn, 1) := by decide +kernel
theorem dX12_wipe_0 : decode cX12_wipe 0 = .ok (.aload_n 0, 1) := by decide +kernel
theorem dX12_wipe_1 : decode cX12_wipe 1 = .ok (.iconst 0, 1) := by decide +kernel
theorem dX12_wipe_2 : decode cX12_wipe 2 = .ok (.putfield 205, 3) := by decide +kernel
theorem dX12_wipe_5 : decode cX12_wipe 5 = .ok (.aload_n 0, 1) := by decide +kernel
theorem dX12_wipe_6 : decode cX12_wipe 6 = .ok (.getfield 215, 3) := by decide +kernel
theorem dX12_wipe_9 : decode cX12_wipe 9 = .ok (.istore_n 1, 1) := by decide +kernel
theorem dX12_wipe_10 : decode cX12_wipe 10 = .ok (.aload_n 0, 1) := by decide +kernel
theorem dX12_wipe_11 : decode cX12_wipe 11 = .ok (.iconst 0, 1) := by decide +kernel
theorem dX12_wipe_12 : decode cX12_wipe 12 = .ok (.putfield 215, 3) := by decide +kernel
theorem dX12_wipe_15 : decode cX12_wipe 15 = .ok (.iload_n 1, 1) := by decide +kernel
theorem dX12_wipe_16 : decode cX12_wipe 16 = .ok (.ireturn, 1) := by decide +kernel
theorem dX12_again_0 : decode cX12_again 0 = .ok (.aload_n 0, 1) := by decide +kernel
theorem dX12_again_1 : decode cX12_again 1 = .ok (.iconst 0, 1) := by decide +kernel
theorem dX12_again_2 : decode cX12_again 2 = .ok (.putfield 205, 3) := by decide +kernel
theorem dX12_again_5 : decode cX12_again 5 = .ok (.iconst 0, 1) := by decide +kernel
theorem dX12_again_6 : decode cX12_again 6 = .ok (.istore_n 1, 1) := by decide +kernel
theorem dX12_again_7 : decode cX12_again 7 = .ok (.iload_n 1, 1) := by decide +kernel
theorem dX12_again_8 : decode cX12_again 8 = .ok (.aload_n 0, 1) := by decide +kernel
theorem dX12_again_9 : decode cX12_again 9 = .ok (.getfield 220, 3) := by decide +kernel
theorem dX12_again_12 : decode cX12_again 12 = .ok (.if_icmp .ge 21, 3) := by decide +kernel
theorem dX12_again_15 : decode cX12_again 15 = .ok (.aload_n 0, 1) := by decide +kernel
theorem dX12_again_16 : decode cX12_again 16 = .ok (.getfield 7, 3) := by decide +kernel
theorem dX12_again_19 : decode cX12_again 19 = .ok (.iload_n 1, 1) := by decide +kernel
theorem dX12_again_20 : decode cX12_again 20 = .ok (.aload_n 0, 1) := by decide +kernel
theorem dX12_again_21 : decode cX12_again 21 = .ok (.getfield 13, 3) := by decide +kernel
theorem dX12_again_24 : decode cX12_again 24 = .ok (.iload_n 1, 1) := by decide +kernel
theorem dX12_again_25 : decode cX12_again 25 = .ok (.iaload, 1) := by decide +kernel
theorem dX12_again_26 : decode cX12_again 26 = .ok (.iastore, 1) := by decide +kernel
theorem dX12_again_27 : decode cX12_again 27 = .ok (.iinc 1 1, 3) := by decide +kernel
theorem dX12_again_30 : decode cX12_again 30 = .ok (.goto (-23), 3) := by decide +kernel
theorem dX12_again_33 : decode cX12_again 33 = .ok (.aload_n 0, 1) := by decide +kernel
theorem dX12_again_34 : decode cX12_again 34 = .ok (.aload_n 0, 1) := by decide +kernel
theorem dX12_again_35 : decode cX12_again 35 = .ok (.getfield 220, 3) := by decide +kernel
theorem dX12_again_38 : decode cX12_again 38 = .ok (.putfield 215, 3) := by decide +kernel
theorem dX12_again_41 : decode cX12_again 41 = .ok (.aload_n 0, 1) := by decide +kernel
theorem dX12_again_42 : decode cX12_again 42 = .ok (.getfield 220, 3) := by decide +kernel
theorem dX12_again_45 : decode cX12_again 45 = .ok (.ireturn, 1) := by decide +kernel
set_option maxRecDepth 100000 in
theorem ggX12_out_X12_within : GoodIn wsX12_out wsX12_within := goodIn_r _ [7] (by decide +kernel) (by decide +kernel)
set_option maxRecDepth 100000 in
theorem gX12_out_X12_within : GoodIn wsX12_out (va_wsS RX12 211 yX12_within wsX12_within) := goodIn_app (goodIn_of _ (by decide +kernel)) ggX12_out_X12_within
theorem dX12_out_0 : decode cX12_out 0 = .ok (.aload_n 0, 1) := by decide +kernel
theorem dX12_out_1 : decode cX12_out 1 = .ok (.iload_n 1, 1) := by decide +kernel
theorem dX12_out_2 : decode cX12_out 2 = .ok (.iconst 0, 1) := by decide +kernel
theorem dX12_out_3 : decode cX12_out 3 = .ok (.aload_n 0, 1) := by decide +kernel
theorem dX12_out_4 : decode cX12_out 4 = .ok (.getfield 220, 3) := by decide +kernel
theorem dX12_out_7 : decode cX12_out 7 = .ok (.iconst 1, 1) := by decide +kernel
theorem dX12_out_8 : decode cX12_out 8 = .ok (.isub, 1) := by decide +kernel
theorem dX12_out_9 : decode cX12_out 9 = .ok (.invokestatic 211, 3) := by decide +kernel
theorem dX12_out_12 : decode cX12_out 12 = .ok (.ifCond .eq 7, 3) := by decide +kernel
theorem dX12_out_15 : decode cX12_out 15 = .ok (.iconst 0, 1) := by decide +kernel
theorem dX12_out_16 : decode cX12_out 16 = .ok (.goto 4, 3) := by decide +kernel
theorem dX12_out_19 : decode cX12_out 19 = .ok (.iconst 1, 1) := by decide +kernel
theorem dX12_out_20 : decode cX12_out 20 = .ok (.putfield 205, 3) := by decide +kernel
theorem dX12_out_23 : decode cX12_out 23 = .ok (.lconst 0, 1) := by decide +kernel
theorem dX12_out_24 : decode cX12_out 24 = .ok (.lstore_n 2, 1) := by decide +kernel
theorem dX12_out_25 : decode cX12_out 25 = .ok (.bipush 7, 2) := by decide +kernel
theorem dX12_out_27 : decode cX12_out 27 = .ok (.istore 4, 2) := by decide +kernel
theorem dX12_out_29 : decode cX12_out 29 = .ok (.iload 4, 2) := by decide +kernel
theorem dX12_out_31 : decode cX12_out 31 = .ok (.ifCond .lt 47, 3) := by decide +kernel
theorem dX12_out_34 : decode cX12_out 34 = .ok (.aload_n 0, 1) := by decide +kernel
theorem dX12_out_35 : decode cX12_out 35 = .ok (.getfield 205, 3) := by decide +kernel
theorem dX12_out_38 : decode cX12_out 38 = .ok (.ifCond .ne 40, 3) := by decide +kernel
theorem dX12_out_41 : decode cX12_out 41 = .ok (.lload_n 2, 1) := by decide +kernel
theorem dX12_out_42 : decode cX12_out 42 = .ok (.bipush 8, 2) := by decide +kernel
theorem dX12_out_44 : decode cX12_out 44 = .ok (.lshl, 1) := by decide +kernel
theorem dX12_out_45 : decode cX12_out 45 = .ok (.iload_n 1, 1) := by decide +kernel
theorem dX12_out_46 : decode cX12_out 46 = .ok (.iload 4, 2) := by decide +kernel
theorem dX12_out_48 : decode cX12_out 48 = .ok (.iadd, 1) := by decide +kernel
theorem dX12_out_49 : decode cX12_out 49 = .ok (.aload_n 0, 1) := by decide +kernel
theorem dX12_out_50 : decode cX12_out 50 = .ok (.getfield 220, 3) := by decide +kernel
theorem dX12_out_53 : decode cX12_out 53 = .ok (.if_icmp .ge 15, 3) := by decide +kernel
theorem dX12_out_56 : decode cX12_out 56 = .ok (.aload_n 0, 1) := by decide +kernel
theorem dX12_out_57 : decode cX12_out 57 = .ok (.getfield 13, 3) := by decide +kernel
theorem dX12_out_60 : decode cX12_out 60 = .ok (.iload_n 1, 1) := by decide +kernel
theorem dX12_out_61 : decode cX12_out 61 = .ok (.iload 4, 2) := by decide +kernel
theorem dX12_out_63 : decode cX12_out 63 = .ok (.iadd, 1) := by decide +kernel
theorem dX12_out_64 : decode cX12_out 64 = .ok (.iaload, 1) := by decide +kernel
theorem dX12_out_65 : decode cX12_out 65 = .ok (.goto 4, 3) := by decide +kernel
theorem dX12_out_68 : decode cX12_out 68 = .ok (.iconst 0, 1) := by decide +kernel
theorem dX12_out_69 : decode cX12_out 69 = .ok (.i2l, 1) := by decide +kernel
theorem dX12_out_70 : decode cX12_out 70 = .ok (.lor, 1) := by decide +kernel
theorem dX12_out_71 : decode cX12_out 71 = .ok (.lstore_n 2, 1) := by decide +kernel
theorem dX12_out_72 : decode cX12_out 72 = .ok (.iinc 4 (-1), 3) := by decide +kernel
theorem dX12_out_75 : decode cX12_out 75 = .ok (.goto (-46), 3) := by decide +kernel
theorem dX12_out_78 : decode cX12_out 78 = .ok (.lload_n 2, 1) := by decide +kernel
theorem dX12_out_79 : decode cX12_out 79 = .ok (.lreturn, 1) := by decide +kernel
theorem dX12_bit_0 : decode cX12_bit 0 = .ok (.aload_n 0, 1) := by decide +kernel
theorem dX12_bit_1 : decode cX12_bit 1 = .ok (.getfield 330, 3) := by decide +kernel
theorem dX12_bit_4 : decode cX12_bit 4 = .ok (.ifCond .le 5, 3) := by decide +kernel
theorem dX12_bit_7 : decode cX12_bit 7 = .ok (.iconst 0, 1) := by decide +kernel
theorem dX12_bit_8 : decode cX12_bit 8 = .ok (.ireturn, 1) := by decide +kernel
theorem dX12_bit_9 : decode cX12_bit 9 = .ok (.aload_n 0, 1) := by decide +kernel
theorem dX12_bit_10 : decode cX12_bit 10 = .ok (.getfield 333, 3) := by decide +kernel
theorem dX12_bit_13 : decode cX12_bit 13 = .ok (.aload_n 0, 1) := by decide +kernel
theorem dX12_bit_14 : decode cX12_bit 14 = .ok (.getfield 336, 3) := by decide +kernel
theorem dX12_bit_17 : decode cX12_bit 17 = .ok (.if_icmp .lt 10, 3) := by decide +kernel
theorem dX12_bit_20 : decode cX12_bit 20 = .ok (.aload_n 0, 1) := by decide +kernel
theorem dX12_bit_21 : decode cX12_bit 21 = .ok (.iconst 1, 1) := by decide +kernel
theorem dX12_bit_22 : decode cX12_bit 22 = .ok (.putfield 330, 3) := by decide +kernel
theorem dX12_bit_25 : decode cX12_bit 25 = .ok (.iconst 0, 1) := by decide +kernel
theorem dX12_bit_26 : decode cX12_bit 26 = .ok (.ireturn, 1) := by decide +kernel
theorem dX12_bit_27 : decode cX12_bit 27 = .ok (.aload_n 0, 1) := by decide +kernel
theorem dX12_bit_28 : decode cX12_bit 28 = .ok (.dup, 1) := by decide +kernel
theorem dX12_bit_29 : decode cX12_bit 29 = .ok (.getfield 333, 3) := by decide +kernel
theorem dX12_bit_32 : decode cX12_bit 32 = .ok (.iconst 1, 1) := by decide +kernel
theorem dX12_bit_33 : decode cX12_bit 33 = .ok (.iadd, 1) := by decide +kernel
theorem dX12_bit_34 : decode cX12_bit 34 = .ok (.putfield 333, 3) := by decide +kernel
theorem dX12_bit_37 : decode cX12_bit 37 = .ok (.aload_n 0, 1) := by decide +kernel
theorem dX12_bit_38 : decode cX12_bit 38 = .ok (.aload_n 0, 1) := by decide +kernel
theorem dX12_bit_39 : decode cX12_bit 39 = .ok (.getfield 333, 3) := by decide +kernel
theorem dX12_bit_42 : decode cX12_bit 42 = .ok (.iconst 1, 1) := by decide +kernel
theorem dX12_bit_43 : decode cX12_bit 43 = .ok (.isub, 1) := by decide +kernel
theorem dX12_bit_44 : decode cX12_bit 44 = .ok (.invokevirtual 283, 3) := by decide +kernel
theorem dX12_bit_47 : decode cX12_bit 47 = .ok (.ireturn, 1) := by decide +kernel
set_option maxRecDepth 100000 in
theorem ggX12_natural_X12_bit : GoodIn wsX12_natural wsX12_bit := goodIn_r _ [6, 1, 7, 8, 9, 10, 11, 5, 12, 13, 18, 19, 20, 21, 22, 23, 24, 25, 26, 27, 28, 29, 30, 31, 32, 33, 34, 35, 36, 37, 38, 39, 40, 41, 42, 43, 44, 45, 46, 47, 48, 49, 50, 51, 52, 53, 54, 55, 56, 57, 58, 59, 60, 61, 62, 63, 64, 65, 66, 67, 68, 69, 70, 71, 72, 73, 74, 75, 76, 77, 78, 79, 80, 81, 82, 83, 84, 85, 86, 87, 88, 89, 90, 91, 92, 93, 94, 95, 96, 97, 98, 99, 100, 101, 102, 103, 104, 105, 106, 107, 108, 109, 110, 111] rfl rfl
set_option maxRecDepth 100000 in
theorem gX12_natural_X12_bit : GoodIn wsX12_natural (wsV RX12 339 RX12 yX12_bit wsX12_bit) := goodIn_app (goodIn_of _ (by decide +kernel)) ggX12_natural_X12_bit
theorem dX12_natural_0 : decode cX12_natural 0 = .ok (.iconst 0, 1) := by decide +kernel
theorem dX12_natural_1 : decode cX12_natural 1 = .ok (.istore_n 1, 1) := by decide +kernel
theorem dX12_natural_2 : decode cX12_natural 2 = .ok (.aload_n 0, 1) := by decide +kernel
theorem dX12_natural_3 : decode cX12_natural 3 = .ok (.invokevirtual 339, 3) := by decide +kernel
theorem dX12_natural_6 : decode cX12_natural 6 = .ok (.iconst 1, 1) := by decide +kernel
theorem dX12_natural_7 : decode cX12_natural 7 = .ok (.if_icmp .ne 9, 3) := by decide +kernel
theorem dX12_natural_10 : decode cX12_natural 10 = .ok (.iinc 1 1, 3) := by decide +kernel
theorem dX12_natural_13 : decode cX12_natural 13 = .ok (.goto (-11), 3) := by decide +kernel
theorem dX12_natural_16 : decode cX12_natural 16 = .ok (.iconst 1, 1) := by decide +kernel
theorem dX12_natural_17 : decode cX12_natural 17 = .ok (.istore_n 2, 1) := by decide +kernel
theorem dX12_natural_18 : decode cX12_natural 18 = .ok (.iload_n 1, 1) := by decide +kernel
theorem dX12_natural_19 : decode cX12_natural 19 = .ok (.ifCond .le 42, 3) := by decide +kernel
theorem dX12_natural_22 : decode cX12_natural 22 = .ok (.aload_n 0, 1) := by decide +kernel
theorem dX12_natural_23 : decode cX12_natural 23 = .ok (.getfield 330, 3) := by decide +kernel
theorem dX12_natural_26 : decode cX12_natural 26 = .ok (.ifCond .ne 35, 3) := by decide +kernel
theorem dX12_natural_29 : decode cX12_natural 29 = .ok (.iload_n 2, 1) := by decide +kernel
theorem dX12_natural_30 : decode cX12_natural 30 = .ok (.bipush 15, 2) := by decide +kernel
theorem dX12_natural_32 : decode cX12_natural 32 = .ok (.if_icmp .le 11, 3) := by decide +kernel
theorem dX12_natural_35 : decode cX12_natural 35 = .ok (.aload_n 0, 1) := by decide +kernel
theorem dX12_natural_36 : decode cX12_natural 36 = .ok (.iconst 4, 1) := by decide +kernel
theorem dX12_natural_37 : decode cX12_natural 37 = .ok (.putfield 330, 3) := by decide +kernel
theorem dX12_natural_40 : decode cX12_natural 40 = .ok (.goto 15, 3) := by decide +kernel
theorem dX12_natural_43 : decode cX12_natural 43 = .ok (.aload_n 0, 1) := by decide +kernel
theorem dX12_natural_44 : decode cX12_natural 44 = .ok (.iload_n 2, 1) := by decide +kernel
theorem dX12_natural_45 : decode cX12_natural 45 = .ok (.invokevirtual 342, 3) := by decide +kernel
theorem dX12_natural_48 : decode cX12_natural 48 = .ok (.istore_n 3, 1) := by decide +kernel
theorem dX12_natural_49 : decode cX12_natural 49 = .ok (.iconst 1, 1) := by decide +kernel
theorem dX12_natural_50 : decode cX12_natural 50 = .ok (.iload_n 2, 1) := by decide +kernel
theorem dX12_natural_51 : decode cX12_natural 51 = .ok (.ishl, 1) := by decide +kernel
theorem dX12_natural_52 : decode cX12_natural 52 = .ok (.iload_n 3, 1) := by decide +kernel
theorem dX12_natural_53 : decode cX12_natural 53 = .ok (.iadd, 1) := by decide +kernel
theorem dX12_natural_54 : decode cX12_natural 54 = .ok (.istore_n 2, 1) := by decide +kernel
theorem dX12_natural_55 : decode cX12_natural 55 = .ok (.iinc 1 (-1), 3) := by decide +kernel
theorem dX12_natural_58 : decode cX12_natural 58 = .ok (.goto (-40), 3) := by decide +kernel
theorem dX12_natural_61 : decode cX12_natural 61 = .ok (.iload_n 2, 1) := by decide +kernel
theorem dX12_natural_62 : decode cX12_natural 62 = .ok (.ireturn, 1) := by decide +kernel
set_option maxRecDepth 100000 in
theorem ggX12_readProgram_X12_natural : GoodIn wsX12_readProgram wsX12_natural := goodIn_r _ [10, 4, 11, 12, 13, 9, 14, 1, 3, 15, 16, 17, 18, 19, 20, 21, 22, 23, 154, 155, 156, 157, 158, 159, 160, 161, 162, 163, 164, 165, 166, 167, 168, 169, 170, 171, 172, 173, 174, 175, 176, 177, 178, 179, 180, 181, 182, 183, 184, 185, 186, 187, 188, 189, 190, 191, 192, 193, 194, 195, 196, 197, 198, 199, 200, 201, 202, 203, 204, 205, 206, 207, 208, 209, 210, 211, 212, 213, 214, 215, 216, 217, 218, 219, 220, 221, 222, 223, 224, 225, 226, 227, 228, 229, 230, 231, 232, 233, 234, 235, 236, 237, 238, 239, 240, 241, 242, 243, 244, 245, 246, 247] rfl rfl
set_option maxRecDepth 100000 in
theorem gX12_readProgram_X12_natural : GoodIn wsX12_readProgram (wsV RX12 345 RX12 yX12_natural wsX12_natural) := goodIn_app (goodIn_of _ (by decide +kernel)) ggX12_readProgram_X12_natural
theorem dX12_readProgram_0 : decode cX12_readProgram 0 = .ok (.aload_n 0, 1) := by decide +kernel
theorem dX12_readProgram_1 : decode cX12_readProgram 1 = .ok (.iconst 0, 1) := by decide +kernel
theorem dX12_readProgram_2 : decode cX12_readProgram 2 = .ok (.putfield 333, 3) := by decide +kernel
theorem dX12_readProgram_5 : decode cX12_readProgram 5 = .ok (.aload_n 0, 1) := by decide +kernel
theorem dX12_readProgram_6 : decode cX12_readProgram 6 = .ok (.bipush 8, 2) := by decide +kernel
theorem dX12_readProgram_8 : decode cX12_readProgram 8 = .ok (.aload_n 0, 1) := by decide +kernel
theorem dX12_readProgram_9 : decode cX12_readProgram 9 = .ok (.getfield 215, 3) := by decide +kernel
theorem dX12_readProgram_12 : decode cX12_readProgram 12 = .ok (.imul, 1) := by decide +kernel
theorem dX12_readProgram_13 : decode cX12_readProgram 13 = .ok (.putfield 336, 3) := by decide +kernel
theorem dX12_readProgram_16 : decode cX12_readProgram 16 = .ok (.aload_n 0, 1) := by decide +kernel
theorem dX12_readProgram_17 : decode cX12_readProgram 17 = .ok (.iconst 0, 1) := by decide +kernel
theorem dX12_readProgram_18 : decode cX12_readProgram 18 = .ok (.putfield 330, 3) := by decide +kernel
theorem dX12_readProgram_21 : decode cX12_readProgram 21 = .ok (.aload_n 0, 1) := by decide +kernel
theorem dX12_readProgram_22 : decode cX12_readProgram 22 = .ok (.aload_n 0, 1) := by decide +kernel
theorem dX12_readProgram_23 : decode cX12_readProgram 23 = .ok (.invokevirtual 345, 3) := by decide +kernel
theorem dX12_readProgram_26 : decode cX12_readProgram 26 = .ok (.putfield 223, 3) := by decide +kernel
theorem dX12_readProgram_29 : decode cX12_readProgram 29 = .ok (.aload_n 0, 1) := by decide +kernel
theorem dX12_readProgram_30 : decode cX12_readProgram 30 = .ok (.getfield 330, 3) := by decide +kernel
theorem dX12_readProgram_33 : decode cX12_readProgram 33 = .ok (.ifCond .ne 18, 3) := by decide +kernel
theorem dX12_readProgram_36 : decode cX12_readProgram 36 = .ok (.aload_n 0, 1) := by decide +kernel
theorem dX12_readProgram_37 : decode cX12_readProgram 37 = .ok (.getfield 223, 3) := by decide +kernel
theorem dX12_readProgram_40 : decode cX12_readProgram 40 = .ok (.sipush 400, 3) := by decide +kernel
theorem dX12_readProgram_43 : decode cX12_readProgram 43 = .ok (.if_icmp .le 8, 3) := by decide +kernel
theorem dX12_readProgram_46 : decode cX12_readProgram 46 = .ok (.aload_n 0, 1) := by decide +kernel
theorem dX12_readProgram_47 : decode cX12_readProgram 47 = .ok (.iconst 4, 1) := by decide +kernel
theorem dX12_readProgram_48 : decode cX12_readProgram 48 = .ok (.putfield 330, 3) := by decide +kernel
theorem dX12_readProgram_51 : decode cX12_readProgram 51 = .ok (.iconst 0, 1) := by decide +kernel
theorem dX12_readProgram_52 : decode cX12_readProgram 52 = .ok (.istore_n 1, 1) := by decide +kernel
theorem dX12_readProgram_53 : decode cX12_readProgram 53 = .ok (.iload_n 1, 1) := by decide +kernel
theorem dX12_readProgram_54 : decode cX12_readProgram 54 = .ok (.aload_n 0, 1) := by decide +kernel
theorem dX12_readProgram_55 : decode cX12_readProgram 55 = .ok (.getfield 223, 3) := by decide +kernel
theorem dX12_readProgram_58 : decode cX12_readProgram 58 = .ok (.if_icmp .ge 21, 3) := by decide +kernel
theorem dX12_readProgram_61 : decode cX12_readProgram 61 = .ok (.aload_n 0, 1) := by decide +kernel
theorem dX12_readProgram_62 : decode cX12_readProgram 62 = .ok (.getfield 330, 3) := by decide +kernel
theorem dX12_readProgram_65 : decode cX12_readProgram 65 = .ok (.ifCond .ne 14, 3) := by decide +kernel
theorem dX12_readProgram_68 : decode cX12_readProgram 68 = .ok (.aload_n 0, 1) := by decide +kernel
theorem dX12_readProgram_69 : decode cX12_readProgram 69 = .ok (.iload_n 1, 1) := by decide +kernel
theorem dX12_readProgram_70 : decode cX12_readProgram 70 = .ok (.invokevirtual 360, 3) := by decide +kernel
theorem dX12_readProgram_73 : decode cX12_readProgram 73 = .ok (.iinc 1 1, 3) := by decide +kernel
theorem dX12_readProgram_76 : decode cX12_readProgram 76 = .ok (.goto (-23), 3) := by decide +kernel
theorem dX12_readProgram_79 : decode cX12_readProgram 79 = .ok (.aload_n 0, 1) := by decide +kernel
theorem dX12_readProgram_80 : decode cX12_readProgram 80 = .ok (.getfield 330, 3) := by decide +kernel
theorem dX12_readProgram_83 : decode cX12_readProgram 83 = .ok (.ifCond .le 8, 3) := by decide +kernel
theorem dX12_readProgram_86 : decode cX12_readProgram 86 = .ok (.aload_n 0, 1) := by decide +kernel
theorem dX12_readProgram_87 : decode cX12_readProgram 87 = .ok (.getfield 330, 3) := by decide +kernel
theorem dX12_readProgram_90 : decode cX12_readProgram 90 = .ok (.ireturn, 1) := by decide +kernel
theorem dX12_readProgram_91 : decode cX12_readProgram 91 = .ok (.aload_n 0, 1) := by decide +kernel
theorem dX12_readProgram_92 : decode cX12_readProgram 92 = .ok (.invokevirtual 363, 3) := by decide +kernel
theorem dX12_readProgram_95 : decode cX12_readProgram 95 = .ok (.ifCond .ne 5, 3) := by decide +kernel
theorem dX12_readProgram_98 : decode cX12_readProgram 98 = .ok (.iconst 5, 1) := by decide +kernel
theorem dX12_readProgram_99 : decode cX12_readProgram 99 = .ok (.ireturn, 1) := by decide +kernel
theorem dX12_readProgram_100 : decode cX12_readProgram 100 = .ok (.aload_n 0, 1) := by decide +kernel
theorem dX12_readProgram_101 : decode cX12_readProgram 101 = .ok (.aload_n 0, 1) := by decide +kernel
theorem dX12_readProgram_102 : decode cX12_readProgram 102 = .ok (.getfield 223, 3) := by decide +kernel
theorem dX12_readProgram_105 : decode cX12_readProgram 105 = .ok (.iconst 1, 1) := by decide +kernel
theorem dX12_readProgram_106 : decode cX12_readProgram 106 = .ok (.isub, 1) := by decide +kernel
theorem dX12_readProgram_107 : decode cX12_readProgram 107 = .ok (.invokevirtual 366, 3) := by decide +kernel
theorem dX12_readProgram_110 : decode cX12_readProgram 110 = .ok (.ifCond .eq 6, 3) := by decide +kernel
theorem dX12_readProgram_113 : decode cX12_readProgram 113 = .ok (.bipush 7, 2) := by decide +kernel
theorem dX12_readProgram_115 : decode cX12_readProgram 115 = .ok (.ireturn, 1) := by decide +kernel
theorem dX12_readProgram_116 : decode cX12_readProgram 116 = .ok (.aload_n 0, 1) := by decide +kernel
theorem dX12_readProgram_117 : decode cX12_readProgram 117 = .ok (.invokevirtual 369, 3) := by decide +kernel
theorem dX12_readProgram_120 : decode cX12_readProgram 120 = .ok (.istore_n 1, 1) := by decide +kernel
theorem dX12_readProgram_121 : decode cX12_readProgram 121 = .ok (.iload_n 1, 1) := by decide +kernel
theorem dX12_readProgram_122 : decode cX12_readProgram 122 = .ok (.ifCond .le 5, 3) := by decide +kernel
theorem dX12_readProgram_125 : decode cX12_readProgram 125 = .ok (.iload_n 1, 1) := by decide +kernel
theorem dX12_readProgram_126 : decode cX12_readProgram 126 = .ok (.ireturn, 1) := by decide +kernel
theorem dX12_readProgram_127 : decode cX12_readProgram 127 = .ok (.aload_n 0, 1) := by decide +kernel
theorem dX12_readProgram_128 : decode cX12_readProgram 128 = .ok (.invokevirtual 372, 3) := by decide +kernel
theorem dX12_readProgram_131 : decode cX12_readProgram 131 = .ok (.ifCond .eq 6, 3) := by decide +kernel
theorem dX12_readProgram_134 : decode cX12_readProgram 134 = .ok (.bipush 6, 2) := by decide +kernel
theorem dX12_readProgram_136 : decode cX12_readProgram 136 = .ok (.ireturn, 1) := by decide +kernel
theorem dX12_readProgram_137 : decode cX12_readProgram 137 = .ok (.aload_n 0, 1) := by decide +kernel
theorem dX12_readProgram_138 : decode cX12_readProgram 138 = .ok (.invokevirtual 375, 3) := by decide +kernel
theorem dX12_readProgram_141 : decode cX12_readProgram 141 = .ok (.ireturn, 1) := by decide +kernel
set_option maxRecDepth 100000 in
theorem ggX12_load_X12_readProgram : GoodIn wsX12_load wsX12_readProgram := goodIn_r _ [8, 9, 3, 10, 11, 12, 13, 14, 15, 7, 16, 17, 18, 19, 20, 21, 22, 23, 24, 25, 26, 27, 28, 29, 30, 31, 32, 33, 34, 35, 36, 37, 38, 39, 40, 41, 42, 43, 44, 45, 46, 47, 48, 49, 50, 51, 52, 53, 54, 55, 56, 57, 58, 59, 60, 61, 62, 63, 64, 65, 66, 67, 68, 69, 70, 71, 72, 73, 74, 75, 76, 77, 78, 79, 80, 81, 82, 83, 84, 85, 86, 87, 88, 89, 90, 91, 92, 93, 94, 95, 96, 97, 98, 99, 100, 101, 102, 103, 104, 105, 106, 107, 108, 109, 110, 111, 112, 113, 114, 115, 116, 117, 118, 119, 120, 121, 122, 123, 124, 125, 126, 127, 128, 129, 130, 131, 132, 133, 134, 135, 136, 137, 138, 139, 140, 141, 142, 143, 144, 145, 146, 147, 148, 149, 150, 151, 152, 153, 154, 155, 156, 157, 158, 159, 231, 232, 233, 234, 235, 236, 237, 238, 239, 240, 241, 242, 243, 244, 245, 246, 247, 248, 249, 250, 251, 252, 253, 254, 255, 256, 257, 258, 259, 260, 261, 262, 263, 264, 265, 266, 267, 268, 269, 270, 271, 272, 273, 274, 275, 276, 277, 278, 279, 280, 281, 282, 283, 284, 285, 286, 287, 288, 289, 290, 291, 292, 293, 294, 295, 296, 297, 298, 299, 300, 301, 302, 303, 304, 305, 306, 307, 308, 309, 310, 311, 312, 313, 314, 315, 316, 317, 318, 319, 320, 321, 322, 323, 324] rfl rfl
set_option maxRecDepth 100000 in
theorem gX12_load_X12_readProgram : GoodIn wsX12_load (wsV RX12 410 RX12 yX12_readProgram wsX12_readProgram) := goodIn_app (goodIn_of _ (by decide +kernel)) ggX12_load_X12_readProgram
theorem dX12_load_0 : decode cX12_load 0 = .ok (.aload_n 0, 1) := by decide +kernel
theorem dX12_load_1 : decode cX12_load 1 = .ok (.iconst 0, 1) := by decide +kernel
theorem dX12_load_2 : decode cX12_load 2 = .ok (.putfield 205, 3) := by decide +kernel
theorem dX12_load_5 : decode cX12_load 5 = .ok (.aload_n 0, 1) := by decide +kernel
theorem dX12_load_6 : decode cX12_load 6 = .ok (.aload_n 0, 1) := by decide +kernel
theorem dX12_load_7 : decode cX12_load 7 = .ok (.invokevirtual 410, 3) := by decide +kernel
theorem dX12_load_10 : decode cX12_load 10 = .ok (.putfield 413, 3) := by decide +kernel
theorem dX12_load_13 : decode cX12_load 13 = .ok (.aload_n 0, 1) := by decide +kernel
theorem dX12_load_14 : decode cX12_load 14 = .ok (.getfield 413, 3) := by decide +kernel
theorem dX12_load_17 : decode cX12_load 17 = .ok (.ifCond .ne 7, 3) := by decide +kernel
theorem dX12_load_20 : decode cX12_load 20 = .ok (.aload_n 0, 1) := by decide +kernel
theorem dX12_load_21 : decode cX12_load 21 = .ok (.invokevirtual 416, 3) := by decide +kernel
theorem dX12_load_24 : decode cX12_load 24 = .ok (.aload_n 0, 1) := by decide +kernel
theorem dX12_load_25 : decode cX12_load 25 = .ok (.iconst 0, 1) := by decide +kernel
theorem dX12_load_26 : decode cX12_load 26 = .ok (.putfield 215, 3) := by decide +kernel
theorem dX12_load_29 : decode cX12_load 29 = .ok (.aload_n 0, 1) := by decide +kernel
theorem dX12_load_30 : decode cX12_load 30 = .ok (.getfield 413, 3) := by decide +kernel
theorem dX12_load_33 : decode cX12_load 33 = .ok (.ireturn, 1) := by decide +kernel
theorem dX12_write_0 : decode cX12_write 0 = .ok (.aload_n 0, 1) := by decide +kernel
theorem dX12_write_1 : decode cX12_write 1 = .ok (.aload_n 0, 1) := by decide +kernel
theorem dX12_write_2 : decode cX12_write 2 = .ok (.getfield 378, 3) := by decide +kernel
theorem dX12_write_5 : decode cX12_write 5 = .ok (.ifCond .le 7, 3) := by decide +kernel
theorem dX12_write_8 : decode cX12_write 8 = .ok (.iconst 0, 1) := by decide +kernel
theorem dX12_write_9 : decode cX12_write 9 = .ok (.goto 4, 3) := by decide +kernel
theorem dX12_write_12 : decode cX12_write 12 = .ok (.iconst 1, 1) := by decide +kernel
theorem dX12_write_13 : decode cX12_write 13 = .ok (.putfield 205, 3) := by decide +kernel
theorem dX12_write_16 : decode cX12_write 16 = .ok (.aload_n 0, 1) := by decide +kernel
theorem dX12_write_17 : decode cX12_write 17 = .ok (.getfield 205, 3) := by decide +kernel
theorem dX12_write_20 : decode cX12_write 20 = .ok (.ifCond .le 5, 3) := by decide +kernel
theorem dX12_write_23 : decode cX12_write 23 = .ok (.iconst 0, 1) := by decide +kernel
theorem dX12_write_24 : decode cX12_write 24 = .ok (.ireturn, 1) := by decide +kernel
theorem dX12_write_25 : decode cX12_write 25 = .ok (.iconst 0, 1) := by decide +kernel
theorem dX12_write_26 : decode cX12_write 26 = .ok (.istore_n 1, 1) := by decide +kernel
theorem dX12_write_27 : decode cX12_write 27 = .ok (.iload_n 1, 1) := by decide +kernel
theorem dX12_write_28 : decode cX12_write 28 = .ok (.aload_n 0, 1) := by decide +kernel
theorem dX12_write_29 : decode cX12_write 29 = .ok (.getfield 381, 3) := by decide +kernel
theorem dX12_write_32 : decode cX12_write 32 = .ok (.if_icmp .ge 21, 3) := by decide +kernel
theorem dX12_write_35 : decode cX12_write 35 = .ok (.aload_n 0, 1) := by decide +kernel
theorem dX12_write_36 : decode cX12_write 36 = .ok (.getfield 13, 3) := by decide +kernel
theorem dX12_write_39 : decode cX12_write 39 = .ok (.iload_n 1, 1) := by decide +kernel
theorem dX12_write_40 : decode cX12_write 40 = .ok (.aload_n 0, 1) := by decide +kernel
theorem dX12_write_41 : decode cX12_write 41 = .ok (.getfield 88, 3) := by decide +kernel
theorem dX12_write_44 : decode cX12_write 44 = .ok (.iload_n 1, 1) := by decide +kernel
theorem dX12_write_45 : decode cX12_write 45 = .ok (.iaload, 1) := by decide +kernel
theorem dX12_write_46 : decode cX12_write 46 = .ok (.iastore, 1) := by decide +kernel
theorem dX12_write_47 : decode cX12_write 47 = .ok (.iinc 1 1, 3) := by decide +kernel
theorem dX12_write_50 : decode cX12_write 50 = .ok (.goto (-23), 3) := by decide +kernel
theorem dX12_write_53 : decode cX12_write 53 = .ok (.aload_n 0, 1) := by decide +kernel
theorem dX12_write_54 : decode cX12_write 54 = .ok (.aload_n 0, 1) := by decide +kernel
theorem dX12_write_55 : decode cX12_write 55 = .ok (.getfield 381, 3) := by decide +kernel
theorem dX12_write_58 : decode cX12_write 58 = .ok (.putfield 220, 3) := by decide +kernel
theorem dX12_write_61 : decode cX12_write 61 = .ok (.aload_n 0, 1) := by decide +kernel
theorem dX12_write_62 : decode cX12_write 62 = .ok (.getfield 220, 3) := by decide +kernel
theorem dX12_write_65 : decode cX12_write 65 = .ok (.ireturn, 1) := by decide +kernel
theorem dX12_run_0 : decode cX12_run 0 = .ok (.aload_n 0, 1) := by decide +kernel
theorem dX12_run_1 : decode cX12_run 1 = .ok (.iload_n 1, 1) := by decide +kernel
theorem dX12_run_2 : decode cX12_run 2 = .ok (.iconst 1, 1) := by decide +kernel
theorem dX12_run_3 : decode cX12_run 3 = .ok (.if_icmp .lt 8, 3) := by decide +kernel
theorem dX12_run_6 : decode cX12_run 6 = .ok (.iload_n 2, 1) := by decide +kernel
theorem dX12_run_7 : decode cX12_run 7 = .ok (.iconst 1, 1) := by decide +kernel
theorem dX12_run_8 : decode cX12_run 8 = .ok (.if_icmp .ge 7, 3) := by decide +kernel
theorem dX12_run_11 : decode cX12_run 11 = .ok (.iconst 1, 1) := by decide +kernel
theorem dX12_run_12 : decode cX12_run 12 = .ok (.goto 15, 3) := by decide +kernel
theorem dX12_run_15 : decode cX12_run 15 = .ok (.aload_n 0, 1) := by decide +kernel
theorem dX12_run_16 : decode cX12_run 16 = .ok (.getfield 378, 3) := by decide +kernel
theorem dX12_run_19 : decode cX12_run 19 = .ok (.ifCond .ne 7, 3) := by decide +kernel
theorem dX12_run_22 : decode cX12_run 22 = .ok (.iconst 2, 1) := by decide +kernel
theorem dX12_run_23 : decode cX12_run 23 = .ok (.goto 4, 3) := by decide +kernel
theorem dX12_run_26 : decode cX12_run 26 = .ok (.iconst 0, 1) := by decide +kernel
theorem dX12_run_27 : decode cX12_run 27 = .ok (.putfield 205, 3) := by decide +kernel
theorem dX12_run_30 : decode cX12_run 30 = .ok (.aload_n 0, 1) := by decide +kernel
theorem dX12_run_31 : decode cX12_run 31 = .ok (.getfield 205, 3) := by decide +kernel
theorem dX12_run_34 : decode cX12_run 34 = .ok (.ifCond .le 5, 3) := by decide +kernel
theorem dX12_run_37 : decode cX12_run 37 = .ok (.iconst 0, 1) := by decide +kernel
theorem dX12_run_38 : decode cX12_run 38 = .ok (.ireturn, 1) := by decide +kernel
theorem dX12_run_39 : decode cX12_run 39 = .ok (.aload_n 0, 1) := by decide +kernel
theorem dX12_run_40 : decode cX12_run 40 = .ok (.getfield 378, 3) := by decide +kernel
theorem dX12_run_43 : decode cX12_run 43 = .ok (.iconst 1, 1) := by decide +kernel
theorem dX12_run_44 : decode cX12_run 44 = .ok (.isub, 1) := by decide +kernel
theorem dX12_run_45 : decode cX12_run 45 = .ok (.istore 4, 2) := by decide +kernel
theorem dX12_run_47 : decode cX12_run 47 = .ok (.aload_n 0, 1) := by decide +kernel
theorem dX12_run_48 : decode cX12_run 48 = .ok (.iload 4, 2) := by decide +kernel
theorem dX12_run_50 : decode cX12_run 50 = .ok (.invokevirtual 403, 3) := by decide +kernel
theorem dX12_run_53 : decode cX12_run 53 = .ok (.istore 5, 2) := by decide +kernel
theorem dX12_run_55 : decode cX12_run 55 = .ok (.aload_n 0, 1) := by decide +kernel
theorem dX12_run_56 : decode cX12_run 56 = .ok (.iload 4, 2) := by decide +kernel
theorem dX12_run_58 : decode cX12_run 58 = .ok (.invokevirtual 400, 3) := by decide +kernel
theorem dX12_run_61 : decode cX12_run 61 = .ok (.istore 6, 2) := by decide +kernel
theorem dX12_run_63 : decode cX12_run 63 = .ok (.aload_n 0, 1) := by decide +kernel
theorem dX12_run_64 : decode cX12_run 64 = .ok (.aload_n 0, 1) := by decide +kernel
theorem dX12_run_65 : decode cX12_run 65 = .ok (.getfield 69, 3) := by decide +kernel
theorem dX12_run_68 : decode cX12_run 68 = .ok (.iload 4, 2) := by decide +kernel
theorem dX12_run_70 : decode cX12_run 70 = .ok (.iaload, 1) := by decide +kernel
theorem dX12_run_71 : decode cX12_run 71 = .ok (.invokevirtual 532, 3) := by decide +kernel
theorem dX12_run_74 : decode cX12_run 74 = .ok (.ifCond .ne 6, 3) := by decide +kernel
theorem dX12_run_77 : decode cX12_run 77 = .ok (.bipush (-4), 2) := by decide +kernel
theorem dX12_run_79 : decode cX12_run 79 = .ok (.ireturn, 1) := by decide +kernel
theorem dX12_run_80 : decode cX12_run 80 = .ok (.aload_n 0, 1) := by decide +kernel
theorem dX12_run_81 : decode cX12_run 81 = .ok (.getfield 85, 3) := by decide +kernel
theorem dX12_run_84 : decode cX12_run 84 = .ok (.iload 4, 2) := by decide +kernel
theorem dX12_run_86 : decode cX12_run 86 = .ok (.laload, 1) := by decide +kernel
theorem dX12_run_87 : decode cX12_run 87 = .ok (.iload_n 1, 1) := by decide +kernel
theorem dX12_run_88 : decode cX12_run 88 = .ok (.i2l, 1) := by decide +kernel
theorem dX12_run_89 : decode cX12_run 89 = .ok (.lcmp, 1) := by decide +kernel
theorem dX12_run_90 : decode cX12_run 90 = .ok (.ifCond .gt 27, 3) := by decide +kernel
theorem dX12_run_93 : decode cX12_run 93 = .ok (.aload_n 0, 1) := by decide +kernel
theorem dX12_run_94 : decode cX12_run 94 = .ok (.getfield 85, 3) := by decide +kernel
theorem dX12_run_97 : decode cX12_run 97 = .ok (.iload 4, 2) := by decide +kernel
theorem dX12_run_99 : decode cX12_run 99 = .ok (.laload, 1) := by decide +kernel
theorem dX12_run_100 : decode cX12_run 100 = .ok (.ldc2_w 535, 3) := by decide +kernel
theorem dX12_run_103 : decode cX12_run 103 = .ok (.lcmp, 1) := by decide +kernel
theorem dX12_run_104 : decode cX12_run 104 = .ok (.ifCond .gt 13, 3) := by decide +kernel
theorem dX12_run_107 : decode cX12_run 107 = .ok (.aload_n 0, 1) := by decide +kernel
theorem dX12_run_108 : decode cX12_run 108 = .ok (.invokevirtual 537, 3) := by decide +kernel
theorem dX12_run_111 : decode cX12_run 111 = .ok (.iload_n 2, 1) := by decide +kernel
theorem dX12_run_112 : decode cX12_run 112 = .ok (.i2l, 1) := by decide +kernel
theorem dX12_run_113 : decode cX12_run 113 = .ok (.lcmp, 1) := by decide +kernel
theorem dX12_run_114 : decode cX12_run 114 = .ok (.ifCond .le 6, 3) := by decide +kernel
theorem dX12_run_117 : decode cX12_run 117 = .ok (.bipush (-2), 2) := by decide +kernel
theorem dX12_run_119 : decode cX12_run 119 = .ok (.ireturn, 1) := by decide +kernel
theorem dX12_run_120 : decode cX12_run 120 = .ok (.aload_n 0, 1) := by decide +kernel
theorem dX12_run_121 : decode cX12_run 121 = .ok (.iconst 0, 1) := by decide +kernel
theorem dX12_run_122 : decode cX12_run 122 = .ok (.putfield 494, 3) := by decide +kernel
theorem dX12_run_125 : decode cX12_run 125 = .ok (.aload_n 0, 1) := by decide +kernel
theorem dX12_run_126 : decode cX12_run 126 = .ok (.iload 5, 2) := by decide +kernel
theorem dX12_run_128 : decode cX12_run 128 = .ok (.iload 6, 2) := by decide +kernel
theorem dX12_run_130 : decode cX12_run 130 = .ok (.iadd, 1) := by decide +kernel
theorem dX12_run_131 : decode cX12_run 131 = .ok (.putfield 513, 3) := by decide +kernel
theorem dX12_run_134 : decode cX12_run 134 = .ok (.aload_n 0, 1) := by decide +kernel
theorem dX12_run_135 : decode cX12_run 135 = .ok (.lconst 0, 1) := by decide +kernel
theorem dX12_run_136 : decode cX12_run 136 = .ok (.putfield 501, 3) := by decide +kernel
theorem dX12_run_139 : decode cX12_run 139 = .ok (.aload_n 0, 1) := by decide +kernel
theorem dX12_run_140 : decode cX12_run 140 = .ok (.lconst 0, 1) := by decide +kernel
theorem dX12_run_141 : decode cX12_run 141 = .ok (.putfield 507, 3) := by decide +kernel
theorem dX12_run_144 : decode cX12_run 144 = .ok (.aload_n 0, 1) := by decide +kernel
theorem dX12_run_145 : decode cX12_run 145 = .ok (.lconst 0, 1) := by decide +kernel
theorem dX12_run_146 : decode cX12_run 146 = .ok (.putfield 504, 3) := by decide +kernel
theorem dX12_run_149 : decode cX12_run 149 = .ok (.aload_n 0, 1) := by decide +kernel
theorem dX12_run_150 : decode cX12_run 150 = .ok (.lconst 0, 1) := by decide +kernel
theorem dX12_run_151 : decode cX12_run 151 = .ok (.putfield 510, 3) := by decide +kernel
theorem dX12_run_154 : decode cX12_run 154 = .ok (.aload_n 0, 1) := by decide +kernel
theorem dX12_run_155 : decode cX12_run 155 = .ok (.lconst 0, 1) := by decide +kernel
theorem dX12_run_156 : decode cX12_run 156 = .ok (.putfield 497, 3) := by decide +kernel
theorem dX12_run_159 : decode cX12_run 159 = .ok (.aload_n 0, 1) := by decide +kernel
theorem dX12_run_160 : decode cX12_run 160 = .ok (.iload 4, 2) := by decide +kernel
theorem dX12_run_162 : decode cX12_run 162 = .ok (.iconst 0, 1) := by decide +kernel
theorem dX12_run_163 : decode cX12_run 163 = .ok (.iload 5, 2) := by decide +kernel
theorem dX12_run_165 : decode cX12_run 165 = .ok (.invokevirtual 516, 3) := by decide +kernel
theorem dX12_run_168 : decode cX12_run 168 = .ok (.iconst 1, 1) := by decide +kernel
theorem dX12_run_169 : decode cX12_run 169 = .ok (.istore 7, 2) := by decide +kernel
theorem dX12_run_171 : decode cX12_run 171 = .ok (.aload_n 0, 1) := by decide +kernel
theorem dX12_run_172 : decode cX12_run 172 = .ok (.getfield 494, 3) := by decide +kernel
theorem dX12_run_175 : decode cX12_run 175 = .ok (.ifCond .le 17, 3) := by decide +kernel
theorem dX12_run_178 : decode cX12_run 178 = .ok (.iload 7, 2) := by decide +kernel
theorem dX12_run_180 : decode cX12_run 180 = .ok (.ifCond .eq 12, 3) := by decide +kernel
theorem dX12_run_183 : decode cX12_run 183 = .ok (.aload_n 0, 1) := by decide +kernel
theorem dX12_run_184 : decode cX12_run 184 = .ok (.invokevirtual 541, 3) := by decide +kernel
theorem dX12_run_187 : decode cX12_run 187 = .ok (.istore 7, 2) := by decide +kernel
theorem dX12_run_189 : decode cX12_run 189 = .ok (.goto (-18), 3) := by decide +kernel
theorem dX12_run_192 : decode cX12_run 192 = .ok (.iload 7, 2) := by decide +kernel
theorem dX12_run_194 : decode cX12_run 194 = .ok (.ifCond .ne 5, 3) := by decide +kernel
theorem dX12_run_197 : decode cX12_run 197 = .ok (.iconst (-1), 1) := by decide +kernel
theorem dX12_run_198 : decode cX12_run 198 = .ok (.ireturn, 1) := by decide +kernel
theorem dX12_run_199 : decode cX12_run 199 = .ok (.aload_n 0, 1) := by decide +kernel
theorem dX12_run_200 : decode cX12_run 200 = .ok (.dup, 1) := by decide +kernel
theorem dX12_run_201 : decode cX12_run 201 = .ok (.getfield 544, 3) := by decide +kernel
theorem dX12_run_204 : decode cX12_run 204 = .ok (.iconst 1, 1) := by decide +kernel
theorem dX12_run_205 : decode cX12_run 205 = .ok (.iadd, 1) := by decide +kernel
theorem dX12_run_206 : decode cX12_run 206 = .ok (.putfield 544, 3) := by decide +kernel
theorem dX12_run_209 : decode cX12_run 209 = .ok (.iload_n 3, 1) := by decide +kernel
theorem dX12_run_210 : decode cX12_run 210 = .ok (.ifCond .ne 48, 3) := by decide +kernel
theorem dX12_run_213 : decode cX12_run 213 = .ok (.aload_n 0, 1) := by decide +kernel
theorem dX12_run_214 : decode cX12_run 214 = .ok (.aload_n 0, 1) := by decide +kernel
theorem dX12_run_215 : decode cX12_run 215 = .ok (.getfield 507, 3) := by decide +kernel
theorem dX12_run_218 : decode cX12_run 218 = .ok (.iload 5, 2) := by decide +kernel
theorem dX12_run_220 : decode cX12_run 220 = .ok (.i2l, 1) := by decide +kernel
theorem dX12_run_221 : decode cX12_run 221 = .ok (.ladd, 1) := by decide +kernel
theorem dX12_run_222 : decode cX12_run 222 = .ok (.iload 6, 2) := by decide +kernel
theorem dX12_run_224 : decode cX12_run 224 = .ok (.i2l, 1) := by decide +kernel
theorem dX12_run_225 : decode cX12_run 225 = .ok (.ladd, 1) := by decide +kernel
theorem dX12_run_226 : decode cX12_run 226 = .ok (.invokestatic 406, 3) := by decide +kernel
theorem dX12_run_229 : decode cX12_run 229 = .ok (.putfield 547, 3) := by decide +kernel
theorem dX12_run_232 : decode cX12_run 232 = .ok (.aload_n 0, 1) := by decide +kernel
theorem dX12_run_233 : decode cX12_run 233 = .ok (.aload_n 0, 1) := by decide +kernel
theorem dX12_run_234 : decode cX12_run 234 = .ok (.getfield 510, 3) := by decide +kernel
theorem dX12_run_237 : decode cX12_run 237 = .ok (.ldc2_w 550, 3) := by decide +kernel
theorem dX12_run_240 : decode cX12_run 240 = .ok (.ladd, 1) := by decide +kernel
theorem dX12_run_241 : decode cX12_run 241 = .ok (.invokestatic 406, 3) := by decide +kernel
theorem dX12_run_244 : decode cX12_run 244 = .ok (.putfield 552, 3) := by decide +kernel
theorem dX12_run_247 : decode cX12_run 247 = .ok (.aload_n 0, 1) := by decide +kernel
theorem dX12_run_248 : decode cX12_run 248 = .ok (.aload_n 0, 1) := by decide +kernel
theorem dX12_run_249 : decode cX12_run 249 = .ok (.getfield 497, 3) := by decide +kernel
theorem dX12_run_252 : decode cX12_run 252 = .ok (.invokestatic 406, 3) := by decide +kernel
theorem dX12_run_255 : decode cX12_run 255 = .ok (.putfield 555, 3) := by decide +kernel
theorem dX12_run_258 : decode cX12_run 258 = .ok (.aload_n 0, 1) := by decide +kernel
theorem dX12_run_259 : decode cX12_run 259 = .ok (.iload 5, 2) := by decide +kernel
theorem dX12_run_261 : decode cX12_run 261 = .ok (.iload 6, 2) := by decide +kernel
theorem dX12_run_263 : decode cX12_run 263 = .ok (.invokevirtual 558, 3) := by decide +kernel
theorem dX12_run_266 : decode cX12_run 266 = .ok (.ireturn, 1) := by decide +kernel
theorem dX12_isNode_0 : decode cX12_isNode 0 = .ok (.iload_n 1, 1) := by decide +kernel
theorem dX12_isNode_1 : decode cX12_isNode 1 = .ok (.ifCond .lt 15, 3) := by decide +kernel
theorem dX12_isNode_4 : decode cX12_isNode 4 = .ok (.iload_n 1, 1) := by decide +kernel
theorem dX12_isNode_5 : decode cX12_isNode 5 = .ok (.aload_n 0, 1) := by decide +kernel
theorem dX12_isNode_6 : decode cX12_isNode 6 = .ok (.getfield 378, 3) := by decide +kernel
theorem dX12_isNode_9 : decode cX12_isNode 9 = .ok (.if_icmp .ge 7, 3) := by decide +kernel
theorem dX12_isNode_12 : decode cX12_isNode 12 = .ok (.iconst 1, 1) := by decide +kernel
theorem dX12_isNode_13 : decode cX12_isNode 13 = .ok (.goto 4, 3) := by decide +kernel
theorem dX12_isNode_16 : decode cX12_isNode 16 = .ok (.iconst 0, 1) := by decide +kernel
theorem dX12_isNode_17 : decode cX12_isNode 17 = .ok (.ireturn, 1) := by decide +kernel
set_option maxRecDepth 100000 in
theorem ggX12_node_X12_isNode : GoodIn wsX12_node wsX12_isNode := goodIn_r _ [13, 14, 29, 30, 31, 32, 33, 34, 35, 36, 37, 38, 39, 40, 41, 42, 43, 44, 45, 46, 47, 48, 49, 50, 51, 52, 53, 54, 55, 56, 57, 58, 59, 60, 61, 62, 63, 64, 65, 66, 67, 68, 69, 70, 71, 72, 73, 74, 75, 76, 77, 78, 79, 80, 81, 82, 83, 84, 85, 86, 87, 88, 89, 90, 91, 92, 93, 94, 95, 96, 97, 98, 99, 100, 101, 102, 103, 104, 105, 106, 107, 108, 109, 110, 111, 112, 113, 114, 115, 116, 117, 118, 119, 120, 121, 122] rfl rfl
set_option maxRecDepth 100000 in
theorem gX12_node_X12_isNode : GoodIn wsX12_node (wsV RX12 561 RX12 yX12_isNode wsX12_isNode) := goodIn_app (goodIn_of _ (by decide +kernel)) ggX12_node_X12_isNode
set_option maxRecDepth 100000 in
theorem ggX12_node_X12_within : GoodIn wsX12_node wsX12_within := goodIn_r _ [17] (by decide +kernel) (by decide +kernel)
set_option maxRecDepth 100000 in
theorem gX12_node_X12_within : GoodIn wsX12_node (va_wsS RX12 211 yX12_within wsX12_within) := goodIn_app (goodIn_of _ (by decide +kernel)) ggX12_node_X12_within
theorem dX12_node_0 : decode cX12_node 0 = .ok (.aload_n 0, 1) := by decide +kernel
theorem dX12_node_1 : decode cX12_node 1 = .ok (.aload_n 0, 1) := by decide +kernel
theorem dX12_node_2 : decode cX12_node 2 = .ok (.iload_n 1, 1) := by decide +kernel
theorem dX12_node_3 : decode cX12_node 3 = .ok (.invokevirtual 561, 3) := by decide +kernel
theorem dX12_node_6 : decode cX12_node 6 = .ok (.ifCond .eq 17, 3) := by decide +kernel
theorem dX12_node_9 : decode cX12_node 9 = .ok (.iload_n 2, 1) := by decide +kernel
theorem dX12_node_10 : decode cX12_node 10 = .ok (.iconst 0, 1) := by decide +kernel
theorem dX12_node_11 : decode cX12_node 11 = .ok (.bipush 7, 2) := by decide +kernel
theorem dX12_node_13 : decode cX12_node 13 = .ok (.invokestatic 211, 3) := by decide +kernel
theorem dX12_node_16 : decode cX12_node 16 = .ok (.ifCond .eq 7, 3) := by decide +kernel
theorem dX12_node_19 : decode cX12_node 19 = .ok (.iconst 0, 1) := by decide +kernel
theorem dX12_node_20 : decode cX12_node 20 = .ok (.goto 4, 3) := by decide +kernel
theorem dX12_node_23 : decode cX12_node 23 = .ok (.iconst 1, 1) := by decide +kernel
theorem dX12_node_24 : decode cX12_node 24 = .ok (.putfield 205, 3) := by decide +kernel
theorem dX12_node_27 : decode cX12_node 27 = .ok (.aload_n 0, 1) := by decide +kernel
theorem dX12_node_28 : decode cX12_node 28 = .ok (.getfield 205, 3) := by decide +kernel
theorem dX12_node_31 : decode cX12_node 31 = .ok (.ifCond .le 5, 3) := by decide +kernel
theorem dX12_node_34 : decode cX12_node 34 = .ok (.iconst 0, 1) := by decide +kernel
theorem dX12_node_35 : decode cX12_node 35 = .ok (.ireturn, 1) := by decide +kernel
theorem dX12_node_36 : decode cX12_node 36 = .ok (.iload_n 2, 1) := by decide +kernel
theorem dX12_node_37 : decode cX12_node 37 = .ok (.tableswitch 141 0 6 #[43, 50, 92, 113, 119, 125, 133], 43) := by decide +kernel
theorem dX12_node_80 : decode cX12_node 80 = .ok (.aload_n 0, 1) := by decide +kernel
theorem dX12_node_81 : decode cX12_node 81 = .ok (.getfield 54, 3) := by decide +kernel
theorem dX12_node_84 : decode cX12_node 84 = .ok (.iload_n 1, 1) := by decide +kernel
theorem dX12_node_85 : decode cX12_node 85 = .ok (.iaload, 1) := by decide +kernel
theorem dX12_node_86 : decode cX12_node 86 = .ok (.ireturn, 1) := by decide +kernel
theorem dX12_node_87 : decode cX12_node 87 = .ok (.aload_n 0, 1) := by decide +kernel
theorem dX12_node_88 : decode cX12_node 88 = .ok (.getfield 54, 3) := by decide +kernel
theorem dX12_node_91 : decode cX12_node 91 = .ok (.iload_n 1, 1) := by decide +kernel
theorem dX12_node_92 : decode cX12_node 92 = .ok (.iaload, 1) := by decide +kernel
theorem dX12_node_93 : decode cX12_node 93 = .ok (.bipush 12, 2) := by decide +kernel
theorem dX12_node_95 : decode cX12_node 95 = .ok (.if_icmp .ne 12, 3) := by decide +kernel
theorem dX12_node_98 : decode cX12_node 98 = .ok (.aload_n 0, 1) := by decide +kernel
theorem dX12_node_99 : decode cX12_node 99 = .ok (.getfield 63, 3) := by decide +kernel
theorem dX12_node_102 : decode cX12_node 102 = .ok (.iload_n 1, 1) := by decide +kernel
theorem dX12_node_103 : decode cX12_node 103 = .ok (.iaload, 1) := by decide +kernel
theorem dX12_node_104 : decode cX12_node 104 = .ok (.goto 24, 3) := by decide +kernel
theorem dX12_node_107 : decode cX12_node 107 = .ok (.aload_n 0, 1) := by decide +kernel
theorem dX12_node_108 : decode cX12_node 108 = .ok (.getfield 54, 3) := by decide +kernel
theorem dX12_node_111 : decode cX12_node 111 = .ok (.iload_n 1, 1) := by decide +kernel
theorem dX12_node_112 : decode cX12_node 112 = .ok (.iaload, 1) := by decide +kernel
theorem dX12_node_113 : decode cX12_node 113 = .ok (.bipush 6, 2) := by decide +kernel
theorem dX12_node_115 : decode cX12_node 115 = .ok (.if_icmp .gt 12, 3) := by decide +kernel
theorem dX12_node_118 : decode cX12_node 118 = .ok (.aload_n 0, 1) := by decide +kernel
theorem dX12_node_119 : decode cX12_node 119 = .ok (.getfield 57, 3) := by decide +kernel
theorem dX12_node_122 : decode cX12_node 122 = .ok (.iload_n 1, 1) := by decide +kernel
theorem dX12_node_123 : decode cX12_node 123 = .ok (.iaload, 1) := by decide +kernel
theorem dX12_node_124 : decode cX12_node 124 = .ok (.goto 4, 3) := by decide +kernel
theorem dX12_node_127 : decode cX12_node 127 = .ok (.iconst (-1), 1) := by decide +kernel
theorem dX12_node_128 : decode cX12_node 128 = .ok (.ireturn, 1) := by decide +kernel
theorem dX12_node_129 : decode cX12_node 129 = .ok (.aload_n 0, 1) := by decide +kernel
theorem dX12_node_130 : decode cX12_node 130 = .ok (.getfield 54, 3) := by decide +kernel
theorem dX12_node_133 : decode cX12_node 133 = .ok (.iload_n 1, 1) := by decide +kernel
theorem dX12_node_134 : decode cX12_node 134 = .ok (.iaload, 1) := by decide +kernel
theorem dX12_node_135 : decode cX12_node 135 = .ok (.iconst 2, 1) := by decide +kernel
theorem dX12_node_136 : decode cX12_node 136 = .ok (.if_icmp .gt 12, 3) := by decide +kernel
theorem dX12_node_139 : decode cX12_node 139 = .ok (.aload_n 0, 1) := by decide +kernel
theorem dX12_node_140 : decode cX12_node 140 = .ok (.getfield 60, 3) := by decide +kernel
theorem dX12_node_143 : decode cX12_node 143 = .ok (.iload_n 1, 1) := by decide +kernel
theorem dX12_node_144 : decode cX12_node 144 = .ok (.iaload, 1) := by decide +kernel
theorem dX12_node_145 : decode cX12_node 145 = .ok (.goto 4, 3) := by decide +kernel
theorem dX12_node_148 : decode cX12_node 148 = .ok (.iconst (-1), 1) := by decide +kernel
theorem dX12_node_149 : decode cX12_node 149 = .ok (.ireturn, 1) := by decide +kernel
theorem dX12_node_150 : decode cX12_node 150 = .ok (.aload_n 0, 1) := by decide +kernel
theorem dX12_node_151 : decode cX12_node 151 = .ok (.iload_n 1, 1) := by decide +kernel
theorem dX12_node_152 : decode cX12_node 152 = .ok (.invokevirtual 403, 3) := by decide +kernel
theorem dX12_node_155 : decode cX12_node 155 = .ok (.ireturn, 1) := by decide +kernel
theorem dX12_node_156 : decode cX12_node 156 = .ok (.aload_n 0, 1) := by decide +kernel
theorem dX12_node_157 : decode cX12_node 157 = .ok (.iload_n 1, 1) := by decide +kernel
theorem dX12_node_158 : decode cX12_node 158 = .ok (.invokevirtual 400, 3) := by decide +kernel
theorem dX12_node_161 : decode cX12_node 161 = .ok (.ireturn, 1) := by decide +kernel
theorem dX12_node_162 : decode cX12_node 162 = .ok (.aload_n 0, 1) := by decide +kernel
theorem dX12_node_163 : decode cX12_node 163 = .ok (.getfield 78, 3) := by decide +kernel
theorem dX12_node_166 : decode cX12_node 166 = .ok (.iload_n 1, 1) := by decide +kernel
theorem dX12_node_167 : decode cX12_node 167 = .ok (.laload, 1) := by decide +kernel
theorem dX12_node_168 : decode cX12_node 168 = .ok (.l2i, 1) := by decide +kernel
theorem dX12_node_169 : decode cX12_node 169 = .ok (.ireturn, 1) := by decide +kernel
theorem dX12_node_170 : decode cX12_node 170 = .ok (.aload_n 0, 1) := by decide +kernel
theorem dX12_node_171 : decode cX12_node 171 = .ok (.getfield 82, 3) := by decide +kernel
theorem dX12_node_174 : decode cX12_node 174 = .ok (.iload_n 1, 1) := by decide +kernel
theorem dX12_node_175 : decode cX12_node 175 = .ok (.laload, 1) := by decide +kernel
theorem dX12_node_176 : decode cX12_node 176 = .ok (.l2i, 1) := by decide +kernel
theorem dX12_node_177 : decode cX12_node 177 = .ok (.ireturn, 1) := by decide +kernel
theorem dX12_node_178 : decode cX12_node 178 = .ok (.aload_n 0, 1) := by decide +kernel
theorem dX12_node_179 : decode cX12_node 179 = .ok (.getfield 85, 3) := by decide +kernel
theorem dX12_node_182 : decode cX12_node 182 = .ok (.iload_n 1, 1) := by decide +kernel
theorem dX12_node_183 : decode cX12_node 183 = .ok (.laload, 1) := by decide +kernel
theorem dX12_node_184 : decode cX12_node 184 = .ok (.l2i, 1) := by decide +kernel
theorem dX12_node_185 : decode cX12_node 185 = .ok (.ireturn, 1) := by decide +kernel
set_option maxRecDepth 100000 in
theorem ggX12_root_X12_isNode : GoodIn wsX12_root wsX12_isNode := goodIn_r _ [8, 9, 13, 14, 15, 16, 17, 18, 19, 20, 21, 22, 23, 24, 25, 26, 27, 28, 29, 30, 31, 32, 33, 34, 35, 36, 37, 38, 39, 40, 41, 42, 43, 44, 45, 46, 47, 48, 49, 50, 51, 52, 53, 54, 55, 56, 57, 58, 59, 60, 61, 62, 63, 64, 65, 66, 67, 68, 69, 70, 71, 72, 73, 74, 75, 76, 77, 78, 79, 80, 81, 82, 83, 84, 85, 86, 87, 88, 89, 90, 91, 92, 93, 94, 95, 96, 97, 98, 99, 100, 101, 102, 103, 104, 105, 106] rfl rfl
set_option maxRecDepth 100000 in
theorem gX12_root_X12_isNode : GoodIn wsX12_root (wsV RX12 561 RX12 yX12_isNode wsX12_isNode) := goodIn_app (goodIn_of _ (by decide +kernel)) ggX12_root_X12_isNode
set_option maxRecDepth 100000 in
theorem ggX12_root_X12_within : GoodIn wsX12_root wsX12_within := goodIn_r _ [12] (by decide +kernel) (by decide +kernel)
set_option maxRecDepth 100000 in
theorem gX12_root_X12_within : GoodIn wsX12_root (va_wsS RX12 211 yX12_within wsX12_within) := goodIn_app (goodIn_of _ (by decide +kernel)) ggX12_root_X12_within
theorem dX12_root_0 : decode cX12_root 0 = .ok (.aload_n 0, 1) := by decide +kernel
theorem dX12_root_1 : decode cX12_root 1 = .ok (.aload_n 0, 1) := by decide +kernel
theorem dX12_root_2 : decode cX12_root 2 = .ok (.iload_n 1, 1) := by decide +kernel
theorem dX12_root_3 : decode cX12_root 3 = .ok (.invokevirtual 561, 3) := by decide +kernel
theorem dX12_root_6 : decode cX12_root 6 = .ok (.ifCond .eq 17, 3) := by decide +kernel
theorem dX12_root_9 : decode cX12_root 9 = .ok (.iload_n 2, 1) := by decide +kernel
theorem dX12_root_10 : decode cX12_root 10 = .ok (.iconst 0, 1) := by decide +kernel
theorem dX12_root_11 : decode cX12_root 11 = .ok (.bipush 7, 2) := by decide +kernel
theorem dX12_root_13 : decode cX12_root 13 = .ok (.invokestatic 211, 3) := by decide +kernel
theorem dX12_root_16 : decode cX12_root 16 = .ok (.ifCond .eq 7, 3) := by decide +kernel
theorem dX12_root_19 : decode cX12_root 19 = .ok (.iconst 0, 1) := by decide +kernel
theorem dX12_root_20 : decode cX12_root 20 = .ok (.goto 4, 3) := by decide +kernel
theorem dX12_root_23 : decode cX12_root 23 = .ok (.iconst 1, 1) := by decide +kernel
theorem dX12_root_24 : decode cX12_root 24 = .ok (.putfield 205, 3) := by decide +kernel
theorem dX12_root_27 : decode cX12_root 27 = .ok (.aload_n 0, 1) := by decide +kernel
theorem dX12_root_28 : decode cX12_root 28 = .ok (.getfield 205, 3) := by decide +kernel
theorem dX12_root_31 : decode cX12_root 31 = .ok (.ifCond .le 7, 3) := by decide +kernel
theorem dX12_root_34 : decode cX12_root 34 = .ok (.lconst 0, 1) := by decide +kernel
theorem dX12_root_35 : decode cX12_root 35 = .ok (.goto 19, 3) := by decide +kernel
theorem dX12_root_38 : decode cX12_root 38 = .ok (.aload_n 0, 1) := by decide +kernel
theorem dX12_root_39 : decode cX12_root 39 = .ok (.getfield 75, 3) := by decide +kernel
theorem dX12_root_42 : decode cX12_root 42 = .ok (.bipush 8, 2) := by decide +kernel
theorem dX12_root_44 : decode cX12_root 44 = .ok (.iload_n 1, 1) := by decide +kernel
theorem dX12_root_45 : decode cX12_root 45 = .ok (.imul, 1) := by decide +kernel
theorem dX12_root_46 : decode cX12_root 46 = .ok (.iload_n 2, 1) := by decide +kernel
theorem dX12_root_47 : decode cX12_root 47 = .ok (.iadd, 1) := by decide +kernel
theorem dX12_root_48 : decode cX12_root 48 = .ok (.iaload, 1) := by decide +kernel
theorem dX12_root_49 : decode cX12_root 49 = .ok (.i2l, 1) := by decide +kernel
theorem dX12_root_50 : decode cX12_root 50 = .ok (.ldc2_w 430, 3) := by decide +kernel
theorem dX12_root_53 : decode cX12_root 53 = .ok (.land, 1) := by decide +kernel
theorem dX12_root_54 : decode cX12_root 54 = .ok (.lreturn, 1) := by decide +kernel
set_option maxRecDepth 100000 in
theorem ggX12_typeRoot_X12_isNode : GoodIn wsX12_typeRoot wsX12_isNode := goodIn_r _ [11, 12, 16, 17, 18, 19, 20, 21, 22, 23, 24, 25, 26, 27, 28, 29, 30, 31, 32, 33, 34, 35, 36, 37, 38, 39, 40, 41, 42, 43, 44, 45, 46, 47, 48, 49, 50, 51, 52, 53, 54, 55, 56, 57, 58, 59, 60, 61, 62, 63, 64, 65, 66, 67, 68, 69, 70, 71, 72, 73, 74, 75, 76, 77, 78, 79, 80, 81, 82, 83, 84, 85, 86, 87, 88, 89, 90, 91, 92, 93, 94, 95, 96, 97, 98, 99, 100, 101, 102, 103, 104, 105, 106, 107, 108, 109] rfl rfl
set_option maxRecDepth 100000 in
theorem gX12_typeRoot_X12_isNode : GoodIn wsX12_typeRoot (wsV RX12 561 RX12 yX12_isNode wsX12_isNode) := goodIn_app (goodIn_of _ (by decide +kernel)) ggX12_typeRoot_X12_isNode
set_option maxRecDepth 100000 in
theorem ggX12_typeRoot_X12_within : GoodIn wsX12_typeRoot wsX12_within := goodIn_r _ [15] (by decide +kernel) (by decide +kernel)
set_option maxRecDepth 100000 in
theorem gX12_typeRoot_X12_within : GoodIn wsX12_typeRoot (va_wsS RX12 211 yX12_within wsX12_within) := goodIn_app (goodIn_of _ (by decide +kernel)) ggX12_typeRoot_X12_within
theorem dX12_typeRoot_0 : decode cX12_typeRoot 0 = .ok (.aload_n 0, 1) := by decide +kernel
theorem dX12_typeRoot_1 : decode cX12_typeRoot 1 = .ok (.aload_n 0, 1) := by decide +kernel
theorem dX12_typeRoot_2 : decode cX12_typeRoot 2 = .ok (.iload_n 1, 1) := by decide +kernel
theorem dX12_typeRoot_3 : decode cX12_typeRoot 3 = .ok (.invokevirtual 561, 3) := by decide +kernel
theorem dX12_typeRoot_6 : decode cX12_typeRoot 6 = .ok (.ifCond .eq 17, 3) := by decide +kernel
theorem dX12_typeRoot_9 : decode cX12_typeRoot 9 = .ok (.iload_n 3, 1) := by decide +kernel
theorem dX12_typeRoot_10 : decode cX12_typeRoot 10 = .ok (.iconst 0, 1) := by decide +kernel
theorem dX12_typeRoot_11 : decode cX12_typeRoot 11 = .ok (.bipush 7, 2) := by decide +kernel
theorem dX12_typeRoot_13 : decode cX12_typeRoot 13 = .ok (.invokestatic 211, 3) := by decide +kernel
theorem dX12_typeRoot_16 : decode cX12_typeRoot 16 = .ok (.ifCond .eq 7, 3) := by decide +kernel
theorem dX12_typeRoot_19 : decode cX12_typeRoot 19 = .ok (.iconst 0, 1) := by decide +kernel
theorem dX12_typeRoot_20 : decode cX12_typeRoot 20 = .ok (.goto 4, 3) := by decide +kernel
theorem dX12_typeRoot_23 : decode cX12_typeRoot 23 = .ok (.iconst 1, 1) := by decide +kernel
theorem dX12_typeRoot_24 : decode cX12_typeRoot 24 = .ok (.putfield 205, 3) := by decide +kernel
theorem dX12_typeRoot_27 : decode cX12_typeRoot 27 = .ok (.aload_n 0, 1) := by decide +kernel
theorem dX12_typeRoot_28 : decode cX12_typeRoot 28 = .ok (.getfield 205, 3) := by decide +kernel
theorem dX12_typeRoot_31 : decode cX12_typeRoot 31 = .ok (.ifCond .gt 14, 3) := by decide +kernel
theorem dX12_typeRoot_34 : decode cX12_typeRoot 34 = .ok (.aload_n 0, 1) := by decide +kernel
theorem dX12_typeRoot_35 : decode cX12_typeRoot 35 = .ok (.getfield 54, 3) := by decide +kernel
theorem dX12_typeRoot_38 : decode cX12_typeRoot 38 = .ok (.iload_n 1, 1) := by decide +kernel
theorem dX12_typeRoot_39 : decode cX12_typeRoot 39 = .ok (.iaload, 1) := by decide +kernel
theorem dX12_typeRoot_40 : decode cX12_typeRoot 40 = .ok (.bipush 11, 2) := by decide +kernel
theorem dX12_typeRoot_42 : decode cX12_typeRoot 42 = .ok (.if_icmp .ne 5, 3) := by decide +kernel
theorem dX12_typeRoot_45 : decode cX12_typeRoot 45 = .ok (.lconst 0, 1) := by decide +kernel
theorem dX12_typeRoot_46 : decode cX12_typeRoot 46 = .ok (.lreturn, 1) := by decide +kernel
theorem dX12_typeRoot_47 : decode cX12_typeRoot 47 = .ok (.aload_n 0, 1) := by decide +kernel
theorem dX12_typeRoot_48 : decode cX12_typeRoot 48 = .ok (.getfield 115, 3) := by decide +kernel
theorem dX12_typeRoot_51 : decode cX12_typeRoot 51 = .ok (.bipush 8, 2) := by decide +kernel
theorem dX12_typeRoot_53 : decode cX12_typeRoot 53 = .ok (.iload_n 2, 1) := by decide +kernel
theorem dX12_typeRoot_54 : decode cX12_typeRoot 54 = .ok (.ifCond .eq 12, 3) := by decide +kernel
theorem dX12_typeRoot_57 : decode cX12_typeRoot 57 = .ok (.aload_n 0, 1) := by decide +kernel
theorem dX12_typeRoot_58 : decode cX12_typeRoot 58 = .ok (.getfield 72, 3) := by decide +kernel
theorem dX12_typeRoot_61 : decode cX12_typeRoot 61 = .ok (.iload_n 1, 1) := by decide +kernel
theorem dX12_typeRoot_62 : decode cX12_typeRoot 62 = .ok (.iaload, 1) := by decide +kernel
theorem dX12_typeRoot_63 : decode cX12_typeRoot 63 = .ok (.goto 9, 3) := by decide +kernel
theorem dX12_typeRoot_66 : decode cX12_typeRoot 66 = .ok (.aload_n 0, 1) := by decide +kernel
theorem dX12_typeRoot_67 : decode cX12_typeRoot 67 = .ok (.getfield 69, 3) := by decide +kernel
theorem dX12_typeRoot_70 : decode cX12_typeRoot 70 = .ok (.iload_n 1, 1) := by decide +kernel
theorem dX12_typeRoot_71 : decode cX12_typeRoot 71 = .ok (.iaload, 1) := by decide +kernel
theorem dX12_typeRoot_72 : decode cX12_typeRoot 72 = .ok (.imul, 1) := by decide +kernel
theorem dX12_typeRoot_73 : decode cX12_typeRoot 73 = .ok (.iload_n 3, 1) := by decide +kernel
theorem dX12_typeRoot_74 : decode cX12_typeRoot 74 = .ok (.iadd, 1) := by decide +kernel
theorem dX12_typeRoot_75 : decode cX12_typeRoot 75 = .ok (.iaload, 1) := by decide +kernel
theorem dX12_typeRoot_76 : decode cX12_typeRoot 76 = .ok (.i2l, 1) := by decide +kernel
theorem dX12_typeRoot_77 : decode cX12_typeRoot 77 = .ok (.ldc2_w 430, 3) := by decide +kernel
theorem dX12_typeRoot_80 : decode cX12_typeRoot 80 = .ok (.land, 1) := by decide +kernel
theorem dX12_typeRoot_81 : decode cX12_typeRoot 81 = .ok (.lreturn, 1) := by decide +kernel
set_option maxRecDepth 100000 in
theorem ggX12_typeAt_X12_isNode : GoodIn wsX12_typeAt wsX12_isNode := goodIn_r _ [9, 10, 11, 12, 13, 14, 15, 16, 17, 18, 19, 20, 21, 22, 23, 24, 25, 26, 27, 28, 29, 30, 31, 32, 33, 34, 35, 36, 37, 38, 39, 40, 41, 42, 43, 44, 45, 46, 47, 48, 49, 50, 51, 52, 53, 54, 55, 56, 57, 58, 59, 60, 61, 62, 63, 64, 65, 66, 67, 68, 69, 70, 71, 72, 73, 74, 75, 76, 77, 78, 79, 80, 81, 82, 83, 84, 85, 86, 87, 88, 89, 90, 91, 92, 93, 94, 95, 96, 97, 98, 99, 100, 101, 102, 103, 104] rfl rfl
set_option maxRecDepth 100000 in
theorem gX12_typeAt_X12_isNode : GoodIn wsX12_typeAt (wsV RX12 561 RX12 yX12_isNode wsX12_isNode) := goodIn_app (goodIn_of _ (by decide +kernel)) ggX12_typeAt_X12_isNode
theorem dX12_typeAt_0 : decode cX12_typeAt 0 = .ok (.aload_n 0, 1) := by decide +kernel
theorem dX12_typeAt_1 : decode cX12_typeAt 1 = .ok (.aload_n 0, 1) := by decide +kernel
theorem dX12_typeAt_2 : decode cX12_typeAt 2 = .ok (.iload_n 1, 1) := by decide +kernel
theorem dX12_typeAt_3 : decode cX12_typeAt 3 = .ok (.invokevirtual 561, 3) := by decide +kernel
theorem dX12_typeAt_6 : decode cX12_typeAt 6 = .ok (.ifCond .eq 7, 3) := by decide +kernel
theorem dX12_typeAt_9 : decode cX12_typeAt 9 = .ok (.iconst 0, 1) := by decide +kernel
theorem dX12_typeAt_10 : decode cX12_typeAt 10 = .ok (.goto 4, 3) := by decide +kernel
theorem dX12_typeAt_13 : decode cX12_typeAt 13 = .ok (.iconst 1, 1) := by decide +kernel
theorem dX12_typeAt_14 : decode cX12_typeAt 14 = .ok (.putfield 205, 3) := by decide +kernel
theorem dX12_typeAt_17 : decode cX12_typeAt 17 = .ok (.aload_n 0, 1) := by decide +kernel
theorem dX12_typeAt_18 : decode cX12_typeAt 18 = .ok (.getfield 205, 3) := by decide +kernel
theorem dX12_typeAt_21 : decode cX12_typeAt 21 = .ok (.ifCond .le 5, 3) := by decide +kernel
theorem dX12_typeAt_24 : decode cX12_typeAt 24 = .ok (.iconst (-1), 1) := by decide +kernel
theorem dX12_typeAt_25 : decode cX12_typeAt 25 = .ok (.ireturn, 1) := by decide +kernel
theorem dX12_typeAt_26 : decode cX12_typeAt 26 = .ok (.aload_n 0, 1) := by decide +kernel
theorem dX12_typeAt_27 : decode cX12_typeAt 27 = .ok (.getfield 54, 3) := by decide +kernel
theorem dX12_typeAt_30 : decode cX12_typeAt 30 = .ok (.iload_n 1, 1) := by decide +kernel
theorem dX12_typeAt_31 : decode cX12_typeAt 31 = .ok (.iaload, 1) := by decide +kernel
theorem dX12_typeAt_32 : decode cX12_typeAt 32 = .ok (.bipush 11, 2) := by decide +kernel
theorem dX12_typeAt_34 : decode cX12_typeAt 34 = .ok (.if_icmp .ne 8, 3) := by decide +kernel
theorem dX12_typeAt_37 : decode cX12_typeAt 37 = .ok (.bipush (-2), 2) := by decide +kernel
theorem dX12_typeAt_39 : decode cX12_typeAt 39 = .ok (.goto 22, 3) := by decide +kernel
theorem dX12_typeAt_42 : decode cX12_typeAt 42 = .ok (.iload_n 2, 1) := by decide +kernel
theorem dX12_typeAt_43 : decode cX12_typeAt 43 = .ok (.ifCond .eq 12, 3) := by decide +kernel
theorem dX12_typeAt_46 : decode cX12_typeAt 46 = .ok (.aload_n 0, 1) := by decide +kernel
theorem dX12_typeAt_47 : decode cX12_typeAt 47 = .ok (.getfield 72, 3) := by decide +kernel
theorem dX12_typeAt_50 : decode cX12_typeAt 50 = .ok (.iload_n 1, 1) := by decide +kernel
theorem dX12_typeAt_51 : decode cX12_typeAt 51 = .ok (.iaload, 1) := by decide +kernel
theorem dX12_typeAt_52 : decode cX12_typeAt 52 = .ok (.goto 9, 3) := by decide +kernel
theorem dX12_typeAt_55 : decode cX12_typeAt 55 = .ok (.aload_n 0, 1) := by decide +kernel
theorem dX12_typeAt_56 : decode cX12_typeAt 56 = .ok (.getfield 69, 3) := by decide +kernel
theorem dX12_typeAt_59 : decode cX12_typeAt 59 = .ok (.iload_n 1, 1) := by decide +kernel
theorem dX12_typeAt_60 : decode cX12_typeAt 60 = .ok (.iaload, 1) := by decide +kernel
theorem dX12_typeAt_61 : decode cX12_typeAt 61 = .ok (.ireturn, 1) := by decide +kernel
set_option maxRecDepth 100000 in
theorem ggX12_type_X12_typeAt : GoodIn wsX12_type wsX12_typeAt := goodIn_r _ [12, 1, 13, 14, 15, 16, 17, 18, 11, 19, 20, 32, 33, 34, 35, 36, 37, 38, 39, 40, 41, 42, 43, 44, 45, 46, 47, 48, 49, 50, 51, 52, 53, 54, 55, 56, 57, 58, 59, 60, 61, 62, 63, 64, 65, 66, 67, 68, 69, 70, 71, 72, 73, 74, 75, 76, 77, 78, 79, 80, 81, 82, 83, 84, 85, 86, 87, 88, 89, 90, 91, 92, 93, 94, 95, 96, 97, 98, 99, 100, 101, 102, 103, 104, 105, 106, 107, 108, 109, 110, 111, 112, 113, 114, 115, 116, 117, 118, 119, 120, 121, 122, 123, 124, 125] rfl rfl
set_option maxRecDepth 100000 in
theorem gX12_type_X12_typeAt : GoodIn wsX12_type (wsV RX12 564 RX12 yX12_typeAt wsX12_typeAt) := goodIn_app (goodIn_of _ (by decide +kernel)) ggX12_type_X12_typeAt
theorem dX12_type_0 : decode cX12_type 0 = .ok (.aload_n 0, 1) := by decide +kernel
theorem dX12_type_1 : decode cX12_type 1 = .ok (.iload_n 1, 1) := by decide +kernel
theorem dX12_type_2 : decode cX12_type 2 = .ok (.iload_n 2, 1) := by decide +kernel
theorem dX12_type_3 : decode cX12_type 3 = .ok (.invokevirtual 564, 3) := by decide +kernel
theorem dX12_type_6 : decode cX12_type 6 = .ok (.istore_n 3, 1) := by decide +kernel
theorem dX12_type_7 : decode cX12_type 7 = .ok (.aload_n 0, 1) := by decide +kernel
theorem dX12_type_8 : decode cX12_type 8 = .ok (.getfield 205, 3) := by decide +kernel
theorem dX12_type_11 : decode cX12_type 11 = .ok (.ifCond .le 5, 3) := by decide +kernel
theorem dX12_type_14 : decode cX12_type 14 = .ok (.iconst 0, 1) := by decide +kernel
theorem dX12_type_15 : decode cX12_type 15 = .ok (.ireturn, 1) := by decide +kernel
theorem dX12_type_16 : decode cX12_type 16 = .ok (.iload_n 3, 1) := by decide +kernel
theorem dX12_type_17 : decode cX12_type 17 = .ok (.ifCond .ge 6, 3) := by decide +kernel
theorem dX12_type_20 : decode cX12_type 20 = .ok (.bipush (-2), 2) := by decide +kernel
theorem dX12_type_22 : decode cX12_type 22 = .ok (.ireturn, 1) := by decide +kernel
theorem dX12_type_23 : decode cX12_type 23 = .ok (.aload_n 0, 1) := by decide +kernel
theorem dX12_type_24 : decode cX12_type 24 = .ok (.getfield 106, 3) := by decide +kernel
theorem dX12_type_27 : decode cX12_type 27 = .ok (.iload_n 3, 1) := by decide +kernel
theorem dX12_type_28 : decode cX12_type 28 = .ok (.iaload, 1) := by decide +kernel
theorem dX12_type_29 : decode cX12_type 29 = .ok (.sipush 300, 3) := by decide +kernel
theorem dX12_type_32 : decode cX12_type 32 = .ok (.if_icmp .le 5, 3) := by decide +kernel
theorem dX12_type_35 : decode cX12_type 35 = .ok (.iconst (-1), 1) := by decide +kernel
theorem dX12_type_36 : decode cX12_type 36 = .ok (.ireturn, 1) := by decide +kernel
theorem dX12_type_37 : decode cX12_type 37 = .ok (.aload_n 0, 1) := by decide +kernel
theorem dX12_type_38 : decode cX12_type 38 = .ok (.iconst 0, 1) := by decide +kernel
theorem dX12_type_39 : decode cX12_type 39 = .ok (.putfield 289, 3) := by decide +kernel
theorem dX12_type_42 : decode cX12_type 42 = .ok (.iconst 1, 1) := by decide +kernel
theorem dX12_type_43 : decode cX12_type 43 = .ok (.istore 4, 2) := by decide +kernel
theorem dX12_type_45 : decode cX12_type 45 = .ok (.aload_n 0, 1) := by decide +kernel
theorem dX12_type_46 : decode cX12_type 46 = .ok (.getfield 48, 3) := by decide +kernel
theorem dX12_type_49 : decode cX12_type 49 = .ok (.iconst 0, 1) := by decide +kernel
theorem dX12_type_50 : decode cX12_type 50 = .ok (.iload_n 3, 1) := by decide +kernel
theorem dX12_type_51 : decode cX12_type 51 = .ok (.iastore, 1) := by decide +kernel
theorem dX12_type_52 : decode cX12_type 52 = .ok (.iload 4, 2) := by decide +kernel
theorem dX12_type_54 : decode cX12_type 54 = .ok (.ifCond .le 130, 3) := by decide +kernel
theorem dX12_type_57 : decode cX12_type 57 = .ok (.iinc 4 (-1), 3) := by decide +kernel
theorem dX12_type_60 : decode cX12_type 60 = .ok (.aload_n 0, 1) := by decide +kernel
theorem dX12_type_61 : decode cX12_type 61 = .ok (.getfield 48, 3) := by decide +kernel
theorem dX12_type_64 : decode cX12_type 64 = .ok (.iload 4, 2) := by decide +kernel
theorem dX12_type_66 : decode cX12_type 66 = .ok (.iaload, 1) := by decide +kernel
theorem dX12_type_67 : decode cX12_type 67 = .ok (.istore 5, 2) := by decide +kernel
theorem dX12_type_69 : decode cX12_type 69 = .ok (.iload 5, 2) := by decide +kernel
theorem dX12_type_71 : decode cX12_type 71 = .ok (.ifCond .ge 13, 3) := by decide +kernel
theorem dX12_type_74 : decode cX12_type 74 = .ok (.aload_n 0, 1) := by decide +kernel
theorem dX12_type_75 : decode cX12_type 75 = .ok (.iload 5, 2) := by decide +kernel
theorem dX12_type_77 : decode cX12_type 77 = .ok (.ineg, 1) := by decide +kernel
theorem dX12_type_78 : decode cX12_type 78 = .ok (.invokevirtual 296, 3) := by decide +kernel
theorem dX12_type_81 : decode cX12_type 81 = .ok (.goto 100, 3) := by decide +kernel
theorem dX12_type_84 : decode cX12_type 84 = .ok (.aload_n 0, 1) := by decide +kernel
theorem dX12_type_85 : decode cX12_type 85 = .ok (.getfield 91, 3) := by decide +kernel
theorem dX12_type_88 : decode cX12_type 88 = .ok (.iload 5, 2) := by decide +kernel
theorem dX12_type_90 : decode cX12_type 90 = .ok (.iaload, 1) := by decide +kernel
theorem dX12_type_91 : decode cX12_type 91 = .ok (.iconst 1, 1) := by decide +kernel
theorem dX12_type_92 : decode cX12_type 92 = .ok (.if_icmp .ne 12, 3) := by decide +kernel
theorem dX12_type_95 : decode cX12_type 95 = .ok (.aload_n 0, 1) := by decide +kernel
theorem dX12_type_96 : decode cX12_type 96 = .ok (.bipush 49, 2) := by decide +kernel
theorem dX12_type_98 : decode cX12_type 98 = .ok (.invokevirtual 296, 3) := by decide +kernel
theorem dX12_type_101 : decode cX12_type 101 = .ok (.goto 80, 3) := by decide +kernel
theorem dX12_type_104 : decode cX12_type 104 = .ok (.aload_n 0, 1) := by decide +kernel
theorem dX12_type_105 : decode cX12_type 105 = .ok (.bipush 40, 2) := by decide +kernel
theorem dX12_type_107 : decode cX12_type 107 = .ok (.invokevirtual 296, 3) := by decide +kernel
theorem dX12_type_110 : decode cX12_type 110 = .ok (.aload_n 0, 1) := by decide +kernel
theorem dX12_type_111 : decode cX12_type 111 = .ok (.getfield 48, 3) := by decide +kernel
theorem dX12_type_114 : decode cX12_type 114 = .ok (.iload 4, 2) := by decide +kernel
theorem dX12_type_116 : decode cX12_type 116 = .ok (.bipush (-41), 2) := by decide +kernel
theorem dX12_type_118 : decode cX12_type 118 = .ok (.iastore, 1) := by decide +kernel
theorem dX12_type_119 : decode cX12_type 119 = .ok (.aload_n 0, 1) := by decide +kernel
theorem dX12_type_120 : decode cX12_type 120 = .ok (.getfield 48, 3) := by decide +kernel
theorem dX12_type_123 : decode cX12_type 123 = .ok (.iload 4, 2) := by decide +kernel
theorem dX12_type_125 : decode cX12_type 125 = .ok (.iconst 1, 1) := by decide +kernel
theorem dX12_type_126 : decode cX12_type 126 = .ok (.iadd, 1) := by decide +kernel
theorem dX12_type_127 : decode cX12_type 127 = .ok (.aload_n 0, 1) := by decide +kernel
theorem dX12_type_128 : decode cX12_type 128 = .ok (.getfield 97, 3) := by decide +kernel
theorem dX12_type_131 : decode cX12_type 131 = .ok (.iload 5, 2) := by decide +kernel
theorem dX12_type_133 : decode cX12_type 133 = .ok (.iaload, 1) := by decide +kernel
theorem dX12_type_134 : decode cX12_type 134 = .ok (.iastore, 1) := by decide +kernel
theorem dX12_type_135 : decode cX12_type 135 = .ok (.aload_n 0, 1) := by decide +kernel
theorem dX12_type_136 : decode cX12_type 136 = .ok (.getfield 48, 3) := by decide +kernel
theorem dX12_type_139 : decode cX12_type 139 = .ok (.iload 4, 2) := by decide +kernel
theorem dX12_type_141 : decode cX12_type 141 = .ok (.iconst 2, 1) := by decide +kernel
theorem dX12_type_142 : decode cX12_type 142 = .ok (.iadd, 1) := by decide +kernel
theorem dX12_type_143 : decode cX12_type 143 = .ok (.aload_n 0, 1) := by decide +kernel
theorem dX12_type_144 : decode cX12_type 144 = .ok (.getfield 91, 3) := by decide +kernel
theorem dX12_type_147 : decode cX12_type 147 = .ok (.iload 5, 2) := by decide +kernel
theorem dX12_type_149 : decode cX12_type 149 = .ok (.iaload, 1) := by decide +kernel
theorem dX12_type_150 : decode cX12_type 150 = .ok (.iconst 2, 1) := by decide +kernel
theorem dX12_type_151 : decode cX12_type 151 = .ok (.if_icmp .ne 8, 3) := by decide +kernel
theorem dX12_type_154 : decode cX12_type 154 = .ok (.bipush (-43), 2) := by decide +kernel
theorem dX12_type_156 : decode cX12_type 156 = .ok (.goto 5, 3) := by decide +kernel
theorem dX12_type_159 : decode cX12_type 159 = .ok (.bipush (-42), 2) := by decide +kernel
theorem dX12_type_161 : decode cX12_type 161 = .ok (.iastore, 1) := by decide +kernel
theorem dX12_type_162 : decode cX12_type 162 = .ok (.aload_n 0, 1) := by decide +kernel
theorem dX12_type_163 : decode cX12_type 163 = .ok (.getfield 48, 3) := by decide +kernel
theorem dX12_type_166 : decode cX12_type 166 = .ok (.iload 4, 2) := by decide +kernel
theorem dX12_type_168 : decode cX12_type 168 = .ok (.iconst 3, 1) := by decide +kernel
theorem dX12_type_169 : decode cX12_type 169 = .ok (.iadd, 1) := by decide +kernel
theorem dX12_type_170 : decode cX12_type 170 = .ok (.aload_n 0, 1) := by decide +kernel
theorem dX12_type_171 : decode cX12_type 171 = .ok (.getfield 94, 3) := by decide +kernel
theorem dX12_type_174 : decode cX12_type 174 = .ok (.iload 5, 2) := by decide +kernel
theorem dX12_type_176 : decode cX12_type 176 = .ok (.iaload, 1) := by decide +kernel
theorem dX12_type_177 : decode cX12_type 177 = .ok (.iastore, 1) := by decide +kernel
theorem dX12_type_178 : decode cX12_type 178 = .ok (.iinc 4 4, 3) := by decide +kernel
theorem dX12_type_181 : decode cX12_type 181 = .ok (.goto (-129), 3) := by decide +kernel
theorem dX12_type_184 : decode cX12_type 184 = .ok (.aload_n 0, 1) := by decide +kernel
theorem dX12_type_185 : decode cX12_type 185 = .ok (.invokevirtual 568, 3) := by decide +kernel
theorem dX12_type_188 : decode cX12_type 188 = .ok (.ireturn, 1) := by decide +kernel
set_option maxRecDepth 100000 in
theorem ggX12_value_X12_typeAt : GoodIn wsX12_value wsX12_typeAt := goodIn_r _ [7, 1, 8, 9, 10, 11, 12, 13, 6, 14, 15, 64, 65, 66, 67, 68, 69, 70, 71, 72, 73, 74, 75, 76, 77, 78, 79, 80, 81, 82, 83, 84, 85, 86, 87, 88, 89, 90, 91, 92, 93, 94, 95, 96, 97, 98, 99, 100, 101, 102, 103, 104, 105, 106, 107, 108, 109, 110, 111, 112, 113, 114, 115, 116, 117, 118, 119, 120, 121, 122, 123, 124, 125, 126, 127, 128, 129, 130, 131, 132, 133, 134, 135, 136, 137, 138, 139, 140, 141, 142, 143, 144, 145, 146, 147, 148, 149, 150, 151, 152, 153, 154, 155, 156, 157] rfl rfl
set_option maxRecDepth 100000 in
theorem gX12_value_X12_typeAt : GoodIn wsX12_value (wsV RX12 564 RX12 yX12_typeAt wsX12_typeAt) := goodIn_app (goodIn_of _ (by decide +kernel)) ggX12_value_X12_typeAt
theorem dX12_value_0 : decode cX12_value 0 = .ok (.aload_n 0, 1) := by decide +kernel
theorem dX12_value_1 : decode cX12_value 1 = .ok (.iload_n 1, 1) := by decide +kernel
theorem dX12_value_2 : decode cX12_value 2 = .ok (.iload_n 2, 1) := by decide +kernel
theorem dX12_value_3 : decode cX12_value 3 = .ok (.invokevirtual 564, 3) := by decide +kernel
theorem dX12_value_6 : decode cX12_value 6 = .ok (.istore_n 3, 1) := by decide +kernel
theorem dX12_value_7 : decode cX12_value 7 = .ok (.aload_n 0, 1) := by decide +kernel
theorem dX12_value_8 : decode cX12_value 8 = .ok (.getfield 205, 3) := by decide +kernel
theorem dX12_value_11 : decode cX12_value 11 = .ok (.ifCond .le 5, 3) := by decide +kernel
theorem dX12_value_14 : decode cX12_value 14 = .ok (.iconst 0, 1) := by decide +kernel
theorem dX12_value_15 : decode cX12_value 15 = .ok (.ireturn, 1) := by decide +kernel
theorem dX12_value_16 : decode cX12_value 16 = .ok (.iload_n 3, 1) := by decide +kernel
theorem dX12_value_17 : decode cX12_value 17 = .ok (.ifCond .lt 23, 3) := by decide +kernel
theorem dX12_value_20 : decode cX12_value 20 = .ok (.aload_n 0, 1) := by decide +kernel
theorem dX12_value_21 : decode cX12_value 21 = .ok (.iload_n 3, 1) := by decide +kernel
theorem dX12_value_22 : decode cX12_value 22 = .ok (.ifCond .ge 7, 3) := by decide +kernel
theorem dX12_value_25 : decode cX12_value 25 = .ok (.iconst 0, 1) := by decide +kernel
theorem dX12_value_26 : decode cX12_value 26 = .ok (.goto 4, 3) := by decide +kernel
theorem dX12_value_29 : decode cX12_value 29 = .ok (.iload_n 3, 1) := by decide +kernel
theorem dX12_value_30 : decode cX12_value 30 = .ok (.invokevirtual 532, 3) := by decide +kernel
theorem dX12_value_33 : decode cX12_value 33 = .ok (.ifCond .eq 7, 3) := by decide +kernel
theorem dX12_value_36 : decode cX12_value 36 = .ok (.iconst 1, 1) := by decide +kernel
theorem dX12_value_37 : decode cX12_value 37 = .ok (.goto 4, 3) := by decide +kernel
theorem dX12_value_40 : decode cX12_value 40 = .ok (.iconst 0, 1) := by decide +kernel
theorem dX12_value_41 : decode cX12_value 41 = .ok (.istore 4, 2) := by decide +kernel
theorem dX12_value_43 : decode cX12_value 43 = .ok (.aload_n 0, 1) := by decide +kernel
theorem dX12_value_44 : decode cX12_value 44 = .ok (.iconst 0, 1) := by decide +kernel
theorem dX12_value_45 : decode cX12_value 45 = .ok (.putfield 215, 3) := by decide +kernel
theorem dX12_value_48 : decode cX12_value 48 = .ok (.iload_n 3, 1) := by decide +kernel
theorem dX12_value_49 : decode cX12_value 49 = .ok (.ifCond .ge 6, 3) := by decide +kernel
theorem dX12_value_52 : decode cX12_value 52 = .ok (.bipush (-2), 2) := by decide +kernel
theorem dX12_value_54 : decode cX12_value 54 = .ok (.ireturn, 1) := by decide +kernel
theorem dX12_value_55 : decode cX12_value 55 = .ok (.iload 4, 2) := by decide +kernel
theorem dX12_value_57 : decode cX12_value 57 = .ok (.ifCond .ne 6, 3) := by decide +kernel
theorem dX12_value_60 : decode cX12_value 60 = .ok (.bipush (-4), 2) := by decide +kernel
theorem dX12_value_62 : decode cX12_value 62 = .ok (.ireturn, 1) := by decide +kernel
theorem dX12_value_63 : decode cX12_value 63 = .ok (.aload_n 0, 1) := by decide +kernel
theorem dX12_value_64 : decode cX12_value 64 = .ok (.iload_n 3, 1) := by decide +kernel
theorem dX12_value_65 : decode cX12_value 65 = .ok (.invokevirtual 571, 3) := by decide +kernel
theorem dX12_value_68 : decode cX12_value 68 = .ok (.aload_n 0, 1) := by decide +kernel
theorem dX12_value_69 : decode cX12_value 69 = .ok (.invokevirtual 292, 3) := by decide +kernel
theorem dX12_value_72 : decode cX12_value 72 = .ok (.ifCond .eq 7, 3) := by decide +kernel
theorem dX12_value_75 : decode cX12_value 75 = .ok (.iconst (-1), 1) := by decide +kernel
theorem dX12_value_76 : decode cX12_value 76 = .ok (.goto 7, 3) := by decide +kernel
theorem dX12_value_79 : decode cX12_value 79 = .ok (.aload_n 0, 1) := by decide +kernel
theorem dX12_value_80 : decode cX12_value 80 = .ok (.invokevirtual 568, 3) := by decide +kernel
theorem dX12_value_83 : decode cX12_value 83 = .ok (.ireturn, 1) := by decide +kernel
set_option maxRecDepth 100000 in
theorem ggX12_worth_X12_typeAt : GoodIn wsX12_worth wsX12_typeAt := goodIn_r _ [8, 1, 9, 10, 11, 12, 13, 14, 7, 15, 16, 49, 50, 51, 52, 53, 54, 55, 56, 57, 58, 59, 60, 61, 62, 63, 64, 65, 66, 67, 68, 69, 70, 71, 72, 73, 74, 75, 76, 77, 78, 79, 80, 81, 82, 83, 84, 85, 86, 87, 88, 89, 90, 91, 92, 93, 94, 95, 96, 97, 98, 99, 100, 101, 102, 103, 104, 105, 106, 107, 108, 109, 110, 111, 112, 113, 114, 115, 116, 117, 118, 119, 120, 121, 122, 123, 124, 125, 126, 127, 128, 129, 130, 131, 132, 133, 134, 135, 136, 137, 138, 139, 140, 141, 142] rfl rfl
set_option maxRecDepth 100000 in
theorem gX12_worth_X12_typeAt : GoodIn wsX12_worth (wsV RX12 564 RX12 yX12_typeAt wsX12_typeAt) := goodIn_app (goodIn_of _ (by decide +kernel)) ggX12_worth_X12_typeAt
theorem dX12_worth_0 : decode cX12_worth 0 = .ok (.aload_n 0, 1) := by decide +kernel
theorem dX12_worth_1 : decode cX12_worth 1 = .ok (.iload_n 1, 1) := by decide +kernel
theorem dX12_worth_2 : decode cX12_worth 2 = .ok (.iload_n 2, 1) := by decide +kernel
theorem dX12_worth_3 : decode cX12_worth 3 = .ok (.invokevirtual 564, 3) := by decide +kernel
theorem dX12_worth_6 : decode cX12_worth 6 = .ok (.istore_n 3, 1) := by decide +kernel
theorem dX12_worth_7 : decode cX12_worth 7 = .ok (.aload_n 0, 1) := by decide +kernel
theorem dX12_worth_8 : decode cX12_worth 8 = .ok (.getfield 205, 3) := by decide +kernel
theorem dX12_worth_11 : decode cX12_worth 11 = .ok (.ifCond .le 5, 3) := by decide +kernel
theorem dX12_worth_14 : decode cX12_worth 14 = .ok (.iconst 0, 1) := by decide +kernel
theorem dX12_worth_15 : decode cX12_worth 15 = .ok (.ireturn, 1) := by decide +kernel
theorem dX12_worth_16 : decode cX12_worth 16 = .ok (.iload_n 3, 1) := by decide +kernel
theorem dX12_worth_17 : decode cX12_worth 17 = .ok (.ifCond .lt 23, 3) := by decide +kernel
theorem dX12_worth_20 : decode cX12_worth 20 = .ok (.aload_n 0, 1) := by decide +kernel
theorem dX12_worth_21 : decode cX12_worth 21 = .ok (.iload_n 3, 1) := by decide +kernel
theorem dX12_worth_22 : decode cX12_worth 22 = .ok (.ifCond .ge 7, 3) := by decide +kernel
theorem dX12_worth_25 : decode cX12_worth 25 = .ok (.iconst 0, 1) := by decide +kernel
theorem dX12_worth_26 : decode cX12_worth 26 = .ok (.goto 4, 3) := by decide +kernel
theorem dX12_worth_29 : decode cX12_worth 29 = .ok (.iload_n 3, 1) := by decide +kernel
theorem dX12_worth_30 : decode cX12_worth 30 = .ok (.invokevirtual 574, 3) := by decide +kernel
theorem dX12_worth_33 : decode cX12_worth 33 = .ok (.ifCond .eq 7, 3) := by decide +kernel
theorem dX12_worth_36 : decode cX12_worth 36 = .ok (.iconst 1, 1) := by decide +kernel
theorem dX12_worth_37 : decode cX12_worth 37 = .ok (.goto 4, 3) := by decide +kernel
theorem dX12_worth_40 : decode cX12_worth 40 = .ok (.iconst 0, 1) := by decide +kernel
theorem dX12_worth_41 : decode cX12_worth 41 = .ok (.istore 4, 2) := by decide +kernel
theorem dX12_worth_43 : decode cX12_worth 43 = .ok (.aload_n 0, 1) := by decide +kernel
theorem dX12_worth_44 : decode cX12_worth 44 = .ok (.iconst 0, 1) := by decide +kernel
theorem dX12_worth_45 : decode cX12_worth 45 = .ok (.putfield 215, 3) := by decide +kernel
theorem dX12_worth_48 : decode cX12_worth 48 = .ok (.iload_n 3, 1) := by decide +kernel
theorem dX12_worth_49 : decode cX12_worth 49 = .ok (.ifCond .ge 6, 3) := by decide +kernel
theorem dX12_worth_52 : decode cX12_worth 52 = .ok (.bipush (-2), 2) := by decide +kernel
theorem dX12_worth_54 : decode cX12_worth 54 = .ok (.ireturn, 1) := by decide +kernel
theorem dX12_worth_55 : decode cX12_worth 55 = .ok (.iload 4, 2) := by decide +kernel
theorem dX12_worth_57 : decode cX12_worth 57 = .ok (.ifCond .eq 17, 3) := by decide +kernel
theorem dX12_worth_60 : decode cX12_worth 60 = .ok (.aload_n 0, 1) := by decide +kernel
theorem dX12_worth_61 : decode cX12_worth 61 = .ok (.iconst 0, 1) := by decide +kernel
theorem dX12_worth_62 : decode cX12_worth 62 = .ok (.aload_n 0, 1) := by decide +kernel
theorem dX12_worth_63 : decode cX12_worth 63 = .ok (.getfield 100, 3) := by decide +kernel
theorem dX12_worth_66 : decode cX12_worth 66 = .ok (.iload_n 3, 1) := by decide +kernel
theorem dX12_worth_67 : decode cX12_worth 67 = .ok (.iaload, 1) := by decide +kernel
theorem dX12_worth_68 : decode cX12_worth 68 = .ok (.invokevirtual 558, 3) := by decide +kernel
theorem dX12_worth_71 : decode cX12_worth 71 = .ok (.goto 5, 3) := by decide +kernel
theorem dX12_worth_74 : decode cX12_worth 74 = .ok (.bipush (-4), 2) := by decide +kernel
theorem dX12_worth_76 : decode cX12_worth 76 = .ok (.ireturn, 1) := by decide +kernel
set_option maxRecDepth 100000 in
theorem ggX12_look_X12_within : GoodIn wsX12_look wsX12_within := goodIn_r _ [18] (by decide +kernel) (by decide +kernel)
set_option maxRecDepth 100000 in
theorem gX12_look_X12_within : GoodIn wsX12_look (va_wsS RX12 211 yX12_within wsX12_within) := goodIn_app (goodIn_of _ (by decide +kernel)) ggX12_look_X12_within
theorem dX12_look_0 : decode cX12_look 0 = .ok (.aload_n 0, 1) := by decide +kernel
theorem dX12_look_1 : decode cX12_look 1 = .ok (.iload_n 1, 1) := by decide +kernel
theorem dX12_look_2 : decode cX12_look 2 = .ok (.iconst 0, 1) := by decide +kernel
theorem dX12_look_3 : decode cX12_look 3 = .ok (.bipush 14, 2) := by decide +kernel
theorem dX12_look_5 : decode cX12_look 5 = .ok (.invokestatic 211, 3) := by decide +kernel
theorem dX12_look_8 : decode cX12_look 8 = .ok (.ifCond .eq 7, 3) := by decide +kernel
theorem dX12_look_11 : decode cX12_look 11 = .ok (.iconst 0, 1) := by decide +kernel
theorem dX12_look_12 : decode cX12_look 12 = .ok (.goto 4, 3) := by decide +kernel
theorem dX12_look_15 : decode cX12_look 15 = .ok (.iconst 1, 1) := by decide +kernel
theorem dX12_look_16 : decode cX12_look 16 = .ok (.putfield 205, 3) := by decide +kernel
theorem dX12_look_19 : decode cX12_look 19 = .ok (.aload_n 0, 1) := by decide +kernel
theorem dX12_look_20 : decode cX12_look 20 = .ok (.getfield 205, 3) := by decide +kernel
theorem dX12_look_23 : decode cX12_look 23 = .ok (.ifCond .le 5, 3) := by decide +kernel
theorem dX12_look_26 : decode cX12_look 26 = .ok (.iconst 0, 1) := by decide +kernel
theorem dX12_look_27 : decode cX12_look 27 = .ok (.ireturn, 1) := by decide +kernel
theorem dX12_look_28 : decode cX12_look 28 = .ok (.aload_n 0, 1) := by decide +kernel
theorem dX12_look_29 : decode cX12_look 29 = .ok (.getfield 378, 3) := by decide +kernel
theorem dX12_look_32 : decode cX12_look 32 = .ok (.iconst 1, 1) := by decide +kernel
theorem dX12_look_33 : decode cX12_look 33 = .ok (.isub, 1) := by decide +kernel
theorem dX12_look_34 : decode cX12_look 34 = .ok (.istore_n 2, 1) := by decide +kernel
theorem dX12_look_35 : decode cX12_look 35 = .ok (.iload_n 1, 1) := by decide +kernel
theorem dX12_look_36 : decode cX12_look 36 = .ok (.tableswitch 216 0 13 #[72, 77, 94, 111, 128, 154, 173, 178, 183, 188, 193, 198, 204, 210], 72) := by decide +kernel
theorem dX12_look_108 : decode cX12_look 108 = .ok (.aload_n 0, 1) := by decide +kernel
theorem dX12_look_109 : decode cX12_look 109 = .ok (.getfield 378, 3) := by decide +kernel
theorem dX12_look_112 : decode cX12_look 112 = .ok (.ireturn, 1) := by decide +kernel
theorem dX12_look_113 : decode cX12_look 113 = .ok (.aload_n 0, 1) := by decide +kernel
theorem dX12_look_114 : decode cX12_look 114 = .ok (.getfield 378, 3) := by decide +kernel
theorem dX12_look_117 : decode cX12_look 117 = .ok (.ifCond .le 11, 3) := by decide +kernel
theorem dX12_look_120 : decode cX12_look 120 = .ok (.aload_n 0, 1) := by decide +kernel
theorem dX12_look_121 : decode cX12_look 121 = .ok (.iload_n 2, 1) := by decide +kernel
theorem dX12_look_122 : decode cX12_look 122 = .ok (.invokevirtual 403, 3) := by decide +kernel
theorem dX12_look_125 : decode cX12_look 125 = .ok (.goto 4, 3) := by decide +kernel
theorem dX12_look_128 : decode cX12_look 128 = .ok (.iconst 0, 1) := by decide +kernel
theorem dX12_look_129 : decode cX12_look 129 = .ok (.ireturn, 1) := by decide +kernel
theorem dX12_look_130 : decode cX12_look 130 = .ok (.aload_n 0, 1) := by decide +kernel
theorem dX12_look_131 : decode cX12_look 131 = .ok (.getfield 378, 3) := by decide +kernel
theorem dX12_look_134 : decode cX12_look 134 = .ok (.ifCond .le 11, 3) := by decide +kernel
theorem dX12_look_137 : decode cX12_look 137 = .ok (.aload_n 0, 1) := by decide +kernel
theorem dX12_look_138 : decode cX12_look 138 = .ok (.iload_n 2, 1) := by decide +kernel
theorem dX12_look_139 : decode cX12_look 139 = .ok (.invokevirtual 400, 3) := by decide +kernel
theorem dX12_look_142 : decode cX12_look 142 = .ok (.goto 4, 3) := by decide +kernel
theorem dX12_look_145 : decode cX12_look 145 = .ok (.iconst 0, 1) := by decide +kernel
theorem dX12_look_146 : decode cX12_look 146 = .ok (.ireturn, 1) := by decide +kernel
theorem dX12_look_147 : decode cX12_look 147 = .ok (.aload_n 0, 1) := by decide +kernel
theorem dX12_look_148 : decode cX12_look 148 = .ok (.getfield 378, 3) := by decide +kernel
theorem dX12_look_151 : decode cX12_look 151 = .ok (.ifCond .le 11, 3) := by decide +kernel
theorem dX12_look_154 : decode cX12_look 154 = .ok (.aload_n 0, 1) := by decide +kernel
theorem dX12_look_155 : decode cX12_look 155 = .ok (.invokevirtual 537, 3) := by decide +kernel
theorem dX12_look_158 : decode cX12_look 158 = .ok (.l2i, 1) := by decide +kernel
theorem dX12_look_159 : decode cX12_look 159 = .ok (.goto 4, 3) := by decide +kernel
theorem dX12_look_162 : decode cX12_look 162 = .ok (.iconst 0, 1) := by decide +kernel
theorem dX12_look_163 : decode cX12_look 163 = .ok (.ireturn, 1) := by decide +kernel
theorem dX12_look_164 : decode cX12_look 164 = .ok (.aload_n 0, 1) := by decide +kernel
theorem dX12_look_165 : decode cX12_look 165 = .ok (.getfield 378, 3) := by decide +kernel
theorem dX12_look_168 : decode cX12_look 168 = .ok (.ifCond .le 20, 3) := by decide +kernel
theorem dX12_look_171 : decode cX12_look 171 = .ok (.aload_n 0, 1) := by decide +kernel
theorem dX12_look_172 : decode cX12_look 172 = .ok (.getfield 82, 3) := by decide +kernel
theorem dX12_look_175 : decode cX12_look 175 = .ok (.iload_n 2, 1) := by decide +kernel
theorem dX12_look_176 : decode cX12_look 176 = .ok (.laload, 1) := by decide +kernel
theorem dX12_look_177 : decode cX12_look 177 = .ok (.ldc2_w 550, 3) := by decide +kernel
theorem dX12_look_180 : decode cX12_look 180 = .ok (.ladd, 1) := by decide +kernel
theorem dX12_look_181 : decode cX12_look 181 = .ok (.invokestatic 406, 3) := by decide +kernel
theorem dX12_look_184 : decode cX12_look 184 = .ok (.l2i, 1) := by decide +kernel
theorem dX12_look_185 : decode cX12_look 185 = .ok (.goto 4, 3) := by decide +kernel
theorem dX12_look_188 : decode cX12_look 188 = .ok (.iconst 0, 1) := by decide +kernel
theorem dX12_look_189 : decode cX12_look 189 = .ok (.ireturn, 1) := by decide +kernel
theorem dX12_look_190 : decode cX12_look 190 = .ok (.aload_n 0, 1) := by decide +kernel
theorem dX12_look_191 : decode cX12_look 191 = .ok (.getfield 378, 3) := by decide +kernel
theorem dX12_look_194 : decode cX12_look 194 = .ok (.ifCond .le 13, 3) := by decide +kernel
theorem dX12_look_197 : decode cX12_look 197 = .ok (.aload_n 0, 1) := by decide +kernel
theorem dX12_look_198 : decode cX12_look 198 = .ok (.getfield 85, 3) := by decide +kernel
theorem dX12_look_201 : decode cX12_look 201 = .ok (.iload_n 2, 1) := by decide +kernel
theorem dX12_look_202 : decode cX12_look 202 = .ok (.laload, 1) := by decide +kernel
theorem dX12_look_203 : decode cX12_look 203 = .ok (.l2i, 1) := by decide +kernel
theorem dX12_look_204 : decode cX12_look 204 = .ok (.goto 4, 3) := by decide +kernel
theorem dX12_look_207 : decode cX12_look 207 = .ok (.iconst 0, 1) := by decide +kernel
theorem dX12_look_208 : decode cX12_look 208 = .ok (.ireturn, 1) := by decide +kernel
theorem dX12_look_209 : decode cX12_look 209 = .ok (.aload_n 0, 1) := by decide +kernel
theorem dX12_look_210 : decode cX12_look 210 = .ok (.getfield 357, 3) := by decide +kernel
theorem dX12_look_213 : decode cX12_look 213 = .ok (.ireturn, 1) := by decide +kernel
theorem dX12_look_214 : decode cX12_look 214 = .ok (.aload_n 0, 1) := by decide +kernel
theorem dX12_look_215 : decode cX12_look 215 = .ok (.getfield 215, 3) := by decide +kernel
theorem dX12_look_218 : decode cX12_look 218 = .ok (.ireturn, 1) := by decide +kernel
theorem dX12_look_219 : decode cX12_look 219 = .ok (.aload_n 0, 1) := by decide +kernel
theorem dX12_look_220 : decode cX12_look 220 = .ok (.getfield 220, 3) := by decide +kernel
theorem dX12_look_223 : decode cX12_look 223 = .ok (.ireturn, 1) := by decide +kernel
theorem dX12_look_224 : decode cX12_look 224 = .ok (.aload_n 0, 1) := by decide +kernel
theorem dX12_look_225 : decode cX12_look 225 = .ok (.getfield 413, 3) := by decide +kernel
theorem dX12_look_228 : decode cX12_look 228 = .ok (.ireturn, 1) := by decide +kernel
theorem dX12_look_229 : decode cX12_look 229 = .ok (.aload_n 0, 1) := by decide +kernel
theorem dX12_look_230 : decode cX12_look 230 = .ok (.getfield 544, 3) := by decide +kernel
theorem dX12_look_233 : decode cX12_look 233 = .ok (.ireturn, 1) := by decide +kernel
theorem dX12_look_234 : decode cX12_look 234 = .ok (.aload_n 0, 1) := by decide +kernel
theorem dX12_look_235 : decode cX12_look 235 = .ok (.getfield 547, 3) := by decide +kernel
theorem dX12_look_238 : decode cX12_look 238 = .ok (.l2i, 1) := by decide +kernel
theorem dX12_look_239 : decode cX12_look 239 = .ok (.ireturn, 1) := by decide +kernel
theorem dX12_look_240 : decode cX12_look 240 = .ok (.aload_n 0, 1) := by decide +kernel
theorem dX12_look_241 : decode cX12_look 241 = .ok (.getfield 552, 3) := by decide +kernel
theorem dX12_look_244 : decode cX12_look 244 = .ok (.l2i, 1) := by decide +kernel
theorem dX12_look_245 : decode cX12_look 245 = .ok (.ireturn, 1) := by decide +kernel
theorem dX12_look_246 : decode cX12_look 246 = .ok (.aload_n 0, 1) := by decide +kernel
theorem dX12_look_247 : decode cX12_look 247 = .ok (.getfield 555, 3) := by decide +kernel
theorem dX12_look_250 : decode cX12_look 250 = .ok (.l2i, 1) := by decide +kernel
theorem dX12_look_251 : decode cX12_look 251 = .ok (.ireturn, 1) := by decide +kernel
theorem dX12_look_252 : decode cX12_look 252 = .ok (.aload_n 0, 1) := by decide +kernel
theorem dX12_look_253 : decode cX12_look 253 = .ok (.getfield 577, 3) := by decide +kernel
theorem dX12_look_256 : decode cX12_look 256 = .ok (.ireturn, 1) := by decide +kernel
theorem dX12_speak_0 : decode cX12_speak 0 = .ok (.aload_n 0, 1) := by decide +kernel
theorem dX12_speak_1 : decode cX12_speak 1 = .ok (.aload_n 0, 1) := by decide +kernel
theorem dX12_speak_2 : decode cX12_speak 2 = .ok (.getfield 378, 3) := by decide +kernel
theorem dX12_speak_5 : decode cX12_speak 5 = .ok (.ifCond .le 7, 3) := by decide +kernel
theorem dX12_speak_8 : decode cX12_speak 8 = .ok (.iconst 0, 1) := by decide +kernel
theorem dX12_speak_9 : decode cX12_speak 9 = .ok (.goto 4, 3) := by decide +kernel
theorem dX12_speak_12 : decode cX12_speak 12 = .ok (.iconst 1, 1) := by decide +kernel
theorem dX12_speak_13 : decode cX12_speak 13 = .ok (.putfield 205, 3) := by decide +kernel
theorem dX12_speak_16 : decode cX12_speak 16 = .ok (.aload_n 0, 1) := by decide +kernel
theorem dX12_speak_17 : decode cX12_speak 17 = .ok (.getfield 205, 3) := by decide +kernel
theorem dX12_speak_20 : decode cX12_speak 20 = .ok (.ifCond .le 5, 3) := by decide +kernel
theorem dX12_speak_23 : decode cX12_speak 23 = .ok (.iconst 0, 1) := by decide +kernel
theorem dX12_speak_24 : decode cX12_speak 24 = .ok (.ireturn, 1) := by decide +kernel
theorem dX12_speak_25 : decode cX12_speak 25 = .ok (.aload_n 0, 1) := by decide +kernel
theorem dX12_speak_26 : decode cX12_speak 26 = .ok (.iconst 0, 1) := by decide +kernel
theorem dX12_speak_27 : decode cX12_speak 27 = .ok (.putfield 289, 3) := by decide +kernel
theorem dX12_speak_30 : decode cX12_speak 30 = .ok (.iconst 0, 1) := by decide +kernel
theorem dX12_speak_31 : decode cX12_speak 31 = .ok (.istore_n 1, 1) := by decide +kernel
theorem dX12_speak_32 : decode cX12_speak 32 = .ok (.iload_n 1, 1) := by decide +kernel
theorem dX12_speak_33 : decode cX12_speak 33 = .ok (.aload_n 0, 1) := by decide +kernel
theorem dX12_speak_34 : decode cX12_speak 34 = .ok (.getfield 378, 3) := by decide +kernel
theorem dX12_speak_37 : decode cX12_speak 37 = .ok (.if_icmp .ge 21, 3) := by decide +kernel
theorem dX12_speak_40 : decode cX12_speak 40 = .ok (.aload_n 0, 1) := by decide +kernel
theorem dX12_speak_41 : decode cX12_speak 41 = .ok (.invokevirtual 292, 3) := by decide +kernel
theorem dX12_speak_44 : decode cX12_speak 44 = .ok (.ifCond .ne 14, 3) := by decide +kernel
theorem dX12_speak_47 : decode cX12_speak 47 = .ok (.aload_n 0, 1) := by decide +kernel
theorem dX12_speak_48 : decode cX12_speak 48 = .ok (.iload_n 1, 1) := by decide +kernel
theorem dX12_speak_49 : decode cX12_speak 49 = .ok (.invokevirtual 589, 3) := by decide +kernel
theorem dX12_speak_52 : decode cX12_speak 52 = .ok (.iinc 1 1, 3) := by decide +kernel
theorem dX12_speak_55 : decode cX12_speak 55 = .ok (.goto (-23), 3) := by decide +kernel
theorem dX12_speak_58 : decode cX12_speak 58 = .ok (.aload_n 0, 1) := by decide +kernel
theorem dX12_speak_59 : decode cX12_speak 59 = .ok (.invokevirtual 292, 3) := by decide +kernel
theorem dX12_speak_62 : decode cX12_speak 62 = .ok (.ifCond .eq 7, 3) := by decide +kernel
theorem dX12_speak_65 : decode cX12_speak 65 = .ok (.iconst (-1), 1) := by decide +kernel
theorem dX12_speak_66 : decode cX12_speak 66 = .ok (.goto 7, 3) := by decide +kernel
theorem dX12_speak_69 : decode cX12_speak 69 = .ok (.aload_n 0, 1) := by decide +kernel
theorem dX12_speak_70 : decode cX12_speak 70 = .ok (.invokevirtual 568, 3) := by decide +kernel
theorem dX12_speak_73 : decode cX12_speak 73 = .ok (.ireturn, 1) := by decide +kernel
theorem dX12_wrong_0 : decode cX12_wrong 0 = .ok (.aload_n 0, 1) := by decide +kernel
theorem dX12_wrong_1 : decode cX12_wrong 1 = .ok (.getfield 592, 3) := by decide +kernel
theorem dX12_wrong_4 : decode cX12_wrong 4 = .ok (.ifCond .ne 13, 3) := by decide +kernel
theorem dX12_wrong_7 : decode cX12_wrong 7 = .ok (.aload_n 0, 1) := by decide +kernel
theorem dX12_wrong_8 : decode cX12_wrong 8 = .ok (.iload_n 1, 1) := by decide +kernel
theorem dX12_wrong_9 : decode cX12_wrong 9 = .ok (.putfield 592, 3) := by decide +kernel
theorem dX12_wrong_12 : decode cX12_wrong 12 = .ok (.aload_n 0, 1) := by decide +kernel
theorem dX12_wrong_13 : decode cX12_wrong 13 = .ok (.iload_n 2, 1) := by decide +kernel
theorem dX12_wrong_14 : decode cX12_wrong 14 = .ok (.putfield 577, 3) := by decide +kernel
theorem dX12_wrong_17 : decode cX12_wrong 17 = .ok (.iconst (-1), 1) := by decide +kernel
theorem dX12_wrong_18 : decode cX12_wrong 18 = .ok (.ireturn, 1) := by decide +kernel
set_option maxRecDepth 100000 in
theorem ggX12_nextWord_X12_within : GoodIn wsX12_nextWord wsX12_within := goodIn_r _ [9] (by decide +kernel) (by decide +kernel)
set_option maxRecDepth 100000 in
theorem gX12_nextWord_X12_within : GoodIn wsX12_nextWord (va_wsS RX12 211 yX12_within wsX12_within) := goodIn_app (goodIn_of _ (by decide +kernel)) ggX12_nextWord_X12_within
set_option maxRecDepth 100000 in
theorem ggX12_nextWord_X12_wrong : GoodIn wsX12_nextWord wsX12_wrong := goodIn_r _ [13, 14, 15, 19, 20, 21, 22, 23, 24, 25, 26, 27, 28, 29, 30, 31, 32, 33, 34, 35, 36, 37, 38, 39, 40, 41, 42, 43, 44, 45, 46, 47, 48, 49, 50, 51, 52, 53, 54, 55, 56, 57, 58, 59, 60, 61, 62, 63, 64, 65, 66, 67, 68, 69, 70, 71, 72, 73, 74, 75, 76, 77, 78, 79, 80, 81, 82, 83, 84, 85, 86, 87, 88, 89, 90, 91, 92, 93, 94, 95, 96, 97, 98, 99, 100, 101, 102, 103, 104, 105, 106, 107, 108, 109, 110, 111, 112] rfl rfl
set_option maxRecDepth 100000 in
theorem gX12_nextWord_X12_wrong : GoodIn wsX12_nextWord (wsV RX12 604 RX12 yX12_wrong wsX12_wrong) := goodIn_app (goodIn_of _ (by decide +kernel)) ggX12_nextWord_X12_wrong
theorem dX12_nextWord_0 : decode cX12_nextWord 0 = .ok (.aload_n 0, 1) := by decide +kernel
theorem dX12_nextWord_1 : decode cX12_nextWord 1 = .ok (.getfield 595, 3) := by decide +kernel
theorem dX12_nextWord_4 : decode cX12_nextWord 4 = .ok (.aload_n 0, 1) := by decide +kernel
theorem dX12_nextWord_5 : decode cX12_nextWord 5 = .ok (.getfield 215, 3) := by decide +kernel
theorem dX12_nextWord_8 : decode cX12_nextWord 8 = .ok (.if_icmp .ge 44, 3) := by decide +kernel
theorem dX12_nextWord_11 : decode cX12_nextWord 11 = .ok (.aload_n 0, 1) := by decide +kernel
theorem dX12_nextWord_12 : decode cX12_nextWord 12 = .ok (.getfield 7, 3) := by decide +kernel
theorem dX12_nextWord_15 : decode cX12_nextWord 15 = .ok (.aload_n 0, 1) := by decide +kernel
theorem dX12_nextWord_16 : decode cX12_nextWord 16 = .ok (.getfield 595, 3) := by decide +kernel
theorem dX12_nextWord_19 : decode cX12_nextWord 19 = .ok (.iaload, 1) := by decide +kernel
theorem dX12_nextWord_20 : decode cX12_nextWord 20 = .ok (.bipush 10, 2) := by decide +kernel
theorem dX12_nextWord_22 : decode cX12_nextWord 22 = .ok (.if_icmp .eq 17, 3) := by decide +kernel
theorem dX12_nextWord_25 : decode cX12_nextWord 25 = .ok (.aload_n 0, 1) := by decide +kernel
theorem dX12_nextWord_26 : decode cX12_nextWord 26 = .ok (.getfield 7, 3) := by decide +kernel
theorem dX12_nextWord_29 : decode cX12_nextWord 29 = .ok (.aload_n 0, 1) := by decide +kernel
theorem dX12_nextWord_30 : decode cX12_nextWord 30 = .ok (.getfield 595, 3) := by decide +kernel
theorem dX12_nextWord_33 : decode cX12_nextWord 33 = .ok (.iaload, 1) := by decide +kernel
theorem dX12_nextWord_34 : decode cX12_nextWord 34 = .ok (.bipush 32, 2) := by decide +kernel
theorem dX12_nextWord_36 : decode cX12_nextWord 36 = .ok (.if_icmp .ne 16, 3) := by decide +kernel
theorem dX12_nextWord_39 : decode cX12_nextWord 39 = .ok (.aload_n 0, 1) := by decide +kernel
theorem dX12_nextWord_40 : decode cX12_nextWord 40 = .ok (.dup, 1) := by decide +kernel
theorem dX12_nextWord_41 : decode cX12_nextWord 41 = .ok (.getfield 595, 3) := by decide +kernel
theorem dX12_nextWord_44 : decode cX12_nextWord 44 = .ok (.iconst 1, 1) := by decide +kernel
theorem dX12_nextWord_45 : decode cX12_nextWord 45 = .ok (.iadd, 1) := by decide +kernel
theorem dX12_nextWord_46 : decode cX12_nextWord 46 = .ok (.putfield 595, 3) := by decide +kernel
theorem dX12_nextWord_49 : decode cX12_nextWord 49 = .ok (.goto (-49), 3) := by decide +kernel
theorem dX12_nextWord_52 : decode cX12_nextWord 52 = .ok (.aload_n 0, 1) := by decide +kernel
theorem dX12_nextWord_53 : decode cX12_nextWord 53 = .ok (.aload_n 0, 1) := by decide +kernel
theorem dX12_nextWord_54 : decode cX12_nextWord 54 = .ok (.getfield 595, 3) := by decide +kernel
theorem dX12_nextWord_57 : decode cX12_nextWord 57 = .ok (.putfield 598, 3) := by decide +kernel
theorem dX12_nextWord_60 : decode cX12_nextWord 60 = .ok (.aload_n 0, 1) := by decide +kernel
theorem dX12_nextWord_61 : decode cX12_nextWord 61 = .ok (.iconst 0, 1) := by decide +kernel
theorem dX12_nextWord_62 : decode cX12_nextWord 62 = .ok (.putfield 601, 3) := by decide +kernel
theorem dX12_nextWord_65 : decode cX12_nextWord 65 = .ok (.aload_n 0, 1) := by decide +kernel
theorem dX12_nextWord_66 : decode cX12_nextWord 66 = .ok (.getfield 595, 3) := by decide +kernel
theorem dX12_nextWord_69 : decode cX12_nextWord 69 = .ok (.aload_n 0, 1) := by decide +kernel
theorem dX12_nextWord_70 : decode cX12_nextWord 70 = .ok (.getfield 215, 3) := by decide +kernel
theorem dX12_nextWord_73 : decode cX12_nextWord 73 = .ok (.if_icmp .ne 4, 3) := by decide +kernel
theorem dX12_nextWord_76 : decode cX12_nextWord 76 = .ok (.return_, 1) := by decide +kernel
theorem dX12_nextWord_77 : decode cX12_nextWord 77 = .ok (.aload_n 0, 1) := by decide +kernel
theorem dX12_nextWord_78 : decode cX12_nextWord 78 = .ok (.getfield 7, 3) := by decide +kernel
theorem dX12_nextWord_81 : decode cX12_nextWord 81 = .ok (.aload_n 0, 1) := by decide +kernel
theorem dX12_nextWord_82 : decode cX12_nextWord 82 = .ok (.getfield 595, 3) := by decide +kernel
theorem dX12_nextWord_85 : decode cX12_nextWord 85 = .ok (.iaload, 1) := by decide +kernel
theorem dX12_nextWord_86 : decode cX12_nextWord 86 = .ok (.istore_n 1, 1) := by decide +kernel
theorem dX12_nextWord_87 : decode cX12_nextWord 87 = .ok (.iload_n 1, 1) := by decide +kernel
theorem dX12_nextWord_88 : decode cX12_nextWord 88 = .ok (.bipush 33, 2) := by decide +kernel
theorem dX12_nextWord_90 : decode cX12_nextWord 90 = .ok (.bipush 126, 2) := by decide +kernel
theorem dX12_nextWord_92 : decode cX12_nextWord 92 = .ok (.invokestatic 211, 3) := by decide +kernel
theorem dX12_nextWord_95 : decode cX12_nextWord 95 = .ok (.ifCond .ne 14, 3) := by decide +kernel
theorem dX12_nextWord_98 : decode cX12_nextWord 98 = .ok (.aload_n 0, 1) := by decide +kernel
theorem dX12_nextWord_99 : decode cX12_nextWord 99 = .ok (.iconst 1, 1) := by decide +kernel
theorem dX12_nextWord_100 : decode cX12_nextWord 100 = .ok (.aload_n 0, 1) := by decide +kernel
theorem dX12_nextWord_101 : decode cX12_nextWord 101 = .ok (.getfield 595, 3) := by decide +kernel
theorem dX12_nextWord_104 : decode cX12_nextWord 104 = .ok (.invokevirtual 604, 3) := by decide +kernel
theorem dX12_nextWord_107 : decode cX12_nextWord 107 = .ok (.istore_n 2, 1) := by decide +kernel
theorem dX12_nextWord_108 : decode cX12_nextWord 108 = .ok (.return_, 1) := by decide +kernel
theorem dX12_nextWord_109 : decode cX12_nextWord 109 = .ok (.aload_n 0, 1) := by decide +kernel
theorem dX12_nextWord_110 : decode cX12_nextWord 110 = .ok (.dup, 1) := by decide +kernel
theorem dX12_nextWord_111 : decode cX12_nextWord 111 = .ok (.getfield 595, 3) := by decide +kernel
theorem dX12_nextWord_114 : decode cX12_nextWord 114 = .ok (.iconst 1, 1) := by decide +kernel
theorem dX12_nextWord_115 : decode cX12_nextWord 115 = .ok (.iadd, 1) := by decide +kernel
theorem dX12_nextWord_116 : decode cX12_nextWord 116 = .ok (.putfield 595, 3) := by decide +kernel
theorem dX12_nextWord_119 : decode cX12_nextWord 119 = .ok (.aload_n 0, 1) := by decide +kernel
theorem dX12_nextWord_120 : decode cX12_nextWord 120 = .ok (.iload_n 1, 1) := by decide +kernel
theorem dX12_nextWord_121 : decode cX12_nextWord 121 = .ok (.bipush 61, 2) := by decide +kernel
theorem dX12_nextWord_123 : decode cX12_nextWord 123 = .ok (.if_icmp .ne 7, 3) := by decide +kernel
theorem dX12_nextWord_126 : decode cX12_nextWord 126 = .ok (.iconst 1, 1) := by decide +kernel
theorem dX12_nextWord_127 : decode cX12_nextWord 127 = .ok (.goto 24, 3) := by decide +kernel
theorem dX12_nextWord_130 : decode cX12_nextWord 130 = .ok (.iload_n 1, 1) := by decide +kernel
theorem dX12_nextWord_131 : decode cX12_nextWord 131 = .ok (.bipush 40, 2) := by decide +kernel
theorem dX12_nextWord_133 : decode cX12_nextWord 133 = .ok (.if_icmp .ne 7, 3) := by decide +kernel
theorem dX12_nextWord_136 : decode cX12_nextWord 136 = .ok (.iconst 2, 1) := by decide +kernel
theorem dX12_nextWord_137 : decode cX12_nextWord 137 = .ok (.goto 14, 3) := by decide +kernel
theorem dX12_nextWord_140 : decode cX12_nextWord 140 = .ok (.iload_n 1, 1) := by decide +kernel
theorem dX12_nextWord_141 : decode cX12_nextWord 141 = .ok (.bipush 41, 2) := by decide +kernel
theorem dX12_nextWord_143 : decode cX12_nextWord 143 = .ok (.if_icmp .ne 7, 3) := by decide +kernel
theorem dX12_nextWord_146 : decode cX12_nextWord 146 = .ok (.iconst 3, 1) := by decide +kernel
theorem dX12_nextWord_147 : decode cX12_nextWord 147 = .ok (.goto 4, 3) := by decide +kernel
theorem dX12_nextWord_150 : decode cX12_nextWord 150 = .ok (.iconst 4, 1) := by decide +kernel
theorem dX12_nextWord_151 : decode cX12_nextWord 151 = .ok (.putfield 601, 3) := by decide +kernel
theorem dX12_nextWord_154 : decode cX12_nextWord 154 = .ok (.aload_n 0, 1) := by decide +kernel
theorem dX12_nextWord_155 : decode cX12_nextWord 155 = .ok (.getfield 601, 3) := by decide +kernel
theorem dX12_nextWord_158 : decode cX12_nextWord 158 = .ok (.iconst 4, 1) := by decide +kernel
theorem dX12_nextWord_159 : decode cX12_nextWord 159 = .ok (.if_icmp .ne 42, 3) := by decide +kernel
theorem dX12_nextWord_162 : decode cX12_nextWord 162 = .ok (.aload_n 0, 1) := by decide +kernel
theorem dX12_nextWord_163 : decode cX12_nextWord 163 = .ok (.getfield 595, 3) := by decide +kernel
theorem dX12_nextWord_166 : decode cX12_nextWord 166 = .ok (.aload_n 0, 1) := by decide +kernel
theorem dX12_nextWord_167 : decode cX12_nextWord 167 = .ok (.getfield 215, 3) := by decide +kernel
theorem dX12_nextWord_170 : decode cX12_nextWord 170 = .ok (.if_icmp .ge 31, 3) := by decide +kernel
theorem dX12_nextWord_173 : decode cX12_nextWord 173 = .ok (.aload_n 0, 1) := by decide +kernel
theorem dX12_nextWord_174 : decode cX12_nextWord 174 = .ok (.getfield 7, 3) := by decide +kernel
theorem dX12_nextWord_177 : decode cX12_nextWord 177 = .ok (.aload_n 0, 1) := by decide +kernel
theorem dX12_nextWord_178 : decode cX12_nextWord 178 = .ok (.getfield 595, 3) := by decide +kernel
theorem dX12_nextWord_181 : decode cX12_nextWord 181 = .ok (.iaload, 1) := by decide +kernel
theorem dX12_nextWord_182 : decode cX12_nextWord 182 = .ok (.invokestatic 607, 3) := by decide +kernel
theorem dX12_nextWord_185 : decode cX12_nextWord 185 = .ok (.ifCond .eq 16, 3) := by decide +kernel
theorem dX12_nextWord_188 : decode cX12_nextWord 188 = .ok (.aload_n 0, 1) := by decide +kernel
theorem dX12_nextWord_189 : decode cX12_nextWord 189 = .ok (.dup, 1) := by decide +kernel
theorem dX12_nextWord_190 : decode cX12_nextWord 190 = .ok (.getfield 595, 3) := by decide +kernel
theorem dX12_nextWord_193 : decode cX12_nextWord 193 = .ok (.iconst 1, 1) := by decide +kernel
theorem dX12_nextWord_194 : decode cX12_nextWord 194 = .ok (.iadd, 1) := by decide +kernel
theorem dX12_nextWord_195 : decode cX12_nextWord 195 = .ok (.putfield 595, 3) := by decide +kernel
theorem dX12_nextWord_198 : decode cX12_nextWord 198 = .ok (.goto (-44), 3) := by decide +kernel
theorem dX12_nextWord_201 : decode cX12_nextWord 201 = .ok (.return_, 1) := by decide +kernel
set_option maxRecDepth 100000 in
theorem ggX12_packed_X12_within : GoodIn wsX12_packed wsX12_within := goodIn_r _ [9] (by decide +kernel) (by decide +kernel)
set_option maxRecDepth 100000 in
theorem gX12_packed_X12_within : GoodIn wsX12_packed (va_wsS RX12 211 yX12_within wsX12_within) := goodIn_app (goodIn_of _ (by decide +kernel)) ggX12_packed_X12_within
set_option maxRecDepth 100000 in
theorem ggX12_packed_X12_letterOf : GoodIn wsX12_packed wsX12_letterOf := goodIn_r _ [12, 6, 7, 8, 9] (by decide +kernel) (by decide +kernel)
set_option maxRecDepth 100000 in
theorem gX12_packed_X12_letterOf : GoodIn wsX12_packed (va_wsS RX12 201 yX12_letterOf wsX12_letterOf) := goodIn_app (goodIn_of _ (by decide +kernel)) ggX12_packed_X12_letterOf
theorem dX12_packed_0 : decode cX12_packed 0 = .ok (.aload_n 0, 1) := by decide +kernel
theorem dX12_packed_1 : decode cX12_packed 1 = .ok (.getfield 601, 3) := by decide +kernel
theorem dX12_packed_4 : decode cX12_packed 4 = .ok (.iconst 4, 1) := by decide +kernel
theorem dX12_packed_5 : decode cX12_packed 5 = .ok (.if_icmp .ne 36, 3) := by decide +kernel
theorem dX12_packed_8 : decode cX12_packed 8 = .ok (.aload_n 0, 1) := by decide +kernel
theorem dX12_packed_9 : decode cX12_packed 9 = .ok (.getfield 595, 3) := by decide +kernel
theorem dX12_packed_12 : decode cX12_packed 12 = .ok (.aload_n 0, 1) := by decide +kernel
theorem dX12_packed_13 : decode cX12_packed 13 = .ok (.getfield 598, 3) := by decide +kernel
theorem dX12_packed_16 : decode cX12_packed 16 = .ok (.isub, 1) := by decide +kernel
theorem dX12_packed_17 : decode cX12_packed 17 = .ok (.bipush 8, 2) := by decide +kernel
theorem dX12_packed_19 : decode cX12_packed 19 = .ok (.if_icmp .gt 22, 3) := by decide +kernel
theorem dX12_packed_22 : decode cX12_packed 22 = .ok (.aload_n 0, 1) := by decide +kernel
theorem dX12_packed_23 : decode cX12_packed 23 = .ok (.getfield 7, 3) := by decide +kernel
theorem dX12_packed_26 : decode cX12_packed 26 = .ok (.aload_n 0, 1) := by decide +kernel
theorem dX12_packed_27 : decode cX12_packed 27 = .ok (.getfield 598, 3) := by decide +kernel
theorem dX12_packed_30 : decode cX12_packed 30 = .ok (.iaload, 1) := by decide +kernel
theorem dX12_packed_31 : decode cX12_packed 31 = .ok (.bipush 97, 2) := by decide +kernel
theorem dX12_packed_33 : decode cX12_packed 33 = .ok (.bipush 122, 2) := by decide +kernel
theorem dX12_packed_35 : decode cX12_packed 35 = .ok (.invokestatic 211, 3) := by decide +kernel
theorem dX12_packed_38 : decode cX12_packed 38 = .ok (.ifCond .ne 5, 3) := by decide +kernel
theorem dX12_packed_41 : decode cX12_packed 41 = .ok (.lconst 0, 1) := by decide +kernel
theorem dX12_packed_42 : decode cX12_packed 42 = .ok (.lreturn, 1) := by decide +kernel
theorem dX12_packed_43 : decode cX12_packed 43 = .ok (.lconst 0, 1) := by decide +kernel
theorem dX12_packed_44 : decode cX12_packed 44 = .ok (.lstore_n 1, 1) := by decide +kernel
theorem dX12_packed_45 : decode cX12_packed 45 = .ok (.aload_n 0, 1) := by decide +kernel
theorem dX12_packed_46 : decode cX12_packed 46 = .ok (.getfield 598, 3) := by decide +kernel
theorem dX12_packed_49 : decode cX12_packed 49 = .ok (.istore_n 3, 1) := by decide +kernel
theorem dX12_packed_50 : decode cX12_packed 50 = .ok (.iload_n 3, 1) := by decide +kernel
theorem dX12_packed_51 : decode cX12_packed 51 = .ok (.aload_n 0, 1) := by decide +kernel
theorem dX12_packed_52 : decode cX12_packed 52 = .ok (.getfield 595, 3) := by decide +kernel
theorem dX12_packed_55 : decode cX12_packed 55 = .ok (.if_icmp .ge 37, 3) := by decide +kernel
theorem dX12_packed_58 : decode cX12_packed 58 = .ok (.aload_n 0, 1) := by decide +kernel
theorem dX12_packed_59 : decode cX12_packed 59 = .ok (.getfield 7, 3) := by decide +kernel
theorem dX12_packed_62 : decode cX12_packed 62 = .ok (.iload_n 3, 1) := by decide +kernel
theorem dX12_packed_63 : decode cX12_packed 63 = .ok (.iaload, 1) := by decide +kernel
theorem dX12_packed_64 : decode cX12_packed 64 = .ok (.invokestatic 201, 3) := by decide +kernel
theorem dX12_packed_67 : decode cX12_packed 67 = .ok (.istore 4, 2) := by decide +kernel
theorem dX12_packed_69 : decode cX12_packed 69 = .ok (.iload 4, 2) := by decide +kernel
theorem dX12_packed_71 : decode cX12_packed 71 = .ok (.ifCond .ne 5, 3) := by decide +kernel
theorem dX12_packed_74 : decode cX12_packed 74 = .ok (.lconst 0, 1) := by decide +kernel
theorem dX12_packed_75 : decode cX12_packed 75 = .ok (.lreturn, 1) := by decide +kernel
theorem dX12_packed_76 : decode cX12_packed 76 = .ok (.ldc2_w 199, 3) := by decide +kernel
theorem dX12_packed_79 : decode cX12_packed 79 = .ok (.lload_n 1, 1) := by decide +kernel
theorem dX12_packed_80 : decode cX12_packed 80 = .ok (.lmul, 1) := by decide +kernel
theorem dX12_packed_81 : decode cX12_packed 81 = .ok (.iload 4, 2) := by decide +kernel
theorem dX12_packed_83 : decode cX12_packed 83 = .ok (.i2l, 1) := by decide +kernel
theorem dX12_packed_84 : decode cX12_packed 84 = .ok (.ladd, 1) := by decide +kernel
theorem dX12_packed_85 : decode cX12_packed 85 = .ok (.lstore_n 1, 1) := by decide +kernel
theorem dX12_packed_86 : decode cX12_packed 86 = .ok (.iinc 3 1, 3) := by decide +kernel
theorem dX12_packed_89 : decode cX12_packed 89 = .ok (.goto (-39), 3) := by decide +kernel
theorem dX12_packed_92 : decode cX12_packed 92 = .ok (.lload_n 1, 1) := by decide +kernel
theorem dX12_packed_93 : decode cX12_packed 93 = .ok (.lreturn, 1) := by decide +kernel
set_option maxRecDepth 100000 in
theorem ggX12_definitions_X12_nextWord : GoodIn wsX12_definitions wsX12_nextWord := goodIn_r _ [13, 3, 14, 15, 5, 6, 16, 17, 12, 18, 19, 20, 21, 22, 4, 23, 24, 25, 26, 106, 107, 108, 109, 110, 111, 112, 113, 114, 115, 116, 117, 118, 119, 120, 121, 122, 123, 124, 125, 126, 127, 128, 129, 130, 131, 132, 133, 134, 135, 136, 137, 138, 139, 140, 141, 142, 143, 144, 145, 146, 147, 148, 149, 150, 151, 152, 153, 154, 155, 156, 157, 158, 159, 160, 161, 162, 163, 164, 165, 166, 167, 168, 169, 170, 171, 172, 173, 174, 175, 176, 177, 178, 179, 180, 181, 182, 183, 184, 185, 186, 187, 188, 189, 190, 191, 192, 193, 194, 195, 196, 197, 198, 199] rfl rfl
set_option maxRecDepth 100000 in
theorem gX12_definitions_X12_nextWord : GoodIn wsX12_definitions (wsV RX12 613 RX12 yX12_nextWord wsX12_nextWord) := goodIn_app (goodIn_of _ (by decide +kernel)) ggX12_definitions_X12_nextWord
set_option maxRecDepth 100000 in
theorem ggX12_definitions_X12_packed : GoodIn wsX12_definitions wsX12_packed := goodIn_r _ [30, 6, 3, 5, 15, 31, 16, 17, 12, 18, 32, 33, 34, 106, 107, 108, 109, 110, 111, 112, 113, 114, 115, 116, 117, 118, 119, 120, 121, 122, 123, 124, 125, 126, 127, 128, 129, 130, 131, 132, 133, 134, 135, 136, 137, 138, 139, 140, 141, 142, 143, 144, 145, 146, 147, 148, 149, 150, 151, 152, 153, 154, 155, 156, 157, 158, 159, 160, 161, 162, 163, 164, 165, 166, 167, 168, 169, 170, 171, 172, 173, 174, 175, 176, 177, 178, 179, 180, 181, 182, 183, 184, 185, 186, 187, 188, 189, 190, 191, 192, 193, 194, 195, 196, 197, 198, 199] rfl rfl
set_option maxRecDepth 100000 in
theorem gX12_definitions_X12_packed : GoodIn wsX12_definitions (wsV RX12 616 RX12 yX12_packed wsX12_packed) := goodIn_app (goodIn_of _ (by decide +kernel)) ggX12_definitions_X12_packed
set_option maxRecDepth 100000 in
theorem ggX12_definitions_X12_wrong : GoodIn wsX12_definitions wsX12_wrong := goodIn_r _ [22, 4, 23, 106, 107, 108, 109, 110, 111, 112, 113, 114, 115, 116, 117, 118, 119, 120, 121, 122, 123, 124, 125, 126, 127, 128, 129, 130, 131, 132, 133, 134, 135, 136, 137, 138, 139, 140, 141, 142, 143, 144, 145, 146, 147, 148, 149, 150, 151, 152, 153, 154, 155, 156, 157, 158, 159, 160, 161, 162, 163, 164, 165, 166, 167, 168, 169, 170, 171, 172, 173, 174, 175, 176, 177, 178, 179, 180, 181, 182, 183, 184, 185, 186, 187, 188, 189, 190, 191, 192, 193, 194, 195, 196, 197, 198, 199] rfl rfl
set_option maxRecDepth 100000 in
theorem gX12_definitions_X12_wrong : GoodIn wsX12_definitions (wsV RX12 604 RX12 yX12_wrong wsX12_wrong) := goodIn_app (goodIn_of _ (by decide +kernel)) ggX12_definitions_X12_wrong
theorem dX12_definitions_0 : decode cX12_definitions 0 = .ok (.aload_n 0, 1) := by decide +kernel
theorem dX12_definitions_1 : decode cX12_definitions 1 = .ok (.iconst 0, 1) := by decide +kernel
theorem dX12_definitions_2 : decode cX12_definitions 2 = .ok (.putfield 223, 3) := by decide +kernel
theorem dX12_definitions_5 : decode cX12_definitions 5 = .ok (.aload_n 0, 1) := by decide +kernel
theorem dX12_definitions_6 : decode cX12_definitions 6 = .ok (.iconst 0, 1) := by decide +kernel
theorem dX12_definitions_7 : decode cX12_definitions 7 = .ok (.putfield 610, 3) := by decide +kernel
theorem dX12_definitions_10 : decode cX12_definitions 10 = .ok (.aload_n 0, 1) := by decide +kernel
theorem dX12_definitions_11 : decode cX12_definitions 11 = .ok (.iconst 0, 1) := by decide +kernel
theorem dX12_definitions_12 : decode cX12_definitions 12 = .ok (.putfield 595, 3) := by decide +kernel
theorem dX12_definitions_15 : decode cX12_definitions 15 = .ok (.iconst (-1), 1) := by decide +kernel
theorem dX12_definitions_16 : decode cX12_definitions 16 = .ok (.istore_n 1, 1) := by decide +kernel
theorem dX12_definitions_17 : decode cX12_definitions 17 = .ok (.aload_n 0, 1) := by decide +kernel
theorem dX12_definitions_18 : decode cX12_definitions 18 = .ok (.invokevirtual 613, 3) := by decide +kernel
theorem dX12_definitions_21 : decode cX12_definitions 21 = .ok (.iconst 1, 1) := by decide +kernel
theorem dX12_definitions_22 : decode cX12_definitions 22 = .ok (.istore_n 2, 1) := by decide +kernel
theorem dX12_definitions_23 : decode cX12_definitions 23 = .ok (.aload_n 0, 1) := by decide +kernel
theorem dX12_definitions_24 : decode cX12_definitions 24 = .ok (.getfield 592, 3) := by decide +kernel
theorem dX12_definitions_27 : decode cX12_definitions 27 = .ok (.ifCond .ne 147, 3) := by decide +kernel
theorem dX12_definitions_30 : decode cX12_definitions 30 = .ok (.iload_n 2, 1) := by decide +kernel
theorem dX12_definitions_31 : decode cX12_definitions 31 = .ok (.ifCond .eq 143, 3) := by decide +kernel
theorem dX12_definitions_34 : decode cX12_definitions 34 = .ok (.aload_n 0, 1) := by decide +kernel
theorem dX12_definitions_35 : decode cX12_definitions 35 = .ok (.invokevirtual 616, 3) := by decide +kernel
theorem dX12_definitions_38 : decode cX12_definitions 38 = .ok (.lstore_n 3, 1) := by decide +kernel
theorem dX12_definitions_39 : decode cX12_definitions 39 = .ok (.lload_n 3, 1) := by decide +kernel
theorem dX12_definitions_40 : decode cX12_definitions 40 = .ok (.lconst 0, 1) := by decide +kernel
theorem dX12_definitions_41 : decode cX12_definitions 41 = .ok (.lcmp, 1) := by decide +kernel
theorem dX12_definitions_42 : decode cX12_definitions 42 = .ok (.ifCond .eq 11, 3) := by decide +kernel
theorem dX12_definitions_45 : decode cX12_definitions 45 = .ok (.aload_n 0, 1) := by decide +kernel
theorem dX12_definitions_46 : decode cX12_definitions 46 = .ok (.lload_n 3, 1) := by decide +kernel
theorem dX12_definitions_47 : decode cX12_definitions 47 = .ok (.invokevirtual 619, 3) := by decide +kernel
theorem dX12_definitions_50 : decode cX12_definitions 50 = .ok (.ifCond .lt 13, 3) := by decide +kernel
theorem dX12_definitions_53 : decode cX12_definitions 53 = .ok (.aload_n 0, 1) := by decide +kernel
theorem dX12_definitions_54 : decode cX12_definitions 54 = .ok (.iconst 1, 1) := by decide +kernel
theorem dX12_definitions_55 : decode cX12_definitions 55 = .ok (.aload_n 0, 1) := by decide +kernel
theorem dX12_definitions_56 : decode cX12_definitions 56 = .ok (.getfield 598, 3) := by decide +kernel
theorem dX12_definitions_59 : decode cX12_definitions 59 = .ok (.invokevirtual 604, 3) := by decide +kernel
theorem dX12_definitions_62 : decode cX12_definitions 62 = .ok (.ireturn, 1) := by decide +kernel
theorem dX12_definitions_63 : decode cX12_definitions 63 = .ok (.aload_n 0, 1) := by decide +kernel
theorem dX12_definitions_64 : decode cX12_definitions 64 = .ok (.lload_n 3, 1) := by decide +kernel
theorem dX12_definitions_65 : decode cX12_definitions 65 = .ok (.invokevirtual 623, 3) := by decide +kernel
theorem dX12_definitions_68 : decode cX12_definitions 68 = .ok (.ifCond .lt 13, 3) := by decide +kernel
theorem dX12_definitions_71 : decode cX12_definitions 71 = .ok (.aload_n 0, 1) := by decide +kernel
theorem dX12_definitions_72 : decode cX12_definitions 72 = .ok (.iconst 2, 1) := by decide +kernel
theorem dX12_definitions_73 : decode cX12_definitions 73 = .ok (.aload_n 0, 1) := by decide +kernel
theorem dX12_definitions_74 : decode cX12_definitions 74 = .ok (.getfield 598, 3) := by decide +kernel
theorem dX12_definitions_77 : decode cX12_definitions 77 = .ok (.invokevirtual 604, 3) := by decide +kernel
theorem dX12_definitions_80 : decode cX12_definitions 80 = .ok (.ireturn, 1) := by decide +kernel
theorem dX12_definitions_81 : decode cX12_definitions 81 = .ok (.aload_n 0, 1) := by decide +kernel
theorem dX12_definitions_82 : decode cX12_definitions 82 = .ok (.invokevirtual 613, 3) := by decide +kernel
theorem dX12_definitions_85 : decode cX12_definitions 85 = .ok (.aload_n 0, 1) := by decide +kernel
theorem dX12_definitions_86 : decode cX12_definitions 86 = .ok (.getfield 592, 3) := by decide +kernel
theorem dX12_definitions_89 : decode cX12_definitions 89 = .ok (.ifCond .ne 21, 3) := by decide +kernel
theorem dX12_definitions_92 : decode cX12_definitions 92 = .ok (.aload_n 0, 1) := by decide +kernel
theorem dX12_definitions_93 : decode cX12_definitions 93 = .ok (.getfield 601, 3) := by decide +kernel
theorem dX12_definitions_96 : decode cX12_definitions 96 = .ok (.iconst 1, 1) := by decide +kernel
theorem dX12_definitions_97 : decode cX12_definitions 97 = .ok (.if_icmp .eq 13, 3) := by decide +kernel
theorem dX12_definitions_100 : decode cX12_definitions 100 = .ok (.aload_n 0, 1) := by decide +kernel
theorem dX12_definitions_101 : decode cX12_definitions 101 = .ok (.iconst 1, 1) := by decide +kernel
theorem dX12_definitions_102 : decode cX12_definitions 102 = .ok (.aload_n 0, 1) := by decide +kernel
theorem dX12_definitions_103 : decode cX12_definitions 103 = .ok (.getfield 598, 3) := by decide +kernel
theorem dX12_definitions_106 : decode cX12_definitions 106 = .ok (.invokevirtual 604, 3) := by decide +kernel
theorem dX12_definitions_109 : decode cX12_definitions 109 = .ok (.ireturn, 1) := by decide +kernel
theorem dX12_definitions_110 : decode cX12_definitions 110 = .ok (.aload_n 0, 1) := by decide +kernel
theorem dX12_definitions_111 : decode cX12_definitions 111 = .ok (.invokevirtual 653, 3) := by decide +kernel
theorem dX12_definitions_114 : decode cX12_definitions 114 = .ok (.istore_n 1, 1) := by decide +kernel
theorem dX12_definitions_115 : decode cX12_definitions 115 = .ok (.aload_n 0, 1) := by decide +kernel
theorem dX12_definitions_116 : decode cX12_definitions 116 = .ok (.getfield 592, 3) := by decide +kernel
theorem dX12_definitions_119 : decode cX12_definitions 119 = .ok (.ifCond .le 5, 3) := by decide +kernel
theorem dX12_definitions_122 : decode cX12_definitions 122 = .ok (.iconst (-1), 1) := by decide +kernel
theorem dX12_definitions_123 : decode cX12_definitions 123 = .ok (.ireturn, 1) := by decide +kernel
theorem dX12_definitions_124 : decode cX12_definitions 124 = .ok (.aload_n 0, 1) := by decide +kernel
theorem dX12_definitions_125 : decode cX12_definitions 125 = .ok (.getfield 178, 3) := by decide +kernel
theorem dX12_definitions_128 : decode cX12_definitions 128 = .ok (.aload_n 0, 1) := by decide +kernel
theorem dX12_definitions_129 : decode cX12_definitions 129 = .ok (.getfield 610, 3) := by decide +kernel
theorem dX12_definitions_132 : decode cX12_definitions 132 = .ok (.lload_n 3, 1) := by decide +kernel
theorem dX12_definitions_133 : decode cX12_definitions 133 = .ok (.lastore, 1) := by decide +kernel
theorem dX12_definitions_134 : decode cX12_definitions 134 = .ok (.aload_n 0, 1) := by decide +kernel
theorem dX12_definitions_135 : decode cX12_definitions 135 = .ok (.getfield 181, 3) := by decide +kernel
theorem dX12_definitions_138 : decode cX12_definitions 138 = .ok (.aload_n 0, 1) := by decide +kernel
theorem dX12_definitions_139 : decode cX12_definitions 139 = .ok (.getfield 610, 3) := by decide +kernel
theorem dX12_definitions_142 : decode cX12_definitions 142 = .ok (.iload_n 1, 1) := by decide +kernel
theorem dX12_definitions_143 : decode cX12_definitions 143 = .ok (.iastore, 1) := by decide +kernel
theorem dX12_definitions_144 : decode cX12_definitions 144 = .ok (.aload_n 0, 1) := by decide +kernel
theorem dX12_definitions_145 : decode cX12_definitions 145 = .ok (.dup, 1) := by decide +kernel
theorem dX12_definitions_146 : decode cX12_definitions 146 = .ok (.getfield 610, 3) := by decide +kernel
theorem dX12_definitions_149 : decode cX12_definitions 149 = .ok (.iconst 1, 1) := by decide +kernel
theorem dX12_definitions_150 : decode cX12_definitions 150 = .ok (.iadd, 1) := by decide +kernel
theorem dX12_definitions_151 : decode cX12_definitions 151 = .ok (.putfield 610, 3) := by decide +kernel
theorem dX12_definitions_154 : decode cX12_definitions 154 = .ok (.aload_n 0, 1) := by decide +kernel
theorem dX12_definitions_155 : decode cX12_definitions 155 = .ok (.invokevirtual 613, 3) := by decide +kernel
theorem dX12_definitions_158 : decode cX12_definitions 158 = .ok (.aload_n 0, 1) := by decide +kernel
theorem dX12_definitions_159 : decode cX12_definitions 159 = .ok (.getfield 601, 3) := by decide +kernel
theorem dX12_definitions_162 : decode cX12_definitions 162 = .ok (.ifCond .eq 7, 3) := by decide +kernel
theorem dX12_definitions_165 : decode cX12_definitions 165 = .ok (.iconst 1, 1) := by decide +kernel
theorem dX12_definitions_166 : decode cX12_definitions 166 = .ok (.goto 4, 3) := by decide +kernel
theorem dX12_definitions_169 : decode cX12_definitions 169 = .ok (.iconst 0, 1) := by decide +kernel
theorem dX12_definitions_170 : decode cX12_definitions 170 = .ok (.istore_n 2, 1) := by decide +kernel
theorem dX12_definitions_171 : decode cX12_definitions 171 = .ok (.goto (-148), 3) := by decide +kernel
theorem dX12_definitions_174 : decode cX12_definitions 174 = .ok (.iload_n 1, 1) := by decide +kernel
theorem dX12_definitions_175 : decode cX12_definitions 175 = .ok (.ireturn, 1) := by decide +kernel
set_option maxRecDepth 100000 in
theorem ggX12_speech_X12_definitions : GoodIn wsX12_speech wsX12_definitions := goodIn_r _ [10, 11, 12, 13, 1, 14, 15, 16, 17, 18, 19, 20, 9, 21, 22, 23, 24, 25, 26, 27, 28, 29, 30, 2, 31, 32, 33, 34, 35, 36, 37, 38, 39, 40, 41, 42, 43, 44, 45, 46, 47, 48, 49, 50, 51, 52, 53, 54, 55, 56, 57, 58, 59, 60, 61, 62, 63, 64, 65, 3, 66, 67, 68, 69, 70, 71, 72, 73, 74, 75, 76, 77, 78, 79, 80, 81, 82, 83, 84, 85, 86, 87, 88, 89, 90, 91, 92, 93, 94, 95, 96, 97, 98, 99, 100, 101, 102, 103, 104, 105, 106, 107, 108, 109, 110, 111, 232, 233, 234, 235, 236, 237, 238, 239, 240, 241, 242, 243, 244, 245, 246, 247, 248, 249, 250, 251, 252, 253, 254, 255, 256, 257, 258, 259, 260, 261, 262, 263, 264, 265, 266, 267, 268, 269, 270, 271, 272, 273, 274, 275, 276, 277, 278, 279, 280, 281, 282, 283, 284, 285, 286, 287, 288, 289, 290, 291, 292, 293, 294, 295, 296, 297, 298, 299, 300, 301, 302, 303, 304, 305, 306, 307, 308, 309, 310, 311, 312, 313, 314, 315, 316, 317, 318, 319, 320, 321, 322, 323, 324, 325] rfl rfl
set_option maxRecDepth 100000 in
theorem gX12_speech_X12_definitions : GoodIn wsX12_speech (wsV RX12 676 RX12 yX12_definitions wsX12_definitions) := goodIn_app (goodIn_of _ (by decide +kernel)) ggX12_speech_X12_definitions
theorem dX12_speech_0 : decode cX12_speech 0 = .ok (.aload_n 0, 1) := by decide +kernel
theorem dX12_speech_1 : decode cX12_speech 1 = .ok (.iconst 0, 1) := by decide +kernel
theorem dX12_speech_2 : decode cX12_speech 2 = .ok (.putfield 592, 3) := by decide +kernel
theorem dX12_speech_5 : decode cX12_speech 5 = .ok (.aload_n 0, 1) := by decide +kernel
theorem dX12_speech_6 : decode cX12_speech 6 = .ok (.iconst 0, 1) := by decide +kernel
theorem dX12_speech_7 : decode cX12_speech 7 = .ok (.putfield 577, 3) := by decide +kernel
theorem dX12_speech_10 : decode cX12_speech 10 = .ok (.aload_n 0, 1) := by decide +kernel
theorem dX12_speech_11 : decode cX12_speech 11 = .ok (.invokevirtual 676, 3) := by decide +kernel
theorem dX12_speech_14 : decode cX12_speech 14 = .ok (.istore_n 1, 1) := by decide +kernel
theorem dX12_speech_15 : decode cX12_speech 15 = .ok (.aload_n 0, 1) := by decide +kernel
theorem dX12_speech_16 : decode cX12_speech 16 = .ok (.getfield 592, 3) := by decide +kernel
theorem dX12_speech_19 : decode cX12_speech 19 = .ok (.ifCond .le 8, 3) := by decide +kernel
theorem dX12_speech_22 : decode cX12_speech 22 = .ok (.aload_n 0, 1) := by decide +kernel
theorem dX12_speech_23 : decode cX12_speech 23 = .ok (.getfield 592, 3) := by decide +kernel
theorem dX12_speech_26 : decode cX12_speech 26 = .ok (.ireturn, 1) := by decide +kernel
theorem dX12_speech_27 : decode cX12_speech 27 = .ok (.aload_n 0, 1) := by decide +kernel
theorem dX12_speech_28 : decode cX12_speech 28 = .ok (.iload_n 1, 1) := by decide +kernel
theorem dX12_speech_29 : decode cX12_speech 29 = .ok (.invokevirtual 351, 3) := by decide +kernel
theorem dX12_speech_32 : decode cX12_speech 32 = .ok (.aload_n 0, 1) := by decide +kernel
theorem dX12_speech_33 : decode cX12_speech 33 = .ok (.iload_n 1, 1) := by decide +kernel
theorem dX12_speech_34 : decode cX12_speech 34 = .ok (.invokevirtual 366, 3) := by decide +kernel
theorem dX12_speech_37 : decode cX12_speech 37 = .ok (.ifCond .eq 6, 3) := by decide +kernel
theorem dX12_speech_40 : decode cX12_speech 40 = .ok (.bipush 7, 2) := by decide +kernel
theorem dX12_speech_42 : decode cX12_speech 42 = .ok (.ireturn, 1) := by decide +kernel
theorem dX12_speech_43 : decode cX12_speech 43 = .ok (.aload_n 0, 1) := by decide +kernel
theorem dX12_speech_44 : decode cX12_speech 44 = .ok (.invokevirtual 369, 3) := by decide +kernel
theorem dX12_speech_47 : decode cX12_speech 47 = .ok (.istore_n 2, 1) := by decide +kernel
theorem dX12_speech_48 : decode cX12_speech 48 = .ok (.iload_n 2, 1) := by decide +kernel
theorem dX12_speech_49 : decode cX12_speech 49 = .ok (.ifCond .le 5, 3) := by decide +kernel
theorem dX12_speech_52 : decode cX12_speech 52 = .ok (.iload_n 2, 1) := by decide +kernel
theorem dX12_speech_53 : decode cX12_speech 53 = .ok (.ireturn, 1) := by decide +kernel
theorem dX12_speech_54 : decode cX12_speech 54 = .ok (.aload_n 0, 1) := by decide +kernel
theorem dX12_speech_55 : decode cX12_speech 55 = .ok (.aload_n 0, 1) := by decide +kernel
theorem dX12_speech_56 : decode cX12_speech 56 = .ok (.iload_n 1, 1) := by decide +kernel
theorem dX12_speech_57 : decode cX12_speech 57 = .ok (.invokevirtual 679, 3) := by decide +kernel
theorem dX12_speech_60 : decode cX12_speech 60 = .ok (.invokevirtual 351, 3) := by decide +kernel
theorem dX12_speech_63 : decode cX12_speech 63 = .ok (.aload_n 0, 1) := by decide +kernel
theorem dX12_speech_64 : decode cX12_speech 64 = .ok (.getfield 226, 3) := by decide +kernel
theorem dX12_speech_67 : decode cX12_speech 67 = .ok (.sipush 400, 3) := by decide +kernel
theorem dX12_speech_70 : decode cX12_speech 70 = .ok (.if_icmp .le 5, 3) := by decide +kernel
theorem dX12_speech_73 : decode cX12_speech 73 = .ok (.iconst 4, 1) := by decide +kernel
theorem dX12_speech_74 : decode cX12_speech 74 = .ok (.ireturn, 1) := by decide +kernel
theorem dX12_speech_75 : decode cX12_speech 75 = .ok (.aload_n 0, 1) := by decide +kernel
theorem dX12_speech_76 : decode cX12_speech 76 = .ok (.invokevirtual 682, 3) := by decide +kernel
theorem dX12_speech_79 : decode cX12_speech 79 = .ok (.istore_n 2, 1) := by decide +kernel
theorem dX12_speech_80 : decode cX12_speech 80 = .ok (.iload_n 2, 1) := by decide +kernel
theorem dX12_speech_81 : decode cX12_speech 81 = .ok (.ifCond .le 5, 3) := by decide +kernel
theorem dX12_speech_84 : decode cX12_speech 84 = .ok (.iload_n 2, 1) := by decide +kernel
theorem dX12_speech_85 : decode cX12_speech 85 = .ok (.ireturn, 1) := by decide +kernel
theorem dX12_speech_86 : decode cX12_speech 86 = .ok (.aload_n 0, 1) := by decide +kernel
theorem dX12_speech_87 : decode cX12_speech 87 = .ok (.invokevirtual 685, 3) := by decide +kernel
theorem dX12_speech_90 : decode cX12_speech 90 = .ok (.aload_n 0, 1) := by decide +kernel
theorem dX12_speech_91 : decode cX12_speech 91 = .ok (.getfield 656, 3) := by decide +kernel
theorem dX12_speech_94 : decode cX12_speech 94 = .ok (.ldc_w 659, 3) := by decide +kernel
theorem dX12_speech_97 : decode cX12_speech 97 = .ok (.if_icmp .le 7, 3) := by decide +kernel
theorem dX12_speech_100 : decode cX12_speech 100 = .ok (.iconst 4, 1) := by decide +kernel
theorem dX12_speech_101 : decode cX12_speech 101 = .ok (.goto 4, 3) := by decide +kernel
theorem dX12_speech_104 : decode cX12_speech 104 = .ok (.iconst 0, 1) := by decide +kernel
theorem dX12_speech_105 : decode cX12_speech 105 = .ok (.ireturn, 1) := by decide +kernel
set_option maxRecDepth 100000 in
theorem ggX12_say_X12_speech : GoodIn wsX12_say wsX12_speech := goodIn_r _ [11, 12, 13, 14, 3, 15, 16, 17, 18, 10, 19, 20, 21, 22, 23, 24, 25, 26, 27, 28, 29, 30, 2, 31, 32, 33, 34, 35, 36, 37, 38, 39, 40, 41, 42, 43, 44, 45, 46, 47, 48, 49, 50, 51, 52, 53, 54, 55, 56, 57, 58, 59, 60, 61, 62, 63, 64, 65, 66, 67, 68, 69, 70, 71, 72, 73, 74, 75, 76, 77, 78, 79, 80, 81, 82, 83, 84, 85, 86, 87, 88, 89, 90, 91, 92, 93, 94, 95, 96, 97, 98, 99, 100, 101, 102, 103, 104, 105, 106, 107, 108, 109, 110, 111, 112, 113, 114, 115, 116, 117, 118, 119, 120, 121, 122, 123, 124, 125, 126, 127, 128, 129, 130, 131, 132, 133, 134, 135, 136, 137, 138, 139, 140, 141, 142, 143, 144, 145, 146, 147, 148, 149, 150, 151, 152, 153, 154, 155, 156, 157, 158, 159, 160, 161, 162, 163, 164, 165, 166, 167, 168, 169, 170, 171, 172, 173, 174, 175, 176, 177, 178, 179, 180, 181, 182, 183, 184, 185, 186, 187, 188, 189, 190, 191, 192, 193, 194, 195, 196, 197, 198, 199, 200, 201, 202, 203, 204, 205, 206, 207, 208, 209, 210, 211, 212, 213, 214, 215, 216, 217, 218, 219, 220, 221, 222, 223, 224, 225, 226, 227, 228, 229, 230, 231, 232, 233, 234, 6, 235, 236, 237, 238, 239, 240, 241, 242, 243, 244, 245, 246, 247, 248, 249, 250, 251, 252, 253, 254, 255, 256, 257, 258, 259, 260, 261, 262, 263, 264, 265, 266, 267, 268, 269, 270, 271, 272, 273, 274, 275, 276, 277, 278, 279, 280, 281, 282, 283, 284, 285, 286, 287, 288, 289, 290, 291, 292, 293, 294, 295, 296, 297, 298, 299, 300, 301, 302, 303, 304, 305, 306, 307, 308, 309, 310, 311, 312, 313, 314, 315, 316, 317, 318, 319, 320, 321, 322, 323, 324, 325, 326, 327, 328, 329, 330, 331, 332] rfl rfl
set_option maxRecDepth 100000 in
theorem gX12_say_X12_speech : GoodIn wsX12_say (wsV RX12 688 RX12 yX12_speech wsX12_speech) := goodIn_app (goodIn_of _ (by decide +kernel)) ggX12_say_X12_speech
theorem dX12_say_0 : decode cX12_say 0 = .ok (.aload_n 0, 1) := by decide +kernel
theorem dX12_say_1 : decode cX12_say 1 = .ok (.iconst 0, 1) := by decide +kernel
theorem dX12_say_2 : decode cX12_say 2 = .ok (.putfield 205, 3) := by decide +kernel
theorem dX12_say_5 : decode cX12_say 5 = .ok (.aload_n 0, 1) := by decide +kernel
theorem dX12_say_6 : decode cX12_say 6 = .ok (.invokevirtual 688, 3) := by decide +kernel
theorem dX12_say_9 : decode cX12_say 9 = .ok (.istore_n 1, 1) := by decide +kernel
theorem dX12_say_10 : decode cX12_say 10 = .ok (.aload_n 0, 1) := by decide +kernel
theorem dX12_say_11 : decode cX12_say 11 = .ok (.iconst 0, 1) := by decide +kernel
theorem dX12_say_12 : decode cX12_say 12 = .ok (.putfield 215, 3) := by decide +kernel
theorem dX12_say_15 : decode cX12_say 15 = .ok (.iload_n 1, 1) := by decide +kernel
theorem dX12_say_16 : decode cX12_say 16 = .ok (.ifCond .le 5, 3) := by decide +kernel
theorem dX12_say_19 : decode cX12_say 19 = .ok (.iload_n 1, 1) := by decide +kernel
theorem dX12_say_20 : decode cX12_say 20 = .ok (.ireturn, 1) := by decide +kernel
theorem dX12_say_21 : decode cX12_say 21 = .ok (.aload_n 0, 1) := by decide +kernel
theorem dX12_say_22 : decode cX12_say 22 = .ok (.aload_n 0, 1) := by decide +kernel
theorem dX12_say_23 : decode cX12_say 23 = .ok (.getfield 656, 3) := by decide +kernel
theorem dX12_say_26 : decode cX12_say 26 = .ok (.bipush 7, 2) := by decide +kernel
theorem dX12_say_28 : decode cX12_say 28 = .ok (.iadd, 1) := by decide +kernel
theorem dX12_say_29 : decode cX12_say 29 = .ok (.bipush 8, 2) := by decide +kernel
theorem dX12_say_31 : decode cX12_say 31 = .ok (.idiv, 1) := by decide +kernel
theorem dX12_say_32 : decode cX12_say 32 = .ok (.putfield 220, 3) := by decide +kernel
theorem dX12_say_35 : decode cX12_say 35 = .ok (.iconst 0, 1) := by decide +kernel
theorem dX12_say_36 : decode cX12_say 36 = .ok (.istore_n 2, 1) := by decide +kernel
theorem dX12_say_37 : decode cX12_say 37 = .ok (.iload_n 2, 1) := by decide +kernel
theorem dX12_say_38 : decode cX12_say 38 = .ok (.aload_n 0, 1) := by decide +kernel
theorem dX12_say_39 : decode cX12_say 39 = .ok (.getfield 220, 3) := by decide +kernel
theorem dX12_say_42 : decode cX12_say 42 = .ok (.if_icmp .ge 21, 3) := by decide +kernel
theorem dX12_say_45 : decode cX12_say 45 = .ok (.aload_n 0, 1) := by decide +kernel
theorem dX12_say_46 : decode cX12_say 46 = .ok (.getfield 13, 3) := by decide +kernel
theorem dX12_say_49 : decode cX12_say 49 = .ok (.iload_n 2, 1) := by decide +kernel
theorem dX12_say_50 : decode cX12_say 50 = .ok (.aload_n 0, 1) := by decide +kernel
theorem dX12_say_51 : decode cX12_say 51 = .ok (.getfield 148, 3) := by decide +kernel
theorem dX12_say_54 : decode cX12_say 54 = .ok (.iload_n 2, 1) := by decide +kernel
theorem dX12_say_55 : decode cX12_say 55 = .ok (.iaload, 1) := by decide +kernel
theorem dX12_say_56 : decode cX12_say 56 = .ok (.iastore, 1) := by decide +kernel
theorem dX12_say_57 : decode cX12_say 57 = .ok (.iinc 2 1, 3) := by decide +kernel
theorem dX12_say_60 : decode cX12_say 60 = .ok (.goto (-23), 3) := by decide +kernel
theorem dX12_say_63 : decode cX12_say 63 = .ok (.iconst 0, 1) := by decide +kernel
theorem dX12_say_64 : decode cX12_say 64 = .ok (.ireturn, 1) := by decide +kernel
set_option maxRecDepth 100000 in
theorem ggL_feed_X11_feed : GoodIn wsL_feed wsX11_feed := goodIn_ca (goodIn_ca (goodIn_r _ [7, 8, 9, 10, 11, 12, 13, 14, 15, 16, 17, 18, 19, 20, 21, 22, 23, 24, 25, 26, 27, 28, 29, 30, 31, 32, 33, 34, 35, 36, 37, 38, 39, 40, 41, 42] rfl rfl) (goodIn_sub (fun _ h => List.mem_cons_of_mem _ (List.mem_append_left _ (List.mem_append_right _ h))) (by decide +kernel))) (goodIn_sub (fun _ h => List.mem_cons_of_mem _ (List.mem_append_right _ h)) (by decide +kernel))
set_option maxRecDepth 100000 in
theorem gL_feed_X11_feed : GoodIn wsL_feed (wsV RL 7 RX11 yX11_feed wsX11_feed) := goodIn_app (goodIn_of _ (by decide +kernel)) ggL_feed_X11_feed
theorem dL_feed_0 : decode cL_feed 0 = .ok (.aload 4, 2) := by decide +kernel
theorem dL_feed_2 : decode cL_feed 2 = .ok (.iconst 0, 1) := by decide +kernel
theorem dL_feed_3 : decode cL_feed 3 = .ok (.aload_n 0, 1) := by decide +kernel
theorem dL_feed_4 : decode cL_feed 4 = .ok (.iload_n 1, 1) := by decide +kernel
theorem dL_feed_5 : decode cL_feed 5 = .ok (.lload_n 2, 1) := by decide +kernel
theorem dL_feed_6 : decode cL_feed 6 = .ok (.invokevirtual 7, 3) := by decide +kernel
theorem dL_feed_9 : decode cL_feed 9 = .ok (.i2l, 1) := by decide +kernel
theorem dL_feed_10 : decode cL_feed 10 = .ok (.lastore, 1) := by decide +kernel
theorem dL_feed_11 : decode cL_feed 11 = .ok (.goto 11, 3) := by decide +kernel
theorem dL_feed_14 : decode cL_feed 14 = .ok (.astore 5, 2) := by decide +kernel
theorem dL_feed_16 : decode cL_feed 16 = .ok (.iconst 1, 1) := by decide +kernel
theorem dL_feed_17 : decode cL_feed 17 = .ok (.ireturn, 1) := by decide +kernel
theorem dL_feed_18 : decode cL_feed 18 = .ok (.astore 5, 2) := by decide +kernel
theorem dL_feed_20 : decode cL_feed 20 = .ok (.iconst 2, 1) := by decide +kernel
theorem dL_feed_21 : decode cL_feed 21 = .ok (.ireturn, 1) := by decide +kernel
theorem dL_feed_22 : decode cL_feed 22 = .ok (.iconst 0, 1) := by decide +kernel
theorem dL_feed_23 : decode cL_feed 23 = .ok (.ireturn, 1) := by decide +kernel
set_option maxRecDepth 100000 in
theorem ggL_run_X11_run : GoodIn wsL_run wsX11_run := goodIn_ca (goodIn_ca (goodIn_r _ [7, 8, 9, 10, 11, 12, 13, 14, 15, 16, 17, 6, 18, 19, 20, 21, 22, 23, 24, 25, 26, 27, 28, 29, 30, 31, 32, 33, 34, 35, 36, 37, 38, 39, 40, 41, 42, 43, 44, 45, 46, 47, 48, 49, 50, 51, 52, 53, 54, 55, 56, 57, 58, 59, 60, 61, 62, 63, 64, 65, 66, 67, 68, 69, 70, 71, 72, 73, 74, 75, 76, 77, 78, 79, 80, 81, 82, 83, 84, 85, 86, 87, 88, 89, 90, 91, 92, 93, 94, 95, 96, 97, 98, 99, 100, 101, 102, 103, 104, 105, 106, 107, 108, 109, 110, 111, 112, 113, 114, 115, 116, 117, 118, 119, 120, 121, 122, 123, 124, 125, 126, 127, 128, 129, 130, 131, 132, 133, 134, 135, 136, 137, 138, 139, 140, 141, 142, 143, 144, 145, 146, 147, 148, 149, 150, 151, 152, 153, 154, 155, 156, 157, 158, 159, 160, 161, 162, 163, 164, 165, 166, 167, 168, 169, 170, 171, 172, 173, 174, 175, 176, 177, 178, 179, 180, 181, 182, 183, 184, 185, 186, 187, 188, 189, 190, 191, 192, 193, 194, 195, 196, 197, 198, 199, 200, 201, 202, 203, 204, 205, 206, 207, 208, 209, 210, 211, 212, 213, 214, 215, 216, 217, 218, 219, 220, 221, 222, 223, 224, 225, 226, 227, 228, 229, 230, 231, 232, 233, 234, 235, 236, 237, 238, 239, 240, 241, 242, 243, 244, 245, 246, 247, 248, 249, 250, 251, 252, 253, 254, 255, 256, 257, 258, 259, 260, 261, 262, 263, 264, 265, 266, 267, 268, 269, 270, 271, 272, 273, 274, 275, 276, 277, 278, 279, 280, 281, 282, 283, 284, 285, 286, 287, 288, 289, 290, 291, 292, 293, 294, 295, 296, 297, 298, 299, 300, 301, 302, 303, 304, 305, 306, 307, 308, 309, 310, 311, 312, 313, 314, 315, 316, 317, 318, 319, 320, 321, 322, 323, 324, 325, 326, 327, 328, 329, 330, 331, 332, 333, 334, 335, 336, 337, 338, 339, 340, 341, 342, 343, 344, 345, 346, 347, 348, 349, 350, 351, 352, 353, 354, 355, 356, 357, 358, 359, 360, 361, 362, 363, 364, 365, 366, 367, 368, 369, 370, 371, 372, 373, 374, 375, 376, 377, 378, 379, 380, 381, 382, 383, 384, 385, 386, 387, 388, 389, 390, 391, 392, 393, 394, 395, 396, 397, 398, 399, 400, 401, 402, 403, 404, 405, 406, 407, 408, 409, 410, 411, 412, 413, 414, 415, 416, 417, 418, 419, 420, 421, 422, 423, 424, 425, 426, 427, 428, 429, 430, 431, 432, 433, 434, 435, 436, 437, 438, 439, 440, 441, 442, 443, 444, 445, 446, 447, 448, 449, 450, 451, 452, 453, 454, 455, 456, 457, 458, 459, 460, 461, 462, 463, 464, 465, 466, 467, 468, 469, 470, 471, 472, 473, 474, 475, 476, 477, 478, 479, 480, 481, 482, 483, 484, 485, 486, 487, 488, 489, 490, 491, 492, 493, 494, 495, 496, 497, 498, 499, 500, 501, 502, 503, 504, 505, 506, 507, 508, 509, 510, 511, 512, 513, 514, 515, 516, 517, 518, 519, 520, 521, 522, 523, 524, 525, 526, 527, 528, 529, 530, 531, 532, 533, 534, 535, 536, 537, 538, 539, 540, 541, 542, 543, 544, 545, 546, 547, 548, 549, 550, 551, 552, 553, 554, 555, 556, 557, 558, 559, 560, 561, 562, 563, 564, 565, 566, 567, 568] rfl rfl) (goodIn_sub (fun _ h => List.mem_cons_of_mem _ (List.mem_append_left _ (List.mem_append_right _ h))) (by decide +kernel))) (goodIn_sub (fun _ h => List.mem_cons_of_mem _ (List.mem_append_right _ h)) (by decide +kernel))
set_option maxRecDepth 100000 in
theorem gL_run_X11_run : GoodIn wsL_run (wsV RL 17 RX11 yX11_run wsX11_run) := goodIn_app (goodIn_of _ (by decide +kernel)) ggL_run_X11_run
theorem dL_run_0 : decode cL_run 0 = .ok (.aload 4, 2) := by decide +kernel
theorem dL_run_2 : decode cL_run 2 = .ok (.iconst 0, 1) := by decide +kernel
theorem dL_run_3 : decode cL_run 3 = .ok (.aload_n 0, 1) := by decide +kernel
theorem dL_run_4 : decode cL_run 4 = .ok (.iload_n 1, 1) := by decide +kernel
theorem dL_run_5 : decode cL_run 5 = .ok (.iload_n 2, 1) := by decide +kernel
theorem dL_run_6 : decode cL_run 6 = .ok (.iload_n 3, 1) := by decide +kernel
theorem dL_run_7 : decode cL_run 7 = .ok (.invokevirtual 17, 3) := by decide +kernel
theorem dL_run_10 : decode cL_run 10 = .ok (.i2l, 1) := by decide +kernel
theorem dL_run_11 : decode cL_run 11 = .ok (.lastore, 1) := by decide +kernel
theorem dL_run_12 : decode cL_run 12 = .ok (.goto 11, 3) := by decide +kernel
theorem dL_run_15 : decode cL_run 15 = .ok (.astore 5, 2) := by decide +kernel
theorem dL_run_17 : decode cL_run 17 = .ok (.iconst 1, 1) := by decide +kernel
theorem dL_run_18 : decode cL_run 18 = .ok (.ireturn, 1) := by decide +kernel
theorem dL_run_19 : decode cL_run 19 = .ok (.astore 5, 2) := by decide +kernel
theorem dL_run_21 : decode cL_run 21 = .ok (.iconst 2, 1) := by decide +kernel
theorem dL_run_22 : decode cL_run 22 = .ok (.ireturn, 1) := by decide +kernel
theorem dL_run_23 : decode cL_run 23 = .ok (.iconst 0, 1) := by decide +kernel
theorem dL_run_24 : decode cL_run 24 = .ok (.ireturn, 1) := by decide +kernel
set_option maxRecDepth 100000 in
theorem ggL_node_X11_node : GoodIn wsL_node wsX11_node := goodIn_ca (goodIn_r _ [6, 7, 8, 9, 10, 11, 12, 13, 14, 15, 16, 17, 18, 19, 5, 20, 21, 22, 23, 24, 25, 26, 27, 28, 29, 30, 31, 32, 33, 34, 35, 36, 37, 38, 39, 40, 41, 42, 43, 44, 45, 46, 47, 48, 49, 50, 51, 52, 53, 54, 55, 56, 57, 58, 59, 60, 61, 62, 63, 64, 65, 66, 67, 68, 69, 70, 71, 72, 73, 74, 75, 76, 77, 78, 79] rfl rfl) (goodIn_sub (fun _ h => List.mem_cons_of_mem _ (List.mem_append_right _ h)) (by decide +kernel))
set_option maxRecDepth 100000 in
theorem gL_node_X11_node : GoodIn wsL_node (wsV RL 21 RX11 yX11_node wsX11_node) := goodIn_app (goodIn_of _ (by decide +kernel)) ggL_node_X11_node
theorem dL_node_0 : decode cL_node 0 = .ok (.aload_n 3, 1) := by decide +kernel
theorem dL_node_1 : decode cL_node 1 = .ok (.iconst 0, 1) := by decide +kernel
theorem dL_node_2 : decode cL_node 2 = .ok (.aload_n 0, 1) := by decide +kernel
theorem dL_node_3 : decode cL_node 3 = .ok (.iload_n 1, 1) := by decide +kernel
theorem dL_node_4 : decode cL_node 4 = .ok (.iload_n 2, 1) := by decide +kernel
theorem dL_node_5 : decode cL_node 5 = .ok (.invokevirtual 21, 3) := by decide +kernel
theorem dL_node_8 : decode cL_node 8 = .ok (.i2l, 1) := by decide +kernel
theorem dL_node_9 : decode cL_node 9 = .ok (.lastore, 1) := by decide +kernel
theorem dL_node_10 : decode cL_node 10 = .ok (.goto 7, 3) := by decide +kernel
theorem dL_node_13 : decode cL_node 13 = .ok (.astore 4, 2) := by decide +kernel
theorem dL_node_15 : decode cL_node 15 = .ok (.iconst 1, 1) := by decide +kernel
theorem dL_node_16 : decode cL_node 16 = .ok (.ireturn, 1) := by decide +kernel
theorem dL_node_17 : decode cL_node 17 = .ok (.iconst 0, 1) := by decide +kernel
theorem dL_node_18 : decode cL_node 18 = .ok (.ireturn, 1) := by decide +kernel
set_option maxRecDepth 100000 in
theorem ggL_root_X11_root : GoodIn wsL_root wsX11_root := goodIn_ca (goodIn_r _ [6, 7, 8, 9, 10, 11, 12, 13, 5, 14, 15, 16, 17, 18, 19, 20, 21, 22, 23, 24, 25, 26, 27, 28, 29, 30, 31, 32, 33, 34, 35, 36, 37, 38, 39, 40, 41, 42, 43, 44, 45, 46, 47, 48, 49, 50, 51, 52, 53, 54, 55, 56, 57, 58, 59, 60, 61, 62, 63, 64, 65, 66, 67, 68, 69, 70, 71, 72, 73, 74, 75, 76, 77, 78, 79, 80, 81, 82, 83, 84, 85, 86, 87, 88, 89, 90, 91, 92, 93, 94, 95, 96, 97] rfl rfl) (goodIn_sub (fun _ h => List.mem_cons_of_mem _ (List.mem_append_right _ h)) (by decide +kernel))
set_option maxRecDepth 100000 in
theorem gL_root_X11_root : GoodIn wsL_root (wsV RL 27 RX11 yX11_root wsX11_root) := goodIn_app (goodIn_of _ (by decide +kernel)) ggL_root_X11_root
theorem dL_root_0 : decode cL_root 0 = .ok (.aload_n 3, 1) := by decide +kernel
theorem dL_root_1 : decode cL_root 1 = .ok (.iconst 0, 1) := by decide +kernel
theorem dL_root_2 : decode cL_root 2 = .ok (.aload_n 0, 1) := by decide +kernel
theorem dL_root_3 : decode cL_root 3 = .ok (.iload_n 1, 1) := by decide +kernel
theorem dL_root_4 : decode cL_root 4 = .ok (.iload_n 2, 1) := by decide +kernel
theorem dL_root_5 : decode cL_root 5 = .ok (.invokevirtual 27, 3) := by decide +kernel
theorem dL_root_8 : decode cL_root 8 = .ok (.lastore, 1) := by decide +kernel
theorem dL_root_9 : decode cL_root 9 = .ok (.goto 7, 3) := by decide +kernel
theorem dL_root_12 : decode cL_root 12 = .ok (.astore 4, 2) := by decide +kernel
theorem dL_root_14 : decode cL_root 14 = .ok (.iconst 1, 1) := by decide +kernel
theorem dL_root_15 : decode cL_root 15 = .ok (.ireturn, 1) := by decide +kernel
theorem dL_root_16 : decode cL_root 16 = .ok (.iconst 0, 1) := by decide +kernel
theorem dL_root_17 : decode cL_root 17 = .ok (.ireturn, 1) := by decide +kernel
set_option maxRecDepth 100000 in
theorem ggL_typeRoot_X11_typeRoot : GoodIn wsL_typeRoot wsX11_typeRoot := goodIn_ca (goodIn_r _ [6, 7, 8, 9, 10, 11, 12, 13, 5, 14, 15, 16, 17, 18, 19, 20, 21, 22, 23, 24, 25, 26, 27, 28, 29, 30, 31, 32, 33, 34, 35, 36, 37, 38, 39, 40, 41, 42, 43, 44, 45, 46, 47, 48, 49, 50, 51, 52, 53, 54, 55, 56, 57, 58, 59, 60, 61, 62, 63, 64, 65, 66, 67, 68, 69, 70, 71, 72, 73, 74, 75, 76, 77, 78, 79, 80, 81, 82, 83, 84, 85, 86, 87, 88, 89, 90, 91, 92, 93, 94, 95, 96, 97, 98, 99, 100, 101, 102, 103, 104, 105, 106, 107, 108, 109, 110, 111, 112, 113, 114, 115] rfl rfl) (goodIn_sub (fun _ h => List.mem_cons_of_mem _ (List.mem_append_right _ h)) (by decide +kernel))
set_option maxRecDepth 100000 in
theorem gL_typeRoot_X11_typeRoot : GoodIn wsL_typeRoot (wsV RL 31 RX11 yX11_typeRoot wsX11_typeRoot) := goodIn_app (goodIn_of _ (by decide +kernel)) ggL_typeRoot_X11_typeRoot
theorem dL_typeRoot_0 : decode cL_typeRoot 0 = .ok (.aload 4, 2) := by decide +kernel
theorem dL_typeRoot_2 : decode cL_typeRoot 2 = .ok (.iconst 0, 1) := by decide +kernel
theorem dL_typeRoot_3 : decode cL_typeRoot 3 = .ok (.aload_n 0, 1) := by decide +kernel
theorem dL_typeRoot_4 : decode cL_typeRoot 4 = .ok (.iload_n 1, 1) := by decide +kernel
theorem dL_typeRoot_5 : decode cL_typeRoot 5 = .ok (.iload_n 2, 1) := by decide +kernel
theorem dL_typeRoot_6 : decode cL_typeRoot 6 = .ok (.iload_n 3, 1) := by decide +kernel
theorem dL_typeRoot_7 : decode cL_typeRoot 7 = .ok (.invokevirtual 31, 3) := by decide +kernel
theorem dL_typeRoot_10 : decode cL_typeRoot 10 = .ok (.lastore, 1) := by decide +kernel
theorem dL_typeRoot_11 : decode cL_typeRoot 11 = .ok (.goto 7, 3) := by decide +kernel
theorem dL_typeRoot_14 : decode cL_typeRoot 14 = .ok (.astore 5, 2) := by decide +kernel
theorem dL_typeRoot_16 : decode cL_typeRoot 16 = .ok (.iconst 1, 1) := by decide +kernel
theorem dL_typeRoot_17 : decode cL_typeRoot 17 = .ok (.ireturn, 1) := by decide +kernel
theorem dL_typeRoot_18 : decode cL_typeRoot 18 = .ok (.iconst 0, 1) := by decide +kernel
theorem dL_typeRoot_19 : decode cL_typeRoot 19 = .ok (.ireturn, 1) := by decide +kernel
set_option maxRecDepth 100000 in
theorem ggL_type_X11_type : GoodIn wsL_type wsX11_type := goodIn_ca (goodIn_r _ [6, 7, 8, 9, 10, 11, 12, 13, 14, 15, 5, 16, 17, 18, 19, 20, 21, 22, 23, 24, 25, 26, 27, 28, 29, 30, 31, 32, 33, 34, 35, 36, 37, 38, 39, 40, 41, 42, 43, 44, 45, 46, 47, 48, 49, 50, 51, 52, 53, 54, 55, 56, 57, 58, 59, 60, 61, 62, 63, 64, 65, 66, 67, 68, 69, 70, 71, 72, 73, 74, 75, 76, 77, 78, 79, 80, 81, 82, 83, 84, 85, 86, 87, 88, 89, 90, 91, 92, 93, 94, 95, 96, 97, 98, 99, 100, 101, 102, 103, 104, 105, 106, 107, 108, 109, 110, 111, 112, 113, 114, 115, 116, 117, 118, 119] rfl rfl) (goodIn_sub (fun _ h => List.mem_cons_of_mem _ (List.mem_append_right _ h)) (by decide +kernel))
set_option maxRecDepth 100000 in
theorem gL_type_X11_type : GoodIn wsL_type (wsV RL 35 RX11 yX11_type wsX11_type) := goodIn_app (goodIn_of _ (by decide +kernel)) ggL_type_X11_type
theorem dL_type_0 : decode cL_type 0 = .ok (.aload_n 3, 1) := by decide +kernel
theorem dL_type_1 : decode cL_type 1 = .ok (.iconst 0, 1) := by decide +kernel
theorem dL_type_2 : decode cL_type 2 = .ok (.aload_n 0, 1) := by decide +kernel
theorem dL_type_3 : decode cL_type 3 = .ok (.iload_n 1, 1) := by decide +kernel
theorem dL_type_4 : decode cL_type 4 = .ok (.iload_n 2, 1) := by decide +kernel
theorem dL_type_5 : decode cL_type 5 = .ok (.invokevirtual 35, 3) := by decide +kernel
theorem dL_type_8 : decode cL_type 8 = .ok (.i2l, 1) := by decide +kernel
theorem dL_type_9 : decode cL_type 9 = .ok (.lastore, 1) := by decide +kernel
theorem dL_type_10 : decode cL_type 10 = .ok (.goto 7, 3) := by decide +kernel
theorem dL_type_13 : decode cL_type 13 = .ok (.astore 4, 2) := by decide +kernel
theorem dL_type_15 : decode cL_type 15 = .ok (.iconst 1, 1) := by decide +kernel
theorem dL_type_16 : decode cL_type 16 = .ok (.ireturn, 1) := by decide +kernel
theorem dL_type_17 : decode cL_type 17 = .ok (.iconst 0, 1) := by decide +kernel
theorem dL_type_18 : decode cL_type 18 = .ok (.ireturn, 1) := by decide +kernel
set_option maxRecDepth 100000 in
theorem ggL_speak_X11_speak : GoodIn wsL_speak wsX11_speak := goodIn_ca (goodIn_r _ [6, 7, 8, 9, 10, 11, 12, 13, 14, 15, 16, 17, 18, 19, 20, 21, 22, 23, 24, 25, 26, 27, 28, 29, 30, 31, 32, 33, 34, 35, 36, 37, 38, 39, 40, 41, 42, 43, 44, 45, 46, 47, 48, 49, 50, 51, 52, 53, 54, 55, 56, 57, 58, 59, 60, 61, 62, 63, 64, 65, 66, 67, 68, 69, 70, 71, 72, 73, 74, 75, 76, 77, 78, 79, 80, 81, 82, 83, 84, 85, 86, 87, 88, 89, 90, 91, 92, 93, 94, 95, 96, 97, 98, 99, 100, 101, 102, 103, 104, 105, 106, 107, 108, 109, 110, 111, 112, 113, 114, 115, 116, 117, 118, 119, 120, 121, 122, 123, 124, 125, 126, 127, 128, 129, 130, 131, 132, 133, 5, 134, 135, 136, 137, 138, 139, 140, 141, 142, 143, 144, 145, 146, 147, 148, 149, 150, 151, 152, 153, 154, 155, 156, 157, 158, 159, 160, 161, 162, 163, 164, 165, 166, 167, 168, 169, 170, 171, 172, 173, 174, 175, 176, 177, 178, 179, 180, 181, 182, 183, 184, 185, 186, 187, 188, 189, 190, 191, 192, 193, 194] rfl rfl) (goodIn_sub (fun _ h => List.mem_cons_of_mem _ (List.mem_append_right _ h)) (by decide +kernel))
set_option maxRecDepth 100000 in
theorem gL_speak_X11_speak : GoodIn wsL_speak (wsV RL 39 RX11 yX11_speak wsX11_speak) := goodIn_app (goodIn_of _ (by decide +kernel)) ggL_speak_X11_speak
theorem dL_speak_0 : decode cL_speak 0 = .ok (.aload_n 1, 1) := by decide +kernel
theorem dL_speak_1 : decode cL_speak 1 = .ok (.iconst 0, 1) := by decide +kernel
theorem dL_speak_2 : decode cL_speak 2 = .ok (.aload_n 0, 1) := by decide +kernel
theorem dL_speak_3 : decode cL_speak 3 = .ok (.invokevirtual 39, 3) := by decide +kernel
theorem dL_speak_6 : decode cL_speak 6 = .ok (.i2l, 1) := by decide +kernel
theorem dL_speak_7 : decode cL_speak 7 = .ok (.lastore, 1) := by decide +kernel
theorem dL_speak_8 : decode cL_speak 8 = .ok (.goto 6, 3) := by decide +kernel
theorem dL_speak_11 : decode cL_speak 11 = .ok (.astore_n 2, 1) := by decide +kernel
theorem dL_speak_12 : decode cL_speak 12 = .ok (.iconst 1, 1) := by decide +kernel
theorem dL_speak_13 : decode cL_speak 13 = .ok (.ireturn, 1) := by decide +kernel
theorem dL_speak_14 : decode cL_speak 14 = .ok (.iconst 0, 1) := by decide +kernel
theorem dL_speak_15 : decode cL_speak 15 = .ok (.ireturn, 1) := by decide +kernel
set_option maxRecDepth 100000 in
theorem ggL_value_X11_value : GoodIn wsL_value wsX11_value := goodIn_ca (goodIn_r _ [6, 7, 8, 9, 10, 11, 12, 13, 5, 14, 15, 16, 17, 18, 19, 20, 21, 22, 23, 24, 25, 26, 27, 28, 29, 30, 31, 32, 33, 34, 35, 36, 37, 38, 39, 40, 41, 42, 43, 44, 45, 46, 47, 48, 49, 50, 51, 52, 53, 54, 55, 56, 57, 58, 59, 60, 61, 62, 63, 64, 65, 66, 67, 68, 69, 70, 71, 72, 73, 74, 75, 76, 77, 78, 79, 80, 81, 82, 83, 84, 85, 86, 87, 88, 89, 90, 91, 92, 93, 94, 95, 96, 97, 98, 99, 100, 101, 102, 103, 104, 105, 106, 107, 108, 109, 110, 111, 112, 113, 114, 115, 116, 117, 118, 119, 120, 121, 122, 123, 124, 125, 126, 127, 128, 129, 130, 131, 132, 133, 134, 135, 136, 137, 138, 139, 140, 141, 142, 143, 144, 145, 146, 147, 148, 149, 150, 151, 152, 153, 154, 155, 156, 157, 158, 159, 160, 161, 162, 163, 164] rfl rfl) (goodIn_sub (fun _ h => List.mem_cons_of_mem _ (List.mem_append_right _ h)) (by decide +kernel))
set_option maxRecDepth 100000 in
theorem gL_value_X11_value : GoodIn wsL_value (wsV RL 43 RX11 yX11_value wsX11_value) := goodIn_app (goodIn_of _ (by decide +kernel)) ggL_value_X11_value
theorem dL_value_0 : decode cL_value 0 = .ok (.aload_n 3, 1) := by decide +kernel
theorem dL_value_1 : decode cL_value 1 = .ok (.iconst 0, 1) := by decide +kernel
theorem dL_value_2 : decode cL_value 2 = .ok (.aload_n 0, 1) := by decide +kernel
theorem dL_value_3 : decode cL_value 3 = .ok (.iload_n 1, 1) := by decide +kernel
theorem dL_value_4 : decode cL_value 4 = .ok (.iload_n 2, 1) := by decide +kernel
theorem dL_value_5 : decode cL_value 5 = .ok (.invokevirtual 43, 3) := by decide +kernel
theorem dL_value_8 : decode cL_value 8 = .ok (.i2l, 1) := by decide +kernel
theorem dL_value_9 : decode cL_value 9 = .ok (.lastore, 1) := by decide +kernel
theorem dL_value_10 : decode cL_value 10 = .ok (.goto 7, 3) := by decide +kernel
theorem dL_value_13 : decode cL_value 13 = .ok (.astore 4, 2) := by decide +kernel
theorem dL_value_15 : decode cL_value 15 = .ok (.iconst 1, 1) := by decide +kernel
theorem dL_value_16 : decode cL_value 16 = .ok (.ireturn, 1) := by decide +kernel
theorem dL_value_17 : decode cL_value 17 = .ok (.iconst 0, 1) := by decide +kernel
theorem dL_value_18 : decode cL_value 18 = .ok (.ireturn, 1) := by decide +kernel
set_option maxRecDepth 100000 in
theorem ggL_worth_X11_worth : GoodIn wsL_worth wsX11_worth := goodIn_ca (goodIn_r _ [6, 7, 8, 9, 10, 11, 12, 13, 5, 14, 15, 16, 17, 18, 19, 20, 21, 22, 23, 24, 25, 26, 27, 28, 29, 30, 31, 32, 33, 34, 35, 36, 37, 38, 39, 40, 41, 42, 43, 44, 45, 46, 47, 48, 49, 50, 51, 52, 53, 54, 55, 56, 57, 58, 59, 60, 61, 62, 63, 64, 65, 66, 67, 68, 69, 70, 71, 72, 73, 74, 75, 76, 77, 78, 79, 80, 81, 82, 83, 84, 85, 86, 87, 88, 89, 90, 91, 92, 93, 94, 95, 96, 97, 98, 99, 100, 101, 102, 103, 104, 105, 106, 107, 108, 109, 110, 111, 112, 113, 114, 115, 116, 117, 118, 119, 120, 121, 122, 123, 124, 125, 126, 127, 128, 129, 130, 131, 132, 133, 134, 135, 136, 137, 138, 139, 140, 141, 142, 143, 144, 145, 146, 147, 148, 149, 150, 151, 152, 153] rfl rfl) (goodIn_sub (fun _ h => List.mem_cons_of_mem _ (List.mem_append_right _ h)) (by decide +kernel))
set_option maxRecDepth 100000 in
theorem gL_worth_X11_worth : GoodIn wsL_worth (wsV RL 46 RX11 yX11_worth wsX11_worth) := goodIn_app (goodIn_of _ (by decide +kernel)) ggL_worth_X11_worth
theorem dL_worth_0 : decode cL_worth 0 = .ok (.aload_n 3, 1) := by decide +kernel
theorem dL_worth_1 : decode cL_worth 1 = .ok (.iconst 0, 1) := by decide +kernel
theorem dL_worth_2 : decode cL_worth 2 = .ok (.aload_n 0, 1) := by decide +kernel
theorem dL_worth_3 : decode cL_worth 3 = .ok (.iload_n 1, 1) := by decide +kernel
theorem dL_worth_4 : decode cL_worth 4 = .ok (.iload_n 2, 1) := by decide +kernel
theorem dL_worth_5 : decode cL_worth 5 = .ok (.invokevirtual 46, 3) := by decide +kernel
theorem dL_worth_8 : decode cL_worth 8 = .ok (.i2l, 1) := by decide +kernel
theorem dL_worth_9 : decode cL_worth 9 = .ok (.lastore, 1) := by decide +kernel
theorem dL_worth_10 : decode cL_worth 10 = .ok (.goto 7, 3) := by decide +kernel
theorem dL_worth_13 : decode cL_worth 13 = .ok (.astore 4, 2) := by decide +kernel
theorem dL_worth_15 : decode cL_worth 15 = .ok (.iconst 1, 1) := by decide +kernel
theorem dL_worth_16 : decode cL_worth 16 = .ok (.ireturn, 1) := by decide +kernel
theorem dL_worth_17 : decode cL_worth 17 = .ok (.iconst 0, 1) := by decide +kernel
theorem dL_worth_18 : decode cL_worth 18 = .ok (.ireturn, 1) := by decide +kernel
set_option maxRecDepth 100000 in
theorem ggL_write_X11_write : GoodIn wsL_write wsX11_write := goodIn_ca (goodIn_r _ [6, 7, 8, 9, 10, 11, 12, 13, 14, 15, 16, 17, 18, 19, 20, 21, 22, 23, 24, 25, 26, 27, 28, 29, 30, 31, 32, 33, 34, 35, 36, 37, 38, 39, 40, 41, 42, 43, 44, 45, 46, 47, 48, 49, 50, 51, 52, 53, 54, 55, 56, 57, 58, 59, 60, 61, 62, 63, 64, 65, 66, 67] rfl rfl) (goodIn_sub (fun _ h => List.mem_cons_of_mem _ (List.mem_append_right _ h)) (by decide +kernel))
set_option maxRecDepth 100000 in
theorem gL_write_X11_write : GoodIn wsL_write (wsV RL 49 RX11 yX11_write wsX11_write) := goodIn_app (goodIn_of _ (by decide +kernel)) ggL_write_X11_write
theorem dL_write_0 : decode cL_write 0 = .ok (.aload_n 1, 1) := by decide +kernel
theorem dL_write_1 : decode cL_write 1 = .ok (.iconst 0, 1) := by decide +kernel
theorem dL_write_2 : decode cL_write 2 = .ok (.aload_n 0, 1) := by decide +kernel
theorem dL_write_3 : decode cL_write 3 = .ok (.invokevirtual 49, 3) := by decide +kernel
theorem dL_write_6 : decode cL_write 6 = .ok (.i2l, 1) := by decide +kernel
theorem dL_write_7 : decode cL_write 7 = .ok (.lastore, 1) := by decide +kernel
theorem dL_write_8 : decode cL_write 8 = .ok (.goto 6, 3) := by decide +kernel
theorem dL_write_11 : decode cL_write 11 = .ok (.astore_n 2, 1) := by decide +kernel
theorem dL_write_12 : decode cL_write 12 = .ok (.iconst 1, 1) := by decide +kernel
theorem dL_write_13 : decode cL_write 13 = .ok (.ireturn, 1) := by decide +kernel
theorem dL_write_14 : decode cL_write 14 = .ok (.iconst 0, 1) := by decide +kernel
theorem dL_write_15 : decode cL_write 15 = .ok (.ireturn, 1) := by decide +kernel
set_option maxRecDepth 100000 in
theorem ggL_out_X11_out : GoodIn wsL_out wsX11_out := goodIn_ca (goodIn_r _ [6, 7, 8, 9, 10, 11, 12, 13, 14, 15, 16, 17, 18, 19, 20, 21, 22, 23, 24, 25, 26, 27, 28, 29, 30, 31, 32, 33, 34, 35, 36, 37, 38] rfl rfl) (goodIn_sub (fun _ h => List.mem_cons_of_mem _ (List.mem_append_right _ h)) (by decide +kernel))
set_option maxRecDepth 100000 in
theorem gL_out_X11_out : GoodIn wsL_out (wsV RL 52 RX11 yX11_out wsX11_out) := goodIn_app (goodIn_of _ (by decide +kernel)) ggL_out_X11_out
theorem dL_out_0 : decode cL_out 0 = .ok (.aload_n 2, 1) := by decide +kernel
theorem dL_out_1 : decode cL_out 1 = .ok (.iconst 0, 1) := by decide +kernel
theorem dL_out_2 : decode cL_out 2 = .ok (.aload_n 0, 1) := by decide +kernel
theorem dL_out_3 : decode cL_out 3 = .ok (.iload_n 1, 1) := by decide +kernel
theorem dL_out_4 : decode cL_out 4 = .ok (.invokevirtual 52, 3) := by decide +kernel
theorem dL_out_7 : decode cL_out 7 = .ok (.lastore, 1) := by decide +kernel
theorem dL_out_8 : decode cL_out 8 = .ok (.goto 6, 3) := by decide +kernel
theorem dL_out_11 : decode cL_out 11 = .ok (.astore_n 3, 1) := by decide +kernel
theorem dL_out_12 : decode cL_out 12 = .ok (.iconst 1, 1) := by decide +kernel
theorem dL_out_13 : decode cL_out 13 = .ok (.ireturn, 1) := by decide +kernel
theorem dL_out_14 : decode cL_out 14 = .ok (.iconst 0, 1) := by decide +kernel
theorem dL_out_15 : decode cL_out 15 = .ok (.ireturn, 1) := by decide +kernel
set_option maxRecDepth 100000 in
theorem ggL_look_X11_look : GoodIn wsL_look wsX11_look := goodIn_ca (goodIn_r _ [6, 7, 8, 9, 10, 11, 12, 13, 14, 15, 16, 17, 18, 19, 20, 21, 22, 5, 23, 24, 25, 26, 27, 28, 29, 30, 31, 32, 33, 34, 35, 36, 37, 38, 39, 40, 41, 42, 43, 44, 45, 46, 47, 48, 49, 50, 51, 52, 53, 54, 55, 56, 57, 58, 59, 60, 61, 62, 63, 64, 65, 66, 67, 68, 69, 70, 71, 72, 73, 74, 75, 76, 77, 78, 79, 80, 81, 82, 83, 84, 85, 86, 87, 88, 89, 90, 91, 92, 93, 94, 95, 96, 97, 98, 99, 100, 101, 102, 103, 104, 105, 106, 107, 108, 109, 110] rfl rfl) (goodIn_sub (fun _ h => List.mem_cons_of_mem _ (List.mem_append_right _ h)) (by decide +kernel))
set_option maxRecDepth 100000 in
theorem gL_look_X11_look : GoodIn wsL_look (wsV RL 56 RX11 yX11_look wsX11_look) := goodIn_app (goodIn_of _ (by decide +kernel)) ggL_look_X11_look
theorem dL_look_0 : decode cL_look 0 = .ok (.aload_n 2, 1) := by decide +kernel
theorem dL_look_1 : decode cL_look 1 = .ok (.iconst 0, 1) := by decide +kernel
theorem dL_look_2 : decode cL_look 2 = .ok (.aload_n 0, 1) := by decide +kernel
theorem dL_look_3 : decode cL_look 3 = .ok (.iload_n 1, 1) := by decide +kernel
theorem dL_look_4 : decode cL_look 4 = .ok (.invokevirtual 56, 3) := by decide +kernel
theorem dL_look_7 : decode cL_look 7 = .ok (.i2l, 1) := by decide +kernel
theorem dL_look_8 : decode cL_look 8 = .ok (.lastore, 1) := by decide +kernel
theorem dL_look_9 : decode cL_look 9 = .ok (.goto 6, 3) := by decide +kernel
theorem dL_look_12 : decode cL_look 12 = .ok (.astore_n 3, 1) := by decide +kernel
theorem dL_look_13 : decode cL_look 13 = .ok (.iconst 1, 1) := by decide +kernel
theorem dL_look_14 : decode cL_look 14 = .ok (.ireturn, 1) := by decide +kernel
theorem dL_look_15 : decode cL_look 15 = .ok (.iconst 0, 1) := by decide +kernel
theorem dL_look_16 : decode cL_look 16 = .ok (.ireturn, 1) := by decide +kernel

