theorem dX3_readProgram_0 : decode cX3_readProgram 0 = .ok (.aload_n 0, 1) := by decide +kernel
theorem dX3_readProgram_1 : decode cX3_readProgram 1 = .ok (.aload_n 2, 1) := by decide +kernel
theorem dX3_readProgram_2 : decode cX3_readProgram 2 = .ok (.putfield 15, 3) := by decide +kernel
theorem dX3_readProgram_5 : decode cX3_readProgram 5 = .ok (.aload_n 0, 1) := by decide +kernel
theorem dX3_readProgram_6 : decode cX3_readProgram 6 = .ok (.getfield 15, 3) := by decide +kernel
theorem dX3_readProgram_9 : decode cX3_readProgram 9 = .ok (.invokevirtual 19, 3) := by decide +kernel
theorem dX3_readProgram_12 : decode cX3_readProgram 12 = .ok (.aload_n 0, 1) := by decide +kernel
theorem dX3_readProgram_13 : decode cX3_readProgram 13 = .ok (.getfield 15, 3) := by decide +kernel
theorem dX3_readProgram_16 : decode cX3_readProgram 16 = .ok (.getfield 24, 3) := by decide +kernel
theorem dX3_readProgram_19 : decode cX3_readProgram 19 = .ok (.aload_n 1, 1) := by decide +kernel
theorem dX3_readProgram_20 : decode cX3_readProgram 20 = .ok (.invokevirtual 28, 3) := by decide +kernel
theorem dX3_readProgram_23 : decode cX3_readProgram 23 = .ok (.aload_n 0, 1) := by decide +kernel
theorem dX3_readProgram_24 : decode cX3_readProgram 24 = .ok (.aload_n 0, 1) := by decide +kernel
theorem dX3_readProgram_25 : decode cX3_readProgram 25 = .ok (.getfield 15, 3) := by decide +kernel
theorem dX3_readProgram_28 : decode cX3_readProgram 28 = .ok (.getfield 24, 3) := by decide +kernel
theorem dX3_readProgram_31 : decode cX3_readProgram 31 = .ok (.putfield 34, 3) := by decide +kernel
theorem dX3_readProgram_34 : decode cX3_readProgram 34 = .ok (.aload_n 0, 1) := by decide +kernel
theorem dX3_readProgram_35 : decode cX3_readProgram 35 = .ok (.iconst 0, 1) := by decide +kernel
theorem dX3_readProgram_36 : decode cX3_readProgram 36 = .ok (.putfield 37, 3) := by decide +kernel
theorem dX3_readProgram_39 : decode cX3_readProgram 39 = .ok (.aload_n 0, 1) := by decide +kernel
theorem dX3_readProgram_40 : decode cX3_readProgram 40 = .ok (.bipush 8, 2) := by decide +kernel
theorem dX3_readProgram_42 : decode cX3_readProgram 42 = .ok (.aload_n 0, 1) := by decide +kernel
theorem dX3_readProgram_43 : decode cX3_readProgram 43 = .ok (.getfield 34, 3) := by decide +kernel
theorem dX3_readProgram_46 : decode cX3_readProgram 46 = .ok (.getfield 41, 3) := by decide +kernel
theorem dX3_readProgram_49 : decode cX3_readProgram 49 = .ok (.imul, 1) := by decide +kernel
theorem dX3_readProgram_50 : decode cX3_readProgram 50 = .ok (.putfield 44, 3) := by decide +kernel
theorem dX3_readProgram_53 : decode cX3_readProgram 53 = .ok (.aload_n 0, 1) := by decide +kernel
theorem dX3_readProgram_54 : decode cX3_readProgram 54 = .ok (.iconst 0, 1) := by decide +kernel
theorem dX3_readProgram_55 : decode cX3_readProgram 55 = .ok (.putfield 47, 3) := by decide +kernel
theorem dX3_readProgram_58 : decode cX3_readProgram 58 = .ok (.aload_n 0, 1) := by decide +kernel
theorem dX3_readProgram_59 : decode cX3_readProgram 59 = .ok (.invokevirtual 50, 3) := by decide +kernel
theorem dX3_readProgram_62 : decode cX3_readProgram 62 = .ok (.istore_n 3, 1) := by decide +kernel
theorem dX3_readProgram_63 : decode cX3_readProgram 63 = .ok (.aload_n 0, 1) := by decide +kernel
theorem dX3_readProgram_64 : decode cX3_readProgram 64 = .ok (.getfield 47, 3) := by decide +kernel
theorem dX3_readProgram_67 : decode cX3_readProgram 67 = .ok (.ifCond .ne 15, 3) := by decide +kernel
theorem dX3_readProgram_82 : decode cX3_readProgram 82 = .ok (.iconst 0, 1) := by decide +kernel
theorem dX3_readProgram_83 : decode cX3_readProgram 83 = .ok (.istore 4, 2) := by decide +kernel
theorem dX3_readProgram_85 : decode cX3_readProgram 85 = .ok (.iload 4, 2) := by decide +kernel
theorem dX3_readProgram_87 : decode cX3_readProgram 87 = .ok (.iload_n 3, 1) := by decide +kernel
theorem dX3_readProgram_88 : decode cX3_readProgram 88 = .ok (.if_icmp .ge 20, 3) := by decide +kernel
theorem dX3_readProgram_91 : decode cX3_readProgram 91 = .ok (.aload_n 0, 1) := by decide +kernel
theorem dX3_readProgram_92 : decode cX3_readProgram 92 = .ok (.getfield 47, 3) := by decide +kernel
theorem dX3_readProgram_95 : decode cX3_readProgram 95 = .ok (.ifCond .ne 13, 3) := by decide +kernel
theorem dX3_readProgram_108 : decode cX3_readProgram 108 = .ok (.aload_n 0, 1) := by decide +kernel
theorem dX3_readProgram_109 : decode cX3_readProgram 109 = .ok (.getfield 47, 3) := by decide +kernel
theorem dX3_readProgram_112 : decode cX3_readProgram 112 = .ok (.ifCond .eq 8, 3) := by decide +kernel
theorem dX3_readProgram_115 : decode cX3_readProgram 115 = .ok (.aload_n 0, 1) := by decide +kernel
theorem dX3_readProgram_116 : decode cX3_readProgram 116 = .ok (.getfield 47, 3) := by decide +kernel
theorem dX3_readProgram_119 : decode cX3_readProgram 119 = .ok (.ireturn, 1) := by decide +kernel
theorem dX3_readBits_0 : decode cX3_readBits 0 = .ok (.aload_n 0, 1) := by decide +kernel
theorem dX3_readBits_1 : decode cX3_readBits 1 = .ok (.getfield 47, 3) := by decide +kernel
theorem dX3_readBits_4 : decode cX3_readBits 4 = .ok (.ifCond .ne 21, 3) := by decide +kernel
theorem dX3_readBits_7 : decode cX3_readBits 7 = .ok (.aload_n 0, 1) := by decide +kernel
theorem dX3_readBits_8 : decode cX3_readBits 8 = .ok (.getfield 44, 3) := by decide +kernel
theorem dX3_readBits_11 : decode cX3_readBits 11 = .ok (.aload_n 0, 1) := by decide +kernel
theorem dX3_readBits_12 : decode cX3_readBits 12 = .ok (.getfield 37, 3) := by decide +kernel
theorem dX3_readBits_15 : decode cX3_readBits 15 = .ok (.isub, 1) := by decide +kernel
theorem dX3_readBits_16 : decode cX3_readBits 16 = .ok (.iload_n 1, 1) := by decide +kernel
theorem dX3_readBits_17 : decode cX3_readBits 17 = .ok (.if_icmp .ge 8, 3) := by decide +kernel
theorem dX3_readBits_20 : decode cX3_readBits 20 = .ok (.aload_n 0, 1) := by decide +kernel
theorem dX3_readBits_21 : decode cX3_readBits 21 = .ok (.iconst 1, 1) := by decide +kernel
theorem dX3_readBits_22 : decode cX3_readBits 22 = .ok (.putfield 47, 3) := by decide +kernel
theorem dX3_readBits_25 : decode cX3_readBits 25 = .ok (.aload_n 0, 1) := by decide +kernel
theorem dX3_readBits_26 : decode cX3_readBits 26 = .ok (.getfield 47, 3) := by decide +kernel
theorem dX3_readBits_29 : decode cX3_readBits 29 = .ok (.ifCond .eq 5, 3) := by decide +kernel
theorem dX3_readBits_32 : decode cX3_readBits 32 = .ok (.iconst 0, 1) := by decide +kernel
theorem dX3_readBits_33 : decode cX3_readBits 33 = .ok (.ireturn, 1) := by decide +kernel
theorem dX3_readNatural_0 : decode cX3_readNatural 0 = .ok (.iconst 0, 1) := by decide +kernel
theorem dX3_readNatural_1 : decode cX3_readNatural 1 = .ok (.istore_n 1, 1) := by decide +kernel
theorem dX3_readNatural_2 : decode cX3_readNatural 2 = .ok (.aload_n 0, 1) := by decide +kernel
theorem dX3_readNatural_3 : decode cX3_readNatural 3 = .ok (.getfield 37, 3) := by decide +kernel
theorem dX3_readNatural_6 : decode cX3_readNatural 6 = .ok (.aload_n 0, 1) := by decide +kernel
theorem dX3_readNatural_7 : decode cX3_readNatural 7 = .ok (.getfield 44, 3) := by decide +kernel
theorem dX3_readNatural_10 : decode cX3_readNatural 10 = .ok (.if_icmp .ge 34, 3) := by decide +kernel
theorem dX3_readNatural_44 : decode cX3_readNatural 44 = .ok (.aload_n 0, 1) := by decide +kernel
theorem dX3_readNatural_45 : decode cX3_readNatural 45 = .ok (.iconst 1, 1) := by decide +kernel
theorem dX3_readNatural_46 : decode cX3_readNatural 46 = .ok (.invokevirtual 80, 3) := by decide +kernel
theorem dX3_readNatural_49 : decode cX3_readNatural 49 = .ok (.pop, 1) := by decide +kernel
theorem dX3_readNatural_50 : decode cX3_readNatural 50 = .ok (.iconst 1, 1) := by decide +kernel
theorem dX3_readNatural_51 : decode cX3_readNatural 51 = .ok (.istore_n 2, 1) := by decide +kernel
theorem dX3_readNatural_52 : decode cX3_readNatural 52 = .ok (.iconst 0, 1) := by decide +kernel
theorem dX3_readNatural_53 : decode cX3_readNatural 53 = .ok (.istore_n 3, 1) := by decide +kernel
theorem dX3_readNatural_54 : decode cX3_readNatural 54 = .ok (.iload_n 3, 1) := by decide +kernel
theorem dX3_readNatural_55 : decode cX3_readNatural 55 = .ok (.iload_n 1, 1) := by decide +kernel
theorem dX3_readNatural_56 : decode cX3_readNatural 56 = .ok (.if_icmp .ge 40, 3) := by decide +kernel
theorem dX3_readNatural_96 : decode cX3_readNatural 96 = .ok (.iload_n 2, 1) := by decide +kernel
theorem dX3_readNatural_97 : decode cX3_readNatural 97 = .ok (.ireturn, 1) := by decide +kernel
theorem dX6_clear_0 : decode cX6_clear 0 = .ok (.aload_n 0, 1) := by decide +kernel
theorem dX6_clear_1 : decode cX6_clear 1 = .ok (.iconst 0, 1) := by decide +kernel
theorem dX6_clear_2 : decode cX6_clear 2 = .ok (.putfield 59, 3) := by decide +kernel
theorem dX6_clear_5 : decode cX6_clear 5 = .ok (.aload_n 0, 1) := by decide +kernel
theorem dX6_clear_6 : decode cX6_clear 6 = .ok (.iconst 0, 1) := by decide +kernel
theorem dX6_clear_7 : decode cX6_clear 7 = .ok (.putfield 63, 3) := by decide +kernel
theorem dX6_clear_10 : decode cX6_clear 10 = .ok (.aload_n 0, 1) := by decide +kernel
theorem dX6_clear_11 : decode cX6_clear 11 = .ok (.iconst 0, 1) := by decide +kernel
theorem dX6_clear_12 : decode cX6_clear 12 = .ok (.putfield 66, 3) := by decide +kernel
theorem dX6_clear_15 : decode cX6_clear 15 = .ok (.return_, 1) := by decide +kernel
theorem dX9_tell_0 : decode cX9_tell 0 = .ok (.aload_n 0, 1) := by decide +kernel
theorem dX9_tell_1 : decode cX9_tell 1 = .ok (.aload_n 1, 1) := by decide +kernel
theorem dX9_tell_2 : decode cX9_tell 2 = .ok (.putfield 32, 3) := by decide +kernel
theorem dX9_tell_5 : decode cX9_tell 5 = .ok (.aload_n 0, 1) := by decide +kernel
theorem dX9_tell_6 : decode cX9_tell 6 = .ok (.aload_n 2, 1) := by decide +kernel
theorem dX9_tell_7 : decode cX9_tell 7 = .ok (.putfield 36, 3) := by decide +kernel
theorem dX9_tell_10 : decode cX9_tell 10 = .ok (.aload_n 0, 1) := by decide +kernel
theorem dX9_tell_11 : decode cX9_tell 11 = .ok (.getfield 36, 3) := by decide +kernel
theorem dX9_tell_14 : decode cX9_tell 14 = .ok (.invokevirtual 40, 3) := by decide +kernel
theorem dX9_tell_17 : decode cX9_tell 17 = .ok (.aload_n 0, 1) := by decide +kernel
theorem dX9_tell_18 : decode cX9_tell 18 = .ok (.iconst 0, 1) := by decide +kernel
theorem dX9_tell_19 : decode cX9_tell 19 = .ok (.putfield 45, 3) := by decide +kernel
theorem dX9_tell_22 : decode cX9_tell 22 = .ok (.aload_n 0, 1) := by decide +kernel
theorem dX9_tell_23 : decode cX9_tell 23 = .ok (.iconst 0, 1) := by decide +kernel
theorem dX9_tell_24 : decode cX9_tell 24 = .ok (.putfield 49, 3) := by decide +kernel
theorem dX9_tell_27 : decode cX9_tell 27 = .ok (.aload_n 0, 1) := by decide +kernel
theorem dX9_tell_28 : decode cX9_tell 28 = .ok (.iconst 0, 1) := by decide +kernel
theorem dX9_tell_29 : decode cX9_tell 29 = .ok (.putfield 52, 3) := by decide +kernel
theorem dX9_tell_32 : decode cX9_tell 32 = .ok (.aload_n 0, 1) := by decide +kernel
theorem dX9_tell_33 : decode cX9_tell 33 = .ok (.iconst 0, 1) := by decide +kernel
theorem dX9_tell_34 : decode cX9_tell 34 = .ok (.putfield 55, 3) := by decide +kernel
theorem dX9_tell_37 : decode cX9_tell 37 = .ok (.iconst 0, 1) := by decide +kernel
theorem dX9_tell_38 : decode cX9_tell 38 = .ok (.istore 4, 2) := by decide +kernel
theorem dX9_tell_40 : decode cX9_tell 40 = .ok (.iload 4, 2) := by decide +kernel
theorem dX9_tell_42 : decode cX9_tell 42 = .ok (.sipush 512, 3) := by decide +kernel
theorem dX9_tell_45 : decode cX9_tell 45 = .ok (.if_icmp .ge 17, 3) := by decide +kernel
theorem dX9_tell_48 : decode cX9_tell 48 = .ok (.aload_n 0, 1) := by decide +kernel
theorem dX9_tell_49 : decode cX9_tell 49 = .ok (.getfield 25, 3) := by decide +kernel
theorem dX9_tell_52 : decode cX9_tell 52 = .ok (.iload 4, 2) := by decide +kernel
theorem dX9_tell_54 : decode cX9_tell 54 = .ok (.iconst (-1), 1) := by decide +kernel
theorem dX9_tell_55 : decode cX9_tell 55 = .ok (.iastore, 1) := by decide +kernel
theorem dX9_tell_56 : decode cX9_tell 56 = .ok (.iinc 4 1, 3) := by decide +kernel
theorem dX9_tell_59 : decode cX9_tell 59 = .ok (.goto (-19), 3) := by decide +kernel
theorem dX9_tell_62 : decode cX9_tell 62 = .ok (.iconst 1, 1) := by decide +kernel
theorem dX9_tell_63 : decode cX9_tell 63 = .ok (.istore 4, 2) := by decide +kernel
theorem dX9_tell_65 : decode cX9_tell 65 = .ok (.iconst 0, 1) := by decide +kernel
theorem dX9_tell_66 : decode cX9_tell 66 = .ok (.istore 5, 2) := by decide +kernel
theorem dX9_tell_68 : decode cX9_tell 68 = .ok (.iload 5, 2) := by decide +kernel
theorem dX9_tell_70 : decode cX9_tell 70 = .ok (.sipush 8192, 3) := by decide +kernel
theorem dX9_tell_73 : decode cX9_tell 73 = .ok (.if_icmp .ge 20, 3) := by decide +kernel
theorem dX9_tell_76 : decode cX9_tell 76 = .ok (.iload 4, 2) := by decide +kernel
theorem dX9_tell_78 : decode cX9_tell 78 = .ok (.ifCond .eq 15, 3) := by decide +kernel
theorem dX9_tell_81 : decode cX9_tell 81 = .ok (.aload_n 0, 1) := by decide +kernel
theorem dX9_tell_82 : decode cX9_tell 82 = .ok (.invokevirtual 58, 3) := by decide +kernel
theorem dX9_tell_85 : decode cX9_tell 85 = .ok (.istore 4, 2) := by decide +kernel
theorem dX9_tell_87 : decode cX9_tell 87 = .ok (.iinc 5 1, 3) := by decide +kernel
theorem dX9_tell_90 : decode cX9_tell 90 = .ok (.goto (-22), 3) := by decide +kernel
theorem dX9_tell_93 : decode cX9_tell 93 = .ok (.aload_n 0, 1) := by decide +kernel
theorem dX9_tell_94 : decode cX9_tell 94 = .ok (.getfield 49, 3) := by decide +kernel
theorem dX9_tell_97 : decode cX9_tell 97 = .ok (.ifCond .eq 8, 3) := by decide +kernel
theorem dX9_tell_100 : decode cX9_tell 100 = .ok (.aload_n 0, 1) := by decide +kernel
theorem dX9_tell_101 : decode cX9_tell 101 = .ok (.getfield 49, 3) := by decide +kernel
theorem dX9_tell_104 : decode cX9_tell 104 = .ok (.ireturn, 1) := by decide +kernel
theorem dX9_readDefinition_0 : decode cX9_readDefinition 0 = .ok (.aload_n 0, 1) := by decide +kernel
theorem dX9_readDefinition_1 : decode cX9_readDefinition 1 = .ok (.invokevirtual 97, 3) := by decide +kernel
theorem dX9_readDefinition_4 : decode cX9_readDefinition 4 = .ok (.aload_n 0, 1) := by decide +kernel
theorem dX9_readDefinition_5 : decode cX9_readDefinition 5 = .ok (.getfield 100, 3) := by decide +kernel
theorem dX9_readDefinition_8 : decode cX9_readDefinition 8 = .ok (.ifCond .ne 12, 3) := by decide +kernel
theorem dX9_readDefinition_11 : decode cX9_readDefinition 11 = .ok (.aload_n 0, 1) := by decide +kernel
theorem dX9_readDefinition_12 : decode cX9_readDefinition 12 = .ok (.getfield 55, 3) := by decide +kernel
theorem dX9_readDefinition_15 : decode cX9_readDefinition 15 = .ok (.ifCond .le 5, 3) := by decide +kernel
theorem dX9_readDefinition_20 : decode cX9_readDefinition 20 = .ok (.aload_n 0, 1) := by decide +kernel
theorem dX9_readDefinition_21 : decode cX9_readDefinition 21 = .ok (.getfield 103, 3) := by decide +kernel
theorem dX9_readDefinition_24 : decode cX9_readDefinition 24 = .ok (.lstore_n 1, 1) := by decide +kernel
theorem dX9_readDefinition_25 : decode cX9_readDefinition 25 = .ok (.lload_n 1, 1) := by decide +kernel
theorem dX9_readDefinition_26 : decode cX9_readDefinition 26 = .ok (.lconst 0, 1) := by decide +kernel
theorem dX9_readDefinition_27 : decode cX9_readDefinition 27 = .ok (.lcmp, 1) := by decide +kernel
theorem dX9_readDefinition_28 : decode cX9_readDefinition 28 = .ok (.ifCond .ne 15, 3) := by decide +kernel
theorem dX9_readDefinition_31 : decode cX9_readDefinition 31 = .ok (.aload_n 0, 1) := by decide +kernel
theorem dX9_readDefinition_32 : decode cX9_readDefinition 32 = .ok (.iconst 1, 1) := by decide +kernel
theorem dX9_readDefinition_33 : decode cX9_readDefinition 33 = .ok (.aload_n 0, 1) := by decide +kernel
theorem dX9_readDefinition_34 : decode cX9_readDefinition 34 = .ok (.getfield 107, 3) := by decide +kernel
theorem dX9_readDefinition_37 : decode cX9_readDefinition 37 = .ok (.invokevirtual 110, 3) := by decide +kernel
theorem dX9_readDefinition_40 : decode cX9_readDefinition 40 = .ok (.pop, 1) := by decide +kernel
theorem dX9_readDefinition_41 : decode cX9_readDefinition 41 = .ok (.iconst 0, 1) := by decide +kernel
theorem dX9_readDefinition_42 : decode cX9_readDefinition 42 = .ok (.ireturn, 1) := by decide +kernel
theorem dX9_refuse_0 : decode cX9_refuse 0 = .ok (.aload_n 0, 1) := by decide +kernel
theorem dX9_refuse_1 : decode cX9_refuse 1 = .ok (.iload_n 1, 1) := by decide +kernel
theorem dX9_refuse_2 : decode cX9_refuse 2 = .ok (.putfield 49, 3) := by decide +kernel
theorem dX9_refuse_5 : decode cX9_refuse 5 = .ok (.aload_n 0, 1) := by decide +kernel
theorem dX9_refuse_6 : decode cX9_refuse 6 = .ok (.iload_n 2, 1) := by decide +kernel
theorem dX9_refuse_7 : decode cX9_refuse 7 = .ok (.putfield 45, 3) := by decide +kernel
theorem dX9_refuse_10 : decode cX9_refuse 10 = .ok (.iconst (-1), 1) := by decide +kernel
theorem dX9_refuse_11 : decode cX9_refuse 11 = .ok (.ireturn, 1) := by decide +kernel
theorem dX9_nextWord_0 : decode cX9_nextWord 0 = .ok (.aload_n 0, 1) := by decide +kernel
theorem dX9_nextWord_1 : decode cX9_nextWord 1 = .ok (.lconst 0, 1) := by decide +kernel
theorem dX9_nextWord_2 : decode cX9_nextWord 2 = .ok (.putfield 103, 3) := by decide +kernel
theorem dX9_nextWord_5 : decode cX9_nextWord 5 = .ok (.aload_n 0, 1) := by decide +kernel
theorem dX9_nextWord_6 : decode cX9_nextWord 6 = .ok (.iconst (-1), 1) := by decide +kernel
theorem dX9_nextWord_7 : decode cX9_nextWord 7 = .ok (.putfield 126, 3) := by decide +kernel
theorem dX9_nextWord_10 : decode cX9_nextWord 10 = .ok (.aload_n 0, 1) := by decide +kernel
theorem dX9_nextWord_11 : decode cX9_nextWord 11 = .ok (.aload_n 0, 1) := by decide +kernel
theorem dX9_nextWord_12 : decode cX9_nextWord 12 = .ok (.getfield 52, 3) := by decide +kernel
theorem dX9_nextWord_15 : decode cX9_nextWord 15 = .ok (.putfield 107, 3) := by decide +kernel
theorem dX9_nextWord_18 : decode cX9_nextWord 18 = .ok (.aload_n 0, 1) := by decide +kernel
theorem dX9_nextWord_19 : decode cX9_nextWord 19 = .ok (.getfield 107, 3) := by decide +kernel
theorem dX9_nextWord_22 : decode cX9_nextWord 22 = .ok (.aload_n 0, 1) := by decide +kernel
theorem dX9_nextWord_23 : decode cX9_nextWord 23 = .ok (.getfield 32, 3) := by decide +kernel
theorem dX9_nextWord_26 : decode cX9_nextWord 26 = .ok (.getfield 129, 3) := by decide +kernel
theorem dX9_nextWord_29 : decode cX9_nextWord 29 = .ok (.if_icmp .ge 48, 3) := by decide +kernel
theorem dX9_nextWord_77 : decode cX9_nextWord 77 = .ok (.aload_n 0, 1) := by decide +kernel
theorem dX9_nextWord_78 : decode cX9_nextWord 78 = .ok (.aload_n 0, 1) := by decide +kernel
theorem dX9_nextWord_79 : decode cX9_nextWord 79 = .ok (.getfield 107, 3) := by decide +kernel
theorem dX9_nextWord_82 : decode cX9_nextWord 82 = .ok (.putfield 52, 3) := by decide +kernel
theorem dX9_nextWord_85 : decode cX9_nextWord 85 = .ok (.aload_n 0, 1) := by decide +kernel
theorem dX9_nextWord_86 : decode cX9_nextWord 86 = .ok (.getfield 107, 3) := by decide +kernel
theorem dX9_nextWord_89 : decode cX9_nextWord 89 = .ok (.aload_n 0, 1) := by decide +kernel
theorem dX9_nextWord_90 : decode cX9_nextWord 90 = .ok (.getfield 32, 3) := by decide +kernel
theorem dX9_nextWord_93 : decode cX9_nextWord 93 = .ok (.getfield 129, 3) := by decide +kernel
theorem dX9_nextWord_96 : decode cX9_nextWord 96 = .ok (.if_icmp .lt 9, 3) := by decide +kernel
theorem dX9_nextWord_99 : decode cX9_nextWord 99 = .ok (.aload_n 0, 1) := by decide +kernel
theorem dX9_nextWord_100 : decode cX9_nextWord 100 = .ok (.iconst 0, 1) := by decide +kernel
theorem dX9_nextWord_101 : decode cX9_nextWord 101 = .ok (.putfield 100, 3) := by decide +kernel
theorem dX9_nextWord_104 : decode cX9_nextWord 104 = .ok (.return_, 1) := by decide +kernel
theorem dX11_feed_0 : decode cX11_feed 0 = .ok (.iload_n 1, 1) := by decide +kernel
theorem dX11_feed_1 : decode cX11_feed 1 = .ok (.iconst 1, 1) := by decide +kernel
theorem dX11_feed_2 : decode cX11_feed 2 = .ok (.if_icmp .lt 9, 3) := by decide +kernel
theorem dX11_feed_5 : decode cX11_feed 5 = .ok (.iload_n 1, 1) := by decide +kernel
theorem dX11_feed_6 : decode cX11_feed 6 = .ok (.bipush 8, 2) := by decide +kernel
theorem dX11_feed_8 : decode cX11_feed 8 = .ok (.if_icmp .le 13, 3) := by decide +kernel
theorem dX11_feed_11 : decode cX11_feed 11 = .ok (.new 78, 3) := by decide +kernel
theorem dX11_feed_14 : decode cX11_feed 14 = .ok (.dup, 1) := by decide +kernel
theorem dX11_feed_15 : decode cX11_feed 15 = .ok (.ldc 80, 2) := by decide +kernel
theorem dX11_feed_17 : decode cX11_feed 17 = .ok (.invokespecial 82, 3) := by decide +kernel
theorem dX11_feed_20 : decode cX11_feed 20 = .ok (.athrow, 1) := by decide +kernel
theorem dX11_feed_21 : decode cX11_feed 21 = .ok (.aload_n 0, 1) := by decide +kernel
theorem dX11_feed_22 : decode cX11_feed 22 = .ok (.getfield 10, 3) := by decide +kernel
theorem dX11_feed_25 : decode cX11_feed 25 = .ok (.getfield 85, 3) := by decide +kernel
theorem dX11_feed_28 : decode cX11_feed 28 = .ok (.iload_n 1, 1) := by decide +kernel
theorem dX11_feed_29 : decode cX11_feed 29 = .ok (.iadd, 1) := by decide +kernel
theorem dX11_feed_30 : decode cX11_feed 30 = .ok (.sipush 8192, 3) := by decide +kernel
theorem dX11_feed_33 : decode cX11_feed 33 = .ok (.if_icmp .le 13, 3) := by decide +kernel
theorem dX11_feed_46 : decode cX11_feed 46 = .ok (.iconst 0, 1) := by decide +kernel
theorem dX11_feed_47 : decode cX11_feed 47 = .ok (.istore 4, 2) := by decide +kernel
theorem dX11_feed_49 : decode cX11_feed 49 = .ok (.iload 4, 2) := by decide +kernel
theorem dX11_feed_51 : decode cX11_feed 51 = .ok (.iload_n 1, 1) := by decide +kernel
theorem dX11_feed_52 : decode cX11_feed 52 = .ok (.if_icmp .ge 28, 3) := by decide +kernel
theorem dX11_feed_55 : decode cX11_feed 55 = .ok (.aload_n 0, 1) := by decide +kernel
theorem dX11_feed_56 : decode cX11_feed 56 = .ok (.getfield 10, 3) := by decide +kernel
theorem dX11_feed_59 : decode cX11_feed 59 = .ok (.lload_n 2, 1) := by decide +kernel
theorem dX11_feed_60 : decode cX11_feed 60 = .ok (.bipush 8, 2) := by decide +kernel
theorem dX11_feed_62 : decode cX11_feed 62 = .ok (.iload 4, 2) := by decide +kernel
theorem dX11_feed_64 : decode cX11_feed 64 = .ok (.imul, 1) := by decide +kernel
theorem dX11_feed_65 : decode cX11_feed 65 = .ok (.lushr, 1) := by decide +kernel
theorem dX11_feed_66 : decode cX11_feed 66 = .ok (.l2i, 1) := by decide +kernel
theorem dX11_feed_67 : decode cX11_feed 67 = .ok (.sipush 255, 3) := by decide +kernel
theorem dX11_feed_70 : decode cX11_feed 70 = .ok (.iand, 1) := by decide +kernel
theorem dX11_feed_71 : decode cX11_feed 71 = .ok (.invokevirtual 94, 3) := by decide +kernel
theorem dX11_feed_74 : decode cX11_feed 74 = .ok (.iinc 4 1, 3) := by decide +kernel
theorem dX11_feed_77 : decode cX11_feed 77 = .ok (.goto (-28), 3) := by decide +kernel
theorem dX11_feed_80 : decode cX11_feed 80 = .ok (.aload_n 0, 1) := by decide +kernel
theorem dX11_feed_81 : decode cX11_feed 81 = .ok (.getfield 10, 3) := by decide +kernel
theorem dX11_feed_84 : decode cX11_feed 84 = .ok (.getfield 85, 3) := by decide +kernel
theorem dX11_feed_87 : decode cX11_feed 87 = .ok (.ireturn, 1) := by decide +kernel
theorem dX11_wipe_0 : decode cX11_wipe 0 = .ok (.aload_n 0, 1) := by decide +kernel
theorem dX11_wipe_1 : decode cX11_wipe 1 = .ok (.getfield 10, 3) := by decide +kernel
theorem dX11_wipe_4 : decode cX11_wipe 4 = .ok (.getfield 85, 3) := by decide +kernel
theorem dX11_wipe_7 : decode cX11_wipe 7 = .ok (.istore_n 1, 1) := by decide +kernel
theorem dX11_wipe_8 : decode cX11_wipe 8 = .ok (.aload_n 0, 1) := by decide +kernel
theorem dX11_wipe_9 : decode cX11_wipe 9 = .ok (.getfield 10, 3) := by decide +kernel
theorem dX11_wipe_12 : decode cX11_wipe 12 = .ok (.invokevirtual 98, 3) := by decide +kernel
theorem dX11_wipe_15 : decode cX11_wipe 15 = .ok (.iload_n 1, 1) := by decide +kernel
theorem dX11_wipe_16 : decode cX11_wipe 16 = .ok (.ireturn, 1) := by decide +kernel
theorem dX11_load_0 : decode cX11_load 0 = .ok (.aload_n 0, 1) := by decide +kernel
theorem dX11_load_1 : decode cX11_load 1 = .ok (.aload_n 0, 1) := by decide +kernel
theorem dX11_load_2 : decode cX11_load 2 = .ok (.getfield 57, 3) := by decide +kernel
theorem dX11_load_5 : decode cX11_load 5 = .ok (.aload_n 0, 1) := by decide +kernel
theorem dX11_load_6 : decode cX11_load 6 = .ok (.getfield 10, 3) := by decide +kernel
theorem dX11_load_9 : decode cX11_load 9 = .ok (.aload_n 0, 1) := by decide +kernel
theorem dX11_load_10 : decode cX11_load 10 = .ok (.getfield 75, 3) := by decide +kernel
theorem dX11_load_13 : decode cX11_load 13 = .ok (.invokevirtual 101, 3) := by decide +kernel
theorem dX11_load_16 : decode cX11_load 16 = .ok (.putfield 105, 3) := by decide +kernel
theorem dX11_load_19 : decode cX11_load 19 = .ok (.aload_n 0, 1) := by decide +kernel
theorem dX11_load_20 : decode cX11_load 20 = .ok (.getfield 10, 3) := by decide +kernel
theorem dX11_load_23 : decode cX11_load 23 = .ok (.invokevirtual 98, 3) := by decide +kernel
theorem dX11_load_26 : decode cX11_load 26 = .ok (.aload_n 0, 1) := by decide +kernel
theorem dX11_load_27 : decode cX11_load 27 = .ok (.getfield 105, 3) := by decide +kernel
theorem dX11_load_30 : decode cX11_load 30 = .ok (.ifCond .ne 46, 3) := by decide +kernel
theorem dX11_load_76 : decode cX11_load 76 = .ok (.aload_n 0, 1) := by decide +kernel
theorem dX11_load_77 : decode cX11_load 77 = .ok (.getfield 105, 3) := by decide +kernel
theorem dX11_load_80 : decode cX11_load 80 = .ok (.ireturn, 1) := by decide +kernel
theorem dX11_run_0 : decode cX11_run 0 = .ok (.iload_n 1, 1) := by decide +kernel
theorem dX11_run_1 : decode cX11_run 1 = .ok (.iconst 1, 1) := by decide +kernel
theorem dX11_run_2 : decode cX11_run 2 = .ok (.if_icmp .lt 8, 3) := by decide +kernel
theorem dX11_run_5 : decode cX11_run 5 = .ok (.iload_n 2, 1) := by decide +kernel
theorem dX11_run_6 : decode cX11_run 6 = .ok (.iconst 1, 1) := by decide +kernel
theorem dX11_run_7 : decode cX11_run 7 = .ok (.if_icmp .ge 13, 3) := by decide +kernel
theorem dX11_run_10 : decode cX11_run 10 = .ok (.new 78, 3) := by decide +kernel
theorem dX11_run_13 : decode cX11_run 13 = .ok (.dup, 1) := by decide +kernel
theorem dX11_run_14 : decode cX11_run 14 = .ok (.ldc 117, 2) := by decide +kernel
theorem dX11_run_16 : decode cX11_run 16 = .ok (.invokespecial 82, 3) := by decide +kernel
theorem dX11_run_19 : decode cX11_run 19 = .ok (.athrow, 1) := by decide +kernel
theorem dX11_run_20 : decode cX11_run 20 = .ok (.aload_n 0, 1) := by decide +kernel
theorem dX11_run_21 : decode cX11_run 21 = .ok (.getfield 71, 3) := by decide +kernel
theorem dX11_run_24 : decode cX11_run 24 = .ok (.getfield 119, 3) := by decide +kernel
theorem dX11_run_27 : decode cX11_run 27 = .ok (.ifCond .ne 13, 3) := by decide +kernel
theorem dX11_run_30 : decode cX11_run 30 = .ok (.new 89, 3) := by decide +kernel
theorem dX11_run_33 : decode cX11_run 33 = .ok (.dup, 1) := by decide +kernel
theorem dX11_run_34 : decode cX11_run 34 = .ok (.ldc 122, 2) := by decide +kernel
theorem dX11_run_36 : decode cX11_run 36 = .ok (.invokespecial 93, 3) := by decide +kernel
theorem dX11_run_39 : decode cX11_run 39 = .ok (.athrow, 1) := by decide +kernel
theorem dX11_isNode_0 : decode cX11_isNode 0 = .ok (.iload_n 1, 1) := by decide +kernel
theorem dX11_isNode_1 : decode cX11_isNode 1 = .ok (.ifCond .lt 18, 3) := by decide +kernel
theorem dX11_isNode_4 : decode cX11_isNode 4 = .ok (.iload_n 1, 1) := by decide +kernel
theorem dX11_isNode_5 : decode cX11_isNode 5 = .ok (.aload_n 0, 1) := by decide +kernel
theorem dX11_isNode_6 : decode cX11_isNode 6 = .ok (.getfield 71, 3) := by decide +kernel
theorem dX11_isNode_9 : decode cX11_isNode 9 = .ok (.getfield 119, 3) := by decide +kernel
theorem dX11_isNode_12 : decode cX11_isNode 12 = .ok (.if_icmp .ge 7, 3) := by decide +kernel
theorem dX11_isNode_19 : decode cX11_isNode 19 = .ok (.iconst 0, 1) := by decide +kernel
theorem dX11_isNode_20 : decode cX11_isNode 20 = .ok (.ireturn, 1) := by decide +kernel
theorem dX11_node_0 : decode cX11_node 0 = .ok (.aload_n 0, 1) := by decide +kernel
theorem dX11_node_1 : decode cX11_node 1 = .ok (.iload_n 1, 1) := by decide +kernel
theorem dX11_node_2 : decode cX11_node 2 = .ok (.invokevirtual 201, 3) := by decide +kernel
theorem dX11_node_5 : decode cX11_node 5 = .ok (.ifCond .eq 13, 3) := by decide +kernel
theorem dX11_node_18 : decode cX11_node 18 = .ok (.new 205, 3) := by decide +kernel
theorem dX11_node_21 : decode cX11_node 21 = .ok (.dup, 1) := by decide +kernel
theorem dX11_node_22 : decode cX11_node 22 = .ok (.ldc 207, 2) := by decide +kernel
theorem dX11_node_24 : decode cX11_node 24 = .ok (.invokespecial 209, 3) := by decide +kernel
theorem dX11_node_27 : decode cX11_node 27 = .ok (.athrow, 1) := by decide +kernel
theorem dX11_root_0 : decode cX11_root 0 = .ok (.aload_n 0, 1) := by decide +kernel
theorem dX11_root_1 : decode cX11_root 1 = .ok (.iload_n 1, 1) := by decide +kernel
theorem dX11_root_2 : decode cX11_root 2 = .ok (.invokevirtual 201, 3) := by decide +kernel
theorem dX11_root_5 : decode cX11_root 5 = .ok (.ifCond .eq 13, 3) := by decide +kernel
theorem dX11_root_18 : decode cX11_root 18 = .ok (.new 205, 3) := by decide +kernel
theorem dX11_root_21 : decode cX11_root 21 = .ok (.dup, 1) := by decide +kernel
theorem dX11_root_22 : decode cX11_root 22 = .ok (.ldc 225, 2) := by decide +kernel
theorem dX11_root_24 : decode cX11_root 24 = .ok (.invokespecial 209, 3) := by decide +kernel
theorem dX11_root_27 : decode cX11_root 27 = .ok (.athrow, 1) := by decide +kernel
theorem dX11_typeRoot_0 : decode cX11_typeRoot 0 = .ok (.aload_n 0, 1) := by decide +kernel
theorem dX11_typeRoot_1 : decode cX11_typeRoot 1 = .ok (.iload_n 1, 1) := by decide +kernel
theorem dX11_typeRoot_2 : decode cX11_typeRoot 2 = .ok (.invokevirtual 201, 3) := by decide +kernel
theorem dX11_typeRoot_5 : decode cX11_typeRoot 5 = .ok (.ifCond .eq 13, 3) := by decide +kernel
theorem dX11_typeRoot_18 : decode cX11_typeRoot 18 = .ok (.new 205, 3) := by decide +kernel
theorem dX11_typeRoot_21 : decode cX11_typeRoot 21 = .ok (.dup, 1) := by decide +kernel
theorem dX11_typeRoot_22 : decode cX11_typeRoot 22 = .ok (.ldc 225, 2) := by decide +kernel
theorem dX11_typeRoot_24 : decode cX11_typeRoot 24 = .ok (.invokespecial 209, 3) := by decide +kernel
theorem dX11_typeRoot_27 : decode cX11_typeRoot 27 = .ok (.athrow, 1) := by decide +kernel
theorem dX11_type_0 : decode cX11_type 0 = .ok (.aload_n 0, 1) := by decide +kernel
theorem dX11_type_1 : decode cX11_type 1 = .ok (.iload_n 1, 1) := by decide +kernel
theorem dX11_type_2 : decode cX11_type 2 = .ok (.invokevirtual 201, 3) := by decide +kernel
theorem dX11_type_5 : decode cX11_type 5 = .ok (.ifCond .ne 13, 3) := by decide +kernel
theorem dX11_type_8 : decode cX11_type 8 = .ok (.new 205, 3) := by decide +kernel
theorem dX11_type_11 : decode cX11_type 11 = .ok (.dup, 1) := by decide +kernel
theorem dX11_type_12 : decode cX11_type 12 = .ok (.ldc 238, 2) := by decide +kernel
theorem dX11_type_14 : decode cX11_type 14 = .ok (.invokespecial 209, 3) := by decide +kernel
theorem dX11_type_17 : decode cX11_type 17 = .ok (.athrow, 1) := by decide +kernel
theorem dX11_say_0 : decode cX11_say 0 = .ok (.aload_n 0, 1) := by decide +kernel
theorem dX11_say_1 : decode cX11_say 1 = .ok (.getfield 64, 3) := by decide +kernel
theorem dX11_say_4 : decode cX11_say 4 = .ok (.aload_n 0, 1) := by decide +kernel
theorem dX11_say_5 : decode cX11_say 5 = .ok (.getfield 10, 3) := by decide +kernel
theorem dX11_say_8 : decode cX11_say 8 = .ok (.aload_n 0, 1) := by decide +kernel
theorem dX11_say_9 : decode cX11_say 9 = .ok (.getfield 75, 3) := by decide +kernel
theorem dX11_say_12 : decode cX11_say 12 = .ok (.aload_n 0, 1) := by decide +kernel
theorem dX11_say_13 : decode cX11_say 13 = .ok (.getfield 19, 3) := by decide +kernel
theorem dX11_say_16 : decode cX11_say 16 = .ok (.invokevirtual 247, 3) := by decide +kernel
theorem dX11_say_19 : decode cX11_say 19 = .ok (.istore_n 1, 1) := by decide +kernel
theorem dX11_say_20 : decode cX11_say 20 = .ok (.aload_n 0, 1) := by decide +kernel
theorem dX11_say_21 : decode cX11_say 21 = .ok (.aload_n 0, 1) := by decide +kernel
theorem dX11_say_22 : decode cX11_say 22 = .ok (.getfield 64, 3) := by decide +kernel
theorem dX11_say_25 : decode cX11_say 25 = .ok (.getfield 251, 3) := by decide +kernel
theorem dX11_say_28 : decode cX11_say 28 = .ok (.putfield 254, 3) := by decide +kernel
theorem dX11_say_31 : decode cX11_say 31 = .ok (.aload_n 0, 1) := by decide +kernel
theorem dX11_say_32 : decode cX11_say 32 = .ok (.getfield 10, 3) := by decide +kernel
theorem dX11_say_35 : decode cX11_say 35 = .ok (.invokevirtual 98, 3) := by decide +kernel
theorem dX11_say_38 : decode cX11_say 38 = .ok (.iload_n 1, 1) := by decide +kernel
theorem dX11_say_39 : decode cX11_say 39 = .ok (.ifCond .ne 8, 3) := by decide +kernel
theorem dX11_say_47 : decode cX11_say 47 = .ok (.iload_n 1, 1) := by decide +kernel
theorem dX11_say_48 : decode cX11_say 48 = .ok (.ireturn, 1) := by decide +kernel
theorem dX11_speak_0 : decode cX11_speak 0 = .ok (.aload_n 0, 1) := by decide +kernel
theorem dX11_speak_1 : decode cX11_speak 1 = .ok (.getfield 71, 3) := by decide +kernel
theorem dX11_speak_4 : decode cX11_speak 4 = .ok (.getfield 119, 3) := by decide +kernel
theorem dX11_speak_7 : decode cX11_speak 7 = .ok (.ifCond .ne 13, 3) := by decide +kernel
theorem dX11_speak_10 : decode cX11_speak 10 = .ok (.new 89, 3) := by decide +kernel
theorem dX11_speak_13 : decode cX11_speak 13 = .ok (.dup, 1) := by decide +kernel
theorem dX11_speak_14 : decode cX11_speak 14 = .ok (.ldc 122, 2) := by decide +kernel
theorem dX11_speak_16 : decode cX11_speak 16 = .ok (.invokespecial 93, 3) := by decide +kernel
theorem dX11_speak_19 : decode cX11_speak 19 = .ok (.athrow, 1) := by decide +kernel
theorem dX11_again_0 : decode cX11_again 0 = .ok (.aload_n 0, 1) := by decide +kernel
theorem dX11_again_1 : decode cX11_again 1 = .ok (.getfield 10, 3) := by decide +kernel
theorem dX11_again_4 : decode cX11_again 4 = .ok (.aload_n 0, 1) := by decide +kernel
theorem dX11_again_5 : decode cX11_again 5 = .ok (.getfield 16, 3) := by decide +kernel
theorem dX11_again_8 : decode cX11_again 8 = .ok (.invokevirtual 197, 3) := by decide +kernel
theorem dX11_again_11 : decode cX11_again 11 = .ok (.aload_n 0, 1) := by decide +kernel
theorem dX11_again_12 : decode cX11_again 12 = .ok (.getfield 10, 3) := by decide +kernel
theorem dX11_again_15 : decode cX11_again 15 = .ok (.getfield 85, 3) := by decide +kernel
theorem dX11_again_18 : decode cX11_again 18 = .ok (.ireturn, 1) := by decide +kernel
theorem dX11_value_0 : decode cX11_value 0 = .ok (.aload_n 0, 1) := by decide +kernel
theorem dX11_value_1 : decode cX11_value 1 = .ok (.iload_n 1, 1) := by decide +kernel
theorem dX11_value_2 : decode cX11_value 2 = .ok (.invokevirtual 201, 3) := by decide +kernel
theorem dX11_value_5 : decode cX11_value 5 = .ok (.ifCond .ne 13, 3) := by decide +kernel
theorem dX11_value_8 : decode cX11_value 8 = .ok (.new 205, 3) := by decide +kernel
theorem dX11_value_11 : decode cX11_value 11 = .ok (.dup, 1) := by decide +kernel
theorem dX11_value_12 : decode cX11_value 12 = .ok (.ldc 238, 2) := by decide +kernel
theorem dX11_value_14 : decode cX11_value 14 = .ok (.invokespecial 209, 3) := by decide +kernel
theorem dX11_value_17 : decode cX11_value 17 = .ok (.athrow, 1) := by decide +kernel
theorem dX11_worth_0 : decode cX11_worth 0 = .ok (.aload_n 0, 1) := by decide +kernel
theorem dX11_worth_1 : decode cX11_worth 1 = .ok (.iload_n 1, 1) := by decide +kernel
theorem dX11_worth_2 : decode cX11_worth 2 = .ok (.invokevirtual 201, 3) := by decide +kernel
theorem dX11_worth_5 : decode cX11_worth 5 = .ok (.ifCond .ne 13, 3) := by decide +kernel
theorem dX11_worth_8 : decode cX11_worth 8 = .ok (.new 205, 3) := by decide +kernel
theorem dX11_worth_11 : decode cX11_worth 11 = .ok (.dup, 1) := by decide +kernel
theorem dX11_worth_12 : decode cX11_worth 12 = .ok (.ldc 238, 2) := by decide +kernel
theorem dX11_worth_14 : decode cX11_worth 14 = .ok (.invokespecial 209, 3) := by decide +kernel
theorem dX11_worth_17 : decode cX11_worth 17 = .ok (.athrow, 1) := by decide +kernel
theorem dX11_write_0 : decode cX11_write 0 = .ok (.aload_n 0, 1) := by decide +kernel
theorem dX11_write_1 : decode cX11_write 1 = .ok (.getfield 71, 3) := by decide +kernel
theorem dX11_write_4 : decode cX11_write 4 = .ok (.getfield 119, 3) := by decide +kernel
theorem dX11_write_7 : decode cX11_write 7 = .ok (.ifCond .ne 13, 3) := by decide +kernel
theorem dX11_write_10 : decode cX11_write 10 = .ok (.new 89, 3) := by decide +kernel
theorem dX11_write_13 : decode cX11_write 13 = .ok (.dup, 1) := by decide +kernel
theorem dX11_write_14 : decode cX11_write 14 = .ok (.ldc 122, 2) := by decide +kernel
theorem dX11_write_16 : decode cX11_write 16 = .ok (.invokespecial 93, 3) := by decide +kernel
theorem dX11_write_19 : decode cX11_write 19 = .ok (.athrow, 1) := by decide +kernel
theorem dX11_out_0 : decode cX11_out 0 = .ok (.iload_n 1, 1) := by decide +kernel
theorem dX11_out_1 : decode cX11_out 1 = .ok (.ifCond .lt 14, 3) := by decide +kernel
theorem dX11_out_4 : decode cX11_out 4 = .ok (.iload_n 1, 1) := by decide +kernel
theorem dX11_out_5 : decode cX11_out 5 = .ok (.aload_n 0, 1) := by decide +kernel
theorem dX11_out_6 : decode cX11_out 6 = .ok (.getfield 16, 3) := by decide +kernel
theorem dX11_out_9 : decode cX11_out 9 = .ok (.getfield 85, 3) := by decide +kernel
theorem dX11_out_12 : decode cX11_out 12 = .ok (.if_icmp .lt 14, 3) := by decide +kernel
theorem dX11_out_15 : decode cX11_out 15 = .ok (.new 205, 3) := by decide +kernel
theorem dX11_out_18 : decode cX11_out 18 = .ok (.dup, 1) := by decide +kernel
theorem dX11_out_19 : decode cX11_out 19 = .ok (.ldc_w 279, 3) := by decide +kernel
theorem dX11_out_22 : decode cX11_out 22 = .ok (.invokespecial 209, 3) := by decide +kernel
theorem dX11_out_25 : decode cX11_out 25 = .ok (.athrow, 1) := by decide +kernel
theorem dX11_look_0 : decode cX11_look 0 = .ok (.iload_n 1, 1) := by decide +kernel
theorem dX11_look_1 : decode cX11_look 1 = .ok (.ifCond .lt 9, 3) := by decide +kernel
theorem dX11_look_4 : decode cX11_look 4 = .ok (.iload_n 1, 1) := by decide +kernel
theorem dX11_look_5 : decode cX11_look 5 = .ok (.bipush 14, 2) := by decide +kernel
theorem dX11_look_7 : decode cX11_look 7 = .ok (.if_icmp .le 14, 3) := by decide +kernel
theorem dX11_look_10 : decode cX11_look 10 = .ok (.new 78, 3) := by decide +kernel
theorem dX11_look_13 : decode cX11_look 13 = .ok (.dup, 1) := by decide +kernel
theorem dX11_look_14 : decode cX11_look 14 = .ok (.ldc_w 284, 3) := by decide +kernel
theorem dX11_look_17 : decode cX11_look 17 = .ok (.invokespecial 82, 3) := by decide +kernel
theorem dX11_look_20 : decode cX11_look 20 = .ok (.athrow, 1) := by decide +kernel
theorem dX11_look_21 : decode cX11_look 21 = .ok (.iload_n 1, 1) := by decide +kernel
theorem dX11_look_22 : decode cX11_look 22 = .ok (.tableswitch 92 7 14 #[46, 54, 62, 67, 72, 77, 82, 87], 46) := by decide +kernel
theorem dX11_look_68 : decode cX11_look 68 = .ok (.aload_n 0, 1) := by decide +kernel
theorem dX11_look_69 : decode cX11_look 69 = .ok (.getfield 10, 3) := by decide +kernel
theorem dX11_look_72 : decode cX11_look 72 = .ok (.getfield 85, 3) := by decide +kernel
theorem dX11_look_75 : decode cX11_look 75 = .ok (.ireturn, 1) := by decide +kernel
theorem dX11_look_76 : decode cX11_look 76 = .ok (.aload_n 0, 1) := by decide +kernel
theorem dX11_look_77 : decode cX11_look 77 = .ok (.getfield 16, 3) := by decide +kernel
theorem dX11_look_80 : decode cX11_look 80 = .ok (.getfield 85, 3) := by decide +kernel
theorem dX11_look_83 : decode cX11_look 83 = .ok (.ireturn, 1) := by decide +kernel
theorem dX11_look_84 : decode cX11_look 84 = .ok (.aload_n 0, 1) := by decide +kernel
theorem dX11_look_85 : decode cX11_look 85 = .ok (.getfield 105, 3) := by decide +kernel
theorem dX11_look_88 : decode cX11_look 88 = .ok (.ireturn, 1) := by decide +kernel
theorem dX11_look_89 : decode cX11_look 89 = .ok (.aload_n 0, 1) := by decide +kernel
theorem dX11_look_90 : decode cX11_look 90 = .ok (.getfield 173, 3) := by decide +kernel
theorem dX11_look_93 : decode cX11_look 93 = .ok (.ireturn, 1) := by decide +kernel
theorem dX11_look_94 : decode cX11_look 94 = .ok (.aload_n 0, 1) := by decide +kernel
theorem dX11_look_95 : decode cX11_look 95 = .ok (.getfield 179, 3) := by decide +kernel
theorem dX11_look_98 : decode cX11_look 98 = .ok (.ireturn, 1) := by decide +kernel
theorem dX11_look_99 : decode cX11_look 99 = .ok (.aload_n 0, 1) := by decide +kernel
theorem dX11_look_100 : decode cX11_look 100 = .ok (.getfield 185, 3) := by decide +kernel
theorem dX11_look_103 : decode cX11_look 103 = .ok (.ireturn, 1) := by decide +kernel
theorem dX11_look_104 : decode cX11_look 104 = .ok (.aload_n 0, 1) := by decide +kernel
theorem dX11_look_105 : decode cX11_look 105 = .ok (.getfield 191, 3) := by decide +kernel
theorem dX11_look_108 : decode cX11_look 108 = .ok (.ireturn, 1) := by decide +kernel
theorem dX11_look_109 : decode cX11_look 109 = .ok (.aload_n 0, 1) := by decide +kernel
theorem dX11_look_110 : decode cX11_look 110 = .ok (.getfield 254, 3) := by decide +kernel
theorem dX11_look_113 : decode cX11_look 113 = .ok (.ireturn, 1) := by decide +kernel
theorem dX11_look_114 : decode cX11_look 114 = .ok (.aload_n 0, 1) := by decide +kernel
theorem dX11_look_115 : decode cX11_look 115 = .ok (.getfield 71, 3) := by decide +kernel
theorem dX11_look_118 : decode cX11_look 118 = .ok (.getfield 119, 3) := by decide +kernel
theorem dX11_look_121 : decode cX11_look 121 = .ok (.ifCond .ne 7, 3) := by decide +kernel
theorem dX11_look_124 : decode cX11_look 124 = .ok (.iconst 0, 1) := by decide +kernel
theorem dX11_look_125 : decode cX11_look 125 = .ok (.goto 8, 3) := by decide +kernel
theorem dX11_look_133 : decode cX11_look 133 = .ok (.ireturn, 1) := by decide +kernel
theorem dX12_thrown_0 : decode cX12_thrown 0 = .ok (.aload_n 0, 1) := by decide +kernel
theorem dX12_thrown_1 : decode cX12_thrown 1 = .ok (.getfield 205, 3) := by decide +kernel
theorem dX12_thrown_4 : decode cX12_thrown 4 = .ok (.ireturn, 1) := by decide +kernel
theorem dX12_feed_0 : decode cX12_feed 0 = .ok (.aload_n 0, 1) := by decide +kernel
theorem dX12_feed_1 : decode cX12_feed 1 = .ok (.iload_n 1, 1) := by decide +kernel
theorem dX12_feed_2 : decode cX12_feed 2 = .ok (.iconst 1, 1) := by decide +kernel
theorem dX12_feed_3 : decode cX12_feed 3 = .ok (.bipush 8, 2) := by decide +kernel
theorem dX12_feed_5 : decode cX12_feed 5 = .ok (.invokestatic 211, 3) := by decide +kernel
theorem dX12_feed_8 : decode cX12_feed 8 = .ok (.ifCond .ne 7, 3) := by decide +kernel
theorem dX12_feed_11 : decode cX12_feed 11 = .ok (.iconst 1, 1) := by decide +kernel
theorem dX12_feed_12 : decode cX12_feed 12 = .ok (.goto 20, 3) := by decide +kernel
theorem dX12_feed_15 : decode cX12_feed 15 = .ok (.aload_n 0, 1) := by decide +kernel
theorem dX12_feed_16 : decode cX12_feed 16 = .ok (.getfield 215, 3) := by decide +kernel
theorem dX12_feed_19 : decode cX12_feed 19 = .ok (.iload_n 1, 1) := by decide +kernel
theorem dX12_feed_20 : decode cX12_feed 20 = .ok (.iadd, 1) := by decide +kernel
theorem dX12_feed_21 : decode cX12_feed 21 = .ok (.sipush 8192, 3) := by decide +kernel
theorem dX12_feed_24 : decode cX12_feed 24 = .ok (.if_icmp .le 7, 3) := by decide +kernel
theorem dX12_feed_31 : decode cX12_feed 31 = .ok (.iconst 0, 1) := by decide +kernel
theorem dX12_feed_32 : decode cX12_feed 32 = .ok (.putfield 205, 3) := by decide +kernel
theorem dX12_feed_35 : decode cX12_feed 35 = .ok (.aload_n 0, 1) := by decide +kernel
theorem dX12_feed_36 : decode cX12_feed 36 = .ok (.getfield 205, 3) := by decide +kernel
theorem dX12_feed_39 : decode cX12_feed 39 = .ok (.ifCond .le 5, 3) := by decide +kernel
theorem dX12_feed_42 : decode cX12_feed 42 = .ok (.iconst 0, 1) := by decide +kernel
theorem dX12_feed_43 : decode cX12_feed 43 = .ok (.ireturn, 1) := by decide +kernel
theorem dX12_feed_44 : decode cX12_feed 44 = .ok (.iconst 0, 1) := by decide +kernel
theorem dX12_feed_45 : decode cX12_feed 45 = .ok (.istore 4, 2) := by decide +kernel
theorem dX12_feed_47 : decode cX12_feed 47 = .ok (.iload 4, 2) := by decide +kernel
theorem dX12_feed_49 : decode cX12_feed 49 = .ok (.iload_n 1, 1) := by decide +kernel
theorem dX12_feed_50 : decode cX12_feed 50 = .ok (.if_icmp .ge 40, 3) := by decide +kernel
theorem dX12_feed_53 : decode cX12_feed 53 = .ok (.aload_n 0, 1) := by decide +kernel
theorem dX12_feed_54 : decode cX12_feed 54 = .ok (.getfield 7, 3) := by decide +kernel
theorem dX12_feed_57 : decode cX12_feed 57 = .ok (.aload_n 0, 1) := by decide +kernel
theorem dX12_feed_58 : decode cX12_feed 58 = .ok (.getfield 215, 3) := by decide +kernel
theorem dX12_feed_61 : decode cX12_feed 61 = .ok (.lload_n 2, 1) := by decide +kernel
theorem dX12_feed_62 : decode cX12_feed 62 = .ok (.bipush 8, 2) := by decide +kernel
theorem dX12_feed_64 : decode cX12_feed 64 = .ok (.iload 4, 2) := by decide +kernel
theorem dX12_feed_66 : decode cX12_feed 66 = .ok (.imul, 1) := by decide +kernel
theorem dX12_feed_67 : decode cX12_feed 67 = .ok (.lshr, 1) := by decide +kernel
theorem dX12_feed_68 : decode cX12_feed 68 = .ok (.ldc2_w 218, 3) := by decide +kernel
theorem dX12_feed_71 : decode cX12_feed 71 = .ok (.land, 1) := by decide +kernel
theorem dX12_feed_72 : decode cX12_feed 72 = .ok (.l2i, 1) := by decide +kernel
theorem dX12_feed_73 : decode cX12_feed 73 = .ok (.iastore, 1) := by decide +kernel
theorem dX12_feed_74 : decode cX12_feed 74 = .ok (.aload_n 0, 1) := by decide +kernel
theorem dX12_feed_75 : decode cX12_feed 75 = .ok (.dup, 1) := by decide +kernel
theorem dX12_feed_76 : decode cX12_feed 76 = .ok (.getfield 215, 3) := by decide +kernel
theorem dX12_feed_79 : decode cX12_feed 79 = .ok (.iconst 1, 1) := by decide +kernel
theorem dX12_feed_80 : decode cX12_feed 80 = .ok (.iadd, 1) := by decide +kernel
theorem dX12_feed_81 : decode cX12_feed 81 = .ok (.putfield 215, 3) := by decide +kernel
theorem dX12_feed_84 : decode cX12_feed 84 = .ok (.iinc 4 1, 3) := by decide +kernel
theorem dX12_feed_87 : decode cX12_feed 87 = .ok (.goto (-40), 3) := by decide +kernel
theorem dX12_feed_90 : decode cX12_feed 90 = .ok (.aload_n 0, 1) := by decide +kernel
theorem dX12_feed_91 : decode cX12_feed 91 = .ok (.getfield 215, 3) := by decide +kernel
theorem dX12_feed_94 : decode cX12_feed 94 = .ok (.ireturn, 1) := by decide +kernel
theorem dX12_wipe_0 : decode cX12_wipe 0 = .ok (.aload_n 0, 1) := by decide +kernel
theorem dX12_wipe_1 : decode cX12_wipe 1 = .ok (.iconst 0, 1) := by decide +kernel
theorem dX12_wipe_2 : decode cX12_wipe 2 = .ok (.putfield 205, 3) := by decide +kernel
theorem dX12_wipe_5 : decode cX12_wipe 5 = .ok (.aload_n 0, 1) := by decide +kernel
theorem dX12_wipe_6 : decode cX12_wipe 6 = .ok (.getfield 215, 3) := by decide +kernel
theorem dX12_wipe_9 : decode cX12_wipe 9 = .ok (.istore_n 1, 1) := by decide +kernel
theorem dX12_wipe_10 : decode cX12_wipe 10 = .ok (.aload_n 0, 1) := by decide +kernel
theorem dX12_wipe_11 : decode cX12_wipe 11 = .ok (.iconst 0, 1) := by decide +kernel
theorem dX12_wipe_12 : decode cX12_wipe 12 = .ok (.putfield 215, 3) := by decide +kernel
theorem dX12_wipe_15 : decode cX12_wipe 15 = .ok (.iload_n 1, 1) := by decide +kernel
theorem dX12_wipe_16 : decode cX12_wipe 16 = .ok (.ireturn, 1) := by decide +kernel
theorem dX12_again_0 : decode cX12_again 0 = .ok (.aload_n 0, 1) := by decide +kernel
theorem dX12_again_1 : decode cX12_again 1 = .ok (.iconst 0, 1) := by decide +kernel
theorem dX12_again_2 : decode cX12_again 2 = .ok (.putfield 205, 3) := by decide +kernel
theorem dX12_again_5 : decode cX12_again 5 = .ok (.iconst 0, 1) := by decide +kernel
theorem dX12_again_6 : decode cX12_again 6 = .ok (.istore_n 1, 1) := by decide +kernel
theorem dX12_again_7 : decode cX12_again 7 = .ok (.iload_n 1, 1) := by decide +kernel
theorem dX12_again_8 : decode cX12_again 8 = .ok (.aload_n 0, 1) := by decide +kernel
theorem dX12_again_9 : decode cX12_again 9 = .ok (.getfield 220, 3) := by decide +kernel
theorem dX12_again_12 : decode cX12_again 12 = .ok (.if_icmp .ge 21, 3) := by decide +kernel
theorem dX12_again_33 : decode cX12_again 33 = .ok (.aload_n 0, 1) := by decide +kernel
theorem dX12_again_34 : decode cX12_again 34 = .ok (.aload_n 0, 1) := by decide +kernel
theorem dX12_again_35 : decode cX12_again 35 = .ok (.getfield 220, 3) := by decide +kernel
theorem dX12_again_38 : decode cX12_again 38 = .ok (.putfield 215, 3) := by decide +kernel
theorem dX12_again_41 : decode cX12_again 41 = .ok (.aload_n 0, 1) := by decide +kernel
theorem dX12_again_42 : decode cX12_again 42 = .ok (.getfield 220, 3) := by decide +kernel
theorem dX12_again_45 : decode cX12_again 45 = .ok (.ireturn, 1) := by decide +kernel
theorem dX12_out_0 : decode cX12_out 0 = .ok (.aload_n 0, 1) := by decide +kernel
theorem dX12_out_1 : decode cX12_out 1 = .ok (.iload_n 1, 1) := by decide +kernel
theorem dX12_out_2 : decode cX12_out 2 = .ok (.iconst 0, 1) := by decide +kernel
theorem dX12_out_3 : decode cX12_out 3 = .ok (.aload_n 0, 1) := by decide +kernel
theorem dX12_out_4 : decode cX12_out 4 = .ok (.getfield 220, 3) := by decide +kernel
theorem dX12_out_7 : decode cX12_out 7 = .ok (.iconst 1, 1) := by decide +kernel
theorem dX12_out_8 : decode cX12_out 8 = .ok (.isub, 1) := by decide +kernel
theorem dX12_out_9 : decode cX12_out 9 = .ok (.invokestatic 211, 3) := by decide +kernel
theorem dX12_out_12 : decode cX12_out 12 = .ok (.ifCond .eq 7, 3) := by decide +kernel
theorem dX12_out_19 : decode cX12_out 19 = .ok (.iconst 1, 1) := by decide +kernel
theorem dX12_out_20 : decode cX12_out 20 = .ok (.putfield 205, 3) := by decide +kernel
theorem dX12_out_23 : decode cX12_out 23 = .ok (.lconst 0, 1) := by decide +kernel
theorem dX12_out_24 : decode cX12_out 24 = .ok (.lstore_n 2, 1) := by decide +kernel
theorem dX12_out_25 : decode cX12_out 25 = .ok (.bipush 7, 2) := by decide +kernel
theorem dX12_out_27 : decode cX12_out 27 = .ok (.istore 4, 2) := by decide +kernel
theorem dX12_out_29 : decode cX12_out 29 = .ok (.iload 4, 2) := by decide +kernel
theorem dX12_out_31 : decode cX12_out 31 = .ok (.ifCond .lt 47, 3) := by decide +kernel
theorem dX12_out_34 : decode cX12_out 34 = .ok (.aload_n 0, 1) := by decide +kernel
theorem dX12_out_35 : decode cX12_out 35 = .ok (.getfield 205, 3) := by decide +kernel
theorem dX12_out_38 : decode cX12_out 38 = .ok (.ifCond .ne 40, 3) := by decide +kernel
theorem dX12_out_78 : decode cX12_out 78 = .ok (.lload_n 2, 1) := by decide +kernel
theorem dX12_out_79 : decode cX12_out 79 = .ok (.lreturn, 1) := by decide +kernel
theorem dX12_bit_0 : decode cX12_bit 0 = .ok (.aload_n 0, 1) := by decide +kernel
theorem dX12_bit_1 : decode cX12_bit 1 = .ok (.getfield 330, 3) := by decide +kernel
theorem dX12_bit_4 : decode cX12_bit 4 = .ok (.ifCond .le 5, 3) := by decide +kernel
theorem dX12_bit_9 : decode cX12_bit 9 = .ok (.aload_n 0, 1) := by decide +kernel
theorem dX12_bit_10 : decode cX12_bit 10 = .ok (.getfield 333, 3) := by decide +kernel
theorem dX12_bit_13 : decode cX12_bit 13 = .ok (.aload_n 0, 1) := by decide +kernel
theorem dX12_bit_14 : decode cX12_bit 14 = .ok (.getfield 336, 3) := by decide +kernel
theorem dX12_bit_17 : decode cX12_bit 17 = .ok (.if_icmp .lt 10, 3) := by decide +kernel
theorem dX12_bit_20 : decode cX12_bit 20 = .ok (.aload_n 0, 1) := by decide +kernel
theorem dX12_bit_21 : decode cX12_bit 21 = .ok (.iconst 1, 1) := by decide +kernel
theorem dX12_bit_22 : decode cX12_bit 22 = .ok (.putfield 330, 3) := by decide +kernel
theorem dX12_bit_25 : decode cX12_bit 25 = .ok (.iconst 0, 1) := by decide +kernel
theorem dX12_bit_26 : decode cX12_bit 26 = .ok (.ireturn, 1) := by decide +kernel
theorem dX12_natural_0 : decode cX12_natural 0 = .ok (.iconst 0, 1) := by decide +kernel
theorem dX12_natural_1 : decode cX12_natural 1 = .ok (.istore_n 1, 1) := by decide +kernel
theorem dX12_natural_2 : decode cX12_natural 2 = .ok (.aload_n 0, 1) := by decide +kernel
theorem dX12_natural_3 : decode cX12_natural 3 = .ok (.invokevirtual 339, 3) := by decide +kernel
theorem dX12_natural_6 : decode cX12_natural 6 = .ok (.iconst 1, 1) := by decide +kernel
theorem dX12_natural_7 : decode cX12_natural 7 = .ok (.if_icmp .ne 9, 3) := by decide +kernel
theorem dX12_natural_16 : decode cX12_natural 16 = .ok (.iconst 1, 1) := by decide +kernel
theorem dX12_natural_17 : decode cX12_natural 17 = .ok (.istore_n 2, 1) := by decide +kernel
theorem dX12_natural_18 : decode cX12_natural 18 = .ok (.iload_n 1, 1) := by decide +kernel
theorem dX12_natural_19 : decode cX12_natural 19 = .ok (.ifCond .le 42, 3) := by decide +kernel
theorem dX12_natural_61 : decode cX12_natural 61 = .ok (.iload_n 2, 1) := by decide +kernel
theorem dX12_natural_62 : decode cX12_natural 62 = .ok (.ireturn, 1) := by decide +kernel
theorem dX12_readProgram_0 : decode cX12_readProgram 0 = .ok (.aload_n 0, 1) := by decide +kernel
theorem dX12_readProgram_1 : decode cX12_readProgram 1 = .ok (.iconst 0, 1) := by decide +kernel
theorem dX12_readProgram_2 : decode cX12_readProgram 2 = .ok (.putfield 333, 3) := by decide +kernel
theorem dX12_readProgram_5 : decode cX12_readProgram 5 = .ok (.aload_n 0, 1) := by decide +kernel
theorem dX12_readProgram_6 : decode cX12_readProgram 6 = .ok (.bipush 8, 2) := by decide +kernel
theorem dX12_readProgram_8 : decode cX12_readProgram 8 = .ok (.aload_n 0, 1) := by decide +kernel
theorem dX12_readProgram_9 : decode cX12_readProgram 9 = .ok (.getfield 215, 3) := by decide +kernel
theorem dX12_readProgram_12 : decode cX12_readProgram 12 = .ok (.imul, 1) := by decide +kernel
theorem dX12_readProgram_13 : decode cX12_readProgram 13 = .ok (.putfield 336, 3) := by decide +kernel
theorem dX12_readProgram_16 : decode cX12_readProgram 16 = .ok (.aload_n 0, 1) := by decide +kernel
theorem dX12_readProgram_17 : decode cX12_readProgram 17 = .ok (.iconst 0, 1) := by decide +kernel
theorem dX12_readProgram_18 : decode cX12_readProgram 18 = .ok (.putfield 330, 3) := by decide +kernel
theorem dX12_readProgram_21 : decode cX12_readProgram 21 = .ok (.aload_n 0, 1) := by decide +kernel
theorem dX12_readProgram_22 : decode cX12_readProgram 22 = .ok (.aload_n 0, 1) := by decide +kernel
theorem dX12_readProgram_23 : decode cX12_readProgram 23 = .ok (.invokevirtual 345, 3) := by decide +kernel
theorem dX12_readProgram_26 : decode cX12_readProgram 26 = .ok (.putfield 223, 3) := by decide +kernel
theorem dX12_readProgram_29 : decode cX12_readProgram 29 = .ok (.aload_n 0, 1) := by decide +kernel
theorem dX12_readProgram_30 : decode cX12_readProgram 30 = .ok (.getfield 330, 3) := by decide +kernel
theorem dX12_readProgram_33 : decode cX12_readProgram 33 = .ok (.ifCond .ne 18, 3) := by decide +kernel
theorem dX12_readProgram_51 : decode cX12_readProgram 51 = .ok (.iconst 0, 1) := by decide +kernel
theorem dX12_readProgram_52 : decode cX12_readProgram 52 = .ok (.istore_n 1, 1) := by decide +kernel
theorem dX12_readProgram_53 : decode cX12_readProgram 53 = .ok (.iload_n 1, 1) := by decide +kernel
theorem dX12_readProgram_54 : decode cX12_readProgram 54 = .ok (.aload_n 0, 1) := by decide +kernel
theorem dX12_readProgram_55 : decode cX12_readProgram 55 = .ok (.getfield 223, 3) := by decide +kernel
theorem dX12_readProgram_58 : decode cX12_readProgram 58 = .ok (.if_icmp .ge 21, 3) := by decide +kernel
theorem dX12_readProgram_61 : decode cX12_readProgram 61 = .ok (.aload_n 0, 1) := by decide +kernel
theorem dX12_readProgram_62 : decode cX12_readProgram 62 = .ok (.getfield 330, 3) := by decide +kernel
theorem dX12_readProgram_65 : decode cX12_readProgram 65 = .ok (.ifCond .ne 14, 3) := by decide +kernel
theorem dX12_readProgram_79 : decode cX12_readProgram 79 = .ok (.aload_n 0, 1) := by decide +kernel
theorem dX12_readProgram_80 : decode cX12_readProgram 80 = .ok (.getfield 330, 3) := by decide +kernel
theorem dX12_readProgram_83 : decode cX12_readProgram 83 = .ok (.ifCond .le 8, 3) := by decide +kernel
theorem dX12_readProgram_86 : decode cX12_readProgram 86 = .ok (.aload_n 0, 1) := by decide +kernel
theorem dX12_readProgram_87 : decode cX12_readProgram 87 = .ok (.getfield 330, 3) := by decide +kernel
theorem dX12_readProgram_90 : decode cX12_readProgram 90 = .ok (.ireturn, 1) := by decide +kernel
theorem dX12_load_0 : decode cX12_load 0 = .ok (.aload_n 0, 1) := by decide +kernel
theorem dX12_load_1 : decode cX12_load 1 = .ok (.iconst 0, 1) := by decide +kernel
theorem dX12_load_2 : decode cX12_load 2 = .ok (.putfield 205, 3) := by decide +kernel
theorem dX12_load_5 : decode cX12_load 5 = .ok (.aload_n 0, 1) := by decide +kernel
theorem dX12_load_6 : decode cX12_load 6 = .ok (.aload_n 0, 1) := by decide +kernel
theorem dX12_load_7 : decode cX12_load 7 = .ok (.invokevirtual 410, 3) := by decide +kernel
theorem dX12_load_10 : decode cX12_load 10 = .ok (.putfield 413, 3) := by decide +kernel
theorem dX12_load_13 : decode cX12_load 13 = .ok (.aload_n 0, 1) := by decide +kernel
theorem dX12_load_14 : decode cX12_load 14 = .ok (.getfield 413, 3) := by decide +kernel
theorem dX12_load_17 : decode cX12_load 17 = .ok (.ifCond .ne 7, 3) := by decide +kernel
theorem dX12_load_24 : decode cX12_load 24 = .ok (.aload_n 0, 1) := by decide +kernel
theorem dX12_load_25 : decode cX12_load 25 = .ok (.iconst 0, 1) := by decide +kernel
theorem dX12_load_26 : decode cX12_load 26 = .ok (.putfield 215, 3) := by decide +kernel
theorem dX12_load_29 : decode cX12_load 29 = .ok (.aload_n 0, 1) := by decide +kernel
theorem dX12_load_30 : decode cX12_load 30 = .ok (.getfield 413, 3) := by decide +kernel
theorem dX12_load_33 : decode cX12_load 33 = .ok (.ireturn, 1) := by decide +kernel
theorem dX12_write_0 : decode cX12_write 0 = .ok (.aload_n 0, 1) := by decide +kernel
theorem dX12_write_1 : decode cX12_write 1 = .ok (.aload_n 0, 1) := by decide +kernel
theorem dX12_write_2 : decode cX12_write 2 = .ok (.getfield 378, 3) := by decide +kernel
theorem dX12_write_5 : decode cX12_write 5 = .ok (.ifCond .le 7, 3) := by decide +kernel
theorem dX12_write_12 : decode cX12_write 12 = .ok (.iconst 1, 1) := by decide +kernel
theorem dX12_write_13 : decode cX12_write 13 = .ok (.putfield 205, 3) := by decide +kernel
theorem dX12_write_16 : decode cX12_write 16 = .ok (.aload_n 0, 1) := by decide +kernel
theorem dX12_write_17 : decode cX12_write 17 = .ok (.getfield 205, 3) := by decide +kernel
theorem dX12_write_20 : decode cX12_write 20 = .ok (.ifCond .le 5, 3) := by decide +kernel
theorem dX12_write_23 : decode cX12_write 23 = .ok (.iconst 0, 1) := by decide +kernel
theorem dX12_write_24 : decode cX12_write 24 = .ok (.ireturn, 1) := by decide +kernel
theorem dX12_run_0 : decode cX12_run 0 = .ok (.aload_n 0, 1) := by decide +kernel
theorem dX12_run_1 : decode cX12_run 1 = .ok (.iload_n 1, 1) := by decide +kernel
theorem dX12_run_2 : decode cX12_run 2 = .ok (.iconst 1, 1) := by decide +kernel
theorem dX12_run_3 : decode cX12_run 3 = .ok (.if_icmp .lt 8, 3) := by decide +kernel
theorem dX12_run_6 : decode cX12_run 6 = .ok (.iload_n 2, 1) := by decide +kernel
theorem dX12_run_7 : decode cX12_run 7 = .ok (.iconst 1, 1) := by decide +kernel
theorem dX12_run_8 : decode cX12_run 8 = .ok (.if_icmp .ge 7, 3) := by decide +kernel
theorem dX12_run_11 : decode cX12_run 11 = .ok (.iconst 1, 1) := by decide +kernel
theorem dX12_run_12 : decode cX12_run 12 = .ok (.goto 15, 3) := by decide +kernel
theorem dX12_run_15 : decode cX12_run 15 = .ok (.aload_n 0, 1) := by decide +kernel
theorem dX12_run_16 : decode cX12_run 16 = .ok (.getfield 378, 3) := by decide +kernel
theorem dX12_run_19 : decode cX12_run 19 = .ok (.ifCond .ne 7, 3) := by decide +kernel
theorem dX12_run_22 : decode cX12_run 22 = .ok (.iconst 2, 1) := by decide +kernel
theorem dX12_run_23 : decode cX12_run 23 = .ok (.goto 4, 3) := by decide +kernel
theorem dX12_run_27 : decode cX12_run 27 = .ok (.putfield 205, 3) := by decide +kernel
theorem dX12_run_30 : decode cX12_run 30 = .ok (.aload_n 0, 1) := by decide +kernel
theorem dX12_run_31 : decode cX12_run 31 = .ok (.getfield 205, 3) := by decide +kernel
theorem dX12_run_34 : decode cX12_run 34 = .ok (.ifCond .le 5, 3) := by decide +kernel
theorem dX12_run_37 : decode cX12_run 37 = .ok (.iconst 0, 1) := by decide +kernel
theorem dX12_run_38 : decode cX12_run 38 = .ok (.ireturn, 1) := by decide +kernel
theorem dX12_isNode_0 : decode cX12_isNode 0 = .ok (.iload_n 1, 1) := by decide +kernel
theorem dX12_isNode_1 : decode cX12_isNode 1 = .ok (.ifCond .lt 15, 3) := by decide +kernel
theorem dX12_isNode_4 : decode cX12_isNode 4 = .ok (.iload_n 1, 1) := by decide +kernel
theorem dX12_isNode_5 : decode cX12_isNode 5 = .ok (.aload_n 0, 1) := by decide +kernel
theorem dX12_isNode_6 : decode cX12_isNode 6 = .ok (.getfield 378, 3) := by decide +kernel
theorem dX12_isNode_9 : decode cX12_isNode 9 = .ok (.if_icmp .ge 7, 3) := by decide +kernel
theorem dX12_isNode_16 : decode cX12_isNode 16 = .ok (.iconst 0, 1) := by decide +kernel
theorem dX12_isNode_17 : decode cX12_isNode 17 = .ok (.ireturn, 1) := by decide +kernel
theorem dX12_node_0 : decode cX12_node 0 = .ok (.aload_n 0, 1) := by decide +kernel
theorem dX12_node_1 : decode cX12_node 1 = .ok (.aload_n 0, 1) := by decide +kernel
theorem dX12_node_2 : decode cX12_node 2 = .ok (.iload_n 1, 1) := by decide +kernel
theorem dX12_node_3 : decode cX12_node 3 = .ok (.invokevirtual 561, 3) := by decide +kernel
theorem dX12_node_6 : decode cX12_node 6 = .ok (.ifCond .eq 17, 3) := by decide +kernel
theorem dX12_node_23 : decode cX12_node 23 = .ok (.iconst 1, 1) := by decide +kernel
theorem dX12_node_24 : decode cX12_node 24 = .ok (.putfield 205, 3) := by decide +kernel
theorem dX12_node_27 : decode cX12_node 27 = .ok (.aload_n 0, 1) := by decide +kernel
theorem dX12_node_28 : decode cX12_node 28 = .ok (.getfield 205, 3) := by decide +kernel
theorem dX12_node_31 : decode cX12_node 31 = .ok (.ifCond .le 5, 3) := by decide +kernel
theorem dX12_node_34 : decode cX12_node 34 = .ok (.iconst 0, 1) := by decide +kernel
theorem dX12_node_35 : decode cX12_node 35 = .ok (.ireturn, 1) := by decide +kernel
theorem dX12_root_0 : decode cX12_root 0 = .ok (.aload_n 0, 1) := by decide +kernel
theorem dX12_root_1 : decode cX12_root 1 = .ok (.aload_n 0, 1) := by decide +kernel
theorem dX12_root_2 : decode cX12_root 2 = .ok (.iload_n 1, 1) := by decide +kernel
theorem dX12_root_3 : decode cX12_root 3 = .ok (.invokevirtual 561, 3) := by decide +kernel
theorem dX12_root_6 : decode cX12_root 6 = .ok (.ifCond .eq 17, 3) := by decide +kernel
theorem dX12_root_23 : decode cX12_root 23 = .ok (.iconst 1, 1) := by decide +kernel
theorem dX12_root_24 : decode cX12_root 24 = .ok (.putfield 205, 3) := by decide +kernel
theorem dX12_root_27 : decode cX12_root 27 = .ok (.aload_n 0, 1) := by decide +kernel
theorem dX12_root_28 : decode cX12_root 28 = .ok (.getfield 205, 3) := by decide +kernel
theorem dX12_root_31 : decode cX12_root 31 = .ok (.ifCond .le 7, 3) := by decide +kernel
theorem dX12_root_34 : decode cX12_root 34 = .ok (.lconst 0, 1) := by decide +kernel
theorem dX12_root_35 : decode cX12_root 35 = .ok (.goto 19, 3) := by decide +kernel
theorem dX12_root_54 : decode cX12_root 54 = .ok (.lreturn, 1) := by decide +kernel
theorem dX12_typeRoot_0 : decode cX12_typeRoot 0 = .ok (.aload_n 0, 1) := by decide +kernel
theorem dX12_typeRoot_1 : decode cX12_typeRoot 1 = .ok (.aload_n 0, 1) := by decide +kernel
theorem dX12_typeRoot_2 : decode cX12_typeRoot 2 = .ok (.iload_n 1, 1) := by decide +kernel
theorem dX12_typeRoot_3 : decode cX12_typeRoot 3 = .ok (.invokevirtual 561, 3) := by decide +kernel
theorem dX12_typeRoot_6 : decode cX12_typeRoot 6 = .ok (.ifCond .eq 17, 3) := by decide +kernel
theorem dX12_typeRoot_23 : decode cX12_typeRoot 23 = .ok (.iconst 1, 1) := by decide +kernel
theorem dX12_typeRoot_24 : decode cX12_typeRoot 24 = .ok (.putfield 205, 3) := by decide +kernel
theorem dX12_typeRoot_27 : decode cX12_typeRoot 27 = .ok (.aload_n 0, 1) := by decide +kernel
theorem dX12_typeRoot_28 : decode cX12_typeRoot 28 = .ok (.getfield 205, 3) := by decide +kernel
theorem dX12_typeRoot_31 : decode cX12_typeRoot 31 = .ok (.ifCond .gt 14, 3) := by decide +kernel
theorem dX12_typeRoot_45 : decode cX12_typeRoot 45 = .ok (.lconst 0, 1) := by decide +kernel
theorem dX12_typeRoot_46 : decode cX12_typeRoot 46 = .ok (.lreturn, 1) := by decide +kernel
theorem dX12_typeAt_0 : decode cX12_typeAt 0 = .ok (.aload_n 0, 1) := by decide +kernel
theorem dX12_typeAt_1 : decode cX12_typeAt 1 = .ok (.aload_n 0, 1) := by decide +kernel
theorem dX12_typeAt_2 : decode cX12_typeAt 2 = .ok (.iload_n 1, 1) := by decide +kernel
theorem dX12_typeAt_3 : decode cX12_typeAt 3 = .ok (.invokevirtual 561, 3) := by decide +kernel
theorem dX12_typeAt_6 : decode cX12_typeAt 6 = .ok (.ifCond .eq 7, 3) := by decide +kernel
theorem dX12_typeAt_13 : decode cX12_typeAt 13 = .ok (.iconst 1, 1) := by decide +kernel
theorem dX12_typeAt_14 : decode cX12_typeAt 14 = .ok (.putfield 205, 3) := by decide +kernel
theorem dX12_typeAt_17 : decode cX12_typeAt 17 = .ok (.aload_n 0, 1) := by decide +kernel
theorem dX12_typeAt_18 : decode cX12_typeAt 18 = .ok (.getfield 205, 3) := by decide +kernel
theorem dX12_typeAt_21 : decode cX12_typeAt 21 = .ok (.ifCond .le 5, 3) := by decide +kernel
theorem dX12_typeAt_24 : decode cX12_typeAt 24 = .ok (.iconst (-1), 1) := by decide +kernel
theorem dX12_typeAt_25 : decode cX12_typeAt 25 = .ok (.ireturn, 1) := by decide +kernel
theorem dX12_type_0 : decode cX12_type 0 = .ok (.aload_n 0, 1) := by decide +kernel
theorem dX12_type_1 : decode cX12_type 1 = .ok (.iload_n 1, 1) := by decide +kernel
theorem dX12_type_2 : decode cX12_type 2 = .ok (.iload_n 2, 1) := by decide +kernel
theorem dX12_type_3 : decode cX12_type 3 = .ok (.invokevirtual 564, 3) := by decide +kernel
theorem dX12_type_6 : decode cX12_type 6 = .ok (.istore_n 3, 1) := by decide +kernel
theorem dX12_type_7 : decode cX12_type 7 = .ok (.aload_n 0, 1) := by decide +kernel
theorem dX12_type_8 : decode cX12_type 8 = .ok (.getfield 205, 3) := by decide +kernel
theorem dX12_type_11 : decode cX12_type 11 = .ok (.ifCond .le 5, 3) := by decide +kernel
theorem dX12_type_14 : decode cX12_type 14 = .ok (.iconst 0, 1) := by decide +kernel
theorem dX12_type_15 : decode cX12_type 15 = .ok (.ireturn, 1) := by decide +kernel
theorem dX12_value_0 : decode cX12_value 0 = .ok (.aload_n 0, 1) := by decide +kernel
theorem dX12_value_1 : decode cX12_value 1 = .ok (.iload_n 1, 1) := by decide +kernel
theorem dX12_value_2 : decode cX12_value 2 = .ok (.iload_n 2, 1) := by decide +kernel
theorem dX12_value_3 : decode cX12_value 3 = .ok (.invokevirtual 564, 3) := by decide +kernel
theorem dX12_value_6 : decode cX12_value 6 = .ok (.istore_n 3, 1) := by decide +kernel
theorem dX12_value_7 : decode cX12_value 7 = .ok (.aload_n 0, 1) := by decide +kernel
theorem dX12_value_8 : decode cX12_value 8 = .ok (.getfield 205, 3) := by decide +kernel
theorem dX12_value_11 : decode cX12_value 11 = .ok (.ifCond .le 5, 3) := by decide +kernel
theorem dX12_value_14 : decode cX12_value 14 = .ok (.iconst 0, 1) := by decide +kernel
theorem dX12_value_15 : decode cX12_value 15 = .ok (.ireturn, 1) := by decide +kernel
theorem dX12_worth_0 : decode cX12_worth 0 = .ok (.aload_n 0, 1) := by decide +kernel
theorem dX12_worth_1 : decode cX12_worth 1 = .ok (.iload_n 1, 1) := by decide +kernel
theorem dX12_worth_2 : decode cX12_worth 2 = .ok (.iload_n 2, 1) := by decide +kernel
theorem dX12_worth_3 : decode cX12_worth 3 = .ok (.invokevirtual 564, 3) := by decide +kernel
theorem dX12_worth_6 : decode cX12_worth 6 = .ok (.istore_n 3, 1) := by decide +kernel
theorem dX12_worth_7 : decode cX12_worth 7 = .ok (.aload_n 0, 1) := by decide +kernel
theorem dX12_worth_8 : decode cX12_worth 8 = .ok (.getfield 205, 3) := by decide +kernel
theorem dX12_worth_11 : decode cX12_worth 11 = .ok (.ifCond .le 5, 3) := by decide +kernel
theorem dX12_worth_14 : decode cX12_worth 14 = .ok (.iconst 0, 1) := by decide +kernel
theorem dX12_worth_15 : decode cX12_worth 15 = .ok (.ireturn, 1) := by decide +kernel
theorem dX12_look_0 : decode cX12_look 0 = .ok (.aload_n 0, 1) := by decide +kernel
theorem dX12_look_1 : decode cX12_look 1 = .ok (.iload_n 1, 1) := by decide +kernel
theorem dX12_look_2 : decode cX12_look 2 = .ok (.iconst 0, 1) := by decide +kernel
theorem dX12_look_3 : decode cX12_look 3 = .ok (.bipush 14, 2) := by decide +kernel
theorem dX12_look_5 : decode cX12_look 5 = .ok (.invokestatic 211, 3) := by decide +kernel
theorem dX12_look_8 : decode cX12_look 8 = .ok (.ifCond .eq 7, 3) := by decide +kernel
theorem dX12_look_11 : decode cX12_look 11 = .ok (.iconst 0, 1) := by decide +kernel
theorem dX12_look_12 : decode cX12_look 12 = .ok (.goto 4, 3) := by decide +kernel
theorem dX12_look_15 : decode cX12_look 15 = .ok (.iconst 1, 1) := by decide +kernel
theorem dX12_look_16 : decode cX12_look 16 = .ok (.putfield 205, 3) := by decide +kernel
theorem dX12_look_19 : decode cX12_look 19 = .ok (.aload_n 0, 1) := by decide +kernel
theorem dX12_look_20 : decode cX12_look 20 = .ok (.getfield 205, 3) := by decide +kernel
theorem dX12_look_23 : decode cX12_look 23 = .ok (.ifCond .le 5, 3) := by decide +kernel
theorem dX12_look_26 : decode cX12_look 26 = .ok (.iconst 0, 1) := by decide +kernel
theorem dX12_look_27 : decode cX12_look 27 = .ok (.ireturn, 1) := by decide +kernel
theorem dX12_look_28 : decode cX12_look 28 = .ok (.aload_n 0, 1) := by decide +kernel
theorem dX12_look_29 : decode cX12_look 29 = .ok (.getfield 378, 3) := by decide +kernel
theorem dX12_look_32 : decode cX12_look 32 = .ok (.iconst 1, 1) := by decide +kernel
theorem dX12_look_33 : decode cX12_look 33 = .ok (.isub, 1) := by decide +kernel
theorem dX12_look_34 : decode cX12_look 34 = .ok (.istore_n 2, 1) := by decide +kernel
theorem dX12_look_35 : decode cX12_look 35 = .ok (.iload_n 1, 1) := by decide +kernel
theorem dX12_look_36 : decode cX12_look 36 = .ok (.tableswitch 216 0 13 #[72, 77, 94, 111, 128, 154, 173, 178, 183, 188, 193, 198, 204, 210], 72) := by decide +kernel
theorem dX12_look_108 : decode cX12_look 108 = .ok (.aload_n 0, 1) := by decide +kernel
theorem dX12_look_109 : decode cX12_look 109 = .ok (.getfield 378, 3) := by decide +kernel
theorem dX12_look_112 : decode cX12_look 112 = .ok (.ireturn, 1) := by decide +kernel
theorem dX12_look_113 : decode cX12_look 113 = .ok (.aload_n 0, 1) := by decide +kernel
theorem dX12_look_114 : decode cX12_look 114 = .ok (.getfield 378, 3) := by decide +kernel
theorem dX12_look_117 : decode cX12_look 117 = .ok (.ifCond .le 11, 3) := by decide +kernel
theorem dX12_look_128 : decode cX12_look 128 = .ok (.iconst 0, 1) := by decide +kernel
theorem dX12_look_129 : decode cX12_look 129 = .ok (.ireturn, 1) := by decide +kernel
theorem dX12_look_130 : decode cX12_look 130 = .ok (.aload_n 0, 1) := by decide +kernel
theorem dX12_look_131 : decode cX12_look 131 = .ok (.getfield 378, 3) := by decide +kernel
theorem dX12_look_134 : decode cX12_look 134 = .ok (.ifCond .le 11, 3) := by decide +kernel
theorem dX12_look_145 : decode cX12_look 145 = .ok (.iconst 0, 1) := by decide +kernel
theorem dX12_look_146 : decode cX12_look 146 = .ok (.ireturn, 1) := by decide +kernel
theorem dX12_look_147 : decode cX12_look 147 = .ok (.aload_n 0, 1) := by decide +kernel
theorem dX12_look_148 : decode cX12_look 148 = .ok (.getfield 378, 3) := by decide +kernel
theorem dX12_look_151 : decode cX12_look 151 = .ok (.ifCond .le 11, 3) := by decide +kernel
theorem dX12_look_162 : decode cX12_look 162 = .ok (.iconst 0, 1) := by decide +kernel
theorem dX12_look_163 : decode cX12_look 163 = .ok (.ireturn, 1) := by decide +kernel
theorem dX12_look_164 : decode cX12_look 164 = .ok (.aload_n 0, 1) := by decide +kernel
theorem dX12_look_165 : decode cX12_look 165 = .ok (.getfield 378, 3) := by decide +kernel
theorem dX12_look_168 : decode cX12_look 168 = .ok (.ifCond .le 20, 3) := by decide +kernel
theorem dX12_look_188 : decode cX12_look 188 = .ok (.iconst 0, 1) := by decide +kernel
theorem dX12_look_189 : decode cX12_look 189 = .ok (.ireturn, 1) := by decide +kernel
theorem dX12_look_190 : decode cX12_look 190 = .ok (.aload_n 0, 1) := by decide +kernel
theorem dX12_look_191 : decode cX12_look 191 = .ok (.getfield 378, 3) := by decide +kernel
theorem dX12_look_194 : decode cX12_look 194 = .ok (.ifCond .le 13, 3) := by decide +kernel
theorem dX12_look_207 : decode cX12_look 207 = .ok (.iconst 0, 1) := by decide +kernel
theorem dX12_look_208 : decode cX12_look 208 = .ok (.ireturn, 1) := by decide +kernel
theorem dX12_look_209 : decode cX12_look 209 = .ok (.aload_n 0, 1) := by decide +kernel
theorem dX12_look_210 : decode cX12_look 210 = .ok (.getfield 357, 3) := by decide +kernel
theorem dX12_look_213 : decode cX12_look 213 = .ok (.ireturn, 1) := by decide +kernel
theorem dX12_look_214 : decode cX12_look 214 = .ok (.aload_n 0, 1) := by decide +kernel
theorem dX12_look_215 : decode cX12_look 215 = .ok (.getfield 215, 3) := by decide +kernel
theorem dX12_look_218 : decode cX12_look 218 = .ok (.ireturn, 1) := by decide +kernel
theorem dX12_look_219 : decode cX12_look 219 = .ok (.aload_n 0, 1) := by decide +kernel
theorem dX12_look_220 : decode cX12_look 220 = .ok (.getfield 220, 3) := by decide +kernel
theorem dX12_look_223 : decode cX12_look 223 = .ok (.ireturn, 1) := by decide +kernel
theorem dX12_look_224 : decode cX12_look 224 = .ok (.aload_n 0, 1) := by decide +kernel
theorem dX12_look_225 : decode cX12_look 225 = .ok (.getfield 413, 3) := by decide +kernel
theorem dX12_look_228 : decode cX12_look 228 = .ok (.ireturn, 1) := by decide +kernel
theorem dX12_look_229 : decode cX12_look 229 = .ok (.aload_n 0, 1) := by decide +kernel
theorem dX12_look_230 : decode cX12_look 230 = .ok (.getfield 544, 3) := by decide +kernel
theorem dX12_look_233 : decode cX12_look 233 = .ok (.ireturn, 1) := by decide +kernel
theorem dX12_look_234 : decode cX12_look 234 = .ok (.aload_n 0, 1) := by decide +kernel
theorem dX12_look_235 : decode cX12_look 235 = .ok (.getfield 547, 3) := by decide +kernel
theorem dX12_look_238 : decode cX12_look 238 = .ok (.l2i, 1) := by decide +kernel
theorem dX12_look_239 : decode cX12_look 239 = .ok (.ireturn, 1) := by decide +kernel
theorem dX12_look_240 : decode cX12_look 240 = .ok (.aload_n 0, 1) := by decide +kernel
theorem dX12_look_241 : decode cX12_look 241 = .ok (.getfield 552, 3) := by decide +kernel
theorem dX12_look_244 : decode cX12_look 244 = .ok (.l2i, 1) := by decide +kernel
theorem dX12_look_245 : decode cX12_look 245 = .ok (.ireturn, 1) := by decide +kernel
theorem dX12_look_246 : decode cX12_look 246 = .ok (.aload_n 0, 1) := by decide +kernel
theorem dX12_look_247 : decode cX12_look 247 = .ok (.getfield 555, 3) := by decide +kernel
theorem dX12_look_250 : decode cX12_look 250 = .ok (.l2i, 1) := by decide +kernel
theorem dX12_look_251 : decode cX12_look 251 = .ok (.ireturn, 1) := by decide +kernel
theorem dX12_look_252 : decode cX12_look 252 = .ok (.aload_n 0, 1) := by decide +kernel
theorem dX12_look_253 : decode cX12_look 253 = .ok (.getfield 577, 3) := by decide +kernel
theorem dX12_look_256 : decode cX12_look 256 = .ok (.ireturn, 1) := by decide +kernel
theorem dX12_speak_0 : decode cX12_speak 0 = .ok (.aload_n 0, 1) := by decide +kernel
theorem dX12_speak_1 : decode cX12_speak 1 = .ok (.aload_n 0, 1) := by decide +kernel
theorem dX12_speak_2 : decode cX12_speak 2 = .ok (.getfield 378, 3) := by decide +kernel
theorem dX12_speak_5 : decode cX12_speak 5 = .ok (.ifCond .le 7, 3) := by decide +kernel
theorem dX12_speak_12 : decode cX12_speak 12 = .ok (.iconst 1, 1) := by decide +kernel
theorem dX12_speak_13 : decode cX12_speak 13 = .ok (.putfield 205, 3) := by decide +kernel
theorem dX12_speak_16 : decode cX12_speak 16 = .ok (.aload_n 0, 1) := by decide +kernel
theorem dX12_speak_17 : decode cX12_speak 17 = .ok (.getfield 205, 3) := by decide +kernel
theorem dX12_speak_20 : decode cX12_speak 20 = .ok (.ifCond .le 5, 3) := by decide +kernel
theorem dX12_speak_23 : decode cX12_speak 23 = .ok (.iconst 0, 1) := by decide +kernel
theorem dX12_speak_24 : decode cX12_speak 24 = .ok (.ireturn, 1) := by decide +kernel
theorem dX12_wrong_0 : decode cX12_wrong 0 = .ok (.aload_n 0, 1) := by decide +kernel
theorem dX12_wrong_1 : decode cX12_wrong 1 = .ok (.getfield 592, 3) := by decide +kernel
theorem dX12_wrong_4 : decode cX12_wrong 4 = .ok (.ifCond .ne 13, 3) := by decide +kernel
theorem dX12_wrong_7 : decode cX12_wrong 7 = .ok (.aload_n 0, 1) := by decide +kernel
theorem dX12_wrong_8 : decode cX12_wrong 8 = .ok (.iload_n 1, 1) := by decide +kernel
theorem dX12_wrong_9 : decode cX12_wrong 9 = .ok (.putfield 592, 3) := by decide +kernel
theorem dX12_wrong_12 : decode cX12_wrong 12 = .ok (.aload_n 0, 1) := by decide +kernel
theorem dX12_wrong_13 : decode cX12_wrong 13 = .ok (.iload_n 2, 1) := by decide +kernel
theorem dX12_wrong_14 : decode cX12_wrong 14 = .ok (.putfield 577, 3) := by decide +kernel
theorem dX12_wrong_17 : decode cX12_wrong 17 = .ok (.iconst (-1), 1) := by decide +kernel
theorem dX12_wrong_18 : decode cX12_wrong 18 = .ok (.ireturn, 1) := by decide +kernel
theorem dX12_nextWord_0 : decode cX12_nextWord 0 = .ok (.aload_n 0, 1) := by decide +kernel
theorem dX12_nextWord_1 : decode cX12_nextWord 1 = .ok (.getfield 595, 3) := by decide +kernel
theorem dX12_nextWord_4 : decode cX12_nextWord 4 = .ok (.aload_n 0, 1) := by decide +kernel
theorem dX12_nextWord_5 : decode cX12_nextWord 5 = .ok (.getfield 215, 3) := by decide +kernel
theorem dX12_nextWord_8 : decode cX12_nextWord 8 = .ok (.if_icmp .ge 44, 3) := by decide +kernel
theorem dX12_nextWord_52 : decode cX12_nextWord 52 = .ok (.aload_n 0, 1) := by decide +kernel
theorem dX12_nextWord_53 : decode cX12_nextWord 53 = .ok (.aload_n 0, 1) := by decide +kernel
theorem dX12_nextWord_54 : decode cX12_nextWord 54 = .ok (.getfield 595, 3) := by decide +kernel
theorem dX12_nextWord_57 : decode cX12_nextWord 57 = .ok (.putfield 598, 3) := by decide +kernel
theorem dX12_nextWord_60 : decode cX12_nextWord 60 = .ok (.aload_n 0, 1) := by decide +kernel
theorem dX12_nextWord_61 : decode cX12_nextWord 61 = .ok (.iconst 0, 1) := by decide +kernel
theorem dX12_nextWord_62 : decode cX12_nextWord 62 = .ok (.putfield 601, 3) := by decide +kernel
theorem dX12_nextWord_65 : decode cX12_nextWord 65 = .ok (.aload_n 0, 1) := by decide +kernel
theorem dX12_nextWord_66 : decode cX12_nextWord 66 = .ok (.getfield 595, 3) := by decide +kernel
theorem dX12_nextWord_69 : decode cX12_nextWord 69 = .ok (.aload_n 0, 1) := by decide +kernel
theorem dX12_nextWord_70 : decode cX12_nextWord 70 = .ok (.getfield 215, 3) := by decide +kernel
theorem dX12_nextWord_73 : decode cX12_nextWord 73 = .ok (.if_icmp .ne 4, 3) := by decide +kernel
theorem dX12_nextWord_76 : decode cX12_nextWord 76 = .ok (.return_, 1) := by decide +kernel
theorem dX12_packed_0 : decode cX12_packed 0 = .ok (.aload_n 0, 1) := by decide +kernel
theorem dX12_packed_1 : decode cX12_packed 1 = .ok (.getfield 601, 3) := by decide +kernel
theorem dX12_packed_4 : decode cX12_packed 4 = .ok (.iconst 4, 1) := by decide +kernel
theorem dX12_packed_5 : decode cX12_packed 5 = .ok (.if_icmp .ne 36, 3) := by decide +kernel
theorem dX12_packed_41 : decode cX12_packed 41 = .ok (.lconst 0, 1) := by decide +kernel
theorem dX12_packed_42 : decode cX12_packed 42 = .ok (.lreturn, 1) := by decide +kernel
theorem dX12_definitions_0 : decode cX12_definitions 0 = .ok (.aload_n 0, 1) := by decide +kernel
theorem dX12_definitions_1 : decode cX12_definitions 1 = .ok (.iconst 0, 1) := by decide +kernel
theorem dX12_definitions_2 : decode cX12_definitions 2 = .ok (.putfield 223, 3) := by decide +kernel
theorem dX12_definitions_5 : decode cX12_definitions 5 = .ok (.aload_n 0, 1) := by decide +kernel
theorem dX12_definitions_6 : decode cX12_definitions 6 = .ok (.iconst 0, 1) := by decide +kernel
theorem dX12_definitions_7 : decode cX12_definitions 7 = .ok (.putfield 610, 3) := by decide +kernel
theorem dX12_definitions_10 : decode cX12_definitions 10 = .ok (.aload_n 0, 1) := by decide +kernel
theorem dX12_definitions_11 : decode cX12_definitions 11 = .ok (.iconst 0, 1) := by decide +kernel
theorem dX12_definitions_12 : decode cX12_definitions 12 = .ok (.putfield 595, 3) := by decide +kernel
theorem dX12_definitions_15 : decode cX12_definitions 15 = .ok (.iconst (-1), 1) := by decide +kernel
theorem dX12_definitions_16 : decode cX12_definitions 16 = .ok (.istore_n 1, 1) := by decide +kernel
theorem dX12_definitions_17 : decode cX12_definitions 17 = .ok (.aload_n 0, 1) := by decide +kernel
theorem dX12_definitions_18 : decode cX12_definitions 18 = .ok (.invokevirtual 613, 3) := by decide +kernel
theorem dX12_definitions_21 : decode cX12_definitions 21 = .ok (.iconst 1, 1) := by decide +kernel
theorem dX12_definitions_22 : decode cX12_definitions 22 = .ok (.istore_n 2, 1) := by decide +kernel
theorem dX12_definitions_23 : decode cX12_definitions 23 = .ok (.aload_n 0, 1) := by decide +kernel
theorem dX12_definitions_24 : decode cX12_definitions 24 = .ok (.getfield 592, 3) := by decide +kernel
theorem dX12_definitions_27 : decode cX12_definitions 27 = .ok (.ifCond .ne 147, 3) := by decide +kernel
theorem dX12_definitions_30 : decode cX12_definitions 30 = .ok (.iload_n 2, 1) := by decide +kernel
theorem dX12_definitions_31 : decode cX12_definitions 31 = .ok (.ifCond .eq 143, 3) := by decide +kernel
theorem dX12_definitions_34 : decode cX12_definitions 34 = .ok (.aload_n 0, 1) := by decide +kernel
theorem dX12_definitions_35 : decode cX12_definitions 35 = .ok (.invokevirtual 616, 3) := by decide +kernel
theorem dX12_definitions_38 : decode cX12_definitions 38 = .ok (.lstore_n 3, 1) := by decide +kernel
theorem dX12_definitions_39 : decode cX12_definitions 39 = .ok (.lload_n 3, 1) := by decide +kernel
theorem dX12_definitions_40 : decode cX12_definitions 40 = .ok (.lconst 0, 1) := by decide +kernel
theorem dX12_definitions_41 : decode cX12_definitions 41 = .ok (.lcmp, 1) := by decide +kernel
theorem dX12_definitions_42 : decode cX12_definitions 42 = .ok (.ifCond .eq 11, 3) := by decide +kernel
theorem dX12_definitions_53 : decode cX12_definitions 53 = .ok (.aload_n 0, 1) := by decide +kernel
theorem dX12_definitions_54 : decode cX12_definitions 54 = .ok (.iconst 1, 1) := by decide +kernel
theorem dX12_definitions_55 : decode cX12_definitions 55 = .ok (.aload_n 0, 1) := by decide +kernel
theorem dX12_definitions_56 : decode cX12_definitions 56 = .ok (.getfield 598, 3) := by decide +kernel
theorem dX12_definitions_59 : decode cX12_definitions 59 = .ok (.invokevirtual 604, 3) := by decide +kernel
theorem dX12_definitions_62 : decode cX12_definitions 62 = .ok (.ireturn, 1) := by decide +kernel
theorem dX12_speech_0 : decode cX12_speech 0 = .ok (.aload_n 0, 1) := by decide +kernel
theorem dX12_speech_1 : decode cX12_speech 1 = .ok (.iconst 0, 1) := by decide +kernel
theorem dX12_speech_2 : decode cX12_speech 2 = .ok (.putfield 592, 3) := by decide +kernel
theorem dX12_speech_5 : decode cX12_speech 5 = .ok (.aload_n 0, 1) := by decide +kernel
theorem dX12_speech_6 : decode cX12_speech 6 = .ok (.iconst 0, 1) := by decide +kernel
theorem dX12_speech_7 : decode cX12_speech 7 = .ok (.putfield 577, 3) := by decide +kernel
theorem dX12_speech_10 : decode cX12_speech 10 = .ok (.aload_n 0, 1) := by decide +kernel
theorem dX12_speech_11 : decode cX12_speech 11 = .ok (.invokevirtual 676, 3) := by decide +kernel
theorem dX12_speech_14 : decode cX12_speech 14 = .ok (.istore_n 1, 1) := by decide +kernel
theorem dX12_speech_15 : decode cX12_speech 15 = .ok (.aload_n 0, 1) := by decide +kernel
theorem dX12_speech_16 : decode cX12_speech 16 = .ok (.getfield 592, 3) := by decide +kernel
theorem dX12_speech_19 : decode cX12_speech 19 = .ok (.ifCond .le 8, 3) := by decide +kernel
theorem dX12_speech_22 : decode cX12_speech 22 = .ok (.aload_n 0, 1) := by decide +kernel
theorem dX12_speech_23 : decode cX12_speech 23 = .ok (.getfield 592, 3) := by decide +kernel
theorem dX12_speech_26 : decode cX12_speech 26 = .ok (.ireturn, 1) := by decide +kernel
theorem dX12_say_0 : decode cX12_say 0 = .ok (.aload_n 0, 1) := by decide +kernel
theorem dX12_say_1 : decode cX12_say 1 = .ok (.iconst 0, 1) := by decide +kernel
theorem dX12_say_2 : decode cX12_say 2 = .ok (.putfield 205, 3) := by decide +kernel
theorem dX12_say_5 : decode cX12_say 5 = .ok (.aload_n 0, 1) := by decide +kernel
theorem dX12_say_6 : decode cX12_say 6 = .ok (.invokevirtual 688, 3) := by decide +kernel
theorem dX12_say_9 : decode cX12_say 9 = .ok (.istore_n 1, 1) := by decide +kernel
theorem dX12_say_10 : decode cX12_say 10 = .ok (.aload_n 0, 1) := by decide +kernel
theorem dX12_say_11 : decode cX12_say 11 = .ok (.iconst 0, 1) := by decide +kernel
theorem dX12_say_12 : decode cX12_say 12 = .ok (.putfield 215, 3) := by decide +kernel
theorem dX12_say_15 : decode cX12_say 15 = .ok (.iload_n 1, 1) := by decide +kernel
theorem dX12_say_16 : decode cX12_say 16 = .ok (.ifCond .le 5, 3) := by decide +kernel
theorem dX12_say_19 : decode cX12_say 19 = .ok (.iload_n 1, 1) := by decide +kernel
theorem dX12_say_20 : decode cX12_say 20 = .ok (.ireturn, 1) := by decide +kernel
theorem dL_feed_0 : decode cL_feed 0 = .ok (.aload 4, 2) := by decide +kernel
theorem dL_feed_2 : decode cL_feed 2 = .ok (.iconst 0, 1) := by decide +kernel
theorem dL_feed_3 : decode cL_feed 3 = .ok (.aload_n 0, 1) := by decide +kernel
theorem dL_feed_4 : decode cL_feed 4 = .ok (.iload_n 1, 1) := by decide +kernel
theorem dL_feed_5 : decode cL_feed 5 = .ok (.lload_n 2, 1) := by decide +kernel
theorem dL_feed_6 : decode cL_feed 6 = .ok (.invokevirtual 7, 3) := by decide +kernel
theorem dL_feed_9 : decode cL_feed 9 = .ok (.i2l, 1) := by decide +kernel
theorem dL_feed_10 : decode cL_feed 10 = .ok (.lastore, 1) := by decide +kernel
theorem dL_feed_11 : decode cL_feed 11 = .ok (.goto 11, 3) := by decide +kernel
theorem dL_feed_14 : decode cL_feed 14 = .ok (.astore 5, 2) := by decide +kernel
theorem dL_feed_16 : decode cL_feed 16 = .ok (.iconst 1, 1) := by decide +kernel
theorem dL_feed_17 : decode cL_feed 17 = .ok (.ireturn, 1) := by decide +kernel
theorem dL_feed_22 : decode cL_feed 22 = .ok (.iconst 0, 1) := by decide +kernel
theorem dL_feed_23 : decode cL_feed 23 = .ok (.ireturn, 1) := by decide +kernel
theorem dL_run_0 : decode cL_run 0 = .ok (.aload 4, 2) := by decide +kernel
theorem dL_run_2 : decode cL_run 2 = .ok (.iconst 0, 1) := by decide +kernel
theorem dL_run_3 : decode cL_run 3 = .ok (.aload_n 0, 1) := by decide +kernel
theorem dL_run_4 : decode cL_run 4 = .ok (.iload_n 1, 1) := by decide +kernel
theorem dL_run_5 : decode cL_run 5 = .ok (.iload_n 2, 1) := by decide +kernel
theorem dL_run_6 : decode cL_run 6 = .ok (.iload_n 3, 1) := by decide +kernel
theorem dL_run_7 : decode cL_run 7 = .ok (.invokevirtual 17, 3) := by decide +kernel
theorem dL_run_15 : decode cL_run 15 = .ok (.astore 5, 2) := by decide +kernel
theorem dL_run_17 : decode cL_run 17 = .ok (.iconst 1, 1) := by decide +kernel
theorem dL_run_18 : decode cL_run 18 = .ok (.ireturn, 1) := by decide +kernel
theorem dL_run_19 : decode cL_run 19 = .ok (.astore 5, 2) := by decide +kernel
theorem dL_run_21 : decode cL_run 21 = .ok (.iconst 2, 1) := by decide +kernel
theorem dL_run_22 : decode cL_run 22 = .ok (.ireturn, 1) := by decide +kernel
theorem dL_node_0 : decode cL_node 0 = .ok (.aload_n 3, 1) := by decide +kernel
theorem dL_node_1 : decode cL_node 1 = .ok (.iconst 0, 1) := by decide +kernel
theorem dL_node_2 : decode cL_node 2 = .ok (.aload_n 0, 1) := by decide +kernel
theorem dL_node_3 : decode cL_node 3 = .ok (.iload_n 1, 1) := by decide +kernel
theorem dL_node_4 : decode cL_node 4 = .ok (.iload_n 2, 1) := by decide +kernel
theorem dL_node_5 : decode cL_node 5 = .ok (.invokevirtual 21, 3) := by decide +kernel
theorem dL_node_13 : decode cL_node 13 = .ok (.astore 4, 2) := by decide +kernel
theorem dL_node_15 : decode cL_node 15 = .ok (.iconst 1, 1) := by decide +kernel
theorem dL_node_16 : decode cL_node 16 = .ok (.ireturn, 1) := by decide +kernel
theorem dL_root_0 : decode cL_root 0 = .ok (.aload_n 3, 1) := by decide +kernel
theorem dL_root_1 : decode cL_root 1 = .ok (.iconst 0, 1) := by decide +kernel
theorem dL_root_2 : decode cL_root 2 = .ok (.aload_n 0, 1) := by decide +kernel
theorem dL_root_3 : decode cL_root 3 = .ok (.iload_n 1, 1) := by decide +kernel
theorem dL_root_4 : decode cL_root 4 = .ok (.iload_n 2, 1) := by decide +kernel
theorem dL_root_5 : decode cL_root 5 = .ok (.invokevirtual 27, 3) := by decide +kernel
theorem dL_root_12 : decode cL_root 12 = .ok (.astore 4, 2) := by decide +kernel
theorem dL_root_14 : decode cL_root 14 = .ok (.iconst 1, 1) := by decide +kernel
theorem dL_root_15 : decode cL_root 15 = .ok (.ireturn, 1) := by decide +kernel
theorem dL_typeRoot_0 : decode cL_typeRoot 0 = .ok (.aload 4, 2) := by decide +kernel
theorem dL_typeRoot_2 : decode cL_typeRoot 2 = .ok (.iconst 0, 1) := by decide +kernel
theorem dL_typeRoot_3 : decode cL_typeRoot 3 = .ok (.aload_n 0, 1) := by decide +kernel
theorem dL_typeRoot_4 : decode cL_typeRoot 4 = .ok (.iload_n 1, 1) := by decide +kernel
theorem dL_typeRoot_5 : decode cL_typeRoot 5 = .ok (.iload_n 2, 1) := by decide +kernel
theorem dL_typeRoot_6 : decode cL_typeRoot 6 = .ok (.iload_n 3, 1) := by decide +kernel
theorem dL_typeRoot_7 : decode cL_typeRoot 7 = .ok (.invokevirtual 31, 3) := by decide +kernel
theorem dL_typeRoot_14 : decode cL_typeRoot 14 = .ok (.astore 5, 2) := by decide +kernel
theorem dL_typeRoot_16 : decode cL_typeRoot 16 = .ok (.iconst 1, 1) := by decide +kernel
theorem dL_typeRoot_17 : decode cL_typeRoot 17 = .ok (.ireturn, 1) := by decide +kernel
theorem dL_type_0 : decode cL_type 0 = .ok (.aload_n 3, 1) := by decide +kernel
theorem dL_type_1 : decode cL_type 1 = .ok (.iconst 0, 1) := by decide +kernel
theorem dL_type_2 : decode cL_type 2 = .ok (.aload_n 0, 1) := by decide +kernel
theorem dL_type_3 : decode cL_type 3 = .ok (.iload_n 1, 1) := by decide +kernel
theorem dL_type_4 : decode cL_type 4 = .ok (.iload_n 2, 1) := by decide +kernel
theorem dL_type_5 : decode cL_type 5 = .ok (.invokevirtual 35, 3) := by decide +kernel
theorem dL_type_13 : decode cL_type 13 = .ok (.astore 4, 2) := by decide +kernel
theorem dL_type_15 : decode cL_type 15 = .ok (.iconst 1, 1) := by decide +kernel
theorem dL_type_16 : decode cL_type 16 = .ok (.ireturn, 1) := by decide +kernel
theorem dL_speak_0 : decode cL_speak 0 = .ok (.aload_n 1, 1) := by decide +kernel
theorem dL_speak_1 : decode cL_speak 1 = .ok (.iconst 0, 1) := by decide +kernel
theorem dL_speak_2 : decode cL_speak 2 = .ok (.aload_n 0, 1) := by decide +kernel
theorem dL_speak_3 : decode cL_speak 3 = .ok (.invokevirtual 39, 3) := by decide +kernel
theorem dL_speak_11 : decode cL_speak 11 = .ok (.astore_n 2, 1) := by decide +kernel
theorem dL_speak_12 : decode cL_speak 12 = .ok (.iconst 1, 1) := by decide +kernel
theorem dL_speak_13 : decode cL_speak 13 = .ok (.ireturn, 1) := by decide +kernel
theorem dL_value_0 : decode cL_value 0 = .ok (.aload_n 3, 1) := by decide +kernel
theorem dL_value_1 : decode cL_value 1 = .ok (.iconst 0, 1) := by decide +kernel
theorem dL_value_2 : decode cL_value 2 = .ok (.aload_n 0, 1) := by decide +kernel
theorem dL_value_3 : decode cL_value 3 = .ok (.iload_n 1, 1) := by decide +kernel
theorem dL_value_4 : decode cL_value 4 = .ok (.iload_n 2, 1) := by decide +kernel
theorem dL_value_5 : decode cL_value 5 = .ok (.invokevirtual 43, 3) := by decide +kernel
theorem dL_value_13 : decode cL_value 13 = .ok (.astore 4, 2) := by decide +kernel
theorem dL_value_15 : decode cL_value 15 = .ok (.iconst 1, 1) := by decide +kernel
theorem dL_value_16 : decode cL_value 16 = .ok (.ireturn, 1) := by decide +kernel
theorem dL_worth_0 : decode cL_worth 0 = .ok (.aload_n 3, 1) := by decide +kernel
theorem dL_worth_1 : decode cL_worth 1 = .ok (.iconst 0, 1) := by decide +kernel
theorem dL_worth_2 : decode cL_worth 2 = .ok (.aload_n 0, 1) := by decide +kernel
theorem dL_worth_3 : decode cL_worth 3 = .ok (.iload_n 1, 1) := by decide +kernel
theorem dL_worth_4 : decode cL_worth 4 = .ok (.iload_n 2, 1) := by decide +kernel
theorem dL_worth_5 : decode cL_worth 5 = .ok (.invokevirtual 46, 3) := by decide +kernel
theorem dL_worth_13 : decode cL_worth 13 = .ok (.astore 4, 2) := by decide +kernel
theorem dL_worth_15 : decode cL_worth 15 = .ok (.iconst 1, 1) := by decide +kernel
theorem dL_worth_16 : decode cL_worth 16 = .ok (.ireturn, 1) := by decide +kernel
theorem dL_write_0 : decode cL_write 0 = .ok (.aload_n 1, 1) := by decide +kernel
theorem dL_write_1 : decode cL_write 1 = .ok (.iconst 0, 1) := by decide +kernel
theorem dL_write_2 : decode cL_write 2 = .ok (.aload_n 0, 1) := by decide +kernel
theorem dL_write_3 : decode cL_write 3 = .ok (.invokevirtual 49, 3) := by decide +kernel
theorem dL_write_11 : decode cL_write 11 = .ok (.astore_n 2, 1) := by decide +kernel
theorem dL_write_12 : decode cL_write 12 = .ok (.iconst 1, 1) := by decide +kernel
theorem dL_write_13 : decode cL_write 13 = .ok (.ireturn, 1) := by decide +kernel
theorem dL_out_0 : decode cL_out 0 = .ok (.aload_n 2, 1) := by decide +kernel
theorem dL_out_1 : decode cL_out 1 = .ok (.iconst 0, 1) := by decide +kernel
theorem dL_out_2 : decode cL_out 2 = .ok (.aload_n 0, 1) := by decide +kernel
theorem dL_out_3 : decode cL_out 3 = .ok (.iload_n 1, 1) := by decide +kernel
theorem dL_out_4 : decode cL_out 4 = .ok (.invokevirtual 52, 3) := by decide +kernel
theorem dL_out_11 : decode cL_out 11 = .ok (.astore_n 3, 1) := by decide +kernel
theorem dL_out_12 : decode cL_out 12 = .ok (.iconst 1, 1) := by decide +kernel
theorem dL_out_13 : decode cL_out 13 = .ok (.ireturn, 1) := by decide +kernel
theorem dL_look_0 : decode cL_look 0 = .ok (.aload_n 2, 1) := by decide +kernel
theorem dL_look_1 : decode cL_look 1 = .ok (.iconst 0, 1) := by decide +kernel
theorem dL_look_2 : decode cL_look 2 = .ok (.aload_n 0, 1) := by decide +kernel
theorem dL_look_3 : decode cL_look 3 = .ok (.iload_n 1, 1) := by decide +kernel
theorem dL_look_4 : decode cL_look 4 = .ok (.invokevirtual 56, 3) := by decide +kernel
theorem dL_look_7 : decode cL_look 7 = .ok (.i2l, 1) := by decide +kernel
theorem dL_look_8 : decode cL_look 8 = .ok (.lastore, 1) := by decide +kernel
theorem dL_look_9 : decode cL_look 9 = .ok (.goto 6, 3) := by decide +kernel
theorem dL_look_12 : decode cL_look 12 = .ok (.astore_n 3, 1) := by decide +kernel
theorem dL_look_13 : decode cL_look 13 = .ok (.iconst 1, 1) := by decide +kernel
theorem dL_look_14 : decode cL_look 14 = .ok (.ireturn, 1) := by decide +kernel
theorem dL_look_15 : decode cL_look 15 = .ok (.iconst 0, 1) := by decide +kernel
theorem dL_look_16 : decode cL_look 16 = .ok (.ireturn, 1) := by decide +kernel
